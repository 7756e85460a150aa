abbrev rm_M_within : Room := { frames := 0, cells := 0, slots := 0, locals := 0 }
set_option maxHeartbeats 4000000 in
set_option maxRecDepth 100000 in
theorem c_M_within (l : Launch) (D : va_G) (k : Nat → ClassId) (N : Nat) (AD : Int → Nat) (C : Int → va_E) (sz : Nat) (v : Int) (lo : Int) (hi : Int) (hv : inI v) (hl0 : inI lo) (hh0 : inI hi) : MI l y_M_within (Cond.code y_M_within b_M_within 3 (Option.some Jvm.ClassFile.FieldType.boolean) :: WS) rm_M_within D clW (tyW k) N AD C sz [.int (zI v), .int (zI lo), .int (zI hi)] (fun r C' => (r = zI 1 ∧ (lo ≤ v ∧ v ≤ hi) ∨ r = zI 0 ∧ ¬ (lo ≤ v ∧ v ≤ hi)) ∧ C' = C) := by
  refine MI.start (cc := b_M_within) (maxL := 3) (rt := .boolean) (by decide) rfl (Nat.le_of_ble_eq_true rfl) ?_
  intro p e s m args below meth c Q ls hx hb hml hown hts hK hsz hw hl hret
  have hown : s.vm.findClass "RingMatchesModel" = some m.cls := hown
  have hl : lv_has ls 3 [(0, .int (zI v)), (1, .int (zI lo)), (2, .int (zI hi))] := hl
  have hA := wA_hi (N := N) (AD := AD) hsz
  obtain ⟨H, hH⟩ : ∃ H, H = s.heap := ⟨_, rfl⟩
  obtain ⟨locs, hlocs⟩ : ∃ z : List Loc, z = [] := ⟨_, rfl⟩
  have hw : WD D clW (wA N AD sz) s.heap H locs N AD C := by rw [hH, hlocs]; exact hw
  rw [← hlocs]
  suffices hgo : W p l e rm_M_within s m args below meth c H locs 0 0 Q (F0 m 0 ls []) by rw [hH] at hgo; exact hgo
  refine lv_iload_n hx hb d_M_within_0 rfl (lv_at hl 0 rfl) ?_
  refine lv_iload_n hx hb d_M_within_1 rfl (lv_at hl 1 rfl) ?_
  refine zr_icmp_lt (tgt := 14) hx hb ⟨by omega, by omega⟩ ⟨by omega, by omega⟩ d_M_within_2 (by decide) (fun c1 => ?_) (fun c1 => ?_)
  · refine zr_iconst hx hb d_M_within_14 ?_
    exact hret _ _ _ _ _ _ d_M_within_15 hw (by decide +kernel) ⟨Or.inr ⟨rfl, by omega⟩, rfl⟩
  · refine lv_iload_n hx hb d_M_within_5 rfl (lv_at hl 0 rfl) ?_
    refine lv_iload_n hx hb d_M_within_6 rfl (lv_at hl 2 rfl) ?_
    refine zr_icmp_gt (tgt := 14) hx hb ⟨by omega, by omega⟩ ⟨by omega, by omega⟩ d_M_within_7 (by decide) (fun c2 => ?_) (fun c2 => ?_)
    · refine zr_iconst hx hb d_M_within_14 ?_
      exact hret _ _ _ _ _ _ d_M_within_15 hw (by decide +kernel) ⟨Or.inr ⟨rfl, by omega⟩, rfl⟩
    · refine zr_iconst hx hb d_M_within_10 ?_
      refine lv_goto (tgt := 15) hx hb d_M_within_11 (by decide) ?_
      exact hret _ _ _ _ _ _ d_M_within_15 hw (by decide +kernel) ⟨Or.inl ⟨rfl, by omega⟩, rfl⟩
abbrev rm_M_goes : Room := { frames := 0, cells := 0, slots := 0, locals := 0 }
set_option maxHeartbeats 4000000 in
set_option maxRecDepth 100000 in
theorem c_M_goes (l : Launch) (D : va_G) (k : Nat → ClassId) (N : Nat) (AD : Int → Nat) (C : Int → va_E) (sz : Nat) (th : Int) (pn : Int) (kc : Int) (tr : Int) (lc : Int) (fa : Int) (fb : Int) (mn : Int) (mr : Int) (ma : Int) (ab : Int) (bl : Int) (p1 : Int) (p2 : Int) (p3 : Int) (t : Int) (v : Int) (hN : 90 ≤ (N : Int)) (hM : C 82 = .inr (4, [.int (zI th), .int (zI pn), .ref (AD 83), .int (zI kc), .ref (AD 84), .ref (AD 85), .int (zI tr), .int (zI lc), .int (zI fa), .int (zI fb), .ref (AD 86), .ref (AD 87), .ref (AD 88), .int (zI mn), .int (zI mr), .int (zI ma), .long (zL ab), .long (zL bl)])) (h1 : p1 = 0 ∨ p1 = 1) (h2 : p2 = 0 ∨ p2 = 1) (h3 : p3 = 0 ∨ p3 = 1) (ht : t = if p1 = 0 then 1 else if p2 = 0 then 2 else if p3 = 0 then 3 else 0) (hv : v = if t = 0 then 1 else 0) : MI l y_M_goes (Cond.code y_M_goes b_M_goes 4 (Option.some Jvm.ClassFile.FieldType.boolean) :: WS) rm_M_goes D clW (tyW k) N AD C sz [.ref (AD 82), .int (zI p1), .int (zI p2), .int (zI p3)] (fun r C' => r = zI v ∧ C' 82 = .inr (4, [.int (zI t), .int (zI pn), .ref (AD 83), .int (zI kc), .ref (AD 84), .ref (AD 85), .int (zI tr), .int (zI lc), .int (zI fa), .int (zI fb), .ref (AD 86), .ref (AD 87), .ref (AD 88), .int (zI mn), .int (zI mr), .int (zI ma), .long (zL ab), .long (zL bl)]) ∧ ∀ j : Int, j ≠ 82 → C' j = C j) := by
  refine MI.start (cc := b_M_goes) (maxL := 4) (rt := .boolean) (by decide) rfl (Nat.le_of_ble_eq_true rfl) ?_
  intro p e s m args below meth c Q ls hx hb hml hown hts hK hsz hw hl hret
  have hown : s.vm.findClass "RingMatchesModel" = some m.cls := hown
  have hl : lv_has ls 4 [(0, .ref (AD 82)), (1, .int (zI p1)), (2, .int (zI p2)), (3, .int (zI p3))] := hl
  have hA := wA_hi (N := N) (AD := AD) hsz
  obtain ⟨H, hH⟩ : ∃ H, H = s.heap := ⟨_, rfl⟩
  obtain ⟨locs, hlocs⟩ : ∃ z : List Loc, z = [] := ⟨_, rfl⟩
  have hw : WD D clW (wA N AD sz) s.heap H locs N AD C := by rw [hH, hlocs]; exact hw
  rw [← hlocs]
  suffices hgo : W p l e rm_M_goes s m args below meth c H locs 0 0 Q (F0 m 0 ls []) by rw [hH] at hgo; exact hgo
  refine lv_aload_n hx hb d_M_goes_0 rfl (lv_at hl 0 rfl) ?_
  refine lv_iload_n hx hb d_M_goes_1 rfl (lv_at hl 1 rfl) ?_
  refine zr_if_ne (tgt := 9) hx hb ⟨by omega, by omega⟩ d_M_goes_2 (by decide) (fun c1 => ?_) (fun c1 => ?_)
  · refine lv_iload_n hx hb d_M_goes_9 rfl (lv_at hl 2 rfl) ?_
    refine zr_if_ne (tgt := 17) hx hb ⟨by omega, by omega⟩ d_M_goes_10 (by decide) (fun c2 => ?_) (fun c2 => ?_)
    · refine lv_iload_n hx hb d_M_goes_17 rfl (lv_at hl 3 rfl) ?_
      refine zr_if_ne (tgt := 25) hx hb ⟨by omega, by omega⟩ d_M_goes_18 (by decide) (fun c3 => ?_) (fun c3 => ?_)
      · refine zr_iconst hx hb d_M_goes_25 ?_
        refine zr_put (ty := .int) (v := .int (zI 0)) hx hb hts iw_M tyM tyM_ok nmM hown hK hw 82 ⟨by omega, by omega⟩ hM rfl 0 (by decide) (hts _ wk_506) (fun _ h => h) rfl (by decide +kernel) rfl rfl (Nat.le_of_ble_eq_true rfl) d_M_goes_26 (fun H locs hw => ?_)
        obtain ⟨C4, hC4⟩ : ∃ z : Int → va_E, z = zup C 82 (.inr (4, [.int (zI 0), .int (zI pn), .ref (AD 83), .int (zI kc), .ref (AD 84), .ref (AD 85), .int (zI tr), .int (zI lc), .int (zI fa), .int (zI fb), .ref (AD 86), .ref (AD 87), .ref (AD 88), .int (zI mn), .int (zI mr), .int (zI ma), .long (zL ab), .long (zL bl)])) := ⟨_, rfl⟩
        have hw : WD D clW (wA N AD sz) s.heap H locs N AD C4 := by rw [hC4]; exact hw
        have frC4 : ∀ j : Int, j ≠ 82 → C4 j = C j := fun j h => by rw [hC4]; exact zup_n h
        have hM : C4 82 = .inr (4, [.int (zI 0), .int (zI pn), .ref (AD 83), .int (zI kc), .ref (AD 84), .ref (AD 85), .int (zI tr), .int (zI lc), .int (zI fa), .int (zI fb), .ref (AD 86), .ref (AD 87), .ref (AD 88), .int (zI mn), .int (zI mr), .int (zI ma), .long (zL ab), .long (zL bl)]) := by rw [hC4]; exact zup_s
        refine lv_aload_n hx hb d_M_goes_29 rfl (lv_at hl 0 rfl) ?_
        refine zr_get (v := .int (zI 0)) hx hb hts iw_M hown hK hw 82 ⟨by omega, by omega⟩ hM rfl 0 (by decide) (hts _ wk_506) (fun _ h => h) rfl d_M_goes_30 ?_
        refine zr_if_ne (tgt := 40) hx hb ⟨by omega, by omega⟩ d_M_goes_33 (by decide) (fun c9 => absurd c9 (by decide)) (fun c5 => ?_)
        refine zr_iconst hx hb d_M_goes_36 ?_
        refine lv_goto (tgt := 41) hx hb d_M_goes_37 (by decide) ?_
        exact hret _ _ _ _ _ _ d_M_goes_41 hw (by decide +kernel) ⟨by rw [hv]; rw [if_pos (by omega)], by rw [hM, ← show (0 : Int) = t by omega], frC4⟩
      · refine zr_iconst hx hb d_M_goes_21 ?_
        refine lv_goto (tgt := 26) hx hb d_M_goes_22 (by decide) ?_
        refine zr_put (ty := .int) (v := .int (zI 3)) hx hb hts iw_M tyM tyM_ok nmM hown hK hw 82 ⟨by omega, by omega⟩ hM rfl 0 (by decide) (hts _ wk_506) (fun _ h => h) rfl (by decide +kernel) rfl rfl (Nat.le_of_ble_eq_true rfl) d_M_goes_26 (fun H locs hw => ?_)
        obtain ⟨C6, hC6⟩ : ∃ z : Int → va_E, z = zup C 82 (.inr (4, [.int (zI 3), .int (zI pn), .ref (AD 83), .int (zI kc), .ref (AD 84), .ref (AD 85), .int (zI tr), .int (zI lc), .int (zI fa), .int (zI fb), .ref (AD 86), .ref (AD 87), .ref (AD 88), .int (zI mn), .int (zI mr), .int (zI ma), .long (zL ab), .long (zL bl)])) := ⟨_, rfl⟩
        have hw : WD D clW (wA N AD sz) s.heap H locs N AD C6 := by rw [hC6]; exact hw
        have frC6 : ∀ j : Int, j ≠ 82 → C6 j = C j := fun j h => by rw [hC6]; exact zup_n h
        have hM : C6 82 = .inr (4, [.int (zI 3), .int (zI pn), .ref (AD 83), .int (zI kc), .ref (AD 84), .ref (AD 85), .int (zI tr), .int (zI lc), .int (zI fa), .int (zI fb), .ref (AD 86), .ref (AD 87), .ref (AD 88), .int (zI mn), .int (zI mr), .int (zI ma), .long (zL ab), .long (zL bl)]) := by rw [hC6]; exact zup_s
        refine lv_aload_n hx hb d_M_goes_29 rfl (lv_at hl 0 rfl) ?_
        refine zr_get (v := .int (zI 3)) hx hb hts iw_M hown hK hw 82 ⟨by omega, by omega⟩ hM rfl 0 (by decide) (hts _ wk_506) (fun _ h => h) rfl d_M_goes_30 ?_
        refine zr_if_ne (tgt := 40) hx hb ⟨by omega, by omega⟩ d_M_goes_33 (by decide) (fun c7 => ?_) (fun c9 => absurd c9 (by decide))
        refine zr_iconst hx hb d_M_goes_40 ?_
        exact hret _ _ _ _ _ _ d_M_goes_41 hw (by decide +kernel) ⟨by rw [hv]; rw [if_neg (by omega)], by rw [hM, ← show (3 : Int) = t by omega], frC6⟩
    · refine zr_iconst hx hb d_M_goes_13 ?_
      refine lv_goto (tgt := 26) hx hb d_M_goes_14 (by decide) ?_
      refine zr_put (ty := .int) (v := .int (zI 2)) hx hb hts iw_M tyM tyM_ok nmM hown hK hw 82 ⟨by omega, by omega⟩ hM rfl 0 (by decide) (hts _ wk_506) (fun _ h => h) rfl (by decide +kernel) rfl rfl (Nat.le_of_ble_eq_true rfl) d_M_goes_26 (fun H locs hw => ?_)
      obtain ⟨C8, hC8⟩ : ∃ z : Int → va_E, z = zup C 82 (.inr (4, [.int (zI 2), .int (zI pn), .ref (AD 83), .int (zI kc), .ref (AD 84), .ref (AD 85), .int (zI tr), .int (zI lc), .int (zI fa), .int (zI fb), .ref (AD 86), .ref (AD 87), .ref (AD 88), .int (zI mn), .int (zI mr), .int (zI ma), .long (zL ab), .long (zL bl)])) := ⟨_, rfl⟩
      have hw : WD D clW (wA N AD sz) s.heap H locs N AD C8 := by rw [hC8]; exact hw
      have frC8 : ∀ j : Int, j ≠ 82 → C8 j = C j := fun j h => by rw [hC8]; exact zup_n h
      have hM : C8 82 = .inr (4, [.int (zI 2), .int (zI pn), .ref (AD 83), .int (zI kc), .ref (AD 84), .ref (AD 85), .int (zI tr), .int (zI lc), .int (zI fa), .int (zI fb), .ref (AD 86), .ref (AD 87), .ref (AD 88), .int (zI mn), .int (zI mr), .int (zI ma), .long (zL ab), .long (zL bl)]) := by rw [hC8]; exact zup_s
      refine lv_aload_n hx hb d_M_goes_29 rfl (lv_at hl 0 rfl) ?_
      refine zr_get (v := .int (zI 2)) hx hb hts iw_M hown hK hw 82 ⟨by omega, by omega⟩ hM rfl 0 (by decide) (hts _ wk_506) (fun _ h => h) rfl d_M_goes_30 ?_
      refine zr_if_ne (tgt := 40) hx hb ⟨by omega, by omega⟩ d_M_goes_33 (by decide) (fun c9 => ?_) (fun c9 => absurd c9 (by decide))
      refine zr_iconst hx hb d_M_goes_40 ?_
      exact hret _ _ _ _ _ _ d_M_goes_41 hw (by decide +kernel) ⟨by rw [hv]; rw [if_neg (by omega)], by rw [hM, ← show (2 : Int) = t by omega], frC8⟩
  · refine zr_iconst hx hb d_M_goes_5 ?_
    refine lv_goto (tgt := 26) hx hb d_M_goes_6 (by decide) ?_
    refine zr_put (ty := .int) (v := .int (zI 1)) hx hb hts iw_M tyM tyM_ok nmM hown hK hw 82 ⟨by omega, by omega⟩ hM rfl 0 (by decide) (hts _ wk_506) (fun _ h => h) rfl (by decide +kernel) rfl rfl (Nat.le_of_ble_eq_true rfl) d_M_goes_26 (fun H locs hw => ?_)
    obtain ⟨C10, hC10⟩ : ∃ z : Int → va_E, z = zup C 82 (.inr (4, [.int (zI 1), .int (zI pn), .ref (AD 83), .int (zI kc), .ref (AD 84), .ref (AD 85), .int (zI tr), .int (zI lc), .int (zI fa), .int (zI fb), .ref (AD 86), .ref (AD 87), .ref (AD 88), .int (zI mn), .int (zI mr), .int (zI ma), .long (zL ab), .long (zL bl)])) := ⟨_, rfl⟩
    have hw : WD D clW (wA N AD sz) s.heap H locs N AD C10 := by rw [hC10]; exact hw
    have frC10 : ∀ j : Int, j ≠ 82 → C10 j = C j := fun j h => by rw [hC10]; exact zup_n h
    have hM : C10 82 = .inr (4, [.int (zI 1), .int (zI pn), .ref (AD 83), .int (zI kc), .ref (AD 84), .ref (AD 85), .int (zI tr), .int (zI lc), .int (zI fa), .int (zI fb), .ref (AD 86), .ref (AD 87), .ref (AD 88), .int (zI mn), .int (zI mr), .int (zI ma), .long (zL ab), .long (zL bl)]) := by rw [hC10]; exact zup_s
    refine lv_aload_n hx hb d_M_goes_29 rfl (lv_at hl 0 rfl) ?_
    refine zr_get (v := .int (zI 1)) hx hb hts iw_M hown hK hw 82 ⟨by omega, by omega⟩ hM rfl 0 (by decide) (hts _ wk_506) (fun _ h => h) rfl d_M_goes_30 ?_
    refine zr_if_ne (tgt := 40) hx hb ⟨by omega, by omega⟩ d_M_goes_33 (by decide) (fun c11 => ?_) (fun c9 => absurd c9 (by decide))
    refine zr_iconst hx hb d_M_goes_40 ?_
    exact hret _ _ _ _ _ _ d_M_goes_41 hw (by decide +kernel) ⟨by rw [hv]; rw [if_neg (by omega)], by rw [hM, ← show (1 : Int) = t by omega], frC10⟩
abbrev rm_M_thrown : Room := { frames := 0, cells := 0, slots := 0, locals := 0 }
set_option maxHeartbeats 4000000 in
set_option maxRecDepth 100000 in
theorem c_M_thrown (l : Launch) (D : va_G) (k : Nat → ClassId) (N : Nat) (AD : Int → Nat) (C : Int → va_E) (sz : Nat) (th : Int) (pn : Int) (kc : Int) (tr : Int) (lc : Int) (fa : Int) (fb : Int) (mn : Int) (mr : Int) (ma : Int) (ab : Int) (bl : Int) (hN : 90 ≤ (N : Int)) (hM : C 82 = .inr (4, [.int (zI th), .int (zI pn), .ref (AD 83), .int (zI kc), .ref (AD 84), .ref (AD 85), .int (zI tr), .int (zI lc), .int (zI fa), .int (zI fb), .ref (AD 86), .ref (AD 87), .ref (AD 88), .int (zI mn), .int (zI mr), .int (zI ma), .long (zL ab), .long (zL bl)])) : MI l y_M_thrown (Cond.code y_M_thrown b_M_thrown 1 (Option.some Jvm.ClassFile.FieldType.int) :: WS) rm_M_thrown D clW (tyW k) N AD C sz [.ref (AD 82)] (fun r C' => r = zI th ∧ C' = C) := by
  refine MI.start (cc := b_M_thrown) (maxL := 1) (rt := .int) (by decide) rfl (Nat.le_of_ble_eq_true rfl) ?_
  intro p e s m args below meth c Q ls hx hb hml hown hts hK hsz hw hl hret
  have hown : s.vm.findClass "RingMatchesModel" = some m.cls := hown
  have hl : lv_has ls 1 [(0, .ref (AD 82))] := hl
  have hA := wA_hi (N := N) (AD := AD) hsz
  obtain ⟨H, hH⟩ : ∃ H, H = s.heap := ⟨_, rfl⟩
  obtain ⟨locs, hlocs⟩ : ∃ z : List Loc, z = [] := ⟨_, rfl⟩
  have hw : WD D clW (wA N AD sz) s.heap H locs N AD C := by rw [hH, hlocs]; exact hw
  rw [← hlocs]
  suffices hgo : W p l e rm_M_thrown s m args below meth c H locs 0 0 Q (F0 m 0 ls []) by rw [hH] at hgo; exact hgo
  refine lv_aload_n hx hb d_M_thrown_0 rfl (lv_at hl 0 rfl) ?_
  refine zr_get (v := .int (zI th)) hx hb hts iw_M hown hK hw 82 ⟨by omega, by omega⟩ hM rfl 0 (by decide) (hts _ wk_506) (fun _ h => h) rfl d_M_thrown_1 ?_
  exact hret _ _ _ _ _ _ d_M_thrown_4 hw rfl ⟨rfl, rfl⟩
abbrev rm_M_isSeries : Room := { frames := 1, cells := 0, slots := 0, locals := 22 }
set_option maxHeartbeats 4000000 in
set_option maxRecDepth 100000 in
theorem c_M_isSeries (l : Launch) (D : va_G) (k : Nat → ClassId) (N : Nat) (AD : Int → Nat) (C : Int → va_E) (sz : Nat) (th : Int) (pn : Int) (kc : Int) (tr : Int) (lc : Int) (fa : Int) (fb : Int) (mn : Int) (mr : Int) (ma : Int) (ab : Int) (bl : Int) (s0 : Int) (hN : 90 ≤ (N : Int)) (hM : C 82 = .inr (4, [.int (zI th), .int (zI pn), .ref (AD 83), .int (zI kc), .ref (AD 84), .ref (AD 85), .int (zI tr), .int (zI lc), .int (zI fa), .int (zI fb), .ref (AD 86), .ref (AD 87), .ref (AD 88), .int (zI mn), .int (zI mr), .int (zI ma), .long (zL ab), .long (zL bl)])) (hs : inI s0) (hkc : 0 ≤ kc ∧ kc ≤ 8) : MI l y_M_isSeries (Cond.code y_M_isSeries b_M_isSeries 2 (Option.some Jvm.ClassFile.FieldType.boolean) :: WS) rm_M_isSeries D clW (tyW k) N AD C sz [.ref (AD 82), .int (zI s0)] (fun r C' => (r = zI 1 ∧ (0 ≤ s0 ∧ s0 < kc) ∨ r = zI 0 ∧ ¬ (0 ≤ s0 ∧ s0 < kc)) ∧ C' = C) := by
  refine MI.start (cc := b_M_isSeries) (maxL := 2) (rt := .boolean) (by decide) rfl (Nat.le_of_ble_eq_true rfl) ?_
  intro p e s m args below meth c Q ls hx hb hml hown hts hK hsz hw hl hret
  have hown : s.vm.findClass "RingMatchesModel" = some m.cls := hown
  have hl : lv_has ls 2 [(0, .ref (AD 82)), (1, .int (zI s0))] := hl
  have hA := wA_hi (N := N) (AD := AD) hsz
  obtain ⟨H, hH⟩ : ∃ H, H = s.heap := ⟨_, rfl⟩
  obtain ⟨locs, hlocs⟩ : ∃ z : List Loc, z = [] := ⟨_, rfl⟩
  have hw : WD D clW (wA N AD sz) s.heap H locs N AD C := by rw [hH, hlocs]; exact hw
  rw [← hlocs]
  suffices hgo : W p l e rm_M_isSeries s m args below meth c H locs 0 0 Q (F0 m 0 ls []) by rw [hH] at hgo; exact hgo
  refine lv_iload_n hx hb d_M_isSeries_0 rfl (lv_at hl 1 rfl) ?_
  refine zr_iconst hx hb d_M_isSeries_1 ?_
  refine lv_aload_n hx hb d_M_isSeries_2 rfl (lv_at hl 0 rfl) ?_
  refine zr_get (v := .int (zI kc)) hx hb hts iw_M hown hK hw 82 ⟨by omega, by omega⟩ hM rfl 3 (by decide) (hts _ wk_509) (fun _ h => h) rfl d_M_isSeries_3 ?_
  refine zr_iconst hx hb d_M_isSeries_6 ?_
  refine zr_isub hx hb d_M_isSeries_7 ?_
  refine zr_callI (va_runS (As := [.int (zI s0), .int (zI 0), .int (zI (kc - 1))]) (rest := []) ⟨hx, hb, hml, hown, hts⟩ (c_M_within l D k N AD C H.size s0 0 (kc - 1) ⟨by omega, by omega⟩ ⟨by omega, by omega⟩ ⟨by omega, by omega⟩) (va_cwS 3 hts (good_S wk_572 wk_573 wk_31 wk_574) rfl rfl rfl (by decide +kernel) ⟨Nat.le_of_ble_eq_true rfl, Nat.le_of_ble_eq_true rfl⟩) (cPre_S hK hw) rfl rfl hl.1 rfl (lv_room (Nat.le_of_ble_eq_true rfl)) d_M_isSeries_8 ⟨Nat.le_of_ble_eq_true rfl, Nat.le_of_ble_eq_true rfl⟩) hw hA (fun r9 C2 H locs hq1 hw => ?_)
  obtain ⟨hq1, hCe⟩ := hq1
  rw [hCe] at hw
  rcases hq1 with ⟨hr9, hq1⟩ | ⟨hr9, hq1⟩ <;> subst hr9
  · exact hret _ _ _ _ _ _ d_M_isSeries_11 hw (by decide +kernel) ⟨Or.inl ⟨rfl, by omega⟩, rfl⟩
  · exact hret _ _ _ _ _ _ d_M_isSeries_11 hw (by decide +kernel) ⟨Or.inr ⟨rfl, by omega⟩, rfl⟩
abbrev rm_M_signs : Room := { frames := 0, cells := 0, slots := 0, locals := 0 }
set_option maxHeartbeats 4000000 in
set_option maxRecDepth 100000 in
theorem c_M_signs (l : Launch) (D : va_G) (k : Nat → ClassId) (N : Nat) (AD : Int → Nat) (C : Int → va_E) (sz : Nat) (a : Int)  : MI l y_M_signs (Cond.code y_M_signs b_M_signs 3 (Option.some Jvm.ClassFile.FieldType.int) :: WS) rm_M_signs D clW (tyW k) N AD C sz [.int (zI a)] (fun r C' => r = zI (nz a) ∧ C' = C) := by
  refine MI.start (cc := b_M_signs) (maxL := 3) (rt := .int) (by decide) rfl (Nat.le_of_ble_eq_true rfl) ?_
  intro p e s m args below meth c Q ls hx hb hml hown hts hK hsz hw hl hret
  have hown : s.vm.findClass "RingMatchesModel" = some m.cls := hown
  have hl : lv_has ls 3 [(0, .int (zI a))] := hl
  have hA := wA_hi (N := N) (AD := AD) hsz
  obtain ⟨H, hH⟩ : ∃ H, H = s.heap := ⟨_, rfl⟩
  obtain ⟨locs, hlocs⟩ : ∃ z : List Loc, z = [] := ⟨_, rfl⟩
  have hw : WD D clW (wA N AD sz) s.heap H locs N AD C := by rw [hH, hlocs]; exact hw
  rw [← hlocs]
  suffices hgo : W p l e rm_M_signs s m args below meth c H locs 0 0 Q (F0 m 0 ls []) by rw [hH] at hgo; exact hgo
  refine zr_iconst hx hb d_M_signs_0 ?_
  refine lv_istore_n (lv' := [(1, .int (zI 0)), (0, .int (zI a))]) hx hb d_M_signs_1 rfl hl (by decide) rfl (fun ls hl => ?_)
  refine zr_iconst hx hb d_M_signs_2 ?_
  refine lv_istore_n (lv' := [(2, .int (zI 0)), (1, .int (zI 0)), (0, .int (zI a))]) hx hb d_M_signs_3 rfl hl (by decide) rfl (fun ls hl => ?_)
  have lp : ∀ (n9 : Nat) (x : Int) (fd : Int) (H : Heap) (locs : List Loc) (ls : Array Slot), (0 ≤ x ∧ x ≤ 4) → (fd = sumR (nzT a) 0 (x - 0).toNat) → (0 ≤ fd ∧ fd ≤ x) → (4 - x).toNat < n9 → WD D clW (wA N AD sz) s.heap H locs N AD C → lv_has ls 3 [(0, .int (zI a)), (1, .int (zI fd)), (2, .int (zI x))] → W p l e rm_M_signs s m args below meth c H locs 0 0 Q (F0 m 4 ls []) := by
    intro n9
    induction n9 with
    | zero => intro x fd H locs ls hx1 hf hf2  hm hw hl; exact absurd hm (by omega)
    | succ n9 ihlp =>
      intro x fd H locs ls hx1 hf hf2  hm hw hl
      refine lv_iload_n hx hb d_M_signs_4 rfl (lv_at hl 2 rfl) ?_
      refine zr_iconst hx hb d_M_signs_5 ?_
      refine zr_icmp_ge (tgt := 36) hx hb ⟨by omega, by omega⟩ ⟨by omega, by omega⟩ d_M_signs_6 (by decide) (fun c1 => ?_) (fun c1 => ?_)
      · refine lv_iload_n hx hb d_M_signs_36 rfl (lv_at hl 1 rfl) ?_
        exact hret _ _ _ _ _ _ d_M_signs_37 hw rfl ⟨by rw [hf, show x = 4 by omega]; rfl, rfl⟩
      · refine lv_iload_n hx hb d_M_signs_9 rfl (lv_at hl 0 rfl) ?_
        refine zr_bipush hx hb d_M_signs_10 (by decide) ?_
        refine lv_iload_n hx hb d_M_signs_12 rfl (lv_at hl 2 rfl) ?_
        refine zr_imul hx hb d_M_signs_13 ?_
        refine zr_byte hx hb (a := a) (q := x) (by omega) d_M_signs_14 d_M_signs_15 d_M_signs_18 ?_
        have hb9 := byt_in a x
        refine zr_if_eq (tgt := 28) hx hb ⟨by omega, by omega⟩ d_M_signs_19 (by decide) (fun c2 => ?_) (fun c2 => ?_)
        · have hz := c2
          refine lv_iload_n hx hb d_M_signs_28 rfl (lv_at hl 1 rfl) ?_
          refine lv_istore_n (lv' := [(1, .int (zI fd)), (0, .int (zI a)), (2, .int (zI x))]) hx hb d_M_signs_29 rfl hl (by decide) rfl (fun ls hl => ?_)
          refine lv_iinc (v := zI (x + 1)) (lv' := [(2, .int (zI (x + 1))), (1, .int (zI fd)), (0, .int (zI a))]) hx hb d_M_signs_30 hl (k := 2) rfl (zI_add _ _) (by decide) rfl (fun ls hl => ?_)
          refine lv_goto (tgt := 4) hx hb d_M_signs_33 (by decide) ?_
          exact ihlp (x + 1) fd H locs ls (by omega) (by rw [sumR_step _ (by omega), ← hf]; unfold nzT; rw [if_pos hz]; omega) (by omega)  (by omega) hw (lv_sub hl [2, 1, 0] rfl)
        · have hz := c2
          refine lv_iload_n hx hb d_M_signs_22 rfl (lv_at hl 1 rfl) ?_
          refine zr_iconst hx hb d_M_signs_23 ?_
          refine zr_iadd hx hb d_M_signs_24 ?_
          refine lv_goto (tgt := 29) hx hb d_M_signs_25 (by decide) ?_
          refine lv_istore_n (lv' := [(1, .int (zI (fd + 1))), (0, .int (zI a)), (2, .int (zI x))]) hx hb d_M_signs_29 rfl hl (by decide) rfl (fun ls hl => ?_)
          refine lv_iinc (v := zI (x + 1)) (lv' := [(2, .int (zI (x + 1))), (1, .int (zI (fd + 1))), (0, .int (zI a))]) hx hb d_M_signs_30 hl (k := 2) rfl (zI_add _ _) (by decide) rfl (fun ls hl => ?_)
          refine lv_goto (tgt := 4) hx hb d_M_signs_33 (by decide) ?_
          exact ihlp (x + 1) (fd + 1) H locs ls (by omega) (by rw [sumR_step _ (by omega), ← hf]; unfold nzT; rw [if_neg hz]) (by omega)  (by omega) hw (lv_sub hl [2, 1, 0] rfl)
  exact lp ((4 - 0 : Int).toNat + 1) 0 0 H locs ls (by omega) rfl (by omega)  (by omega) hw (lv_sub hl [2, 1, 0] rfl)
abbrev rm_M_plain : Room := { frames := 1, cells := 0, slots := 0, locals := 22 }
set_option maxHeartbeats 4000000 in
set_option maxRecDepth 100000 in
theorem c_M_plain (l : Launch) (D : va_G) (k : Nat → ClassId) (N : Nat) (AD : Int → Nat) (C : Int → va_E) (sz : Nat) (a : Int)  : MI l y_M_plain (Cond.code y_M_plain b_M_plain 4 (Option.some Jvm.ClassFile.FieldType.boolean) :: WS) rm_M_plain D clW (tyW k) N AD C sz [.int (zI a)] (fun r C' => (r = zI 1 ∧ TK a ∨ r = zI 0 ∧ ¬ TK a) ∧ C' = C) := by
  refine MI.start (cc := b_M_plain) (maxL := 4) (rt := .boolean) (by decide) rfl (Nat.le_of_ble_eq_true rfl) ?_
  intro p e s m args below meth c Q ls hx hb hml hown hts hK hsz hw hl hret
  have hown : s.vm.findClass "RingMatchesModel" = some m.cls := hown
  have hl : lv_has ls 4 [(0, .int (zI a))] := hl
  have hA := wA_hi (N := N) (AD := AD) hsz
  obtain ⟨H, hH⟩ : ∃ H, H = s.heap := ⟨_, rfl⟩
  obtain ⟨locs, hlocs⟩ : ∃ z : List Loc, z = [] := ⟨_, rfl⟩
  have hw : WD D clW (wA N AD sz) s.heap H locs N AD C := by rw [hH, hlocs]; exact hw
  rw [← hlocs]
  suffices hgo : W p l e rm_M_plain s m args below meth c H locs 0 0 Q (F0 m 0 ls []) by rw [hH] at hgo; exact hgo
  refine zr_iconst hx hb d_M_plain_0 ?_
  refine lv_istore_n (lv' := [(1, .int (zI 1)), (0, .int (zI a))]) hx hb d_M_plain_1 rfl hl (by decide) rfl (fun ls hl => ?_)
  refine zr_iconst hx hb d_M_plain_2 ?_
  refine lv_istore_n (lv' := [(2, .int (zI 0)), (1, .int (zI 1)), (0, .int (zI a))]) hx hb d_M_plain_3 rfl hl (by decide) rfl (fun ls hl => ?_)
  have lp : ∀ (n9 : Nat) (x : Int) (gd : Int) (H : Heap) (locs : List Loc) (ls : Array Slot), (0 ≤ x ∧ x ≤ 4) → ((gd = 1 ∧ ∀ q : Int, 0 ≤ q → q < x → okB (byt a q)) ∨ (gd = 0 ∧ ¬ TK a)) → (4 - x).toNat < n9 → WD D clW (wA N AD sz) s.heap H locs N AD C → lv_has ls 4 [(0, .int (zI a)), (1, .int (zI gd)), (2, .int (zI x))] → W p l e rm_M_plain s m args below meth c H locs 0 0 Q (F0 m 4 ls []) := by
    intro n9
    induction n9 with
    | zero => intro x gd H locs ls hx1 hgd  hm hw hl; exact absurd hm (by omega)
    | succ n9 ihlp =>
      intro x gd H locs ls hx1 hgd  hm hw hl
      refine lv_iload_n hx hb d_M_plain_4 rfl (lv_at hl 2 rfl) ?_
      refine zr_iconst hx hb d_M_plain_5 ?_
      refine zr_icmp_ge (tgt := 51) hx hb ⟨by omega, by omega⟩ ⟨by omega, by omega⟩ d_M_plain_6 (by decide) (fun c1 => ?_) (fun c1 => ?_)
      · refine lv_iload_n hx hb d_M_plain_51 rfl (lv_at hl 1 rfl) ?_
        exact hret _ _ _ _ _ _ d_M_plain_52 hw (by rcases hgd with h | h <;> rw [h.1] <;> decide +kernel) ⟨hgd.elim (fun h => Or.inl ⟨by rw [h.1], fun q h1 h2 => h.2 q h1 (by omega)⟩) (fun h => Or.inr ⟨by rw [h.1], h.2⟩), rfl⟩
      · refine lv_iload_n hx hb d_M_plain_9 rfl (lv_at hl 0 rfl) ?_
        refine zr_bipush hx hb d_M_plain_10 (by decide) ?_
        refine lv_iload_n hx hb d_M_plain_12 rfl (lv_at hl 2 rfl) ?_
        refine zr_imul hx hb d_M_plain_13 ?_
        refine zr_byte hx hb (a := a) (q := x) (by omega) d_M_plain_14 d_M_plain_15 d_M_plain_18 ?_
        refine lv_istore_n (lv' := [(3, .int (zI (byt a x))), (0, .int (zI a)), (1, .int (zI gd)), (2, .int (zI x))]) hx hb d_M_plain_19 rfl hl (by decide) rfl (fun ls hl => ?_)
        have hb9 := byt_in a x
        refine lv_iload_n hx hb d_M_plain_20 rfl (lv_at hl 2 rfl) ?_
        refine zr_if_eq (tgt := 43) hx hb ⟨by omega, by omega⟩ d_M_plain_21 (by decide) (fun c2 => ?_) (fun c2 => ?_)
        · refine zr_iconst hx hb d_M_plain_43 ?_
          refine lv_istore_n (lv' := [(1, .int (zI 0)), (3, .int (zI (byt a x))), (0, .int (zI a)), (2, .int (zI x))]) hx hb d_M_plain_44 rfl hl (by decide) rfl (fun ls hl => ?_)
          refine lv_iinc (v := zI (x + 1)) (lv' := [(2, .int (zI (x + 1))), (1, .int (zI 0)), (3, .int (zI (byt a x))), (0, .int (zI a))]) hx hb d_M_plain_45 hl (k := 3) rfl (zI_add _ _) (by decide) rfl (fun ls hl => ?_)
          refine lv_goto (tgt := 4) hx hb d_M_plain_48 (by decide) ?_
          exact ihlp (x + 1) 0 H locs ls (by omega) (Or.inr ⟨rfl, by rcases hgd with h | h; intro h9; have h8 := h9 x (by omega) (by omega); unfold okB at h8; omega; exact h.2⟩)  (by omega) hw (lv_sub hl [3, 1, 0] rfl)
        · refine lv_iload_n hx hb d_M_plain_24 rfl (lv_at hl 0 rfl) ?_
          refine zr_if_eq (tgt := 39) hx hb ⟨by omega, by omega⟩ d_M_plain_25 (by decide) (fun c3 => ?_) (fun c3 => ?_)
          · refine zr_iconst hx hb d_M_plain_39 ?_
            refine lv_goto (tgt := 44) hx hb d_M_plain_40 (by decide) ?_
            refine lv_istore_n (lv' := [(1, .int (zI 1)), (3, .int (zI (byt a x))), (0, .int (zI a)), (2, .int (zI x))]) hx hb d_M_plain_44 rfl hl (by decide) rfl (fun ls hl => ?_)
            refine lv_iinc (v := zI (x + 1)) (lv' := [(2, .int (zI (x + 1))), (1, .int (zI 1)), (3, .int (zI (byt a x))), (0, .int (zI a))]) hx hb d_M_plain_45 hl (k := 3) rfl (zI_add _ _) (by decide) rfl (fun ls hl => ?_)
            refine lv_goto (tgt := 4) hx hb d_M_plain_48 (by decide) ?_
            exact ihlp (x + 1) 1 H locs ls (by omega) (Or.inl ⟨rfl, fun q h1 h2 => by rcases hgd with h | h; by_cases e : q = x; rw [e]; unfold okB; omega; exact h.2 q h1 (by omega); omega⟩)  (by omega) hw (lv_sub hl [3, 1, 0] rfl)
          · refine lv_iload_n hx hb d_M_plain_28 rfl (lv_at hl 0 rfl) ?_
            refine zr_bipush hx hb d_M_plain_29 (by decide) ?_
            refine zr_bipush hx hb d_M_plain_31 (by decide) ?_
            refine zr_callI (va_runS (As := [.int (zI (byt a x)), .int (zI 32), .int (zI 126)]) (rest := []) ⟨hx, hb, hml, hown, hts⟩ (c_M_within l D k N AD C H.size (byt a x) 32 126 ⟨by omega, by omega⟩ ⟨by omega, by omega⟩ ⟨by omega, by omega⟩) (va_cwS 3 hts (good_S wk_572 wk_573 wk_31 wk_574) rfl rfl rfl (by decide +kernel) ⟨Nat.le_of_ble_eq_true rfl, Nat.le_of_ble_eq_true rfl⟩) (cPre_S hK hw) rfl rfl hl.1 rfl (lv_room (Nat.le_of_ble_eq_true rfl)) d_M_plain_33 ⟨Nat.le_of_ble_eq_true rfl, Nat.le_of_ble_eq_true rfl⟩) hw hA (fun r9 C5 H locs hq4 hw => ?_)
            obtain ⟨hq4, hCe⟩ := hq4
            rw [hCe] at hw
            rcases hq4 with ⟨hr9, hq4⟩ | ⟨hr9, hq4⟩ <;> subst hr9
            · refine zr_if_eq (tgt := 43) hx hb ⟨by omega, by omega⟩ d_M_plain_36 (by decide) (fun c9 => absurd c9 (by decide)) (fun c6 => ?_)
              refine zr_iconst hx hb d_M_plain_39 ?_
              refine lv_goto (tgt := 44) hx hb d_M_plain_40 (by decide) ?_
              refine lv_istore_n (lv' := [(1, .int (zI 1)), (3, .int (zI (byt a x))), (0, .int (zI a)), (2, .int (zI x))]) hx hb d_M_plain_44 rfl hl (by decide) rfl (fun ls hl => ?_)
              refine lv_iinc (v := zI (x + 1)) (lv' := [(2, .int (zI (x + 1))), (1, .int (zI 1)), (3, .int (zI (byt a x))), (0, .int (zI a))]) hx hb d_M_plain_45 hl (k := 3) rfl (zI_add _ _) (by decide) rfl (fun ls hl => ?_)
              refine lv_goto (tgt := 4) hx hb d_M_plain_48 (by decide) ?_
              exact ihlp (x + 1) 1 H locs ls (by omega) (Or.inl ⟨rfl, fun q h1 h2 => by rcases hgd with h | h; by_cases e : q = x; rw [e]; unfold okB; omega; exact h.2 q h1 (by omega); omega⟩)  (by omega) hw (lv_sub hl [3, 1, 0] rfl)
            · refine zr_if_eq (tgt := 43) hx hb ⟨by omega, by omega⟩ d_M_plain_36 (by decide) (fun c7 => ?_) (fun c9 => absurd c9 (by decide))
              refine zr_iconst hx hb d_M_plain_43 ?_
              refine lv_istore_n (lv' := [(1, .int (zI 0)), (3, .int (zI (byt a x))), (0, .int (zI a)), (2, .int (zI x))]) hx hb d_M_plain_44 rfl hl (by decide) rfl (fun ls hl => ?_)
              refine lv_iinc (v := zI (x + 1)) (lv' := [(2, .int (zI (x + 1))), (1, .int (zI 0)), (3, .int (zI (byt a x))), (0, .int (zI a))]) hx hb d_M_plain_45 hl (k := 3) rfl (zI_add _ _) (by decide) rfl (fun ls hl => ?_)
              refine lv_goto (tgt := 4) hx hb d_M_plain_48 (by decide) ?_
              exact ihlp (x + 1) 0 H locs ls (by omega) (Or.inr ⟨rfl, by rcases hgd with h | h; intro h9; have h8 := h9 x (by omega) (by omega); unfold okB at h8; omega; exact h.2⟩)  (by omega) hw (lv_sub hl [3, 1, 0] rfl)
  exact lp ((4 - 0 : Int).toNat + 1) 0 1 H locs ls (by omega) (Or.inl ⟨rfl, fun q h1 h2 => absurd h2 (by omega)⟩)  (by omega) hw (lv_sub hl [2, 1, 0] rfl)
abbrev rm_M_push : Room := { frames := 0, cells := 0, slots := 0, locals := 0 }
set_option maxHeartbeats 4000000 in
set_option maxRecDepth 100000 in
theorem c_M_push (l : Launch) (D : va_G) (k : Nat → ClassId) (N : Nat) (AD : Int → Nat) (C : Int → va_E) (sz : Nat) (th : Int) (pn : Int) (kc : Int) (tr : Int) (lc : Int) (fa : Int) (fb : Int) (mn : Int) (mr : Int) (ma : Int) (ab : Int) (bl : Int) (mp : Int → Int) (a : Int) (hN : 90 ≤ (N : Int)) (hM : C 82 = .inr (4, [.int (zI th), .int (zI pn), .ref (AD 83), .int (zI kc), .ref (AD 84), .ref (AD 85), .int (zI tr), .int (zI lc), .int (zI fa), .int (zI fb), .ref (AD 86), .ref (AD 87), .ref (AD 88), .int (zI mn), .int (zI mr), .int (zI ma), .long (zL ab), .long (zL bl)])) (h83 : C 83 = aI (k 0) 100 mp) (hpn : 0 ≤ pn) (hfit : pn + nz a ≤ 100) : MV l y_M_push (Cond.code y_M_push b_M_push 4 (Option.none : Option FieldType) :: WS) rm_M_push D clW (tyW k) N AD C sz [.ref (AD 82), .int (zI a)] (fun C' => C' 82 = .inr (4, [.int (zI th), .int (zI (pn + nz a)), .ref (AD 83), .int (zI kc), .ref (AD 84), .ref (AD 85), .int (zI tr), .int (zI lc), .int (zI fa), .int (zI fb), .ref (AD 86), .ref (AD 87), .ref (AD 88), .int (zI mn), .int (zI mr), .int (zI ma), .long (zL ab), .long (zL bl)]) ∧ C' 83 = aI (k 0) 100 (padF mp pn a 4) ∧ ∀ j : Int, j ≠ 82 → j ≠ 83 → C' j = C j) := by
  refine MV.start (cc := b_M_push) (maxL := 4) (by decide) rfl (Nat.le_of_ble_eq_true rfl) ?_
  intro p e s m args below meth c Q ls hx hb hml hown hts hK hsz hw hl hret
  have hown : s.vm.findClass "RingMatchesModel" = some m.cls := hown
  have hl : lv_has ls 4 [(0, .ref (AD 82)), (1, .int (zI a))] := hl
  have hA := wA_hi (N := N) (AD := AD) hsz
  obtain ⟨H, hH⟩ : ∃ H, H = s.heap := ⟨_, rfl⟩
  obtain ⟨locs, hlocs⟩ : ∃ z : List Loc, z = [] := ⟨_, rfl⟩
  have hw : WD D clW (wA N AD sz) s.heap H locs N AD C := by rw [hH, hlocs]; exact hw
  rw [← hlocs]
  suffices hgo : W p l e rm_M_push s m args below meth c H locs 0 0 Q (F0 m 0 ls []) by rw [hH] at hgo; exact hgo
  obtain ⟨C0, hC0⟩ : ∃ z : Int → va_E, z = C := ⟨_, rfl⟩
  rw [← hC0] at hret
  have hM : C 82 = .inr (4, [.int (zI th), .int (zI (pn + sumR (nzT a) 0 ((0 : Int) - 0).toNat)), .ref (AD 83), .int (zI kc), .ref (AD 84), .ref (AD 85), .int (zI tr), .int (zI lc), .int (zI fa), .int (zI fb), .ref (AD 86), .ref (AD 87), .ref (AD 88), .int (zI mn), .int (zI mr), .int (zI ma), .long (zL ab), .long (zL bl)]) := by rw [hM]; show _ = Sum.inr (4, [Value.int (zI th), Value.int (zI (pn + 0)), Value.ref (AD 83), Value.int (zI kc), Value.ref (AD 84), Value.ref (AD 85), Value.int (zI tr), Value.int (zI lc), Value.int (zI fa), Value.int (zI fb), Value.ref (AD 86), Value.ref (AD 87), Value.ref (AD 88), Value.int (zI mn), Value.int (zI mr), Value.int (zI ma), Value.long (zL ab), Value.long (zL bl)]); rw [Int.add_zero]
  refine zr_iconst hx hb d_M_push_0 ?_
  refine lv_istore_n (lv' := [(2, .int (zI 0)), (0, .ref (AD 82)), (1, .int (zI a))]) hx hb d_M_push_1 rfl hl (by decide) rfl (fun ls hl => ?_)
  have lp : ∀ (n9 : Nat) (x : Int) (C : Int → va_E) (H : Heap) (locs : List Loc) (ls : Array Slot), (0 ≤ x ∧ x ≤ 4) → (∀ j : Int, j ≠ 82 → j ≠ 83 → C j = C0 j) → (C 82 = .inr (4, [.int (zI th), .int (zI (pn + sumR (nzT a) 0 (x - 0).toNat)), .ref (AD 83), .int (zI kc), .ref (AD 84), .ref (AD 85), .int (zI tr), .int (zI lc), .int (zI fa), .int (zI fb), .ref (AD 86), .ref (AD 87), .ref (AD 88), .int (zI mn), .int (zI mr), .int (zI ma), .long (zL ab), .long (zL bl)])) → (C 83 = aI (k 0) 100 (padF mp pn a x.toNat)) → (4 - x).toNat < n9 → WD D clW (wA N AD sz) s.heap H locs N AD C → lv_has ls 4 [(0, .ref (AD 82)), (1, .int (zI a)), (2, .int (zI x))] → W p l e rm_M_push s m args below meth c H locs 0 0 Q (F0 m 2 ls []) := by
    intro n9
    induction n9 with
    | zero => intro x C H locs ls hx1 hfr hM h83 hm hw hl; exact absurd hm (by omega)
    | succ n9 ihlp =>
      intro x C H locs ls hx1 hfr hM h83 hm hw hl
      have hz1 := nz_le a (q := x) (by omega)
      refine lv_iload_n hx hb d_M_push_2 rfl (lv_at hl 2 rfl) ?_
      refine zr_iconst hx hb d_M_push_3 ?_
      refine zr_icmp_ge (tgt := 48) hx hb ⟨by omega, by omega⟩ ⟨by omega, by omega⟩ d_M_push_4 (by decide) (fun c1 => ?_) (fun c1 => ?_)
      · exact hret _ _ _ _ _ d_M_push_48 hw ⟨by rw [hM, show x = 4 by omega]; rfl, by rw [h83, show x = 4 by omega]; rfl, hfr⟩
      · refine lv_iload_n hx hb d_M_push_7 rfl (lv_at hl 1 rfl) ?_
        refine zr_bipush hx hb d_M_push_8 (by decide) ?_
        refine lv_iload_n hx hb d_M_push_10 rfl (lv_at hl 2 rfl) ?_
        refine zr_imul hx hb d_M_push_11 ?_
        refine zr_byte hx hb (a := a) (q := x) (by omega) d_M_push_12 d_M_push_13 d_M_push_16 ?_
        refine lv_istore_n (lv' := [(3, .int (zI (byt a x))), (0, .ref (AD 82)), (1, .int (zI a)), (2, .int (zI x))]) hx hb d_M_push_17 rfl hl (by decide) rfl (fun ls hl => ?_)
        have hb9 := byt_in a x
        refine lv_iload_n hx hb d_M_push_18 rfl (lv_at hl 0 rfl) ?_
        refine zr_if_eq (tgt := 42) hx hb ⟨by omega, by omega⟩ d_M_push_19 (by decide) (fun c2 => ?_) (fun c2 => ?_)
        · have hz := c2
          have es : sumR (nzT a) 0 (x + 1 - 0).toNat = sumR (nzT a) 0 (x - 0).toNat := by rw [sumR_step _ (by omega)]; unfold nzT; rw [if_pos hz]; omega
          have hM : C 82 = .inr (4, [.int (zI th), .int (zI (pn + sumR (nzT a) 0 (x + 1 - 0).toNat)), .ref (AD 83), .int (zI kc), .ref (AD 84), .ref (AD 85), .int (zI tr), .int (zI lc), .int (zI fa), .int (zI fb), .ref (AD 86), .ref (AD 87), .ref (AD 88), .int (zI mn), .int (zI mr), .int (zI ma), .long (zL ab), .long (zL bl)]) := by rw [es]; exact hM
          have h83 : C 83 = aI (k 0) 100 (padF mp pn a (x + 1).toNat) := by rw [padF_t (by omega) hz]; exact h83
          refine lv_iinc (v := zI (x + 1)) (lv' := [(2, .int (zI (x + 1))), (3, .int (zI (byt a x))), (0, .ref (AD 82)), (1, .int (zI a))]) hx hb d_M_push_42 hl (k := 3) rfl (zI_add _ _) (by decide) rfl (fun ls hl => ?_)
          refine lv_goto (tgt := 2) hx hb d_M_push_45 (by decide) ?_
          exact ihlp (x + 1) C H locs ls (by omega) hfr hM h83 (by omega) hw (lv_sub hl [2, 3, 0] rfl)
        · have hz := c2
          have es : sumR (nzT a) 0 (x + 1 - 0).toNat = sumR (nzT a) 0 (x - 0).toNat + 1 := by rw [sumR_step _ (by omega)]; unfold nzT; rw [if_neg hz]
          have hz2 := nz_le a (q := x + 1) (by omega)
          refine lv_aload_n hx hb d_M_push_22 rfl (lv_at hl 1 rfl) ?_
          refine zr_get (v := .ref (AD 83)) hx hb hts iw_M hown hK hw 82 ⟨by omega, by omega⟩ hM rfl 2 (by decide) (hts _ wk_508) (fun _ h => h) rfl d_M_push_23 ?_
          refine lv_aload_n hx hb d_M_push_26 rfl (lv_at hl 1 rfl) ?_
          refine zr_get (v := .int (zI (pn + sumR (nzT a) 0 (x - 0).toNat))) hx hb hts iw_M hown hK hw 82 ⟨by omega, by omega⟩ hM rfl 1 (by decide) (hts _ wk_507) (fun _ h => h) rfl d_M_push_27 ?_
          refine lv_iload_n hx hb d_M_push_30 rfl (lv_at hl 0 rfl) ?_
          refine zr_iast hx hb hK hw 83 ⟨by omega, by omega⟩ 0 h83 rfl ⟨by omega, by omega⟩ (by decide) d_M_push_31 (fun H locs hw => ?_)
          obtain ⟨C3, hC3⟩ : ∃ z : Int → va_E, z = zup C 83 (aI (k 0) 100 (zup (padF mp pn a x.toNat) (pn + sumR (nzT a) 0 (x - 0).toNat) (byt a x))) := ⟨_, rfl⟩
          have hw : WD D clW (wA N AD sz) s.heap H locs N AD C3 := by rw [hC3]; exact hw
          have frC3 : ∀ j : Int, j ≠ 83 → C3 j = C j := fun j h => by rw [hC3]; exact zup_n h
          have hM : C3 82 = .inr (4, [.int (zI th), .int (zI (pn + sumR (nzT a) 0 (x - 0).toNat)), .ref (AD 83), .int (zI kc), .ref (AD 84), .ref (AD 85), .int (zI tr), .int (zI lc), .int (zI fa), .int (zI fb), .ref (AD 86), .ref (AD 87), .ref (AD 88), .int (zI mn), .int (zI mr), .int (zI ma), .long (zL ab), .long (zL bl)]) := (frC3 _ (by omega)).trans hM
          have h83 : C3 83 = aI (k 0) 100 (zup (padF mp pn a x.toNat) (pn + sumR (nzT a) 0 (x - 0).toNat) (byt a x)) := by rw [hC3]; exact zup_s
          refine lv_aload_n hx hb d_M_push_32 rfl (lv_at hl 1 rfl) ?_
          refine lv_dup hx hb d_M_push_33 rfl ?_
          refine zr_get (v := .int (zI (pn + sumR (nzT a) 0 (x - 0).toNat))) hx hb hts iw_M hown hK hw 82 ⟨by omega, by omega⟩ hM rfl 1 (by decide) (hts _ wk_507) (fun _ h => h) rfl d_M_push_34 ?_
          refine zr_iconst hx hb d_M_push_37 ?_
          refine zr_iadd hx hb d_M_push_38 ?_
          refine zr_put (ty := .int) (v := .int (zI ((pn + sumR (nzT a) 0 (x - 0).toNat) + 1))) hx hb hts iw_M tyM tyM_ok nmM hown hK hw 82 ⟨by omega, by omega⟩ hM rfl 1 (by decide) (hts _ wk_507) (fun _ h => h) rfl (by decide +kernel) rfl rfl (Nat.le_of_ble_eq_true rfl) d_M_push_39 (fun H locs hw => ?_)
          obtain ⟨C4, hC4⟩ : ∃ z : Int → va_E, z = zup C3 82 (.inr (4, [.int (zI th), .int (zI ((pn + sumR (nzT a) 0 (x - 0).toNat) + 1)), .ref (AD 83), .int (zI kc), .ref (AD 84), .ref (AD 85), .int (zI tr), .int (zI lc), .int (zI fa), .int (zI fb), .ref (AD 86), .ref (AD 87), .ref (AD 88), .int (zI mn), .int (zI mr), .int (zI ma), .long (zL ab), .long (zL bl)])) := ⟨_, rfl⟩
          have hw : WD D clW (wA N AD sz) s.heap H locs N AD C4 := by rw [hC4]; exact hw
          have frC4 : ∀ j : Int, j ≠ 82 → C4 j = C3 j := fun j h => by rw [hC4]; exact zup_n h
          have hM : C4 82 = .inr (4, [.int (zI th), .int (zI ((pn + sumR (nzT a) 0 (x - 0).toNat) + 1)), .ref (AD 83), .int (zI kc), .ref (AD 84), .ref (AD 85), .int (zI tr), .int (zI lc), .int (zI fa), .int (zI fb), .ref (AD 86), .ref (AD 87), .ref (AD 88), .int (zI mn), .int (zI mr), .int (zI ma), .long (zL ab), .long (zL bl)]) := by rw [hC4]; exact zup_s
          have h83 : C4 83 = aI (k 0) 100 (zup (padF mp pn a x.toNat) (pn + sumR (nzT a) 0 (x - 0).toNat) (byt a x)) := (frC4 _ (by omega)).trans h83
          have hM : C4 82 = .inr (4, [.int (zI th), .int (zI (pn + sumR (nzT a) 0 (x + 1 - 0).toNat)), .ref (AD 83), .int (zI kc), .ref (AD 84), .ref (AD 85), .int (zI tr), .int (zI lc), .int (zI fa), .int (zI fb), .ref (AD 86), .ref (AD 87), .ref (AD 88), .int (zI mn), .int (zI mr), .int (zI ma), .long (zL ab), .long (zL bl)]) := by rw [es, ← Int.add_assoc]; exact hM
          have h83 : C4 83 = aI (k 0) 100 (padF mp pn a (x + 1).toNat) := by rw [padF_f (by omega) hz]; exact h83
          refine lv_iinc (v := zI (x + 1)) (lv' := [(2, .int (zI (x + 1))), (3, .int (zI (byt a x))), (0, .ref (AD 82)), (1, .int (zI a))]) hx hb d_M_push_42 hl (k := 3) rfl (zI_add _ _) (by decide) rfl (fun ls hl => ?_)
          refine lv_goto (tgt := 2) hx hb d_M_push_45 (by decide) ?_
          exact ihlp (x + 1) C4 H locs ls (by omega) (fun j h1 h2 => by rw [frC4 j h1, frC3 j h2]; exact hfr j h1 h2) hM h83 (by omega) hw (lv_sub hl [2, 3, 0] rfl)
  exact lp ((4 - 0 : Int).toNat + 1) 0 C H locs ls (by omega) (fun j _ _ => by rw [hC0]) hM h83 (by omega) hw (lv_sub hl [1, 2, 0] rfl)
abbrev rm_M_unit : Room := { frames := 2, cells := 0, slots := 0, locals := 45 }
set_option maxHeartbeats 4000000 in
set_option maxRecDepth 100000 in
theorem c_M_unit (l : Launch) (D : va_G) (k : Nat → ClassId) (N : Nat) (AD : Int → Nat) (C : Int → va_E) (sz : Nat) (th : Int) (pn : Int) (kc : Int) (tr : Int) (lc : Int) (fa : Int) (fb : Int) (mn : Int) (mr : Int) (ma : Int) (ab : Int) (bl : Int) (mp : Int → Int) (a : Int) (b : Int) (hN : 90 ≤ (N : Int)) (hM : C 82 = .inr (4, [.int (zI th), .int (zI pn), .ref (AD 83), .int (zI kc), .ref (AD 84), .ref (AD 85), .int (zI tr), .int (zI lc), .int (zI fa), .int (zI fb), .ref (AD 86), .ref (AD 87), .ref (AD 88), .int (zI mn), .int (zI mr), .int (zI ma), .long (zL ab), .long (zL bl)])) (h83 : C 83 = aI (k 0) 100 mp) (hpn : 0 ≤ pn ∧ pn ≤ 100) : MI l y_M_unit (Cond.code y_M_unit b_M_unit 3 (Option.some Jvm.ClassFile.FieldType.int) :: WS) rm_M_unit D clW (tyW k) N AD C sz [.ref (AD 82), .int (zI a), .int (zI b)] (fun r C' => ((¬ (TK a ∧ TK b) ∧ C' 82 = .inr (4, [.int (zI 1), .int (zI pn), .ref (AD 83), .int (zI kc), .ref (AD 84), .ref (AD 85), .int (zI tr), .int (zI lc), .int (zI fa), .int (zI fb), .ref (AD 86), .ref (AD 87), .ref (AD 88), .int (zI mn), .int (zI mr), .int (zI ma), .long (zL ab), .long (zL bl)]) ∧ C' 83 = aI (k 0) 100 mp) ∨ ((TK a ∧ TK b) ∧ 100 < pn + nz a + nz b ∧ C' 82 = .inr (4, [.int (zI 2), .int (zI pn), .ref (AD 83), .int (zI kc), .ref (AD 84), .ref (AD 85), .int (zI tr), .int (zI lc), .int (zI fa), .int (zI fb), .ref (AD 86), .ref (AD 87), .ref (AD 88), .int (zI mn), .int (zI mr), .int (zI ma), .long (zL ab), .long (zL bl)]) ∧ C' 83 = aI (k 0) 100 mp) ∨ ((TK a ∧ TK b) ∧ pn + nz a + nz b ≤ 100 ∧ r = zI (pn + nz a + nz b) ∧ C' 82 = .inr (4, [.int (zI 0), .int (zI (pn + nz a + nz b)), .ref (AD 83), .int (zI kc), .ref (AD 84), .ref (AD 85), .int (zI tr), .int (zI lc), .int (zI fa), .int (zI fb), .ref (AD 86), .ref (AD 87), .ref (AD 88), .int (zI mn), .int (zI mr), .int (zI ma), .long (zL ab), .long (zL bl)]) ∧ C' 83 = aI (k 0) 100 (padF (padF mp pn a 4) (pn + nz a) b 4))) ∧ ∀ j : Int, ¬ (82 ≤ j ∧ j ≤ 83) → C' j = C j) := by
  refine MI.start (cc := b_M_unit) (maxL := 3) (rt := .int) (by decide) rfl (Nat.le_of_ble_eq_true rfl) ?_
  intro p e s m args below meth c Q ls hx hb hml hown hts hK hsz hw hl hret
  have hown : s.vm.findClass "RingMatchesModel" = some m.cls := hown
  have hl : lv_has ls 3 [(0, .ref (AD 82)), (1, .int (zI a)), (2, .int (zI b))] := hl
  have hA := wA_hi (N := N) (AD := AD) hsz
  obtain ⟨H, hH⟩ : ∃ H, H = s.heap := ⟨_, rfl⟩
  obtain ⟨locs, hlocs⟩ : ∃ z : List Loc, z = [] := ⟨_, rfl⟩
  have hw : WD D clW (wA N AD sz) s.heap H locs N AD C := by rw [hH, hlocs]; exact hw
  rw [← hlocs]
  suffices hgo : W p l e rm_M_unit s m args below meth c H locs 0 0 Q (F0 m 0 ls []) by rw [hH] at hgo; exact hgo
  refine lv_aload_n hx hb d_M_unit_0 rfl (lv_at hl 0 rfl) ?_
  refine lv_iload_n hx hb d_M_unit_1 rfl (lv_at hl 1 rfl) ?_
  refine zr_callI (va_runS (As := [.int (zI a)]) (rest := [.ref (AD 82)]) ⟨hx, hb, hml, hown, hts⟩ (c_M_plain l D k N AD C H.size a) (va_cwS 1 hts (good_S wk_569 wk_570 wk_31 wk_571) rfl rfl rfl (by decide +kernel) ⟨Nat.le_of_ble_eq_true rfl, Nat.le_of_ble_eq_true rfl⟩) (cPre_S hK hw) rfl rfl hl.1 rfl (lv_room (Nat.le_of_ble_eq_true rfl)) d_M_unit_2 ⟨Nat.le_of_ble_eq_true rfl, Nat.le_of_ble_eq_true rfl⟩) hw hA (fun r9 C2 H locs hq1 hw => ?_)
  obtain ⟨hq1, hCe⟩ := hq1
  rw [hCe] at hw
  rcases hq1 with ⟨hr9, hq1⟩ | ⟨hr9, hq1⟩ <;> subst hr9
  · refine zr_if_eq (tgt := 19) hx hb ⟨by omega, by omega⟩ d_M_unit_5 (by decide) (fun c9 => absurd c9 (by decide)) (fun c3 => ?_)
    refine lv_iload_n hx hb d_M_unit_8 rfl (lv_at hl 2 rfl) ?_
    refine zr_callI (va_runS (As := [.int (zI b)]) (rest := [.ref (AD 82)]) ⟨hx, hb, hml, hown, hts⟩ (c_M_plain l D k N AD C H.size b) (va_cwS 1 hts (good_S wk_569 wk_570 wk_31 wk_571) rfl rfl rfl (by decide +kernel) ⟨Nat.le_of_ble_eq_true rfl, Nat.le_of_ble_eq_true rfl⟩) (cPre_S hK hw) rfl rfl hl.1 rfl (lv_room (Nat.le_of_ble_eq_true rfl)) d_M_unit_9 ⟨Nat.le_of_ble_eq_true rfl, Nat.le_of_ble_eq_true rfl⟩) hw hA (fun r9 C5 H locs hq4 hw => ?_)
    obtain ⟨hq4, hCe⟩ := hq4
    rw [hCe] at hw
    rcases hq4 with ⟨hr9, hq4⟩ | ⟨hr9, hq4⟩ <;> subst hr9
    · refine zr_if_eq (tgt := 19) hx hb ⟨by omega, by omega⟩ d_M_unit_12 (by decide) (fun c9 => absurd c9 (by decide)) (fun c6 => ?_)
      refine zr_iconst hx hb d_M_unit_15 ?_
      refine lv_goto (tgt := 20) hx hb d_M_unit_16 (by decide) ?_
      refine lv_aload_n hx hb d_M_unit_20 rfl (lv_at hl 0 rfl) ?_
      have hz1 := nz_in a
      have hz2 := nz_in b
      refine zr_get (v := .int (zI pn)) hx hb hts iw_M hown hK hw 82 ⟨by omega, by omega⟩ hM rfl 1 (by decide) (hts _ wk_507) (fun _ h => h) rfl d_M_unit_21 ?_
      refine lv_iload_n hx hb d_M_unit_24 rfl (lv_at hl 1 rfl) ?_
      refine zr_callI (va_runS (As := [.int (zI a)]) (rest := [.int (zI pn), .int (zI 1), .ref (AD 82)]) ⟨hx, hb, hml, hown, hts⟩ (c_M_signs l D k N AD C H.size a) (va_cwS 1 hts (good_S wk_575 wk_576 wk_31 wk_577) rfl rfl rfl (by decide +kernel) ⟨Nat.le_of_ble_eq_true rfl, Nat.le_of_ble_eq_true rfl⟩) (cPre_S hK hw) rfl rfl hl.1 rfl (lv_room (Nat.le_of_ble_eq_true rfl)) d_M_unit_25 ⟨Nat.le_of_ble_eq_true rfl, Nat.le_of_ble_eq_true rfl⟩) hw hA (fun r9 C8 H locs hq7 hw => ?_)
      obtain ⟨hr9, hCe⟩ := hq7
      rw [hCe] at hw; subst hr9
      refine zr_iadd hx hb d_M_unit_28 ?_
      refine lv_iload_n hx hb d_M_unit_29 rfl (lv_at hl 2 rfl) ?_
      refine zr_callI (va_runS (As := [.int (zI b)]) (rest := [.int (zI (pn + (nz a))), .int (zI 1), .ref (AD 82)]) ⟨hx, hb, hml, hown, hts⟩ (c_M_signs l D k N AD C H.size b) (va_cwS 1 hts (good_S wk_575 wk_576 wk_31 wk_577) rfl rfl rfl (by decide +kernel) ⟨Nat.le_of_ble_eq_true rfl, Nat.le_of_ble_eq_true rfl⟩) (cPre_S hK hw) rfl rfl hl.1 rfl (lv_room (Nat.le_of_ble_eq_true rfl)) d_M_unit_30 ⟨Nat.le_of_ble_eq_true rfl, Nat.le_of_ble_eq_true rfl⟩) hw hA (fun r9 C10 H locs hq9 hw => ?_)
      obtain ⟨hr9, hCe⟩ := hq9
      rw [hCe] at hw; subst hr9
      refine zr_iadd hx hb d_M_unit_33 ?_
      refine zr_bipush hx hb d_M_unit_34 (by decide) ?_
      refine zr_icmp_gt (tgt := 43) hx hb ⟨by omega, by omega⟩ ⟨by omega, by omega⟩ d_M_unit_36 (by decide) (fun c11 => ?_) (fun c11 => ?_)
      · refine zr_iconst hx hb d_M_unit_43 ?_
        refine zr_iconst hx hb d_M_unit_44 ?_
        refine zr_callI (va_runV (As := [.int (zI 1), .int (zI 0), .int (zI 1)]) (rest := []) ⟨hx, hb, hml, hown, hts⟩ (c_M_goes l D k N AD C H.size th pn kc tr lc fa fb mn mr ma ab bl 1 0 1 2 0 hN hM (by decide) (by decide) (by decide) (by decide) (by decide)) (cwV 3 hts (good_V wk_578 wk_580 wk_11 wk_31 wk_581) rfl rfl rfl (by decide +kernel) ⟨Nat.le_of_ble_eq_true rfl, Nat.le_of_ble_eq_true rfl⟩) (cPre_V hK hw 82 ⟨by omega, by omega⟩ hM rfl) rfl rfl hl.1 rfl (lv_room (Nat.le_of_ble_eq_true rfl)) d_M_unit_45 ⟨Nat.le_of_ble_eq_true rfl, Nat.le_of_ble_eq_true rfl⟩) hw hA (fun r9 C12 H locs hq13 hw => ?_)
        obtain ⟨hr9, hq13a, frC12⟩ := hq13
        subst hr9
        have hM : C12 82 = .inr (4, [.int (zI 2), .int (zI pn), .ref (AD 83), .int (zI kc), .ref (AD 84), .ref (AD 85), .int (zI tr), .int (zI lc), .int (zI fa), .int (zI fb), .ref (AD 86), .ref (AD 87), .ref (AD 88), .int (zI mn), .int (zI mr), .int (zI ma), .long (zL ab), .long (zL bl)]) := hq13a
        have h83 : C12 83 = aI (k 0) 100 mp := (frC12 _ (by omega)).trans h83
        refine zr_if_ne (tgt := 53) hx hb ⟨by omega, by omega⟩ d_M_unit_48 (by decide) (fun c9 => absurd c9 (by decide)) (fun c14 => ?_)
        refine zr_iconst hx hb d_M_unit_51 ?_
        exact hret _ _ _ _ _ _ d_M_unit_52 hw rfl ⟨Or.inr (Or.inl ⟨⟨hq1, hq4⟩, by omega, hM, h83⟩), fun j hj => by rw [frC12 _ (by omega)]⟩
      · refine zr_iconst hx hb d_M_unit_39 ?_
        refine lv_goto (tgt := 44) hx hb d_M_unit_40 (by decide) ?_
        refine zr_iconst hx hb d_M_unit_44 ?_
        refine zr_callI (va_runV (As := [.int (zI 1), .int (zI 1), .int (zI 1)]) (rest := []) ⟨hx, hb, hml, hown, hts⟩ (c_M_goes l D k N AD C H.size th pn kc tr lc fa fb mn mr ma ab bl 1 1 1 0 1 hN hM (by decide) (by decide) (by decide) (by decide) (by decide)) (cwV 3 hts (good_V wk_578 wk_580 wk_11 wk_31 wk_581) rfl rfl rfl (by decide +kernel) ⟨Nat.le_of_ble_eq_true rfl, Nat.le_of_ble_eq_true rfl⟩) (cPre_V hK hw 82 ⟨by omega, by omega⟩ hM rfl) rfl rfl hl.1 rfl (lv_room (Nat.le_of_ble_eq_true rfl)) d_M_unit_45 ⟨Nat.le_of_ble_eq_true rfl, Nat.le_of_ble_eq_true rfl⟩) hw hA (fun r9 C15 H locs hq16 hw => ?_)
        obtain ⟨hr9, hq16a, frC15⟩ := hq16
        subst hr9
        have hM : C15 82 = .inr (4, [.int (zI 0), .int (zI pn), .ref (AD 83), .int (zI kc), .ref (AD 84), .ref (AD 85), .int (zI tr), .int (zI lc), .int (zI fa), .int (zI fb), .ref (AD 86), .ref (AD 87), .ref (AD 88), .int (zI mn), .int (zI mr), .int (zI ma), .long (zL ab), .long (zL bl)]) := hq16a
        have h83 : C15 83 = aI (k 0) 100 mp := (frC15 _ (by omega)).trans h83
        refine zr_if_ne (tgt := 53) hx hb ⟨by omega, by omega⟩ d_M_unit_48 (by decide) (fun c17 => ?_) (fun c9 => absurd c9 (by decide))
        refine lv_aload_n hx hb d_M_unit_53 rfl (lv_at hl 0 rfl) ?_
        refine lv_iload_n hx hb d_M_unit_54 rfl (lv_at hl 1 rfl) ?_
        refine zr_callV (va_runV (As := [.int (zI a)]) (rest := []) ⟨hx, hb, hml, hown, hts⟩ (c_M_push l D k N AD C15 H.size 0 pn kc tr lc fa fb mn mr ma ab bl mp a hN hM h83 (by omega) (by omega)) (cwV 1 hts (good_V wk_582 wk_584 wk_12 wk_31 wk_585) rfl rfl rfl (by decide +kernel) ⟨Nat.le_of_ble_eq_true rfl, Nat.le_of_ble_eq_true rfl⟩) (cPre_V hK hw 82 ⟨by omega, by omega⟩ hM rfl) rfl rfl hl.1 rfl (lv_room (Nat.le_of_ble_eq_true rfl)) d_M_unit_55 ⟨Nat.le_of_ble_eq_true rfl, Nat.le_of_ble_eq_true rfl⟩) hw hA (fun C18 H locs hq19 hw => ?_)
        obtain ⟨hq19a, hq19b, frC180⟩ := hq19
        have frC18 : ∀ j : Int, ¬ (82 ≤ j ∧ j ≤ 83) → C18 j = C15 j := fun j hj => frC180 j (by omega) (by omega)
        have hM : C18 82 = .inr (4, [.int (zI 0), .int (zI (pn + nz a)), .ref (AD 83), .int (zI kc), .ref (AD 84), .ref (AD 85), .int (zI tr), .int (zI lc), .int (zI fa), .int (zI fb), .ref (AD 86), .ref (AD 87), .ref (AD 88), .int (zI mn), .int (zI mr), .int (zI ma), .long (zL ab), .long (zL bl)]) := hq19a
        have h83 : C18 83 = aI (k 0) 100 (padF mp pn a 4) := hq19b
        refine lv_aload_n hx hb d_M_unit_58 rfl (lv_at hl 0 rfl) ?_
        refine lv_iload_n hx hb d_M_unit_59 rfl (lv_at hl 2 rfl) ?_
        refine zr_callV (va_runV (As := [.int (zI b)]) (rest := []) ⟨hx, hb, hml, hown, hts⟩ (c_M_push l D k N AD C18 H.size 0 (pn + nz a) kc tr lc fa fb mn mr ma ab bl (padF mp pn a 4) b hN hM h83 (by omega) (by omega)) (cwV 1 hts (good_V wk_582 wk_584 wk_12 wk_31 wk_585) rfl rfl rfl (by decide +kernel) ⟨Nat.le_of_ble_eq_true rfl, Nat.le_of_ble_eq_true rfl⟩) (cPre_V hK hw 82 ⟨by omega, by omega⟩ hM rfl) rfl rfl hl.1 rfl (lv_room (Nat.le_of_ble_eq_true rfl)) d_M_unit_60 ⟨Nat.le_of_ble_eq_true rfl, Nat.le_of_ble_eq_true rfl⟩) hw hA (fun C20 H locs hq21 hw => ?_)
        obtain ⟨hq21a, hq21b, frC200⟩ := hq21
        have frC20 : ∀ j : Int, ¬ (82 ≤ j ∧ j ≤ 83) → C20 j = C18 j := fun j hj => frC200 j (by omega) (by omega)
        have hM : C20 82 = .inr (4, [.int (zI 0), .int (zI ((pn + nz a) + nz b)), .ref (AD 83), .int (zI kc), .ref (AD 84), .ref (AD 85), .int (zI tr), .int (zI lc), .int (zI fa), .int (zI fb), .ref (AD 86), .ref (AD 87), .ref (AD 88), .int (zI mn), .int (zI mr), .int (zI ma), .long (zL ab), .long (zL bl)]) := hq21a
        have h83 : C20 83 = aI (k 0) 100 (padF (padF mp pn a 4) (pn + nz a) b 4) := hq21b
        refine lv_aload_n hx hb d_M_unit_63 rfl (lv_at hl 0 rfl) ?_
        refine zr_get (v := .int (zI ((pn + nz a) + nz b))) hx hb hts iw_M hown hK hw 82 ⟨by omega, by omega⟩ hM rfl 1 (by decide) (hts _ wk_507) (fun _ h => h) rfl d_M_unit_64 ?_
        exact hret _ _ _ _ _ _ d_M_unit_67 hw rfl ⟨Or.inr (Or.inr ⟨⟨hq1, hq4⟩, by omega, rfl, hM, h83⟩), fun j hj => by rw [frC20 _ (by omega), frC18 _ (by omega), frC15 _ (by omega)]⟩
    · refine zr_if_eq (tgt := 19) hx hb ⟨by omega, by omega⟩ d_M_unit_12 (by decide) (fun c22 => ?_) (fun c9 => absurd c9 (by decide))
      refine zr_iconst hx hb d_M_unit_19 ?_
      refine lv_aload_n hx hb d_M_unit_20 rfl (lv_at hl 0 rfl) ?_
      have hz1 := nz_in a
      have hz2 := nz_in b
      refine zr_get (v := .int (zI pn)) hx hb hts iw_M hown hK hw 82 ⟨by omega, by omega⟩ hM rfl 1 (by decide) (hts _ wk_507) (fun _ h => h) rfl d_M_unit_21 ?_
      refine lv_iload_n hx hb d_M_unit_24 rfl (lv_at hl 1 rfl) ?_
      refine zr_callI (va_runS (As := [.int (zI a)]) (rest := [.int (zI pn), .int (zI 0), .ref (AD 82)]) ⟨hx, hb, hml, hown, hts⟩ (c_M_signs l D k N AD C H.size a) (va_cwS 1 hts (good_S wk_575 wk_576 wk_31 wk_577) rfl rfl rfl (by decide +kernel) ⟨Nat.le_of_ble_eq_true rfl, Nat.le_of_ble_eq_true rfl⟩) (cPre_S hK hw) rfl rfl hl.1 rfl (lv_room (Nat.le_of_ble_eq_true rfl)) d_M_unit_25 ⟨Nat.le_of_ble_eq_true rfl, Nat.le_of_ble_eq_true rfl⟩) hw hA (fun r9 C24 H locs hq23 hw => ?_)
      obtain ⟨hr9, hCe⟩ := hq23
      rw [hCe] at hw; subst hr9
      refine zr_iadd hx hb d_M_unit_28 ?_
      refine lv_iload_n hx hb d_M_unit_29 rfl (lv_at hl 2 rfl) ?_
      refine zr_callI (va_runS (As := [.int (zI b)]) (rest := [.int (zI (pn + (nz a))), .int (zI 0), .ref (AD 82)]) ⟨hx, hb, hml, hown, hts⟩ (c_M_signs l D k N AD C H.size b) (va_cwS 1 hts (good_S wk_575 wk_576 wk_31 wk_577) rfl rfl rfl (by decide +kernel) ⟨Nat.le_of_ble_eq_true rfl, Nat.le_of_ble_eq_true rfl⟩) (cPre_S hK hw) rfl rfl hl.1 rfl (lv_room (Nat.le_of_ble_eq_true rfl)) d_M_unit_30 ⟨Nat.le_of_ble_eq_true rfl, Nat.le_of_ble_eq_true rfl⟩) hw hA (fun r9 C26 H locs hq25 hw => ?_)
      obtain ⟨hr9, hCe⟩ := hq25
      rw [hCe] at hw; subst hr9
      refine zr_iadd hx hb d_M_unit_33 ?_
      refine zr_bipush hx hb d_M_unit_34 (by decide) ?_
      refine zr_icmp_gt (tgt := 43) hx hb ⟨by omega, by omega⟩ ⟨by omega, by omega⟩ d_M_unit_36 (by decide) (fun c27 => ?_) (fun c27 => ?_)
      · refine zr_iconst hx hb d_M_unit_43 ?_
        refine zr_iconst hx hb d_M_unit_44 ?_
        refine zr_callI (va_runV (As := [.int (zI 0), .int (zI 0), .int (zI 1)]) (rest := []) ⟨hx, hb, hml, hown, hts⟩ (c_M_goes l D k N AD C H.size th pn kc tr lc fa fb mn mr ma ab bl 0 0 1 1 0 hN hM (by decide) (by decide) (by decide) (by decide) (by decide)) (cwV 3 hts (good_V wk_578 wk_580 wk_11 wk_31 wk_581) rfl rfl rfl (by decide +kernel) ⟨Nat.le_of_ble_eq_true rfl, Nat.le_of_ble_eq_true rfl⟩) (cPre_V hK hw 82 ⟨by omega, by omega⟩ hM rfl) rfl rfl hl.1 rfl (lv_room (Nat.le_of_ble_eq_true rfl)) d_M_unit_45 ⟨Nat.le_of_ble_eq_true rfl, Nat.le_of_ble_eq_true rfl⟩) hw hA (fun r9 C28 H locs hq29 hw => ?_)
        obtain ⟨hr9, hq29a, frC28⟩ := hq29
        subst hr9
        have hM : C28 82 = .inr (4, [.int (zI 1), .int (zI pn), .ref (AD 83), .int (zI kc), .ref (AD 84), .ref (AD 85), .int (zI tr), .int (zI lc), .int (zI fa), .int (zI fb), .ref (AD 86), .ref (AD 87), .ref (AD 88), .int (zI mn), .int (zI mr), .int (zI ma), .long (zL ab), .long (zL bl)]) := hq29a
        have h83 : C28 83 = aI (k 0) 100 mp := (frC28 _ (by omega)).trans h83
        refine zr_if_ne (tgt := 53) hx hb ⟨by omega, by omega⟩ d_M_unit_48 (by decide) (fun c9 => absurd c9 (by decide)) (fun c30 => ?_)
        refine zr_iconst hx hb d_M_unit_51 ?_
        exact hret _ _ _ _ _ _ d_M_unit_52 hw rfl ⟨Or.inl ⟨fun h => hq4 h.2, hM, h83⟩, fun j hj => by rw [frC28 _ (by omega)]⟩
      · refine zr_iconst hx hb d_M_unit_39 ?_
        refine lv_goto (tgt := 44) hx hb d_M_unit_40 (by decide) ?_
        refine zr_iconst hx hb d_M_unit_44 ?_
        refine zr_callI (va_runV (As := [.int (zI 0), .int (zI 1), .int (zI 1)]) (rest := []) ⟨hx, hb, hml, hown, hts⟩ (c_M_goes l D k N AD C H.size th pn kc tr lc fa fb mn mr ma ab bl 0 1 1 1 0 hN hM (by decide) (by decide) (by decide) (by decide) (by decide)) (cwV 3 hts (good_V wk_578 wk_580 wk_11 wk_31 wk_581) rfl rfl rfl (by decide +kernel) ⟨Nat.le_of_ble_eq_true rfl, Nat.le_of_ble_eq_true rfl⟩) (cPre_V hK hw 82 ⟨by omega, by omega⟩ hM rfl) rfl rfl hl.1 rfl (lv_room (Nat.le_of_ble_eq_true rfl)) d_M_unit_45 ⟨Nat.le_of_ble_eq_true rfl, Nat.le_of_ble_eq_true rfl⟩) hw hA (fun r9 C31 H locs hq32 hw => ?_)
        obtain ⟨hr9, hq32a, frC31⟩ := hq32
        subst hr9
        have hM : C31 82 = .inr (4, [.int (zI 1), .int (zI pn), .ref (AD 83), .int (zI kc), .ref (AD 84), .ref (AD 85), .int (zI tr), .int (zI lc), .int (zI fa), .int (zI fb), .ref (AD 86), .ref (AD 87), .ref (AD 88), .int (zI mn), .int (zI mr), .int (zI ma), .long (zL ab), .long (zL bl)]) := hq32a
        have h83 : C31 83 = aI (k 0) 100 mp := (frC31 _ (by omega)).trans h83
        refine zr_if_ne (tgt := 53) hx hb ⟨by omega, by omega⟩ d_M_unit_48 (by decide) (fun c9 => absurd c9 (by decide)) (fun c33 => ?_)
        refine zr_iconst hx hb d_M_unit_51 ?_
        exact hret _ _ _ _ _ _ d_M_unit_52 hw rfl ⟨Or.inl ⟨fun h => hq4 h.2, hM, h83⟩, fun j hj => by rw [frC31 _ (by omega)]⟩
  · refine zr_if_eq (tgt := 19) hx hb ⟨by omega, by omega⟩ d_M_unit_5 (by decide) (fun c34 => ?_) (fun c9 => absurd c9 (by decide))
    refine zr_iconst hx hb d_M_unit_19 ?_
    refine lv_aload_n hx hb d_M_unit_20 rfl (lv_at hl 0 rfl) ?_
    have hz1 := nz_in a
    have hz2 := nz_in b
    refine zr_get (v := .int (zI pn)) hx hb hts iw_M hown hK hw 82 ⟨by omega, by omega⟩ hM rfl 1 (by decide) (hts _ wk_507) (fun _ h => h) rfl d_M_unit_21 ?_
    refine lv_iload_n hx hb d_M_unit_24 rfl (lv_at hl 1 rfl) ?_
    refine zr_callI (va_runS (As := [.int (zI a)]) (rest := [.int (zI pn), .int (zI 0), .ref (AD 82)]) ⟨hx, hb, hml, hown, hts⟩ (c_M_signs l D k N AD C H.size a) (va_cwS 1 hts (good_S wk_575 wk_576 wk_31 wk_577) rfl rfl rfl (by decide +kernel) ⟨Nat.le_of_ble_eq_true rfl, Nat.le_of_ble_eq_true rfl⟩) (cPre_S hK hw) rfl rfl hl.1 rfl (lv_room (Nat.le_of_ble_eq_true rfl)) d_M_unit_25 ⟨Nat.le_of_ble_eq_true rfl, Nat.le_of_ble_eq_true rfl⟩) hw hA (fun r9 C36 H locs hq35 hw => ?_)
    obtain ⟨hr9, hCe⟩ := hq35
    rw [hCe] at hw; subst hr9
    refine zr_iadd hx hb d_M_unit_28 ?_
    refine lv_iload_n hx hb d_M_unit_29 rfl (lv_at hl 2 rfl) ?_
    refine zr_callI (va_runS (As := [.int (zI b)]) (rest := [.int (zI (pn + (nz a))), .int (zI 0), .ref (AD 82)]) ⟨hx, hb, hml, hown, hts⟩ (c_M_signs l D k N AD C H.size b) (va_cwS 1 hts (good_S wk_575 wk_576 wk_31 wk_577) rfl rfl rfl (by decide +kernel) ⟨Nat.le_of_ble_eq_true rfl, Nat.le_of_ble_eq_true rfl⟩) (cPre_S hK hw) rfl rfl hl.1 rfl (lv_room (Nat.le_of_ble_eq_true rfl)) d_M_unit_30 ⟨Nat.le_of_ble_eq_true rfl, Nat.le_of_ble_eq_true rfl⟩) hw hA (fun r9 C38 H locs hq37 hw => ?_)
    obtain ⟨hr9, hCe⟩ := hq37
    rw [hCe] at hw; subst hr9
    refine zr_iadd hx hb d_M_unit_33 ?_
    refine zr_bipush hx hb d_M_unit_34 (by decide) ?_
    refine zr_icmp_gt (tgt := 43) hx hb ⟨by omega, by omega⟩ ⟨by omega, by omega⟩ d_M_unit_36 (by decide) (fun c39 => ?_) (fun c39 => ?_)
    · refine zr_iconst hx hb d_M_unit_43 ?_
      refine zr_iconst hx hb d_M_unit_44 ?_
      refine zr_callI (va_runV (As := [.int (zI 0), .int (zI 0), .int (zI 1)]) (rest := []) ⟨hx, hb, hml, hown, hts⟩ (c_M_goes l D k N AD C H.size th pn kc tr lc fa fb mn mr ma ab bl 0 0 1 1 0 hN hM (by decide) (by decide) (by decide) (by decide) (by decide)) (cwV 3 hts (good_V wk_578 wk_580 wk_11 wk_31 wk_581) rfl rfl rfl (by decide +kernel) ⟨Nat.le_of_ble_eq_true rfl, Nat.le_of_ble_eq_true rfl⟩) (cPre_V hK hw 82 ⟨by omega, by omega⟩ hM rfl) rfl rfl hl.1 rfl (lv_room (Nat.le_of_ble_eq_true rfl)) d_M_unit_45 ⟨Nat.le_of_ble_eq_true rfl, Nat.le_of_ble_eq_true rfl⟩) hw hA (fun r9 C40 H locs hq41 hw => ?_)
      obtain ⟨hr9, hq41a, frC40⟩ := hq41
      subst hr9
      have hM : C40 82 = .inr (4, [.int (zI 1), .int (zI pn), .ref (AD 83), .int (zI kc), .ref (AD 84), .ref (AD 85), .int (zI tr), .int (zI lc), .int (zI fa), .int (zI fb), .ref (AD 86), .ref (AD 87), .ref (AD 88), .int (zI mn), .int (zI mr), .int (zI ma), .long (zL ab), .long (zL bl)]) := hq41a
      have h83 : C40 83 = aI (k 0) 100 mp := (frC40 _ (by omega)).trans h83
      refine zr_if_ne (tgt := 53) hx hb ⟨by omega, by omega⟩ d_M_unit_48 (by decide) (fun c9 => absurd c9 (by decide)) (fun c42 => ?_)
      refine zr_iconst hx hb d_M_unit_51 ?_
      exact hret _ _ _ _ _ _ d_M_unit_52 hw rfl ⟨Or.inl ⟨fun h => hq1 h.1, hM, h83⟩, fun j hj => by rw [frC40 _ (by omega)]⟩
    · refine zr_iconst hx hb d_M_unit_39 ?_
      refine lv_goto (tgt := 44) hx hb d_M_unit_40 (by decide) ?_
      refine zr_iconst hx hb d_M_unit_44 ?_
      refine zr_callI (va_runV (As := [.int (zI 0), .int (zI 1), .int (zI 1)]) (rest := []) ⟨hx, hb, hml, hown, hts⟩ (c_M_goes l D k N AD C H.size th pn kc tr lc fa fb mn mr ma ab bl 0 1 1 1 0 hN hM (by decide) (by decide) (by decide) (by decide) (by decide)) (cwV 3 hts (good_V wk_578 wk_580 wk_11 wk_31 wk_581) rfl rfl rfl (by decide +kernel) ⟨Nat.le_of_ble_eq_true rfl, Nat.le_of_ble_eq_true rfl⟩) (cPre_V hK hw 82 ⟨by omega, by omega⟩ hM rfl) rfl rfl hl.1 rfl (lv_room (Nat.le_of_ble_eq_true rfl)) d_M_unit_45 ⟨Nat.le_of_ble_eq_true rfl, Nat.le_of_ble_eq_true rfl⟩) hw hA (fun r9 C43 H locs hq44 hw => ?_)
      obtain ⟨hr9, hq44a, frC43⟩ := hq44
      subst hr9
      have hM : C43 82 = .inr (4, [.int (zI 1), .int (zI pn), .ref (AD 83), .int (zI kc), .ref (AD 84), .ref (AD 85), .int (zI tr), .int (zI lc), .int (zI fa), .int (zI fb), .ref (AD 86), .ref (AD 87), .ref (AD 88), .int (zI mn), .int (zI mr), .int (zI ma), .long (zL ab), .long (zL bl)]) := hq44a
      have h83 : C43 83 = aI (k 0) 100 mp := (frC43 _ (by omega)).trans h83
      refine zr_if_ne (tgt := 53) hx hb ⟨by omega, by omega⟩ d_M_unit_48 (by decide) (fun c9 => absurd c9 (by decide)) (fun c45 => ?_)
      refine zr_iconst hx hb d_M_unit_51 ?_
      exact hret _ _ _ _ _ _ d_M_unit_52 hw rfl ⟨Or.inl ⟨fun h => hq1 h.1, hM, h83⟩, fun j hj => by rw [frC43 _ (by omega)]⟩
