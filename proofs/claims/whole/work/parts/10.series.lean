/-- the sum of m terms from lo on -/
def sumR (f : Int → Int) (lo : Int) : Nat → Int
  | 0 => 0
  | m + 1 => sumR f lo m + f (lo + (m : Int))
theorem sumR_step (f : Int → Int) {lo x : Int} (h : lo ≤ x) : sumR f lo (x + 1 - lo).toNat = sumR f lo (x - lo).toNat + f x := by
  have e1 : (x + 1 - lo).toNat = (x - lo).toNat + 1 := by omega
  have e2 : lo + (((x - lo).toNat : Nat) : Int) = x := by omega
  rw [e1]
  show sumR f lo (x - lo).toNat + f (lo + (((x - lo).toNat : Nat) : Int)) = _
  rw [e2]
theorem sumR_self (f : Int → Int) (lo : Int) : sumR f lo (lo - lo).toNat = 0 := by
  rw [Int.sub_self]; rfl
theorem zup_ok {f g : Int → Int} {lo x v : Int} (h : ∀ j : Int, lo ≤ j → j < x → f j = g j) (hv : v = g x) : ∀ j : Int, lo ≤ j → j < x + 1 → zup f x v j = g j := by
  intro j h1 h2
  by_cases hj : j = x
  · rw [hj, zup_s, hv]
  · rw [zup_n hj]; exact h j h1 (by omega)
/-- a ring's width, -1 where there is none -/
def wAt (w : Int → Int) (n i : Int) : Int := if 0 ≤ i ∧ i < n then w i else -1
theorem wAt_in {w : Int → Int} {n i : Int} (h : 0 ≤ i ∧ i < n) : wAt w n i = w i := if_pos h
theorem wAt_out {w : Int → Int} {n i : Int} (h : ¬ (0 ≤ i ∧ i < n)) : wAt w n i = -1 := if_neg h
abbrev rm_S_has : Room := { frames := 0, cells := 0, slots := 0, locals := 0 }
set_option maxHeartbeats 4000000 in
set_option maxRecDepth 100000 in
theorem c_S_has (l : Launch) (D : va_G) (k : Nat → ClassId) (N : Nat) (AD : Int → Nat) (C : Int → va_E) (sz : Nat) (b : Int) (n : Int) (w : Int → Int) (e9 : Int → Int) (i : Int) (hb0 : 0 ≤ b ∧ b + 2 < (N : Int)) (hn : 0 ≤ n ∧ n ≤ 24) (hS : C b = .inr (2, [.ref (AD (b + 1)), .ref (AD (b + 2)), .int (zI n)])) (hSw : C (b + 1) = aI (k 0) 24 w) (hSe : C (b + 2) = aI (k 0) 24 e9) (hi : inI i) : MI l y_S_has (Cond.code y_S_has b_S_has 2 (Option.some Jvm.ClassFile.FieldType.boolean) :: WS) rm_S_has D clW (tyW k) N AD C sz [.ref (AD b), .int (zI i)] (fun r C' => (r = zI 1 ∧ (0 ≤ i ∧ i < n) ∨ r = zI 0 ∧ ¬ (0 ≤ i ∧ i < n)) ∧ C' = C) := by
  refine MI.start (cc := b_S_has) (maxL := 2) (rt := .boolean) (by decide) rfl (Nat.le_of_ble_eq_true rfl) ?_
  intro p e s m args below meth c Q ls hx hb hml hown hts hK hsz hw hl hret
  have hown : s.vm.findClass "RingMatches$Series" = some m.cls := hown
  have hl : lv_has ls 2 [(0, .ref (AD b)), (1, .int (zI i))] := hl
  have hA := wA_hi (N := N) (AD := AD) hsz
  obtain ⟨H, hH⟩ : ∃ H, H = s.heap := ⟨_, rfl⟩
  obtain ⟨locs, hlocs⟩ : ∃ z : List Loc, z = [] := ⟨_, rfl⟩
  have hw : WD D clW (wA N AD sz) s.heap H locs N AD C := by rw [hH, hlocs]; exact hw
  rw [← hlocs]
  suffices hgo : W p l e rm_S_has s m args below meth c H locs 0 0 Q (F0 m 0 ls []) by rw [hH] at hgo; exact hgo
  refine lv_iload_n hx hb d_S_has_0 rfl (lv_at hl 1 rfl) ?_
  refine zr_if_lt (tgt := 16) hx hb ⟨by omega, by omega⟩ d_S_has_1 (by decide) (fun c1 => ?_) (fun c1 => ?_)
  · refine zr_iconst hx hb d_S_has_16 ?_
    exact hret _ _ _ _ _ _ d_S_has_17 hw (by decide +kernel) ⟨Or.inr ⟨rfl, by omega⟩, rfl⟩
  · refine lv_iload_n hx hb d_S_has_4 rfl (lv_at hl 1 rfl) ?_
    refine lv_aload_n hx hb d_S_has_5 rfl (lv_at hl 0 rfl) ?_
    refine zr_get (v := .int (zI n)) hx hb hts iw_S hown hK hw b ⟨by omega, by omega⟩ hS rfl 2 (by decide) (hts _ wk_71) (fun _ h => h) rfl d_S_has_6 ?_
    refine zr_icmp_ge (tgt := 16) hx hb ⟨by omega, by omega⟩ ⟨by omega, by omega⟩ d_S_has_9 (by decide) (fun c2 => ?_) (fun c2 => ?_)
    · refine zr_iconst hx hb d_S_has_16 ?_
      exact hret _ _ _ _ _ _ d_S_has_17 hw (by decide +kernel) ⟨Or.inr ⟨rfl, by omega⟩, rfl⟩
    · refine zr_iconst hx hb d_S_has_12 ?_
      refine lv_goto (tgt := 17) hx hb d_S_has_13 (by decide) ?_
      exact hret _ _ _ _ _ _ d_S_has_17 hw (by decide +kernel) ⟨Or.inl ⟨rfl, by omega⟩, rfl⟩
abbrev rm_S_widthAt : Room := { frames := 1, cells := 0, slots := 0, locals := 21 }
set_option maxHeartbeats 4000000 in
set_option maxRecDepth 100000 in
theorem c_S_widthAt (l : Launch) (D : va_G) (k : Nat → ClassId) (N : Nat) (AD : Int → Nat) (C : Int → va_E) (sz : Nat) (b : Int) (n : Int) (w : Int → Int) (e9 : Int → Int) (i : Int) (hb0 : 0 ≤ b ∧ b + 2 < (N : Int)) (hn : 0 ≤ n ∧ n ≤ 24) (hS : C b = .inr (2, [.ref (AD (b + 1)), .ref (AD (b + 2)), .int (zI n)])) (hSw : C (b + 1) = aI (k 0) 24 w) (hSe : C (b + 2) = aI (k 0) 24 e9) (hi : inI i) : MI l y_S_widthAt (Cond.code y_S_widthAt b_S_widthAt 2 (Option.some Jvm.ClassFile.FieldType.int) :: WS) rm_S_widthAt D clW (tyW k) N AD C sz [.ref (AD b), .int (zI i)] (fun r C' => r = zI (wAt w n i) ∧ C' = C) := by
  refine MI.start (cc := b_S_widthAt) (maxL := 2) (rt := .int) (by decide) rfl (Nat.le_of_ble_eq_true rfl) ?_
  intro p e s m args below meth c Q ls hx hb hml hown hts hK hsz hw hl hret
  have hown : s.vm.findClass "RingMatches$Series" = some m.cls := hown
  have hl : lv_has ls 2 [(0, .ref (AD b)), (1, .int (zI i))] := hl
  have hA := wA_hi (N := N) (AD := AD) hsz
  obtain ⟨H, hH⟩ : ∃ H, H = s.heap := ⟨_, rfl⟩
  obtain ⟨locs, hlocs⟩ : ∃ z : List Loc, z = [] := ⟨_, rfl⟩
  have hw : WD D clW (wA N AD sz) s.heap H locs N AD C := by rw [hH, hlocs]; exact hw
  rw [← hlocs]
  suffices hgo : W p l e rm_S_widthAt s m args below meth c H locs 0 0 Q (F0 m 0 ls []) by rw [hH] at hgo; exact hgo
  refine lv_aload_n hx hb d_S_widthAt_0 rfl (lv_at hl 0 rfl) ?_
  refine lv_iload_n hx hb d_S_widthAt_1 rfl (lv_at hl 1 rfl) ?_
  refine zr_callI (va_runV (As := [.int (zI i)]) (rest := []) ⟨hx, hb, hml, hown, hts⟩ (c_S_has l D k N AD C H.size b n w e9 i ⟨by omega, by omega⟩ ⟨by omega, by omega⟩ hS hSw hSe ⟨by omega, by omega⟩) (cwV 1 hts (good_V wk_279 wk_280 wk_281 wk_29 wk_282) rfl rfl rfl (by decide +kernel) ⟨Nat.le_of_ble_eq_true rfl, Nat.le_of_ble_eq_true rfl⟩) (cPre_V hK hw b ⟨by omega, by omega⟩ hS rfl) rfl rfl hl.1 rfl (lv_room (Nat.le_of_ble_eq_true rfl)) d_S_widthAt_2 ⟨Nat.le_of_ble_eq_true rfl, Nat.le_of_ble_eq_true rfl⟩) hw hA (fun r9 C2 H locs hq1 hw => ?_)
  obtain ⟨hq1, hCe⟩ := hq1
  rw [hCe] at hw
  rcases hq1 with ⟨hr9, hq1⟩ | ⟨hr9, hq1⟩ <;> subst hr9
  · refine zr_if_eq (tgt := 17) hx hb ⟨by omega, by omega⟩ d_S_widthAt_5 (by decide) (fun c9 => absurd c9 (by decide)) (fun c3 => ?_)
    refine lv_aload_n hx hb d_S_widthAt_8 rfl (lv_at hl 0 rfl) ?_
    refine zr_get (v := .ref (AD (b + 1))) hx hb hts iw_S hown hK hw b ⟨by omega, by omega⟩ hS rfl 0 (by decide) (hts _ wk_69) (fun _ h => h) rfl d_S_widthAt_9 ?_
    refine lv_iload_n hx hb d_S_widthAt_12 rfl (lv_at hl 1 rfl) ?_
    refine zr_iald hx hb hK hw (b + 1) ⟨by omega, by omega⟩ 0 hSw rfl ⟨by omega, by omega⟩ (by decide) d_S_widthAt_13 ?_
    refine lv_goto (tgt := 18) hx hb d_S_widthAt_14 (by decide) ?_
    exact hret _ _ _ _ _ _ d_S_widthAt_18 hw rfl ⟨by rw [wAt_in (by assumption)], rfl⟩
  · refine zr_if_eq (tgt := 17) hx hb ⟨by omega, by omega⟩ d_S_widthAt_5 (by decide) (fun c4 => ?_) (fun c9 => absurd c9 (by decide))
    refine zr_iconst hx hb d_S_widthAt_17 ?_
    exact hret _ _ _ _ _ _ d_S_widthAt_18 hw rfl ⟨by rw [wAt_out (by assumption)], rfl⟩
abbrev rm_S_evenAt : Room := { frames := 1, cells := 0, slots := 0, locals := 21 }
set_option maxHeartbeats 4000000 in
set_option maxRecDepth 100000 in
theorem c_S_evenAt (l : Launch) (D : va_G) (k : Nat → ClassId) (N : Nat) (AD : Int → Nat) (C : Int → va_E) (sz : Nat) (b : Int) (n : Int) (w : Int → Int) (e9 : Int → Int) (i : Int) (hb0 : 0 ≤ b ∧ b + 2 < (N : Int)) (hn : 0 ≤ n ∧ n ≤ 24) (hS : C b = .inr (2, [.ref (AD (b + 1)), .ref (AD (b + 2)), .int (zI n)])) (hSw : C (b + 1) = aI (k 0) 24 w) (hSe : C (b + 2) = aI (k 0) 24 e9) (hi : inI i) : MI l y_S_evenAt (Cond.code y_S_evenAt b_S_evenAt 2 (Option.some Jvm.ClassFile.FieldType.int) :: WS) rm_S_evenAt D clW (tyW k) N AD C sz [.ref (AD b), .int (zI i)] (fun r C' => r = zI (wAt e9 n i) ∧ C' = C) := by
  refine MI.start (cc := b_S_evenAt) (maxL := 2) (rt := .int) (by decide) rfl (Nat.le_of_ble_eq_true rfl) ?_
  intro p e s m args below meth c Q ls hx hb hml hown hts hK hsz hw hl hret
  have hown : s.vm.findClass "RingMatches$Series" = some m.cls := hown
  have hl : lv_has ls 2 [(0, .ref (AD b)), (1, .int (zI i))] := hl
  have hA := wA_hi (N := N) (AD := AD) hsz
  obtain ⟨H, hH⟩ : ∃ H, H = s.heap := ⟨_, rfl⟩
  obtain ⟨locs, hlocs⟩ : ∃ z : List Loc, z = [] := ⟨_, rfl⟩
  have hw : WD D clW (wA N AD sz) s.heap H locs N AD C := by rw [hH, hlocs]; exact hw
  rw [← hlocs]
  suffices hgo : W p l e rm_S_evenAt s m args below meth c H locs 0 0 Q (F0 m 0 ls []) by rw [hH] at hgo; exact hgo
  refine lv_aload_n hx hb d_S_evenAt_0 rfl (lv_at hl 0 rfl) ?_
  refine lv_iload_n hx hb d_S_evenAt_1 rfl (lv_at hl 1 rfl) ?_
  refine zr_callI (va_runV (As := [.int (zI i)]) (rest := []) ⟨hx, hb, hml, hown, hts⟩ (c_S_has l D k N AD C H.size b n w e9 i ⟨by omega, by omega⟩ ⟨by omega, by omega⟩ hS hSw hSe ⟨by omega, by omega⟩) (cwV 1 hts (good_V wk_279 wk_280 wk_281 wk_29 wk_282) rfl rfl rfl (by decide +kernel) ⟨Nat.le_of_ble_eq_true rfl, Nat.le_of_ble_eq_true rfl⟩) (cPre_V hK hw b ⟨by omega, by omega⟩ hS rfl) rfl rfl hl.1 rfl (lv_room (Nat.le_of_ble_eq_true rfl)) d_S_evenAt_2 ⟨Nat.le_of_ble_eq_true rfl, Nat.le_of_ble_eq_true rfl⟩) hw hA (fun r9 C2 H locs hq1 hw => ?_)
  obtain ⟨hq1, hCe⟩ := hq1
  rw [hCe] at hw
  rcases hq1 with ⟨hr9, hq1⟩ | ⟨hr9, hq1⟩ <;> subst hr9
  · refine zr_if_eq (tgt := 17) hx hb ⟨by omega, by omega⟩ d_S_evenAt_5 (by decide) (fun c9 => absurd c9 (by decide)) (fun c3 => ?_)
    refine lv_aload_n hx hb d_S_evenAt_8 rfl (lv_at hl 0 rfl) ?_
    refine zr_get (v := .ref (AD (b + 2))) hx hb hts iw_S hown hK hw b ⟨by omega, by omega⟩ hS rfl 1 (by decide) (hts _ wk_70) (fun _ h => h) rfl d_S_evenAt_9 ?_
    refine lv_iload_n hx hb d_S_evenAt_12 rfl (lv_at hl 1 rfl) ?_
    refine zr_iald hx hb hK hw (b + 2) ⟨by omega, by omega⟩ 0 hSe rfl ⟨by omega, by omega⟩ (by decide) d_S_evenAt_13 ?_
    refine lv_goto (tgt := 18) hx hb d_S_evenAt_14 (by decide) ?_
    exact hret _ _ _ _ _ _ d_S_evenAt_18 hw rfl ⟨by rw [wAt_in (by assumption)], rfl⟩
  · refine zr_if_eq (tgt := 17) hx hb ⟨by omega, by omega⟩ d_S_evenAt_5 (by decide) (fun c4 => ?_) (fun c9 => absurd c9 (by decide))
    refine zr_iconst hx hb d_S_evenAt_17 ?_
    exact hret _ _ _ _ _ _ d_S_evenAt_18 hw rfl ⟨by rw [wAt_out (by assumption)], rfl⟩
abbrev rm_S_add : Room := { frames := 0, cells := 0, slots := 0, locals := 0 }
set_option maxHeartbeats 4000000 in
set_option maxRecDepth 100000 in
theorem c_S_add (l : Launch) (D : va_G) (k : Nat → ClassId) (N : Nat) (AD : Int → Nat) (C : Int → va_E) (sz : Nat) (b : Int) (n : Int) (w : Int → Int) (e9 : Int → Int) (v : Int) (hb0 : 0 ≤ b ∧ b + 2 < (N : Int)) (hn : 0 ≤ n ∧ n ≤ 24) (hS : C b = .inr (2, [.ref (AD (b + 1)), .ref (AD (b + 2)), .int (zI n)])) (hSw : C (b + 1) = aI (k 0) 24 w) (hSe : C (b + 2) = aI (k 0) 24 e9) (hn2 : n < 24) : MV l y_S_add (Cond.code y_S_add b_S_add 2 (Option.none : Option FieldType) :: WS) rm_S_add D clW (tyW k) N AD C sz [.ref (AD b), .int (zI v)] (fun C' => C' b = .inr (2, [.ref (AD (b + 1)), .ref (AD (b + 2)), .int (zI (n + 1))]) ∧ C' (b + 1) = aI (k 0) 24 (zup w n v) ∧ C' (b + 2) = C (b + 2) ∧ ∀ j : Int, ¬ (b ≤ j ∧ j ≤ b + 2) → C' j = C j) := by
  refine MV.start (cc := b_S_add) (maxL := 2) (by decide) rfl (Nat.le_of_ble_eq_true rfl) ?_
  intro p e s m args below meth c Q ls hx hb hml hown hts hK hsz hw hl hret
  have hown : s.vm.findClass "RingMatches$Series" = some m.cls := hown
  have hl : lv_has ls 2 [(0, .ref (AD b)), (1, .int (zI v))] := hl
  have hA := wA_hi (N := N) (AD := AD) hsz
  obtain ⟨H, hH⟩ : ∃ H, H = s.heap := ⟨_, rfl⟩
  obtain ⟨locs, hlocs⟩ : ∃ z : List Loc, z = [] := ⟨_, rfl⟩
  have hw : WD D clW (wA N AD sz) s.heap H locs N AD C := by rw [hH, hlocs]; exact hw
  rw [← hlocs]
  suffices hgo : W p l e rm_S_add s m args below meth c H locs 0 0 Q (F0 m 0 ls []) by rw [hH] at hgo; exact hgo
  refine lv_aload_n hx hb d_S_add_0 rfl (lv_at hl 0 rfl) ?_
  refine zr_get (v := .int (zI n)) hx hb hts iw_S hown hK hw b ⟨by omega, by omega⟩ hS rfl 2 (by decide) (hts _ wk_71) (fun _ h => h) rfl d_S_add_1 ?_
  refine lv_aload_n hx hb d_S_add_4 rfl (lv_at hl 0 rfl) ?_
  refine zr_get (v := .ref (AD (b + 1))) hx hb hts iw_S hown hK hw b ⟨by omega, by omega⟩ hS rfl 0 (by decide) (hts _ wk_69) (fun _ h => h) rfl d_S_add_5 ?_
  refine zr_alen hx hb hK hw (b + 1) ⟨by omega, by omega⟩ 0 hSw rfl d_S_add_8 ?_
  refine zr_icmp_ge (tgt := 32) hx hb ⟨by omega, by omega⟩ ⟨by omega, by omega⟩ d_S_add_9 (by decide) (fun c1 => ?_) (fun c1 => ?_)
  · exact absurd c1 (by omega)
  · refine lv_aload_n hx hb d_S_add_12 rfl (lv_at hl 0 rfl) ?_
    refine zr_get (v := .ref (AD (b + 1))) hx hb hts iw_S hown hK hw b ⟨by omega, by omega⟩ hS rfl 0 (by decide) (hts _ wk_69) (fun _ h => h) rfl d_S_add_13 ?_
    refine lv_aload_n hx hb d_S_add_16 rfl (lv_at hl 0 rfl) ?_
    refine zr_get (v := .int (zI n)) hx hb hts iw_S hown hK hw b ⟨by omega, by omega⟩ hS rfl 2 (by decide) (hts _ wk_71) (fun _ h => h) rfl d_S_add_17 ?_
    refine lv_iload_n hx hb d_S_add_20 rfl (lv_at hl 1 rfl) ?_
    refine zr_iast hx hb hK hw (b + 1) ⟨by omega, by omega⟩ 0 hSw rfl ⟨by omega, by omega⟩ (by decide) d_S_add_21 (fun H locs hw => ?_)
    obtain ⟨C2, hC2⟩ : ∃ z : Int → va_E, z = zup C (b + 1) (aI (k 0) 24 (zup w n v)) := ⟨_, rfl⟩
    have hw : WD D clW (wA N AD sz) s.heap H locs N AD C2 := by rw [hC2]; exact hw
    have frC2 : ∀ j : Int, j ≠ (b + 1) → C2 j = C j := fun j h => by rw [hC2]; exact zup_n h
    have hS : C2 b = .inr (2, [.ref (AD (b + 1)), .ref (AD (b + 2)), .int (zI n)]) := (frC2 _ (by omega)).trans hS
    have hSw : C2 (b + 1) = aI (k 0) 24 (zup w n v) := by rw [hC2]; exact zup_s
    have hSe : C2 (b + 2) = aI (k 0) 24 e9 := (frC2 _ (by omega)).trans hSe
    refine lv_aload_n hx hb d_S_add_22 rfl (lv_at hl 0 rfl) ?_
    refine lv_dup hx hb d_S_add_23 rfl ?_
    refine zr_get (v := .int (zI n)) hx hb hts iw_S hown hK hw b ⟨by omega, by omega⟩ hS rfl 2 (by decide) (hts _ wk_71) (fun _ h => h) rfl d_S_add_24 ?_
    refine zr_iconst hx hb d_S_add_27 ?_
    refine zr_iadd hx hb d_S_add_28 ?_
    refine zr_put (ty := .int) (v := .int (zI (n + 1))) hx hb hts iw_S tyS tyS_ok nmS hown hK hw b ⟨by omega, by omega⟩ hS rfl 2 (by decide) (hts _ wk_71) (fun _ h => h) rfl (by decide +kernel) rfl rfl (Nat.le_of_ble_eq_true rfl) d_S_add_29 (fun H locs hw => ?_)
    obtain ⟨C3, hC3⟩ : ∃ z : Int → va_E, z = zup C2 b (.inr (2, [.ref (AD (b + 1)), .ref (AD (b + 2)), .int (zI (n + 1))])) := ⟨_, rfl⟩
    have hw : WD D clW (wA N AD sz) s.heap H locs N AD C3 := by rw [hC3]; exact hw
    have frC3 : ∀ j : Int, j ≠ b → C3 j = C2 j := fun j h => by rw [hC3]; exact zup_n h
    have hS : C3 b = .inr (2, [.ref (AD (b + 1)), .ref (AD (b + 2)), .int (zI (n + 1))]) := by rw [hC3]; exact zup_s
    have hSw : C3 (b + 1) = aI (k 0) 24 (zup w n v) := (frC3 _ (by omega)).trans hSw
    have hSe : C3 (b + 2) = aI (k 0) 24 e9 := (frC3 _ (by omega)).trans hSe
    exact hret _ _ _ _ _ d_S_add_32 hw ⟨hS, hSw, (frC3 _ (by omega)).trans (frC2 _ (by omega)), fun j hj => (frC3 _ (by omega)).trans (frC2 _ (by omega))⟩
/-- widths that may be: none, or 1 .. 500 -/
def WOK (w : Int → Int) (n : Int) : Prop := ∀ j : Int, 0 ≤ j → j < n → w j = -1 ∨ (1 ≤ w j ∧ w j ≤ 500)
/-- what a place adds to the sum, to the count -/
def gS (w : Int → Int) (n j : Int) : Int := if wAt w n j = -1 then 0 else wAt w n j
def gF (w : Int → Int) (n j : Int) : Int := if wAt w n j = -1 then 0 else 1
def nS (w : Int → Int) (n i : Int) : Int := sumR (gS w n) (i - 2) 5
def nF (w : Int → Int) (n i : Int) : Int := sumR (gF w n) (i - 2) 5
/-- a ring evened -/
def evF (w : Int → Int) (n i : Int) : Int := if w i = -1 then -1 else min 200 (100 * w i * nF w n i / nS w n i)
def EvOK (w e : Int → Int) (n : Int) : Prop := ∀ j : Int, 0 ≤ j → j < n → e j = evF w n j
theorem wAt_cases {w : Int → Int} {n : Int} (h : WOK w n) (j : Int) : wAt w n j = -1 ∨ (1 ≤ wAt w n j ∧ wAt w n j ≤ 500) := by
  unfold wAt
  split
  · rename_i hj; exact h j hj.1 hj.2
  · exact Or.inl rfl
theorem gS_in {w : Int → Int} {n : Int} (h : WOK w n) (j : Int) : 0 ≤ gS w n j ∧ gS w n j ≤ 500 := by
  unfold gS
  split
  · exact ⟨by omega, by omega⟩
  · have := wAt_cases h j; exact ⟨by omega, by omega⟩
theorem gF_in {w : Int → Int} {n : Int} (j : Int) : 0 ≤ gF w n j ∧ gF w n j ≤ 1 := by
  unfold gF
  split <;> exact ⟨by omega, by omega⟩
theorem sum5 (f : Int → Int) (i : Int) : sumR f (i - 2) 5 = f (i - 2) + f (i - 1) + f i + f (i + 1) + f (i + 2) := by
  show 0 + f (i - 2 + ((0 : Nat) : Int)) + f (i - 2 + ((1 : Nat) : Int)) + f (i - 2 + ((2 : Nat) : Int)) + f (i - 2 + ((3 : Nat) : Int)) + f (i - 2 + ((4 : Nat) : Int)) = _
  rw [show i - 2 + ((0 : Nat) : Int) = i - 2 by omega, show i - 2 + ((1 : Nat) : Int) = i - 1 by omega, show i - 2 + ((2 : Nat) : Int) = i by omega, show i - 2 + ((3 : Nat) : Int) = i + 1 by omega, show i - 2 + ((4 : Nat) : Int) = i + 2 by omega]
  omega
theorem nS_in {w : Int → Int} {n i : Int} (h : WOK w n) : 0 ≤ nS w n i ∧ nS w n i ≤ 2500 := by
  have h1 := gS_in h (i - 2); have h2 := gS_in h (i - 1); have h3 := gS_in h i; have h4 := gS_in h (i + 1); have h5 := gS_in h (i + 2)
  unfold nS
  rw [sum5]
  exact ⟨by omega, by omega⟩
theorem nF_in {w : Int → Int} {n i : Int} : 0 ≤ nF w n i ∧ nF w n i ≤ 5 := by
  have h1 := gF_in (w := w) (n := n) (i - 2); have h2 := gF_in (w := w) (n := n) (i - 1); have h3 := gF_in (w := w) (n := n) i; have h4 := gF_in (w := w) (n := n) (i + 1); have h5 := gF_in (w := w) (n := n) (i + 2)
  unfold nF
  rw [sum5]
  exact ⟨by omega, by omega⟩
theorem nS_pos {w : Int → Int} {n i : Int} (h : WOK w n) (h0 : 0 ≤ i) (hi : i < n) (hw : ¬ w i = -1) : 0 < nS w n i := by
  have h1 := gS_in h (i - 2); have h2 := gS_in h (i - 1); have h4 := gS_in h (i + 1); have h5 := gS_in h (i + 2)
  have h3 : 1 ≤ gS w n i := by
    unfold gS
    rw [wAt_in ⟨h0, hi⟩, if_neg hw]
    have := h i h0 hi
    omega
  unfold nS
  rw [sum5]
  omega
theorem evF_in {w : Int → Int} {n i : Int} (h : WOK w n) (h0 : 0 ≤ i) (hi : i < n) : evF w n i = -1 ∨ (0 ≤ evF w n i ∧ evF w n i ≤ 200) := by
  unfold evF
  split
  · exact Or.inl rfl
  · rename_i hw
    have h1 := nS_pos h h0 hi hw
    have h2 := nF_in (w := w) (n := n) (i := i)
    have h3 := h i h0 hi
    have h4 : 0 ≤ 100 * w i * nF w n i / nS w n i := Int.ediv_nonneg (Int.mul_nonneg (by omega) h2.1) (by omega)
    right
    omega
abbrev rm_S_evenedFromWidths : Room := { frames := 2, cells := 0, slots := 0, locals := 42 }
set_option maxHeartbeats 4000000 in
set_option maxRecDepth 100000 in
theorem c_S_evenedFromWidths (l : Launch) (D : va_G) (k : Nat → ClassId) (N : Nat) (AD : Int → Nat) (C : Int → va_E) (sz : Nat) (b : Int) (n : Int) (w : Int → Int) (e9 : Int → Int) (i : Int) (hb0 : 0 ≤ b ∧ b + 2 < (N : Int)) (hn : 0 ≤ n ∧ n ≤ 24) (hS : C b = .inr (2, [.ref (AD (b + 1)), .ref (AD (b + 2)), .int (zI n)])) (hSw : C (b + 1) = aI (k 0) 24 w) (hSe : C (b + 2) = aI (k 0) 24 e9) (hi : 0 ≤ i ∧ i < n) (hok : WOK w n) : MI l y_S_evenedFromWidths (Cond.code y_S_evenedFromWidths b_S_evenedFromWidths 6 (Option.some Jvm.ClassFile.FieldType.int) :: WS) rm_S_evenedFromWidths D clW (tyW k) N AD C sz [.ref (AD b), .int (zI i)] (fun r C' => r = zI (evF w n i) ∧ C' = C) := by
  refine MI.start (cc := b_S_evenedFromWidths) (maxL := 6) (rt := .int) (by decide) rfl (Nat.le_of_ble_eq_true rfl) ?_
  intro p e s m args below meth c Q ls hx hb hml hown hts hK hsz hw hl hret
  have hown : s.vm.findClass "RingMatches$Series" = some m.cls := hown
  have hl : lv_has ls 6 [(0, .ref (AD b)), (1, .int (zI i))] := hl
  have hA := wA_hi (N := N) (AD := AD) hsz
  obtain ⟨H, hH⟩ : ∃ H, H = s.heap := ⟨_, rfl⟩
  obtain ⟨locs, hlocs⟩ : ∃ z : List Loc, z = [] := ⟨_, rfl⟩
  have hw : WD D clW (wA N AD sz) s.heap H locs N AD C := by rw [hH, hlocs]; exact hw
  rw [← hlocs]
  suffices hgo : W p l e rm_S_evenedFromWidths s m args below meth c H locs 0 0 Q (F0 m 0 ls []) by rw [hH] at hgo; exact hgo
  have hwi2 := hok i hi.1 hi.2
  refine lv_aload_n hx hb d_S_evenedFromWidths_0 rfl (lv_at hl 0 rfl) ?_
  refine zr_get (v := .ref (AD (b + 1))) hx hb hts iw_S hown hK hw b ⟨by omega, by omega⟩ hS rfl 0 (by decide) (hts _ wk_69) (fun _ h => h) rfl d_S_evenedFromWidths_1 ?_
  refine lv_iload_n hx hb d_S_evenedFromWidths_4 rfl (lv_at hl 1 rfl) ?_
  refine zr_iald hx hb hK hw (b + 1) ⟨by omega, by omega⟩ 0 hSw rfl ⟨by omega, by omega⟩ (by decide) d_S_evenedFromWidths_5 ?_
  refine zr_iconst hx hb d_S_evenedFromWidths_6 ?_
  refine zr_icmp_ne (tgt := 12) hx hb ⟨by omega, by omega⟩ ⟨by omega, by omega⟩ d_S_evenedFromWidths_7 (by decide) (fun c1 => ?_) (fun c1 => ?_)
  · have hwi := c1
    refine zr_iconst hx hb d_S_evenedFromWidths_12 ?_
    refine lv_istore_n (lv' := [(2, .int (zI 0)), (0, .ref (AD b)), (1, .int (zI i))]) hx hb d_S_evenedFromWidths_13 rfl hl (by decide) rfl (fun ls hl => ?_)
    refine zr_iconst hx hb d_S_evenedFromWidths_14 ?_
    refine lv_istore_n (lv' := [(3, .int (zI 0)), (2, .int (zI 0)), (0, .ref (AD b)), (1, .int (zI i))]) hx hb d_S_evenedFromWidths_15 rfl hl (by decide) rfl (fun ls hl => ?_)
    refine lv_iload_n hx hb d_S_evenedFromWidths_16 rfl (lv_at hl 3 rfl) ?_
    refine zr_iconst hx hb d_S_evenedFromWidths_17 ?_
    refine zr_isub hx hb d_S_evenedFromWidths_18 ?_
    refine lv_istore (lv' := [(4, .int (zI (i - 2))), (3, .int (zI 0)), (2, .int (zI 0)), (0, .ref (AD b)), (1, .int (zI i))]) hx hb d_S_evenedFromWidths_19 hl (by decide) rfl (fun ls hl => ?_)
    have lp : ∀ (n9 : Nat) (x : Int) (sm : Int) (fd : Int) (H : Heap) (locs : List Loc) (ls : Array Slot), (i - 2 ≤ x ∧ x ≤ i + 3) → (sm = sumR (gS w n) (i - 2) (x - (i - 2)).toNat) → (fd = sumR (gF w n) (i - 2) (x - (i - 2)).toNat) → (0 ≤ sm ∧ sm ≤ 500 * (x - (i - 2))) → (0 ≤ fd ∧ fd ≤ x - (i - 2)) → (i + 3 - x).toNat < n9 → WD D clW (wA N AD sz) s.heap H locs N AD C → lv_has ls 6 [(0, .ref (AD b)), (1, .int (zI i)), (2, .int (zI sm)), (3, .int (zI fd)), (4, .int (zI x))] → W p l e rm_S_evenedFromWidths s m args below meth c H locs 0 0 Q (F0 m 21 ls []) := by
      intro n9
      induction n9 with
      | zero => intro x sm fd H locs ls hx1 hs1 hf1 hs2 hf2  hm hw hl; exact absurd hm (by omega)
      | succ n9 ihlp =>
        intro x sm fd H locs ls hx1 hs1 hf1 hs2 hf2  hm hw hl
        refine lv_iload hx hb d_S_evenedFromWidths_21 (lv_at hl 4 rfl) ?_
        refine lv_iload_n hx hb d_S_evenedFromWidths_23 rfl (lv_at hl 1 rfl) ?_
        refine zr_iconst hx hb d_S_evenedFromWidths_24 ?_
        refine zr_iadd hx hb d_S_evenedFromWidths_25 ?_
        refine zr_icmp_gt (tgt := 57) hx hb ⟨by omega, by omega⟩ ⟨by omega, by omega⟩ d_S_evenedFromWidths_26 (by decide) (fun c2 => ?_) (fun c2 => ?_)
        · have hx2 : x = i + 3 := by omega
          have e5 : (x - (i - 2)).toNat = 5 := by omega
          rw [e5] at hs1 hf1
          have hs3 : sm = nS w n i := hs1
          have hf3 : fd = nF w n i := hf1
          have hp := nS_pos hok hi.1 hi.2 hwi
          have hwi2 := hok i hi.1 hi.2
          have hm0 : 0 ≤ 100 * w i * fd := Int.mul_nonneg (by omega) (by omega)
          have hm1 : 100 * w i * fd ≤ 50000 * 5 := Int.mul_le_mul (by omega) (by omega) (by omega) (by omega)
          refine lv_iload_n hx hb d_S_evenedFromWidths_57 rfl (lv_at hl 2 rfl) ?_
          refine zr_if_le (tgt := 83) hx hb ⟨by omega, by omega⟩ d_S_evenedFromWidths_58 (by decide) (fun c3 => ?_) (fun c3 => ?_)
          · exact absurd c3 (by omega)
          · refine zr_sipush hx hb d_S_evenedFromWidths_61 (by decide) ?_
            refine zr_bipush hx hb d_S_evenedFromWidths_64 (by decide) ?_
            refine lv_aload_n hx hb d_S_evenedFromWidths_66 rfl (lv_at hl 0 rfl) ?_
            refine zr_get (v := .ref (AD (b + 1))) hx hb hts iw_S hown hK hw b ⟨by omega, by omega⟩ hS rfl 0 (by decide) (hts _ wk_69) (fun _ h => h) rfl d_S_evenedFromWidths_67 ?_
            refine lv_iload_n hx hb d_S_evenedFromWidths_70 rfl (lv_at hl 1 rfl) ?_
            refine zr_iald hx hb hK hw (b + 1) ⟨by omega, by omega⟩ 0 hSw rfl ⟨by omega, by omega⟩ (by decide) d_S_evenedFromWidths_71 ?_
            refine zr_imul hx hb d_S_evenedFromWidths_72 ?_
            refine lv_iload_n hx hb d_S_evenedFromWidths_73 rfl (lv_at hl 3 rfl) ?_
            refine zr_imul hx hb d_S_evenedFromWidths_74 ?_
            refine lv_iload_n hx hb d_S_evenedFromWidths_75 rfl (lv_at hl 2 rfl) ?_
            refine zr_idiv hx hb d_S_evenedFromWidths_76 ⟨by omega, by omega⟩ ⟨by omega, by omega⟩ (by omega) (by omega) ?_
            have hd0 : 0 ≤ 100 * w i * fd / sm := Int.ediv_nonneg hm0 (by omega)
            have hd1 : 100 * w i * fd / sm ≤ 100 * w i * fd := Int.ediv_le_self _ hm0
            refine zr_min hx hb (hml.trans hl.1.symm) hown hts wk_283 (Nat.le_of_ble_eq_true rfl) (Nat.le_of_ble_eq_true rfl) (Nat.le_of_ble_eq_true rfl) (Nat.le_of_ble_eq_true rfl) ⟨by omega, by omega⟩ ⟨by omega, by omega⟩ d_S_evenedFromWidths_77 ?_
            refine lv_goto (tgt := 84) hx hb d_S_evenedFromWidths_80 (by decide) ?_
            exact hret _ _ _ _ _ _ d_S_evenedFromWidths_84 hw rfl ⟨by unfold evF; rw [if_neg hwi, ← hs3, ← hf3], rfl⟩
        · refine lv_aload_n hx hb d_S_evenedFromWidths_29 rfl (lv_at hl 0 rfl) ?_
          refine lv_iload hx hb d_S_evenedFromWidths_30 (lv_at hl 4 rfl) ?_
          refine zr_callI (va_runV (As := [.int (zI x)]) (rest := []) ⟨hx, hb, hml, hown, hts⟩ (c_S_widthAt l D k N AD C H.size b n w e9 x ⟨by omega, by omega⟩ ⟨by omega, by omega⟩ hS hSw hSe ⟨by omega, by omega⟩) (cwV 1 hts (good_V wk_275 wk_276 wk_277 wk_29 wk_278) rfl rfl rfl (by decide +kernel) ⟨Nat.le_of_ble_eq_true rfl, Nat.le_of_ble_eq_true rfl⟩) (cPre_V hK hw b ⟨by omega, by omega⟩ hS rfl) rfl rfl hl.1 rfl (lv_room (Nat.le_of_ble_eq_true rfl)) d_S_evenedFromWidths_32 ⟨Nat.le_of_ble_eq_true rfl, Nat.le_of_ble_eq_true rfl⟩) hw hA (fun r9 C5 H locs hq4 hw => ?_)
          obtain ⟨hr9, hCe⟩ := hq4
          rw [hCe] at hw; subst hr9
          refine lv_istore (lv' := [(5, .int (zI (wAt w n x))), (0, .ref (AD b)), (1, .int (zI i)), (2, .int (zI sm)), (3, .int (zI fd)), (4, .int (zI x))]) hx hb d_S_evenedFromWidths_35 hl (by decide) rfl (fun ls hl => ?_)
          have hc := wAt_cases hok x
          refine lv_iload hx hb d_S_evenedFromWidths_37 (lv_at hl 0 rfl) ?_
          refine zr_iconst hx hb d_S_evenedFromWidths_39 ?_
          refine zr_icmp_eq (tgt := 51) hx hb ⟨by omega, by omega⟩ ⟨by omega, by omega⟩ d_S_evenedFromWidths_40 (by decide) (fun c6 => ?_) (fun c6 => ?_)
          · have hgS : gS w n x = 0 := if_pos c6
            have hgF : gF w n x = 0 := if_pos c6
            refine lv_iinc (v := zI (x + 1)) (lv' := [(4, .int (zI (x + 1))), (5, .int (zI (wAt w n x))), (0, .ref (AD b)), (1, .int (zI i)), (2, .int (zI sm)), (3, .int (zI fd))]) hx hb d_S_evenedFromWidths_51 hl (k := 5) rfl (zI_add _ _) (by decide) rfl (fun ls hl => ?_)
            refine lv_goto (tgt := 21) hx hb d_S_evenedFromWidths_54 (by decide) ?_
            exact ihlp (x + 1) sm fd H locs ls (by omega) (by rw [sumR_step _ (by omega), ← hs1, hgS]; omega) (by rw [sumR_step _ (by omega), ← hf1, hgF]; omega) (by omega) (by omega)  (by omega) hw (lv_sub hl [2, 3, 4, 5, 0] rfl)
          · have hgS : gS w n x = wAt w n x := if_neg c6
            have hgF : gF w n x = 1 := if_neg c6
            refine lv_iload_n hx hb d_S_evenedFromWidths_43 rfl (lv_at hl 3 rfl) ?_
            refine lv_iload hx hb d_S_evenedFromWidths_44 (lv_at hl 0 rfl) ?_
            refine zr_iadd hx hb d_S_evenedFromWidths_46 ?_
            refine lv_istore_n (lv' := [(2, .int (zI (sm + (wAt w n x)))), (5, .int (zI (wAt w n x))), (0, .ref (AD b)), (1, .int (zI i)), (3, .int (zI fd)), (4, .int (zI x))]) hx hb d_S_evenedFromWidths_47 rfl hl (by decide) rfl (fun ls hl => ?_)
            refine lv_iinc (v := zI (fd + 1)) (lv' := [(3, .int (zI (fd + 1))), (2, .int (zI (sm + (wAt w n x)))), (5, .int (zI (wAt w n x))), (0, .ref (AD b)), (1, .int (zI i)), (4, .int (zI x))]) hx hb d_S_evenedFromWidths_48 hl (k := 4) rfl (zI_add _ _) (by decide) rfl (fun ls hl => ?_)
            refine lv_iinc (v := zI (x + 1)) (lv' := [(4, .int (zI (x + 1))), (3, .int (zI (fd + 1))), (2, .int (zI (sm + (wAt w n x)))), (5, .int (zI (wAt w n x))), (0, .ref (AD b)), (1, .int (zI i))]) hx hb d_S_evenedFromWidths_51 hl (k := 5) rfl (zI_add _ _) (by decide) rfl (fun ls hl => ?_)
            refine lv_goto (tgt := 21) hx hb d_S_evenedFromWidths_54 (by decide) ?_
            exact ihlp (x + 1) (sm + (wAt w n x)) (fd + 1) H locs ls (by omega) (by rw [sumR_step _ (by omega), ← hs1, hgS]) (by rw [sumR_step _ (by omega), ← hf1, hgF]) (by omega) (by omega)  (by omega) hw (lv_sub hl [4, 5, 2, 1, 0] rfl)
    exact lp ((i + 3 - (i - 2)).toNat + 1) (i - 2) 0 0 H locs ls (by omega) (sumR_self _ _).symm (sumR_self _ _).symm (by omega) (by omega)  (by omega) hw (lv_sub hl [3, 4, 2, 1, 0] rfl)
  · refine zr_iconst hx hb d_S_evenedFromWidths_10 ?_
    exact hret _ _ _ _ _ _ d_S_evenedFromWidths_11 hw rfl ⟨by unfold evF; rw [if_pos c1], rfl⟩
abbrev rm_S_makeEven : Room := { frames := 3, cells := 0, slots := 0, locals := 67 }
set_option maxHeartbeats 4000000 in
set_option maxRecDepth 100000 in
theorem c_S_makeEven (l : Launch) (D : va_G) (k : Nat → ClassId) (N : Nat) (AD : Int → Nat) (C : Int → va_E) (sz : Nat) (b : Int) (n : Int) (w : Int → Int) (e9 : Int → Int) (hb0 : 0 ≤ b ∧ b + 2 < (N : Int)) (hn : 0 ≤ n ∧ n ≤ 24) (hS : C b = .inr (2, [.ref (AD (b + 1)), .ref (AD (b + 2)), .int (zI n)])) (hSw : C (b + 1) = aI (k 0) 24 w) (hSe : C (b + 2) = aI (k 0) 24 e9) (hok : WOK w n) : MV l y_S_makeEven (Cond.code y_S_makeEven b_S_makeEven 2 (Option.none : Option FieldType) :: WS) rm_S_makeEven D clW (tyW k) N AD C sz [.ref (AD b)] (fun C' => ∃ ee : Int → Int, C' (b + 2) = aI (k 0) 24 ee ∧ EvOK w ee n ∧ ∀ j : Int, j ≠ b + 2 → C' j = C j) := by
  refine MV.start (cc := b_S_makeEven) (maxL := 2) (by decide) rfl (Nat.le_of_ble_eq_true rfl) ?_
  intro p e s m args below meth c Q ls hx hb hml hown hts hK hsz hw hl hret
  have hown : s.vm.findClass "RingMatches$Series" = some m.cls := hown
  have hl : lv_has ls 2 [(0, .ref (AD b))] := hl
  have hA := wA_hi (N := N) (AD := AD) hsz
  obtain ⟨H, hH⟩ : ∃ H, H = s.heap := ⟨_, rfl⟩
  obtain ⟨locs, hlocs⟩ : ∃ z : List Loc, z = [] := ⟨_, rfl⟩
  have hw : WD D clW (wA N AD sz) s.heap H locs N AD C := by rw [hH, hlocs]; exact hw
  rw [← hlocs]
  suffices hgo : W p l e rm_S_makeEven s m args below meth c H locs 0 0 Q (F0 m 0 ls []) by rw [hH] at hgo; exact hgo
  obtain ⟨C0, hC0⟩ : ∃ z : Int → va_E, z = C := ⟨_, rfl⟩
  rw [← hC0] at hret
  refine zr_iconst hx hb d_S_makeEven_0 ?_
  refine lv_istore_n (lv' := [(1, .int (zI 0)), (0, .ref (AD b))]) hx hb d_S_makeEven_1 rfl hl (by decide) rfl (fun ls hl => ?_)
  have lp : ∀ (n9 : Nat) (x : Int) (ee : Int → Int) (C : Int → va_E) (H : Heap) (locs : List Loc) (ls : Array Slot), (0 ≤ x ∧ x ≤ n) → (∀ j : Int, 0 ≤ j → j < x → ee j = evF w n j) → (∀ j : Int, j ≠ b + 2 → C j = C0 j) → (C b = .inr (2, [.ref (AD (b + 1)), .ref (AD (b + 2)), .int (zI n)])) → (C (b + 1) = aI (k 0) 24 w) → (C (b + 2) = aI (k 0) 24 ee) → (n + 1 - x).toNat < n9 → WD D clW (wA N AD sz) s.heap H locs N AD C → lv_has ls 2 [(0, .ref (AD b)), (1, .int (zI x))] → W p l e rm_S_makeEven s m args below meth c H locs 0 0 Q (F0 m 2 ls []) := by
    intro n9
    induction n9 with
    | zero => intro x ee C H locs ls hx1 he1 hfr hS hSw hSe hm hw hl; exact absurd hm (by omega)
    | succ n9 ihlp =>
      intro x ee C H locs ls hx1 he1 hfr hS hSw hSe hm hw hl
      refine lv_iload_n hx hb d_S_makeEven_2 rfl (lv_at hl 1 rfl) ?_
      refine lv_aload_n hx hb d_S_makeEven_3 rfl (lv_at hl 0 rfl) ?_
      refine zr_get (v := .int (zI n)) hx hb hts iw_S hown hK hw b ⟨by omega, by omega⟩ hS rfl 2 (by decide) (hts _ wk_71) (fun _ h => h) rfl d_S_makeEven_4 ?_
      refine zr_icmp_ge (tgt := 27) hx hb ⟨by omega, by omega⟩ ⟨by omega, by omega⟩ d_S_makeEven_7 (by decide) (fun c1 => ?_) (fun c1 => ?_)
      · exact hret _ _ _ _ _ d_S_makeEven_27 hw ⟨ee, hSe, fun j h1 h2 => he1 j h1 (by omega), hfr⟩
      · refine lv_aload_n hx hb d_S_makeEven_10 rfl (lv_at hl 0 rfl) ?_
        refine zr_get (v := .ref (AD (b + 2))) hx hb hts iw_S hown hK hw b ⟨by omega, by omega⟩ hS rfl 1 (by decide) (hts _ wk_70) (fun _ h => h) rfl d_S_makeEven_11 ?_
        refine lv_iload_n hx hb d_S_makeEven_14 rfl (lv_at hl 1 rfl) ?_
        refine lv_aload_n hx hb d_S_makeEven_15 rfl (lv_at hl 0 rfl) ?_
        refine lv_iload_n hx hb d_S_makeEven_16 rfl (lv_at hl 1 rfl) ?_
        refine zr_callI (va_runV (As := [.int (zI x)]) (rest := [.int (zI x), .ref (AD (b + 2))]) ⟨hx, hb, hml, hown, hts⟩ (c_S_evenedFromWidths l D k N AD C H.size b n w ee x ⟨by omega, by omega⟩ ⟨by omega, by omega⟩ hS hSw hSe ⟨by omega, by omega⟩ hok) (cwV 1 hts (good_V wk_271 wk_273 wk_1 wk_29 wk_274) rfl rfl rfl (by decide +kernel) ⟨Nat.le_of_ble_eq_true rfl, Nat.le_of_ble_eq_true rfl⟩) (cPre_V hK hw b ⟨by omega, by omega⟩ hS rfl) rfl rfl hl.1 rfl (lv_room (Nat.le_of_ble_eq_true rfl)) d_S_makeEven_17 ⟨Nat.le_of_ble_eq_true rfl, Nat.le_of_ble_eq_true rfl⟩) hw hA (fun r9 C3 H locs hq2 hw => ?_)
        obtain ⟨hr9, hCe⟩ := hq2
        rw [hCe] at hw; subst hr9
        refine zr_iast hx hb hK hw (b + 2) ⟨by omega, by omega⟩ 0 hSe rfl ⟨by omega, by omega⟩ (by decide) d_S_makeEven_20 (fun H locs hw => ?_)
        obtain ⟨C4, hC4⟩ : ∃ z : Int → va_E, z = zup C (b + 2) (aI (k 0) 24 (zup ee x (evF w n x))) := ⟨_, rfl⟩
        have hw : WD D clW (wA N AD sz) s.heap H locs N AD C4 := by rw [hC4]; exact hw
        have frC4 : ∀ j : Int, j ≠ (b + 2) → C4 j = C j := fun j h => by rw [hC4]; exact zup_n h
        have hS : C4 b = .inr (2, [.ref (AD (b + 1)), .ref (AD (b + 2)), .int (zI n)]) := (frC4 _ (by omega)).trans hS
        have hSw : C4 (b + 1) = aI (k 0) 24 w := (frC4 _ (by omega)).trans hSw
        have hSe : C4 (b + 2) = aI (k 0) 24 (zup ee x (evF w n x)) := by rw [hC4]; exact zup_s
        refine lv_iinc (v := zI (x + 1)) (lv' := [(1, .int (zI (x + 1))), (0, .ref (AD b))]) hx hb d_S_makeEven_21 hl (k := 1) rfl (zI_add _ _) (by decide) rfl (fun ls hl => ?_)
        refine lv_goto (tgt := 2) hx hb d_S_makeEven_24 (by decide) ?_
        exact ihlp (x + 1) (zup ee x (evF w n x)) C4 H locs ls (by omega) (zup_ok he1 rfl) (fun j h => (frC4 j h).trans (hfr j h)) hS hSw hSe (by omega) hw (lv_sub hl [1, 0] rfl)
  exact lp ((n + 1 - 0).toNat + 1) 0 e9 C H locs ls (by omega) (fun j h1 h2 => absurd h2 (by omega)) (fun j h => by rw [hC0]) hS hSw hSe (by omega) hw (lv_sub hl [1, 0] rfl)
