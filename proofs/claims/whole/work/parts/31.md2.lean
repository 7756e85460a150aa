/-- the reference's width, 0 for a missing ring, as the class keeps it -/
def dcd (x : Int) : Int := if x = 0 then -1 else x
def WM (mw : Int → Int) (i j : Int) : Int := dcd (mw (24 * i + j))
def MOK (mw : Int → Int) (i n : Int) : Prop := ∀ j : Int, 0 ≤ j → j < n → 0 ≤ mw (24 * i + j) ∧ mw (24 * i + j) ≤ 500
theorem MOK_W {mw : Int → Int} {i n : Int} (h : MOK mw i n) : WOK (WM mw i) n := fun j h1 h2 => by
  have := h j h1 h2
  unfold WM dcd
  split
  · exact Or.inl rfl
  · right; omega
theorem wAtM {mw : Int → Int} {i n : Int} (h : MOK mw i n) (j : Int) : (wAt (WM mw i) n j = -1) ↔ ¬ (0 ≤ j ∧ j < n ∧ 0 < mw (24 * i + j)) := by
  by_cases hj : 0 ≤ j ∧ j < n
  · rw [wAt_in hj]
    have := h j hj.1 hj.2
    unfold WM dcd
    split <;> omega
  · rw [wAt_out hj]; omega
theorem wAtP {mw : Int → Int} {i n j : Int} (h : 0 ≤ j ∧ j < n ∧ 0 < mw (24 * i + j)) : wAt (WM mw i) n j = mw (24 * i + j) := by
  rw [wAt_in ⟨h.1, h.2.1⟩]; unfold WM dcd; rw [if_neg (by omega)]
theorem gMt {mw : Int → Int} {i n j : Int} (h : 0 ≤ j ∧ j < n ∧ 0 < mw (24 * i + j)) : gS (WM mw i) n j = mw (24 * i + j) ∧ gF (WM mw i) n j = 1 := by
  unfold gS gF
  rw [wAtP h, if_neg (by omega), if_neg (by omega)]
  exact ⟨rfl, rfl⟩
theorem gMf {mw : Int → Int} {i n j : Int} (hk : MOK mw i n) (h : ¬ (0 ≤ j ∧ j < n ∧ 0 < mw (24 * i + j))) : gS (WM mw i) n j = 0 ∧ gF (WM mw i) n j = 0 := by
  have e := (wAtM hk j).mpr h
  unfold gS gF
  rw [if_pos e, if_pos e]
  exact ⟨rfl, rfl⟩
theorem dgM {mw : Int → Int} {i j : Int} : dg (WM mw i j) = if 99 < mw (24 * i + j) then 3 else if 9 < mw (24 * i + j) then 2 else 1 := by
  unfold dg WM dcd
  split <;> split <;> (try split) <;> (try split) <;> (try split) <;> omega
abbrev rm_M_widthOf : Room := { frames := 0, cells := 0, slots := 0, locals := 0 }
set_option maxHeartbeats 4000000 in
set_option maxRecDepth 100000 in
theorem c_M_widthOf (l : Launch) (D : va_G) (k : Nat → ClassId) (N : Nat) (AD : Int → Nat) (C : Int → va_E) (sz : Nat) (th : Int) (pn : Int) (kc : Int) (tr : Int) (lc : Int) (fa : Int) (fb : Int) (mn : Int) (mr : Int) (ma : Int) (ab : Int) (bl : Int) (mw : Int → Int) (s0 : Int) (i : Int) (hN : 90 ≤ (N : Int)) (hM : C 82 = .inr (4, [.int (zI th), .int (zI pn), .ref (AD 83), .int (zI kc), .ref (AD 84), .ref (AD 85), .int (zI tr), .int (zI lc), .int (zI fa), .int (zI fb), .ref (AD 86), .ref (AD 87), .ref (AD 88), .int (zI mn), .int (zI mr), .int (zI ma), .long (zL ab), .long (zL bl)])) (h85 : C 85 = aI (k 0) 216 mw) (hi : 0 ≤ 24 * s0 + i ∧ 24 * s0 + i < 216) : MI l y_M_widthOf (Cond.code y_M_widthOf b_M_widthOf 3 (Option.some Jvm.ClassFile.FieldType.int) :: WS) rm_M_widthOf D clW (tyW k) N AD C sz [.ref (AD 82), .int (zI s0), .int (zI i)] (fun r C' => r = zI (mw (24 * s0 + i)) ∧ C' = C) := by
  refine MI.start (cc := b_M_widthOf) (maxL := 3) (rt := .int) (by decide) rfl (Nat.le_of_ble_eq_true rfl) ?_
  intro p e s m args below meth c Q ls hx hb hml hown hts hK hsz hw hl hret
  have hown : s.vm.findClass "RingMatchesModel" = some m.cls := hown
  have hl : lv_has ls 3 [(0, .ref (AD 82)), (1, .int (zI s0)), (2, .int (zI i))] := hl
  have hA := wA_hi (N := N) (AD := AD) hsz
  obtain ⟨H, hH⟩ : ∃ H, H = s.heap := ⟨_, rfl⟩
  obtain ⟨locs, hlocs⟩ : ∃ z : List Loc, z = [] := ⟨_, rfl⟩
  have hw : WD D clW (wA N AD sz) s.heap H locs N AD C := by rw [hH, hlocs]; exact hw
  rw [← hlocs]
  suffices hgo : W p l e rm_M_widthOf s m args below meth c H locs 0 0 Q (F0 m 0 ls []) by rw [hH] at hgo; exact hgo
  refine lv_aload_n hx hb d_M_widthOf_0 rfl (lv_at hl 0 rfl) ?_
  refine zr_get (v := .ref (AD 85)) hx hb hts iw_M hown hK hw 82 ⟨by omega, by omega⟩ hM rfl 5 (by decide) (hts _ wk_511) (fun _ h => h) rfl d_M_widthOf_1 ?_
  refine zr_bipush hx hb d_M_widthOf_4 (by decide) ?_
  refine lv_iload_n hx hb d_M_widthOf_6 rfl (lv_at hl 1 rfl) ?_
  refine zr_imul hx hb d_M_widthOf_7 ?_
  refine lv_iload_n hx hb d_M_widthOf_8 rfl (lv_at hl 2 rfl) ?_
  refine zr_iadd hx hb d_M_widthOf_9 ?_
  refine zr_iald hx hb hK hw 85 ⟨by omega, by omega⟩ 0 h85 rfl ⟨by omega, by omega⟩ (by decide) d_M_widthOf_10 ?_
  exact hret _ _ _ _ _ _ d_M_widthOf_11 hw rfl ⟨rfl, rfl⟩
abbrev rm_M_room : Room := { frames := 1, cells := 0, slots := 0, locals := 22 }
set_option maxHeartbeats 4000000 in
set_option maxRecDepth 100000 in
theorem c_M_room (l : Launch) (D : va_G) (k : Nat → ClassId) (N : Nat) (AD : Int → Nat) (C : Int → va_E) (sz : Nat) (th : Int) (pn : Int) (kc : Int) (tr : Int) (lc : Int) (fa : Int) (fb : Int) (mn : Int) (mr : Int) (ma : Int) (ab : Int) (bl : Int) (mw : Int → Int) (s0 : Int) (i : Int) (hN : 90 ≤ (N : Int)) (hM : C 82 = .inr (4, [.int (zI th), .int (zI pn), .ref (AD 83), .int (zI kc), .ref (AD 84), .ref (AD 85), .int (zI tr), .int (zI lc), .int (zI fa), .int (zI fb), .ref (AD 86), .ref (AD 87), .ref (AD 88), .int (zI mn), .int (zI mr), .int (zI ma), .long (zL ab), .long (zL bl)])) (h85 : C 85 = aI (k 0) 216 mw) (hi : 0 ≤ 24 * s0 + i ∧ 24 * s0 + i < 216) (hv : 0 ≤ mw (24 * s0 + i) ∧ mw (24 * s0 + i) ≤ 500) : MI l y_M_room (Cond.code y_M_room b_M_room 4 (Option.some Jvm.ClassFile.FieldType.int) :: WS) rm_M_room D clW (tyW k) N AD C sz [.ref (AD 82), .int (zI s0), .int (zI i)] (fun r C' => r = zI (dg (WM mw s0 i)) ∧ C' = C) := by
  refine MI.start (cc := b_M_room) (maxL := 4) (rt := .int) (by decide) rfl (Nat.le_of_ble_eq_true rfl) ?_
  intro p e s m args below meth c Q ls hx hb hml hown hts hK hsz hw hl hret
  have hown : s.vm.findClass "RingMatchesModel" = some m.cls := hown
  have hl : lv_has ls 4 [(0, .ref (AD 82)), (1, .int (zI s0)), (2, .int (zI i))] := hl
  have hA := wA_hi (N := N) (AD := AD) hsz
  obtain ⟨H, hH⟩ : ∃ H, H = s.heap := ⟨_, rfl⟩
  obtain ⟨locs, hlocs⟩ : ∃ z : List Loc, z = [] := ⟨_, rfl⟩
  have hw : WD D clW (wA N AD sz) s.heap H locs N AD C := by rw [hH, hlocs]; exact hw
  rw [← hlocs]
  suffices hgo : W p l e rm_M_room s m args below meth c H locs 0 0 Q (F0 m 0 ls []) by rw [hH] at hgo; exact hgo
  refine lv_aload_n hx hb d_M_room_0 rfl (lv_at hl 0 rfl) ?_
  refine lv_iload_n hx hb d_M_room_1 rfl (lv_at hl 1 rfl) ?_
  refine lv_iload_n hx hb d_M_room_2 rfl (lv_at hl 2 rfl) ?_
  refine zr_callI (va_runV (As := [.int (zI s0), .int (zI i)]) (rest := []) ⟨hx, hb, hml, hown, hts⟩ (c_M_widthOf l D k N AD C H.size th pn kc tr lc fa fb mn mr ma ab bl mw s0 i hN hM h85 ⟨by omega, by omega⟩) (cwV 2 hts (good_V wk_602 wk_604 wk_15 wk_31 wk_605) rfl rfl rfl (by decide +kernel) ⟨Nat.le_of_ble_eq_true rfl, Nat.le_of_ble_eq_true rfl⟩) (cPre_V hK hw 82 ⟨by omega, by omega⟩ hM rfl) rfl rfl hl.1 rfl (lv_room (Nat.le_of_ble_eq_true rfl)) d_M_room_3 ⟨Nat.le_of_ble_eq_true rfl, Nat.le_of_ble_eq_true rfl⟩) hw hA (fun r9 C2 H locs hq1 hw => ?_)
  obtain ⟨hr9, hCe⟩ := hq1
  rw [hCe] at hw; subst hr9
  refine lv_istore_n (lv' := [(3, .int (zI (mw (24 * s0 + i)))), (0, .ref (AD 82)), (1, .int (zI s0)), (2, .int (zI i))]) hx hb d_M_room_6 rfl hl (by decide) rfl (fun ls hl => ?_)
  refine lv_iload_n hx hb d_M_room_7 rfl (lv_at hl 0 rfl) ?_
  refine zr_bipush hx hb d_M_room_8 (by decide) ?_
  refine zr_icmp_le (tgt := 17) hx hb ⟨by omega, by omega⟩ ⟨by omega, by omega⟩ d_M_room_10 (by decide) (fun c3 => ?_) (fun c3 => ?_)
  · refine lv_iload_n hx hb d_M_room_17 rfl (lv_at hl 0 rfl) ?_
    refine zr_bipush hx hb d_M_room_18 (by decide) ?_
    refine zr_icmp_le (tgt := 27) hx hb ⟨by omega, by omega⟩ ⟨by omega, by omega⟩ d_M_room_20 (by decide) (fun c4 => ?_) (fun c4 => ?_)
    · refine zr_iconst hx hb d_M_room_27 ?_
      exact hret _ _ _ _ _ _ d_M_room_28 hw rfl ⟨by rw [dgM, if_neg (by omega), if_neg (by omega)], rfl⟩
    · refine zr_iconst hx hb d_M_room_23 ?_
      refine lv_goto (tgt := 28) hx hb d_M_room_24 (by decide) ?_
      exact hret _ _ _ _ _ _ d_M_room_28 hw rfl ⟨by rw [dgM, if_neg (by omega), if_pos (by omega)], rfl⟩
  · refine zr_iconst hx hb d_M_room_13 ?_
    refine lv_goto (tgt := 28) hx hb d_M_room_14 (by decide) ?_
    exact hret _ _ _ _ _ _ d_M_room_28 hw rfl ⟨by rw [dgM, if_pos (by omega)], rfl⟩
abbrev rm_M_width : Room := { frames := 2, cells := 0, slots := 0, locals := 43 }
set_option maxHeartbeats 4000000 in
set_option maxRecDepth 100000 in
theorem c_M_width (l : Launch) (D : va_G) (k : Nat → ClassId) (N : Nat) (AD : Int → Nat) (C : Int → va_E) (sz : Nat) (th : Int) (pn : Int) (kc : Int) (tr : Int) (lc : Int) (fa : Int) (fb : Int) (mn : Int) (mr : Int) (ma : Int) (ab : Int) (bl : Int) (mz : Int → Int) (mw : Int → Int) (a : Int) (i : Int) (hN : 90 ≤ (N : Int)) (hM : C 82 = .inr (4, [.int (zI th), .int (zI pn), .ref (AD 83), .int (zI kc), .ref (AD 84), .ref (AD 85), .int (zI tr), .int (zI lc), .int (zI fa), .int (zI fb), .ref (AD 86), .ref (AD 87), .ref (AD 88), .int (zI mn), .int (zI mr), .int (zI ma), .long (zL ab), .long (zL bl)])) (h84 : C 84 = aI (k 0) 9 mz) (h85 : C 85 = aI (k 0) 216 mw) (hmz : ∀ i : Int, 0 ≤ i → i < 9 → 0 ≤ mz i ∧ mz i ≤ 24) (hkc : 0 ≤ kc ∧ kc ≤ 8) (hok : ∀ i : Int, 0 ≤ i → i < kc → MOK mw i (mz i)) (ha : inI a) (hi : inI i) : MI l y_M_width (Cond.code y_M_width b_M_width 3 (Option.some Jvm.ClassFile.FieldType.int) :: WS) rm_M_width D clW (tyW k) N AD C sz [.ref (AD 82), .int (zI a), .int (zI i)] (fun r C' => (((0 ≤ a ∧ a < kc) ∧ (-1 ≤ i ∧ i < mz a)) ∧ r = zI (widF mz (WM mw) a i) ∧ C' 82 = .inr (4, [.int (zI 0), .int (zI pn), .ref (AD 83), .int (zI kc), .ref (AD 84), .ref (AD 85), .int (zI tr), .int (zI lc), .int (zI fa), .int (zI fb), .ref (AD 86), .ref (AD 87), .ref (AD 88), .int (zI mn), .int (zI mr), .int (zI ma), .long (zL ab), .long (zL bl)]) ∨ ¬ ((0 ≤ a ∧ a < kc) ∧ (-1 ≤ i ∧ i < mz a)) ∧ C' 82 = .inr (4, [.int (zI 1), .int (zI pn), .ref (AD 83), .int (zI kc), .ref (AD 84), .ref (AD 85), .int (zI tr), .int (zI lc), .int (zI fa), .int (zI fb), .ref (AD 86), .ref (AD 87), .ref (AD 88), .int (zI mn), .int (zI mr), .int (zI ma), .long (zL ab), .long (zL bl)])) ∧ ∀ j : Int, j ≠ 82 → C' j = C j) := by
  refine MI.start (cc := b_M_width) (maxL := 3) (rt := .int) (by decide) rfl (Nat.le_of_ble_eq_true rfl) ?_
  intro p e s m args below meth c Q ls hx hb hml hown hts hK hsz hw hl hret
  have hown : s.vm.findClass "RingMatchesModel" = some m.cls := hown
  have hl : lv_has ls 3 [(0, .ref (AD 82)), (1, .int (zI a)), (2, .int (zI i))] := hl
  have hA := wA_hi (N := N) (AD := AD) hsz
  obtain ⟨H, hH⟩ : ∃ H, H = s.heap := ⟨_, rfl⟩
  obtain ⟨locs, hlocs⟩ : ∃ z : List Loc, z = [] := ⟨_, rfl⟩
  have hw : WD D clW (wA N AD sz) s.heap H locs N AD C := by rw [hH, hlocs]; exact hw
  rw [← hlocs]
  suffices hgo : W p l e rm_M_width s m args below meth c H locs 0 0 Q (F0 m 0 ls []) by rw [hH] at hgo; exact hgo
  refine lv_aload_n hx hb d_M_width_0 rfl (lv_at hl 0 rfl) ?_
  refine lv_aload_n hx hb d_M_width_1 rfl (lv_at hl 0 rfl) ?_
  refine lv_iload_n hx hb d_M_width_2 rfl (lv_at hl 1 rfl) ?_
  refine zr_callI (va_runV (As := [.int (zI a)]) (rest := [.ref (AD 82)]) ⟨hx, hb, hml, hown, hts⟩ (c_M_isSeries l D k N AD C H.size th pn kc tr lc fa fb mn mr ma ab bl a hN hM ⟨by omega, by omega⟩ (by omega)) (cwV 1 hts (good_V wk_598 wk_600 wk_14 wk_31 wk_601) rfl rfl rfl (by decide +kernel) ⟨Nat.le_of_ble_eq_true rfl, Nat.le_of_ble_eq_true rfl⟩) (cPre_V hK hw 82 ⟨by omega, by omega⟩ hM rfl) rfl rfl hl.1 rfl (lv_room (Nat.le_of_ble_eq_true rfl)) d_M_width_3 ⟨Nat.le_of_ble_eq_true rfl, Nat.le_of_ble_eq_true rfl⟩) hw hA (fun r9 C2 H locs hq1 hw => ?_)
  obtain ⟨hq1, hCe⟩ := hq1
  rw [hCe] at hw
  rcases hq1 with ⟨hr9, hq1⟩ | ⟨hr9, hq1⟩ <;> subst hr9
  · refine zr_if_eq (tgt := 41) hx hb ⟨by omega, by omega⟩ d_M_width_6 (by decide) (fun c9 => absurd c9 (by decide)) (fun c3 => ?_)
    refine lv_iload_n hx hb d_M_width_9 rfl (lv_at hl 2 rfl) ?_
    refine zr_iconst hx hb d_M_width_10 ?_
    refine lv_aload_n hx hb d_M_width_11 rfl (lv_at hl 0 rfl) ?_
    refine lv_iload_n hx hb d_M_width_12 rfl (lv_at hl 1 rfl) ?_
    refine zr_callI (va_runV (As := [.int (zI a)]) (rest := [.int (zI (-1)), .int (zI i), .ref (AD 82)]) ⟨hx, hb, hml, hown, hts⟩ (c_M_isSeries l D k N AD C H.size th pn kc tr lc fa fb mn mr ma ab bl a hN hM ⟨by omega, by omega⟩ (by omega)) (cwV 1 hts (good_V wk_598 wk_600 wk_14 wk_31 wk_601) rfl rfl rfl (by decide +kernel) ⟨Nat.le_of_ble_eq_true rfl, Nat.le_of_ble_eq_true rfl⟩) (cPre_V hK hw 82 ⟨by omega, by omega⟩ hM rfl) rfl rfl hl.1 rfl (lv_room (Nat.le_of_ble_eq_true rfl)) d_M_width_13 ⟨Nat.le_of_ble_eq_true rfl, Nat.le_of_ble_eq_true rfl⟩) hw hA (fun r9 C5 H locs hq4 hw => ?_)
    obtain ⟨hq4, hCe⟩ := hq4
    rw [hCe] at hw
    rcases hq4 with ⟨hr9, hq4⟩ | ⟨hr9, hq4⟩ <;> subst hr9
    · refine zr_if_eq (tgt := 30) hx hb ⟨by omega, by omega⟩ d_M_width_16 (by decide) (fun c9 => absurd c9 (by decide)) (fun c6 => ?_)
      refine lv_aload_n hx hb d_M_width_19 rfl (lv_at hl 0 rfl) ?_
      refine zr_get (v := .ref (AD 84)) hx hb hts iw_M hown hK hw 82 ⟨by omega, by omega⟩ hM rfl 4 (by decide) (hts _ wk_510) (fun _ h => h) rfl d_M_width_20 ?_
      refine lv_iload_n hx hb d_M_width_23 rfl (lv_at hl 1 rfl) ?_
      have hz9 := hmz a (by omega) (by omega)
      refine zr_iald hx hb hK hw 84 ⟨by omega, by omega⟩ 0 h84 rfl ⟨by omega, by omega⟩ (by decide) d_M_width_24 ?_
      refine zr_iconst hx hb d_M_width_25 ?_
      refine zr_isub hx hb d_M_width_26 ?_
      refine lv_goto (tgt := 31) hx hb d_M_width_27 (by decide) ?_
      refine zr_callI (va_runS (As := [.int (zI i), .int (zI (-1)), .int (zI ((mz a) - 1))]) (rest := [.ref (AD 82)]) ⟨hx, hb, hml, hown, hts⟩ (c_M_within l D k N AD C H.size i (-1) ((mz a) - 1) ⟨by omega, by omega⟩ ⟨by omega, by omega⟩ ⟨by omega, by omega⟩) (va_cwS 3 hts (good_S wk_572 wk_573 wk_31 wk_574) rfl rfl rfl (by decide +kernel) ⟨Nat.le_of_ble_eq_true rfl, Nat.le_of_ble_eq_true rfl⟩) (cPre_S hK hw) rfl rfl hl.1 rfl (lv_room (Nat.le_of_ble_eq_true rfl)) d_M_width_31 ⟨Nat.le_of_ble_eq_true rfl, Nat.le_of_ble_eq_true rfl⟩) hw hA (fun r9 C8 H locs hq7 hw => ?_)
      obtain ⟨hq7, hCe⟩ := hq7
      rw [hCe] at hw
      rcases hq7 with ⟨hr9, hq7⟩ | ⟨hr9, hq7⟩ <;> subst hr9
      · refine zr_if_eq (tgt := 41) hx hb ⟨by omega, by omega⟩ d_M_width_34 (by decide) (fun c9 => absurd c9 (by decide)) (fun c9 => ?_)
        refine zr_iconst hx hb d_M_width_37 ?_
        refine lv_goto (tgt := 42) hx hb d_M_width_38 (by decide) ?_
        refine zr_iconst hx hb d_M_width_42 ?_
        refine zr_iconst hx hb d_M_width_43 ?_
        refine zr_callI (va_runV (As := [.int (zI 1), .int (zI 1), .int (zI 1)]) (rest := []) ⟨hx, hb, hml, hown, hts⟩ (c_M_goes l D k N AD C H.size th pn kc tr lc fa fb mn mr ma ab bl 1 1 1 0 1 hN hM (by decide) (by decide) (by decide) (by decide) (by decide)) (cwV 3 hts (good_V wk_578 wk_580 wk_11 wk_31 wk_581) rfl rfl rfl (by decide +kernel) ⟨Nat.le_of_ble_eq_true rfl, Nat.le_of_ble_eq_true rfl⟩) (cPre_V hK hw 82 ⟨by omega, by omega⟩ hM rfl) rfl rfl hl.1 rfl (lv_room (Nat.le_of_ble_eq_true rfl)) d_M_width_44 ⟨Nat.le_of_ble_eq_true rfl, Nat.le_of_ble_eq_true rfl⟩) hw hA (fun r9 C10 H locs hq11 hw => ?_)
        obtain ⟨hr9, hq11a, frC10⟩ := hq11
        subst hr9
        have hM : C10 82 = .inr (4, [.int (zI 0), .int (zI pn), .ref (AD 83), .int (zI kc), .ref (AD 84), .ref (AD 85), .int (zI tr), .int (zI lc), .int (zI fa), .int (zI fb), .ref (AD 86), .ref (AD 87), .ref (AD 88), .int (zI mn), .int (zI mr), .int (zI ma), .long (zL ab), .long (zL bl)]) := hq11a
        have h84 : C10 84 = aI (k 0) 9 mz := (frC10 _ (by omega)).trans h84
        have h85 : C10 85 = aI (k 0) 216 mw := (frC10 _ (by omega)).trans h85
        refine zr_if_ne (tgt := 52) hx hb ⟨by omega, by omega⟩ d_M_width_47 (by decide) (fun c12 => ?_) (fun c9 => absurd c9 (by decide))
        refine lv_iload_n hx hb d_M_width_52 rfl (lv_at hl 2 rfl) ?_
        refine zr_iconst hx hb d_M_width_53 ?_
        refine zr_icmp_ne (tgt := 66) hx hb ⟨by omega, by omega⟩ ⟨by omega, by omega⟩ d_M_width_54 (by decide) (fun c13 => ?_) (fun c13 => ?_)
        · refine lv_aload_n hx hb d_M_width_66 rfl (lv_at hl 0 rfl) ?_
          refine lv_iload_n hx hb d_M_width_67 rfl (lv_at hl 1 rfl) ?_
          refine lv_iload_n hx hb d_M_width_68 rfl (lv_at hl 2 rfl) ?_
          refine zr_callI (va_runV (As := [.int (zI a), .int (zI i)]) (rest := []) ⟨hx, hb, hml, hown, hts⟩ (c_M_widthOf l D k N AD C10 H.size 0 pn kc tr lc fa fb mn mr ma ab bl mw a i hN hM h85 ⟨by omega, by omega⟩) (cwV 2 hts (good_V wk_602 wk_604 wk_15 wk_31 wk_605) rfl rfl rfl (by decide +kernel) ⟨Nat.le_of_ble_eq_true rfl, Nat.le_of_ble_eq_true rfl⟩) (cPre_V hK hw 82 ⟨by omega, by omega⟩ hM rfl) rfl rfl hl.1 rfl (lv_room (Nat.le_of_ble_eq_true rfl)) d_M_width_69 ⟨Nat.le_of_ble_eq_true rfl, Nat.le_of_ble_eq_true rfl⟩) hw hA (fun r9 C15 H locs hq14 hw => ?_)
          obtain ⟨hr9, hCe⟩ := hq14
          rw [hCe] at hw; subst hr9
          have ho9 := hok a (by omega) (by omega) i (by omega) (by omega)
          refine zr_if_ne (tgt := 79) hx hb ⟨by omega, by omega⟩ d_M_width_72 (by decide) (fun c16 => ?_) (fun c16 => ?_)
          · refine lv_aload_n hx hb d_M_width_79 rfl (lv_at hl 0 rfl) ?_
            refine lv_iload_n hx hb d_M_width_80 rfl (lv_at hl 1 rfl) ?_
            refine lv_iload_n hx hb d_M_width_81 rfl (lv_at hl 2 rfl) ?_
            refine zr_callI (va_runV (As := [.int (zI a), .int (zI i)]) (rest := []) ⟨hx, hb, hml, hown, hts⟩ (c_M_widthOf l D k N AD C10 H.size 0 pn kc tr lc fa fb mn mr ma ab bl mw a i hN hM h85 ⟨by omega, by omega⟩) (cwV 2 hts (good_V wk_602 wk_604 wk_15 wk_31 wk_605) rfl rfl rfl (by decide +kernel) ⟨Nat.le_of_ble_eq_true rfl, Nat.le_of_ble_eq_true rfl⟩) (cPre_V hK hw 82 ⟨by omega, by omega⟩ hM rfl) rfl rfl hl.1 rfl (lv_room (Nat.le_of_ble_eq_true rfl)) d_M_width_82 ⟨Nat.le_of_ble_eq_true rfl, Nat.le_of_ble_eq_true rfl⟩) hw hA (fun r9 C18 H locs hq17 hw => ?_)
            obtain ⟨hr9, hCe⟩ := hq17
            rw [hCe] at hw; subst hr9
            exact hret _ _ _ _ _ _ d_M_width_85 hw rfl ⟨Or.inl ⟨by omega, by unfold widF; rw [if_neg (by omega), wAt_in (by omega)]; unfold WM dcd; rw [if_neg (by omega)], hM⟩, fun j hj => by rw [frC10 _ (by omega)]⟩
          · refine zr_iconst hx hb d_M_width_75 ?_
            refine lv_goto (tgt := 85) hx hb d_M_width_76 (by decide) ?_
            exact hret _ _ _ _ _ _ d_M_width_85 hw rfl ⟨Or.inl ⟨by omega, by unfold widF; rw [if_neg (by omega), wAt_in (by omega)]; unfold WM dcd; rw [if_pos (by omega)], hM⟩, fun j hj => by rw [frC10 _ (by omega)]⟩
        · refine lv_aload_n hx hb d_M_width_57 rfl (lv_at hl 0 rfl) ?_
          refine zr_get (v := .ref (AD 84)) hx hb hts iw_M hown hK hw 82 ⟨by omega, by omega⟩ hM rfl 4 (by decide) (hts _ wk_510) (fun _ h => h) rfl d_M_width_58 ?_
          refine lv_iload_n hx hb d_M_width_61 rfl (lv_at hl 1 rfl) ?_
          refine zr_iald hx hb hK hw 84 ⟨by omega, by omega⟩ 0 h84 rfl ⟨by omega, by omega⟩ (by decide) d_M_width_62 ?_
          refine lv_goto (tgt := 85) hx hb d_M_width_63 (by decide) ?_
          exact hret _ _ _ _ _ _ d_M_width_85 hw rfl ⟨Or.inl ⟨by omega, by unfold widF; rw [if_pos (by omega)], hM⟩, fun j hj => by rw [frC10 _ (by omega)]⟩
      · refine zr_if_eq (tgt := 41) hx hb ⟨by omega, by omega⟩ d_M_width_34 (by decide) (fun c19 => ?_) (fun c9 => absurd c9 (by decide))
        refine zr_iconst hx hb d_M_width_41 ?_
        refine zr_iconst hx hb d_M_width_42 ?_
        refine zr_iconst hx hb d_M_width_43 ?_
        refine zr_callI (va_runV (As := [.int (zI 0), .int (zI 1), .int (zI 1)]) (rest := []) ⟨hx, hb, hml, hown, hts⟩ (c_M_goes l D k N AD C H.size th pn kc tr lc fa fb mn mr ma ab bl 0 1 1 1 0 hN hM (by decide) (by decide) (by decide) (by decide) (by decide)) (cwV 3 hts (good_V wk_578 wk_580 wk_11 wk_31 wk_581) rfl rfl rfl (by decide +kernel) ⟨Nat.le_of_ble_eq_true rfl, Nat.le_of_ble_eq_true rfl⟩) (cPre_V hK hw 82 ⟨by omega, by omega⟩ hM rfl) rfl rfl hl.1 rfl (lv_room (Nat.le_of_ble_eq_true rfl)) d_M_width_44 ⟨Nat.le_of_ble_eq_true rfl, Nat.le_of_ble_eq_true rfl⟩) hw hA (fun r9 C20 H locs hq21 hw => ?_)
        obtain ⟨hr9, hq21a, frC20⟩ := hq21
        subst hr9
        have hM : C20 82 = .inr (4, [.int (zI 1), .int (zI pn), .ref (AD 83), .int (zI kc), .ref (AD 84), .ref (AD 85), .int (zI tr), .int (zI lc), .int (zI fa), .int (zI fb), .ref (AD 86), .ref (AD 87), .ref (AD 88), .int (zI mn), .int (zI mr), .int (zI ma), .long (zL ab), .long (zL bl)]) := hq21a
        have h84 : C20 84 = aI (k 0) 9 mz := (frC20 _ (by omega)).trans h84
        have h85 : C20 85 = aI (k 0) 216 mw := (frC20 _ (by omega)).trans h85
        refine zr_if_ne (tgt := 52) hx hb ⟨by omega, by omega⟩ d_M_width_47 (by decide) (fun c9 => absurd c9 (by decide)) (fun c22 => ?_)
        refine zr_iconst hx hb d_M_width_50 ?_
        exact hret _ _ _ _ _ _ d_M_width_51 hw rfl ⟨Or.inr ⟨by omega, hM⟩, fun j hj => by rw [frC20 _ (by omega)]⟩
    · exact absurd hq4 (by omega)
  · refine zr_if_eq (tgt := 41) hx hb ⟨by omega, by omega⟩ d_M_width_6 (by decide) (fun c23 => ?_) (fun c9 => absurd c9 (by decide))
    refine zr_iconst hx hb d_M_width_41 ?_
    refine zr_iconst hx hb d_M_width_42 ?_
    refine zr_iconst hx hb d_M_width_43 ?_
    refine zr_callI (va_runV (As := [.int (zI 0), .int (zI 1), .int (zI 1)]) (rest := []) ⟨hx, hb, hml, hown, hts⟩ (c_M_goes l D k N AD C H.size th pn kc tr lc fa fb mn mr ma ab bl 0 1 1 1 0 hN hM (by decide) (by decide) (by decide) (by decide) (by decide)) (cwV 3 hts (good_V wk_578 wk_580 wk_11 wk_31 wk_581) rfl rfl rfl (by decide +kernel) ⟨Nat.le_of_ble_eq_true rfl, Nat.le_of_ble_eq_true rfl⟩) (cPre_V hK hw 82 ⟨by omega, by omega⟩ hM rfl) rfl rfl hl.1 rfl (lv_room (Nat.le_of_ble_eq_true rfl)) d_M_width_44 ⟨Nat.le_of_ble_eq_true rfl, Nat.le_of_ble_eq_true rfl⟩) hw hA (fun r9 C24 H locs hq25 hw => ?_)
    obtain ⟨hr9, hq25a, frC24⟩ := hq25
    subst hr9
    have hM : C24 82 = .inr (4, [.int (zI 1), .int (zI pn), .ref (AD 83), .int (zI kc), .ref (AD 84), .ref (AD 85), .int (zI tr), .int (zI lc), .int (zI fa), .int (zI fb), .ref (AD 86), .ref (AD 87), .ref (AD 88), .int (zI mn), .int (zI mr), .int (zI ma), .long (zL ab), .long (zL bl)]) := hq25a
    have h84 : C24 84 = aI (k 0) 9 mz := (frC24 _ (by omega)).trans h84
    have h85 : C24 85 = aI (k 0) 216 mw := (frC24 _ (by omega)).trans h85
    refine zr_if_ne (tgt := 52) hx hb ⟨by omega, by omega⟩ d_M_width_47 (by decide) (fun c9 => absurd c9 (by decide)) (fun c26 => ?_)
    refine zr_iconst hx hb d_M_width_50 ?_
    exact hret _ _ _ _ _ _ d_M_width_51 hw rfl ⟨Or.inr ⟨by omega, hM⟩, fun j hj => by rw [frC24 _ (by omega)]⟩
abbrev rm_M_even : Room := { frames := 1, cells := 0, slots := 0, locals := 22 }
set_option maxHeartbeats 4000000 in
set_option maxRecDepth 100000 in
theorem c_M_even (l : Launch) (D : va_G) (k : Nat → ClassId) (N : Nat) (AD : Int → Nat) (C : Int → va_E) (sz : Nat) (th : Int) (pn : Int) (kc : Int) (tr : Int) (lc : Int) (fa : Int) (fb : Int) (mn : Int) (mr : Int) (ma : Int) (ab : Int) (bl : Int) (mz : Int → Int) (mw : Int → Int) (a : Int) (i : Int) (hN : 90 ≤ (N : Int)) (hM : C 82 = .inr (4, [.int (zI th), .int (zI pn), .ref (AD 83), .int (zI kc), .ref (AD 84), .ref (AD 85), .int (zI tr), .int (zI lc), .int (zI fa), .int (zI fb), .ref (AD 86), .ref (AD 87), .ref (AD 88), .int (zI mn), .int (zI mr), .int (zI ma), .long (zL ab), .long (zL bl)])) (h84 : C 84 = aI (k 0) 9 mz) (h85 : C 85 = aI (k 0) 216 mw) (hmz : ∀ i : Int, 0 ≤ i → i < 9 → 0 ≤ mz i ∧ mz i ≤ 24) (hkc : 0 ≤ kc ∧ kc ≤ 8) (ha : 0 ≤ a ∧ a < 9) (hi : 0 ≤ i ∧ i < mz a) (hok : MOK mw a (mz a)) : MI l y_M_even (Cond.code y_M_even b_M_even 7 (Option.some Jvm.ClassFile.FieldType.int) :: WS) rm_M_even D clW (tyW k) N AD C sz [.ref (AD 82), .int (zI a), .int (zI i)] (fun r C' => r = zI (evF (WM mw a) (mz a) i) ∧ C' = C) := by
  refine MI.start (cc := b_M_even) (maxL := 7) (rt := .int) (by decide) rfl (Nat.le_of_ble_eq_true rfl) ?_
  intro p e s m args below meth c Q ls hx hb hml hown hts hK hsz hw hl hret
  have hown : s.vm.findClass "RingMatchesModel" = some m.cls := hown
  have hl : lv_has ls 7 [(0, .ref (AD 82)), (1, .int (zI a)), (2, .int (zI i))] := hl
  have hA := wA_hi (N := N) (AD := AD) hsz
  obtain ⟨H, hH⟩ : ∃ H, H = s.heap := ⟨_, rfl⟩
  obtain ⟨locs, hlocs⟩ : ∃ z : List Loc, z = [] := ⟨_, rfl⟩
  have hw : WD D clW (wA N AD sz) s.heap H locs N AD C := by rw [hH, hlocs]; exact hw
  rw [← hlocs]
  suffices hgo : W p l e rm_M_even s m args below meth c H locs 0 0 Q (F0 m 0 ls []) by rw [hH] at hgo; exact hgo
  have hz9 := hmz a (by omega) (by omega)
  have hvi := hok i (by omega) (by omega)
  refine zr_iconst hx hb d_M_even_0 ?_
  refine lv_istore_n (lv' := [(3, .int (zI 0)), (0, .ref (AD 82)), (1, .int (zI a)), (2, .int (zI i))]) hx hb d_M_even_1 rfl hl (by decide) rfl (fun ls hl => ?_)
  refine zr_iconst hx hb d_M_even_2 ?_
  refine lv_istore (lv' := [(4, .int (zI 0)), (3, .int (zI 0)), (0, .ref (AD 82)), (1, .int (zI a)), (2, .int (zI i))]) hx hb d_M_even_3 hl (by decide) rfl (fun ls hl => ?_)
  refine lv_iload_n hx hb d_M_even_5 rfl (lv_at hl 4 rfl) ?_
  refine zr_iconst hx hb d_M_even_6 ?_
  refine zr_isub hx hb d_M_even_7 ?_
  refine lv_istore (lv' := [(5, .int (zI (i - 2))), (4, .int (zI 0)), (3, .int (zI 0)), (0, .ref (AD 82)), (1, .int (zI a)), (2, .int (zI i))]) hx hb d_M_even_8 hl (by decide) rfl (fun ls hl => ?_)
  have lp : ∀ (n9 : Nat) (x : Int) (sm : Int) (fd : Int) (H : Heap) (locs : List Loc) (ls : Array Slot), (i - 2 ≤ x ∧ x ≤ i + 3) → (sm = sumR (gS (WM mw a) (mz a)) (i - 2) (x - (i - 2)).toNat) → (fd = sumR (gF (WM mw a) (mz a)) (i - 2) (x - (i - 2)).toNat) → (0 ≤ sm ∧ sm ≤ 500 * (x - (i - 2))) → (0 ≤ fd ∧ fd ≤ x - (i - 2)) → (i + 3 - x).toNat < n9 → WD D clW (wA N AD sz) s.heap H locs N AD C → lv_has ls 7 [(0, .ref (AD 82)), (1, .int (zI a)), (2, .int (zI i)), (3, .int (zI sm)), (4, .int (zI fd)), (5, .int (zI x))] → W p l e rm_M_even s m args below meth c H locs 0 0 Q (F0 m 10 ls []) := by
    intro n9
    induction n9 with
    | zero => intro x sm fd H locs ls hx1 hs1 hf1 hs2 hf2  hm hw hl; exact absurd hm (by omega)
    | succ n9 ihlp =>
      intro x sm fd H locs ls hx1 hs1 hf1 hs2 hf2  hm hw hl
      refine lv_iload hx hb d_M_even_10 (lv_at hl 5 rfl) ?_
      refine lv_iload_n hx hb d_M_even_12 rfl (lv_at hl 2 rfl) ?_
      refine zr_iconst hx hb d_M_even_13 ?_
      refine zr_iadd hx hb d_M_even_14 ?_
      refine zr_icmp_gt (tgt := 92) hx hb ⟨by omega, by omega⟩ ⟨by omega, by omega⟩ d_M_even_15 (by decide) (fun c1 => ?_) (fun c1 => ?_)
      · refine lv_aload_n hx hb d_M_even_92 rfl (lv_at hl 0 rfl) ?_
        refine lv_iload_n hx hb d_M_even_93 rfl (lv_at hl 1 rfl) ?_
        refine lv_iload_n hx hb d_M_even_94 rfl (lv_at hl 2 rfl) ?_
        refine zr_callI (va_runV (As := [.int (zI a), .int (zI i)]) (rest := []) ⟨hx, hb, hml, hown, hts⟩ (c_M_widthOf l D k N AD C H.size th pn kc tr lc fa fb mn mr ma ab bl mw a i hN hM h85 ⟨by omega, by omega⟩) (cwV 2 hts (good_V wk_602 wk_604 wk_15 wk_31 wk_605) rfl rfl rfl (by decide +kernel) ⟨Nat.le_of_ble_eq_true rfl, Nat.le_of_ble_eq_true rfl⟩) (cPre_V hK hw 82 ⟨by omega, by omega⟩ hM rfl) rfl rfl hl.1 rfl (lv_room (Nat.le_of_ble_eq_true rfl)) d_M_even_95 ⟨Nat.le_of_ble_eq_true rfl, Nat.le_of_ble_eq_true rfl⟩) hw hA (fun r9 C3 H locs hq2 hw => ?_)
        obtain ⟨hr9, hCe⟩ := hq2
        rw [hCe] at hw; subst hr9
        refine zr_if_ne (tgt := 103) hx hb ⟨by omega, by omega⟩ d_M_even_98 (by decide) (fun c4 => ?_) (fun c4 => ?_)
        · have e5 : (x - (i - 2)).toNat = 5 := by omega
          rw [e5] at hs1 hf1
          have hs3 : sm = nS (WM mw a) (mz a) i := hs1
          have hf3 : fd = nF (WM mw a) (mz a) i := hf1
          have hWi : WM mw a i = mw (24 * a + i) := if_neg (by omega)
          have hp := nS_pos (MOK_W hok) hi.1 hi.2 (by omega)
          have hm0 : 0 ≤ 100 * mw (24 * a + i) * fd := Int.mul_nonneg (by omega) (by omega)
          have hm1 : 100 * mw (24 * a + i) * fd ≤ 50000 * 5 := Int.mul_le_mul (by omega) (by omega) (by omega) (by omega)
          have hd0 : 0 ≤ 100 * mw (24 * a + i) * fd / sm := Int.ediv_nonneg hm0 (by omega)
          have hd1 : 100 * mw (24 * a + i) * fd / sm ≤ 100 * mw (24 * a + i) * fd := Int.ediv_le_self _ hm0
          refine zr_bipush hx hb d_M_even_103 (by decide) ?_
          refine lv_aload_n hx hb d_M_even_105 rfl (lv_at hl 0 rfl) ?_
          refine lv_iload_n hx hb d_M_even_106 rfl (lv_at hl 1 rfl) ?_
          refine lv_iload_n hx hb d_M_even_107 rfl (lv_at hl 2 rfl) ?_
          refine zr_callI (va_runV (As := [.int (zI a), .int (zI i)]) (rest := [.int (zI 100)]) ⟨hx, hb, hml, hown, hts⟩ (c_M_widthOf l D k N AD C H.size th pn kc tr lc fa fb mn mr ma ab bl mw a i hN hM h85 ⟨by omega, by omega⟩) (cwV 2 hts (good_V wk_602 wk_604 wk_15 wk_31 wk_605) rfl rfl rfl (by decide +kernel) ⟨Nat.le_of_ble_eq_true rfl, Nat.le_of_ble_eq_true rfl⟩) (cPre_V hK hw 82 ⟨by omega, by omega⟩ hM rfl) rfl rfl hl.1 rfl (lv_room (Nat.le_of_ble_eq_true rfl)) d_M_even_108 ⟨Nat.le_of_ble_eq_true rfl, Nat.le_of_ble_eq_true rfl⟩) hw hA (fun r9 C6 H locs hq5 hw => ?_)
          obtain ⟨hr9, hCe⟩ := hq5
          rw [hCe] at hw; subst hr9
          refine zr_imul hx hb d_M_even_111 ?_
          refine lv_iload hx hb d_M_even_112 (lv_at hl 4 rfl) ?_
          refine zr_imul hx hb d_M_even_114 ?_
          refine lv_iload_n hx hb d_M_even_115 rfl (lv_at hl 3 rfl) ?_
          refine zr_idiv hx hb d_M_even_116 ⟨by omega, by omega⟩ ⟨by omega, by omega⟩ (by omega) (by omega) ?_
          refine lv_istore (lv' := [(5, .int (zI (((100 * (mw (24 * a + i))) * fd) / sm))), (0, .ref (AD 82)), (1, .int (zI a)), (2, .int (zI i)), (3, .int (zI sm)), (4, .int (zI fd))]) hx hb d_M_even_117 hl (by decide) rfl (fun ls hl => ?_)
          refine lv_iload hx hb d_M_even_119 (lv_at hl 0 rfl) ?_
          refine zr_sipush hx hb d_M_even_121 (by decide) ?_
          refine zr_icmp_le (tgt := 133) hx hb ⟨by omega, by omega⟩ ⟨by omega, by omega⟩ d_M_even_124 (by decide) (fun c7 => ?_) (fun c7 => ?_)
          · refine lv_iload hx hb d_M_even_133 (lv_at hl 0 rfl) ?_
            exact hret _ _ _ _ _ _ d_M_even_135 hw rfl ⟨by unfold evF; rw [hWi, if_neg (by omega), ← hs3, ← hf3]; congr 1; omega, rfl⟩
          · refine zr_sipush hx hb d_M_even_127 (by decide) ?_
            refine lv_goto (tgt := 135) hx hb d_M_even_130 (by decide) ?_
            exact hret _ _ _ _ _ _ d_M_even_135 hw rfl ⟨by unfold evF; rw [hWi, if_neg (by omega), ← hs3, ← hf3]; congr 1; omega, rfl⟩
        · refine zr_iconst hx hb d_M_even_101 ?_
          exact hret _ _ _ _ _ _ d_M_even_102 hw rfl ⟨by have hW0 : WM mw a i = -1 := if_pos (by omega); unfold evF; rw [if_pos hW0], rfl⟩
      · refine lv_iload hx hb d_M_even_18 (lv_at hl 5 rfl) ?_
        refine zr_if_lt (tgt := 48) hx hb ⟨by omega, by omega⟩ d_M_even_20 (by decide) (fun c8 => ?_) (fun c8 => ?_)
        · refine zr_iconst hx hb d_M_even_48 ?_
          have hg9 := gMf (j := x) hok (by omega)
          refine lv_istore (lv' := [(6, .int (zI 0)), (0, .ref (AD 82)), (1, .int (zI a)), (2, .int (zI i)), (3, .int (zI sm)), (4, .int (zI fd)), (5, .int (zI x))]) hx hb d_M_even_49 hl (by decide) rfl (fun ls hl => ?_)
          refine lv_iload hx hb d_M_even_51 (lv_at hl 0 rfl) ?_
          refine zr_if_eq (tgt := 68) hx hb ⟨by omega, by omega⟩ d_M_even_53 (by decide) (fun c9 => ?_) (fun c9 => absurd c9 (by decide))
          refine lv_iload_n hx hb d_M_even_68 rfl (lv_at hl 4 rfl) ?_
          refine lv_istore_n (lv' := [(3, .int (zI sm)), (6, .int (zI 0)), (0, .ref (AD 82)), (1, .int (zI a)), (2, .int (zI i)), (4, .int (zI fd)), (5, .int (zI x))]) hx hb d_M_even_69 rfl hl (by decide) rfl (fun ls hl => ?_)
          refine lv_iload hx hb d_M_even_70 (lv_at hl 1 rfl) ?_
          refine zr_if_eq (tgt := 82) hx hb ⟨by omega, by omega⟩ d_M_even_72 (by decide) (fun c10 => ?_) (fun c9 => absurd c9 (by decide))
          refine lv_iload hx hb d_M_even_82 (lv_at hl 5 rfl) ?_
          refine lv_istore (lv' := [(4, .int (zI fd)), (3, .int (zI sm)), (6, .int (zI 0)), (0, .ref (AD 82)), (1, .int (zI a)), (2, .int (zI i)), (5, .int (zI x))]) hx hb d_M_even_84 hl (by decide) rfl (fun ls hl => ?_)
          refine lv_iinc (v := zI (x + 1)) (lv' := [(5, .int (zI (x + 1))), (4, .int (zI fd)), (3, .int (zI sm)), (6, .int (zI 0)), (0, .ref (AD 82)), (1, .int (zI a)), (2, .int (zI i))]) hx hb d_M_even_86 hl (k := 6) rfl (zI_add _ _) (by decide) rfl (fun ls hl => ?_)
          refine lv_goto (tgt := 10) hx hb d_M_even_89 (by decide) ?_
          exact ihlp (x + 1) sm fd H locs ls (by omega) (by rw [sumR_step _ (by omega), ← hs1, hg9.1]; omega) (by rw [sumR_step _ (by omega), ← hf1, hg9.2]; omega) (by omega) (by omega)  (by omega) hw (lv_sub hl [4, 5, 6, 2, 1, 0] rfl)
        · refine lv_iload hx hb d_M_even_23 (lv_at hl 5 rfl) ?_
          refine lv_aload_n hx hb d_M_even_25 rfl (lv_at hl 0 rfl) ?_
          refine zr_get (v := .ref (AD 84)) hx hb hts iw_M hown hK hw 82 ⟨by omega, by omega⟩ hM rfl 4 (by decide) (hts _ wk_510) (fun _ h => h) rfl d_M_even_26 ?_
          refine lv_iload_n hx hb d_M_even_29 rfl (lv_at hl 1 rfl) ?_
          refine zr_iald hx hb hK hw 84 ⟨by omega, by omega⟩ 0 h84 rfl ⟨by omega, by omega⟩ (by decide) d_M_even_30 ?_
          refine zr_icmp_ge (tgt := 48) hx hb ⟨by omega, by omega⟩ ⟨by omega, by omega⟩ d_M_even_31 (by decide) (fun c11 => ?_) (fun c11 => ?_)
          · refine zr_iconst hx hb d_M_even_48 ?_
            have hg9 := gMf (j := x) hok (by omega)
            refine lv_istore (lv' := [(6, .int (zI 0)), (0, .ref (AD 82)), (1, .int (zI a)), (2, .int (zI i)), (3, .int (zI sm)), (4, .int (zI fd)), (5, .int (zI x))]) hx hb d_M_even_49 hl (by decide) rfl (fun ls hl => ?_)
            refine lv_iload hx hb d_M_even_51 (lv_at hl 0 rfl) ?_
            refine zr_if_eq (tgt := 68) hx hb ⟨by omega, by omega⟩ d_M_even_53 (by decide) (fun c12 => ?_) (fun c9 => absurd c9 (by decide))
            refine lv_iload_n hx hb d_M_even_68 rfl (lv_at hl 4 rfl) ?_
            refine lv_istore_n (lv' := [(3, .int (zI sm)), (6, .int (zI 0)), (0, .ref (AD 82)), (1, .int (zI a)), (2, .int (zI i)), (4, .int (zI fd)), (5, .int (zI x))]) hx hb d_M_even_69 rfl hl (by decide) rfl (fun ls hl => ?_)
            refine lv_iload hx hb d_M_even_70 (lv_at hl 1 rfl) ?_
            refine zr_if_eq (tgt := 82) hx hb ⟨by omega, by omega⟩ d_M_even_72 (by decide) (fun c13 => ?_) (fun c9 => absurd c9 (by decide))
            refine lv_iload hx hb d_M_even_82 (lv_at hl 5 rfl) ?_
            refine lv_istore (lv' := [(4, .int (zI fd)), (3, .int (zI sm)), (6, .int (zI 0)), (0, .ref (AD 82)), (1, .int (zI a)), (2, .int (zI i)), (5, .int (zI x))]) hx hb d_M_even_84 hl (by decide) rfl (fun ls hl => ?_)
            refine lv_iinc (v := zI (x + 1)) (lv' := [(5, .int (zI (x + 1))), (4, .int (zI fd)), (3, .int (zI sm)), (6, .int (zI 0)), (0, .ref (AD 82)), (1, .int (zI a)), (2, .int (zI i))]) hx hb d_M_even_86 hl (k := 6) rfl (zI_add _ _) (by decide) rfl (fun ls hl => ?_)
            refine lv_goto (tgt := 10) hx hb d_M_even_89 (by decide) ?_
            exact ihlp (x + 1) sm fd H locs ls (by omega) (by rw [sumR_step _ (by omega), ← hs1, hg9.1]; omega) (by rw [sumR_step _ (by omega), ← hf1, hg9.2]; omega) (by omega) (by omega)  (by omega) hw (lv_sub hl [4, 5, 6, 2, 1, 0] rfl)
          · refine lv_aload_n hx hb d_M_even_34 rfl (lv_at hl 0 rfl) ?_
            refine lv_iload_n hx hb d_M_even_35 rfl (lv_at hl 1 rfl) ?_
            refine lv_iload hx hb d_M_even_36 (lv_at hl 5 rfl) ?_
            refine zr_callI (va_runV (As := [.int (zI a), .int (zI x)]) (rest := []) ⟨hx, hb, hml, hown, hts⟩ (c_M_widthOf l D k N AD C H.size th pn kc tr lc fa fb mn mr ma ab bl mw a x hN hM h85 ⟨by omega, by omega⟩) (cwV 2 hts (good_V wk_602 wk_604 wk_15 wk_31 wk_605) rfl rfl rfl (by decide +kernel) ⟨Nat.le_of_ble_eq_true rfl, Nat.le_of_ble_eq_true rfl⟩) (cPre_V hK hw 82 ⟨by omega, by omega⟩ hM rfl) rfl rfl hl.1 rfl (lv_room (Nat.le_of_ble_eq_true rfl)) d_M_even_38 ⟨Nat.le_of_ble_eq_true rfl, Nat.le_of_ble_eq_true rfl⟩) hw hA (fun r9 C15 H locs hq14 hw => ?_)
            obtain ⟨hr9, hCe⟩ := hq14
            rw [hCe] at hw; subst hr9
            have hvx := hok x (by omega) (by omega)
            refine zr_if_le (tgt := 48) hx hb ⟨by omega, by omega⟩ d_M_even_41 (by decide) (fun c16 => ?_) (fun c16 => ?_)
            · refine zr_iconst hx hb d_M_even_48 ?_
              have hg9 := gMf (j := x) hok (by omega)
              refine lv_istore (lv' := [(6, .int (zI 0)), (0, .ref (AD 82)), (1, .int (zI a)), (2, .int (zI i)), (3, .int (zI sm)), (4, .int (zI fd)), (5, .int (zI x))]) hx hb d_M_even_49 hl (by decide) rfl (fun ls hl => ?_)
              refine lv_iload hx hb d_M_even_51 (lv_at hl 0 rfl) ?_
              refine zr_if_eq (tgt := 68) hx hb ⟨by omega, by omega⟩ d_M_even_53 (by decide) (fun c17 => ?_) (fun c9 => absurd c9 (by decide))
              refine lv_iload_n hx hb d_M_even_68 rfl (lv_at hl 4 rfl) ?_
              refine lv_istore_n (lv' := [(3, .int (zI sm)), (6, .int (zI 0)), (0, .ref (AD 82)), (1, .int (zI a)), (2, .int (zI i)), (4, .int (zI fd)), (5, .int (zI x))]) hx hb d_M_even_69 rfl hl (by decide) rfl (fun ls hl => ?_)
              refine lv_iload hx hb d_M_even_70 (lv_at hl 1 rfl) ?_
              refine zr_if_eq (tgt := 82) hx hb ⟨by omega, by omega⟩ d_M_even_72 (by decide) (fun c18 => ?_) (fun c9 => absurd c9 (by decide))
              refine lv_iload hx hb d_M_even_82 (lv_at hl 5 rfl) ?_
              refine lv_istore (lv' := [(4, .int (zI fd)), (3, .int (zI sm)), (6, .int (zI 0)), (0, .ref (AD 82)), (1, .int (zI a)), (2, .int (zI i)), (5, .int (zI x))]) hx hb d_M_even_84 hl (by decide) rfl (fun ls hl => ?_)
              refine lv_iinc (v := zI (x + 1)) (lv' := [(5, .int (zI (x + 1))), (4, .int (zI fd)), (3, .int (zI sm)), (6, .int (zI 0)), (0, .ref (AD 82)), (1, .int (zI a)), (2, .int (zI i))]) hx hb d_M_even_86 hl (k := 6) rfl (zI_add _ _) (by decide) rfl (fun ls hl => ?_)
              refine lv_goto (tgt := 10) hx hb d_M_even_89 (by decide) ?_
              exact ihlp (x + 1) sm fd H locs ls (by omega) (by rw [sumR_step _ (by omega), ← hs1, hg9.1]; omega) (by rw [sumR_step _ (by omega), ← hf1, hg9.2]; omega) (by omega) (by omega)  (by omega) hw (lv_sub hl [4, 5, 6, 2, 1, 0] rfl)
            · refine zr_iconst hx hb d_M_even_44 ?_
              refine lv_goto (tgt := 49) hx hb d_M_even_45 (by decide) ?_
              have hg9 := gMt (mw := mw) (i := a) (n := mz a) (j := x) (by omega)
              refine lv_istore (lv' := [(6, .int (zI 1)), (0, .ref (AD 82)), (1, .int (zI a)), (2, .int (zI i)), (3, .int (zI sm)), (4, .int (zI fd)), (5, .int (zI x))]) hx hb d_M_even_49 hl (by decide) rfl (fun ls hl => ?_)
              refine lv_iload hx hb d_M_even_51 (lv_at hl 0 rfl) ?_
              refine zr_if_eq (tgt := 68) hx hb ⟨by omega, by omega⟩ d_M_even_53 (by decide) (fun c9 => absurd c9 (by decide)) (fun c19 => ?_)
              refine lv_iload_n hx hb d_M_even_56 rfl (lv_at hl 4 rfl) ?_
              refine lv_aload_n hx hb d_M_even_57 rfl (lv_at hl 1 rfl) ?_
              refine lv_iload_n hx hb d_M_even_58 rfl (lv_at hl 2 rfl) ?_
              refine lv_iload hx hb d_M_even_59 (lv_at hl 6 rfl) ?_
              refine zr_callI (va_runV (As := [.int (zI a), .int (zI x)]) (rest := [.int (zI sm)]) ⟨hx, hb, hml, hown, hts⟩ (c_M_widthOf l D k N AD C H.size th pn kc tr lc fa fb mn mr ma ab bl mw a x hN hM h85 ⟨by omega, by omega⟩) (cwV 2 hts (good_V wk_602 wk_604 wk_15 wk_31 wk_605) rfl rfl rfl (by decide +kernel) ⟨Nat.le_of_ble_eq_true rfl, Nat.le_of_ble_eq_true rfl⟩) (cPre_V hK hw 82 ⟨by omega, by omega⟩ hM rfl) rfl rfl hl.1 rfl (lv_room (Nat.le_of_ble_eq_true rfl)) d_M_even_61 ⟨Nat.le_of_ble_eq_true rfl, Nat.le_of_ble_eq_true rfl⟩) hw hA (fun r9 C21 H locs hq20 hw => ?_)
              obtain ⟨hr9, hCe⟩ := hq20
              rw [hCe] at hw; subst hr9
              refine zr_iadd hx hb d_M_even_64 ?_
              refine lv_goto (tgt := 69) hx hb d_M_even_65 (by decide) ?_
              refine lv_istore_n (lv' := [(3, .int (zI (sm + (mw (24 * a + x))))), (6, .int (zI 1)), (0, .ref (AD 82)), (1, .int (zI a)), (2, .int (zI i)), (4, .int (zI fd)), (5, .int (zI x))]) hx hb d_M_even_69 rfl hl (by decide) rfl (fun ls hl => ?_)
              refine lv_iload hx hb d_M_even_70 (lv_at hl 1 rfl) ?_
              refine zr_if_eq (tgt := 82) hx hb ⟨by omega, by omega⟩ d_M_even_72 (by decide) (fun c9 => absurd c9 (by decide)) (fun c22 => ?_)
              refine lv_iload hx hb d_M_even_75 (lv_at hl 5 rfl) ?_
              refine zr_iconst hx hb d_M_even_77 ?_
              refine zr_iadd hx hb d_M_even_78 ?_
              refine lv_goto (tgt := 84) hx hb d_M_even_79 (by decide) ?_
              refine lv_istore (lv' := [(4, .int (zI (fd + 1))), (3, .int (zI (sm + (mw (24 * a + x))))), (6, .int (zI 1)), (0, .ref (AD 82)), (1, .int (zI a)), (2, .int (zI i)), (5, .int (zI x))]) hx hb d_M_even_84 hl (by decide) rfl (fun ls hl => ?_)
              refine lv_iinc (v := zI (x + 1)) (lv' := [(5, .int (zI (x + 1))), (4, .int (zI (fd + 1))), (3, .int (zI (sm + (mw (24 * a + x))))), (6, .int (zI 1)), (0, .ref (AD 82)), (1, .int (zI a)), (2, .int (zI i))]) hx hb d_M_even_86 hl (k := 6) rfl (zI_add _ _) (by decide) rfl (fun ls hl => ?_)
              refine lv_goto (tgt := 10) hx hb d_M_even_89 (by decide) ?_
              exact ihlp (x + 1) (sm + (mw (24 * a + x))) (fd + 1) H locs ls (by omega) (by rw [sumR_step _ (by omega), ← hs1, hg9.1]) (by rw [sumR_step _ (by omega), ← hf1, hg9.2]) (by omega) (by omega)  (by omega) hw (lv_sub hl [4, 5, 6, 2, 1, 0] rfl)
  exact lp ((i + 3 - (i - 2) : Int).toNat + 1) (i - 2) 0 0 H locs ls (by omega) (sumR_self _ _).symm (sumR_self _ _).symm (by omega) (by omega)  (by omega) hw (lv_sub hl [3, 4, 5, 2, 1, 0] rfl)
abbrev rm_M_evened : Room := { frames := 2, cells := 0, slots := 0, locals := 48 }
set_option maxHeartbeats 4000000 in
set_option maxRecDepth 100000 in
theorem c_M_evened (l : Launch) (D : va_G) (k : Nat → ClassId) (N : Nat) (AD : Int → Nat) (C : Int → va_E) (sz : Nat) (th : Int) (pn : Int) (kc : Int) (tr : Int) (lc : Int) (fa : Int) (fb : Int) (mn : Int) (mr : Int) (ma : Int) (ab : Int) (bl : Int) (mz : Int → Int) (mw : Int → Int) (a : Int) (i : Int) (hN : 90 ≤ (N : Int)) (hM : C 82 = .inr (4, [.int (zI th), .int (zI pn), .ref (AD 83), .int (zI kc), .ref (AD 84), .ref (AD 85), .int (zI tr), .int (zI lc), .int (zI fa), .int (zI fb), .ref (AD 86), .ref (AD 87), .ref (AD 88), .int (zI mn), .int (zI mr), .int (zI ma), .long (zL ab), .long (zL bl)])) (h84 : C 84 = aI (k 0) 9 mz) (h85 : C 85 = aI (k 0) 216 mw) (hmz : ∀ i : Int, 0 ≤ i → i < 9 → 0 ≤ mz i ∧ mz i ≤ 24) (hkc : 0 ≤ kc ∧ kc ≤ 8) (hok : ∀ i : Int, 0 ≤ i → i < kc → MOK mw i (mz i)) (ha : inI a) (hi : inI i) : MI l y_M_evened (Cond.code y_M_evened b_M_evened 3 (Option.some Jvm.ClassFile.FieldType.int) :: WS) rm_M_evened D clW (tyW k) N AD C sz [.ref (AD 82), .int (zI a), .int (zI i)] (fun r C' => (((0 ≤ a ∧ a < kc) ∧ (0 ≤ i ∧ i < mz a)) ∧ r = zI (xV (WM mw a) (mz a) i) ∧ C' 82 = .inr (4, [.int (zI 0), .int (zI pn), .ref (AD 83), .int (zI kc), .ref (AD 84), .ref (AD 85), .int (zI tr), .int (zI lc), .int (zI fa), .int (zI fb), .ref (AD 86), .ref (AD 87), .ref (AD 88), .int (zI mn), .int (zI mr), .int (zI ma), .long (zL ab), .long (zL bl)]) ∨ ¬ ((0 ≤ a ∧ a < kc) ∧ (0 ≤ i ∧ i < mz a)) ∧ C' 82 = .inr (4, [.int (zI 1), .int (zI pn), .ref (AD 83), .int (zI kc), .ref (AD 84), .ref (AD 85), .int (zI tr), .int (zI lc), .int (zI fa), .int (zI fb), .ref (AD 86), .ref (AD 87), .ref (AD 88), .int (zI mn), .int (zI mr), .int (zI ma), .long (zL ab), .long (zL bl)])) ∧ ∀ j : Int, j ≠ 82 → C' j = C j) := by
  refine MI.start (cc := b_M_evened) (maxL := 3) (rt := .int) (by decide) rfl (Nat.le_of_ble_eq_true rfl) ?_
  intro p e s m args below meth c Q ls hx hb hml hown hts hK hsz hw hl hret
  have hown : s.vm.findClass "RingMatchesModel" = some m.cls := hown
  have hl : lv_has ls 3 [(0, .ref (AD 82)), (1, .int (zI a)), (2, .int (zI i))] := hl
  have hA := wA_hi (N := N) (AD := AD) hsz
  obtain ⟨H, hH⟩ : ∃ H, H = s.heap := ⟨_, rfl⟩
  obtain ⟨locs, hlocs⟩ : ∃ z : List Loc, z = [] := ⟨_, rfl⟩
  have hw : WD D clW (wA N AD sz) s.heap H locs N AD C := by rw [hH, hlocs]; exact hw
  rw [← hlocs]
  suffices hgo : W p l e rm_M_evened s m args below meth c H locs 0 0 Q (F0 m 0 ls []) by rw [hH] at hgo; exact hgo
  refine lv_aload_n hx hb d_M_evened_0 rfl (lv_at hl 0 rfl) ?_
  refine lv_aload_n hx hb d_M_evened_1 rfl (lv_at hl 0 rfl) ?_
  refine lv_iload_n hx hb d_M_evened_2 rfl (lv_at hl 1 rfl) ?_
  refine zr_callI (va_runV (As := [.int (zI a)]) (rest := [.ref (AD 82)]) ⟨hx, hb, hml, hown, hts⟩ (c_M_isSeries l D k N AD C H.size th pn kc tr lc fa fb mn mr ma ab bl a hN hM ⟨by omega, by omega⟩ (by omega)) (cwV 1 hts (good_V wk_598 wk_600 wk_14 wk_31 wk_601) rfl rfl rfl (by decide +kernel) ⟨Nat.le_of_ble_eq_true rfl, Nat.le_of_ble_eq_true rfl⟩) (cPre_V hK hw 82 ⟨by omega, by omega⟩ hM rfl) rfl rfl hl.1 rfl (lv_room (Nat.le_of_ble_eq_true rfl)) d_M_evened_3 ⟨Nat.le_of_ble_eq_true rfl, Nat.le_of_ble_eq_true rfl⟩) hw hA (fun r9 C2 H locs hq1 hw => ?_)
  obtain ⟨hq1, hCe⟩ := hq1
  rw [hCe] at hw
  rcases hq1 with ⟨hr9, hq1⟩ | ⟨hr9, hq1⟩ <;> subst hr9
  · refine zr_if_eq (tgt := 41) hx hb ⟨by omega, by omega⟩ d_M_evened_6 (by decide) (fun c9 => absurd c9 (by decide)) (fun c3 => ?_)
    refine lv_iload_n hx hb d_M_evened_9 rfl (lv_at hl 2 rfl) ?_
    refine zr_iconst hx hb d_M_evened_10 ?_
    refine lv_aload_n hx hb d_M_evened_11 rfl (lv_at hl 0 rfl) ?_
    refine lv_iload_n hx hb d_M_evened_12 rfl (lv_at hl 1 rfl) ?_
    refine zr_callI (va_runV (As := [.int (zI a)]) (rest := [.int (zI 0), .int (zI i), .ref (AD 82)]) ⟨hx, hb, hml, hown, hts⟩ (c_M_isSeries l D k N AD C H.size th pn kc tr lc fa fb mn mr ma ab bl a hN hM ⟨by omega, by omega⟩ (by omega)) (cwV 1 hts (good_V wk_598 wk_600 wk_14 wk_31 wk_601) rfl rfl rfl (by decide +kernel) ⟨Nat.le_of_ble_eq_true rfl, Nat.le_of_ble_eq_true rfl⟩) (cPre_V hK hw 82 ⟨by omega, by omega⟩ hM rfl) rfl rfl hl.1 rfl (lv_room (Nat.le_of_ble_eq_true rfl)) d_M_evened_13 ⟨Nat.le_of_ble_eq_true rfl, Nat.le_of_ble_eq_true rfl⟩) hw hA (fun r9 C5 H locs hq4 hw => ?_)
    obtain ⟨hq4, hCe⟩ := hq4
    rw [hCe] at hw
    rcases hq4 with ⟨hr9, hq4⟩ | ⟨hr9, hq4⟩ <;> subst hr9
    · refine zr_if_eq (tgt := 30) hx hb ⟨by omega, by omega⟩ d_M_evened_16 (by decide) (fun c9 => absurd c9 (by decide)) (fun c6 => ?_)
      refine lv_aload_n hx hb d_M_evened_19 rfl (lv_at hl 0 rfl) ?_
      refine zr_get (v := .ref (AD 84)) hx hb hts iw_M hown hK hw 82 ⟨by omega, by omega⟩ hM rfl 4 (by decide) (hts _ wk_510) (fun _ h => h) rfl d_M_evened_20 ?_
      refine lv_iload_n hx hb d_M_evened_23 rfl (lv_at hl 1 rfl) ?_
      have hz9 := hmz a (by omega) (by omega)
      refine zr_iald hx hb hK hw 84 ⟨by omega, by omega⟩ 0 h84 rfl ⟨by omega, by omega⟩ (by decide) d_M_evened_24 ?_
      refine zr_iconst hx hb d_M_evened_25 ?_
      refine zr_isub hx hb d_M_evened_26 ?_
      refine lv_goto (tgt := 31) hx hb d_M_evened_27 (by decide) ?_
      refine zr_callI (va_runS (As := [.int (zI i), .int (zI 0), .int (zI ((mz a) - 1))]) (rest := [.ref (AD 82)]) ⟨hx, hb, hml, hown, hts⟩ (c_M_within l D k N AD C H.size i 0 ((mz a) - 1) ⟨by omega, by omega⟩ ⟨by omega, by omega⟩ ⟨by omega, by omega⟩) (va_cwS 3 hts (good_S wk_572 wk_573 wk_31 wk_574) rfl rfl rfl (by decide +kernel) ⟨Nat.le_of_ble_eq_true rfl, Nat.le_of_ble_eq_true rfl⟩) (cPre_S hK hw) rfl rfl hl.1 rfl (lv_room (Nat.le_of_ble_eq_true rfl)) d_M_evened_31 ⟨Nat.le_of_ble_eq_true rfl, Nat.le_of_ble_eq_true rfl⟩) hw hA (fun r9 C8 H locs hq7 hw => ?_)
      obtain ⟨hq7, hCe⟩ := hq7
      rw [hCe] at hw
      rcases hq7 with ⟨hr9, hq7⟩ | ⟨hr9, hq7⟩ <;> subst hr9
      · refine zr_if_eq (tgt := 41) hx hb ⟨by omega, by omega⟩ d_M_evened_34 (by decide) (fun c9 => absurd c9 (by decide)) (fun c9 => ?_)
        refine zr_iconst hx hb d_M_evened_37 ?_
        refine lv_goto (tgt := 42) hx hb d_M_evened_38 (by decide) ?_
        refine zr_iconst hx hb d_M_evened_42 ?_
        refine zr_iconst hx hb d_M_evened_43 ?_
        refine zr_callI (va_runV (As := [.int (zI 1), .int (zI 1), .int (zI 1)]) (rest := []) ⟨hx, hb, hml, hown, hts⟩ (c_M_goes l D k N AD C H.size th pn kc tr lc fa fb mn mr ma ab bl 1 1 1 0 1 hN hM (by decide) (by decide) (by decide) (by decide) (by decide)) (cwV 3 hts (good_V wk_578 wk_580 wk_11 wk_31 wk_581) rfl rfl rfl (by decide +kernel) ⟨Nat.le_of_ble_eq_true rfl, Nat.le_of_ble_eq_true rfl⟩) (cPre_V hK hw 82 ⟨by omega, by omega⟩ hM rfl) rfl rfl hl.1 rfl (lv_room (Nat.le_of_ble_eq_true rfl)) d_M_evened_44 ⟨Nat.le_of_ble_eq_true rfl, Nat.le_of_ble_eq_true rfl⟩) hw hA (fun r9 C10 H locs hq11 hw => ?_)
        obtain ⟨hr9, hq11a, frC10⟩ := hq11
        subst hr9
        have hM : C10 82 = .inr (4, [.int (zI 0), .int (zI pn), .ref (AD 83), .int (zI kc), .ref (AD 84), .ref (AD 85), .int (zI tr), .int (zI lc), .int (zI fa), .int (zI fb), .ref (AD 86), .ref (AD 87), .ref (AD 88), .int (zI mn), .int (zI mr), .int (zI ma), .long (zL ab), .long (zL bl)]) := hq11a
        have h84 : C10 84 = aI (k 0) 9 mz := (frC10 _ (by omega)).trans h84
        have h85 : C10 85 = aI (k 0) 216 mw := (frC10 _ (by omega)).trans h85
        refine zr_if_eq (tgt := 59) hx hb ⟨by omega, by omega⟩ d_M_evened_47 (by decide) (fun c9 => absurd c9 (by decide)) (fun c12 => ?_)
        refine lv_aload_n hx hb d_M_evened_50 rfl (lv_at hl 0 rfl) ?_
        refine lv_iload_n hx hb d_M_evened_51 rfl (lv_at hl 1 rfl) ?_
        refine lv_iload_n hx hb d_M_evened_52 rfl (lv_at hl 2 rfl) ?_
        refine zr_callI (va_runV (As := [.int (zI a), .int (zI i)]) (rest := []) ⟨hx, hb, hml, hown, hts⟩ (c_M_even l D k N AD C10 H.size 0 pn kc tr lc fa fb mn mr ma ab bl mz mw a i hN hM h84 h85 hmz (by omega) ⟨by omega, by omega⟩ ⟨by omega, by omega⟩ (hok a (by omega) (by omega))) (cwV 2 hts (good_V wk_618 wk_620 wk_17 wk_31 wk_621) rfl rfl rfl (by decide +kernel) ⟨Nat.le_of_ble_eq_true rfl, Nat.le_of_ble_eq_true rfl⟩) (cPre_V hK hw 82 ⟨by omega, by omega⟩ hM rfl) rfl rfl hl.1 rfl (lv_room (Nat.le_of_ble_eq_true rfl)) d_M_evened_53 ⟨Nat.le_of_ble_eq_true rfl, Nat.le_of_ble_eq_true rfl⟩) hw hA (fun r9 C14 H locs hq13 hw => ?_)
        obtain ⟨hr9, hCe⟩ := hq13
        rw [hCe] at hw; subst hr9
        refine lv_goto (tgt := 60) hx hb d_M_evened_56 (by decide) ?_
        exact hret _ _ _ _ _ _ d_M_evened_60 hw rfl ⟨Or.inl ⟨by omega, by unfold xV; rw [wAt_in (by omega)], hM⟩, fun j hj => by rw [frC10 _ (by omega)]⟩
      · refine zr_if_eq (tgt := 41) hx hb ⟨by omega, by omega⟩ d_M_evened_34 (by decide) (fun c15 => ?_) (fun c9 => absurd c9 (by decide))
        refine zr_iconst hx hb d_M_evened_41 ?_
        refine zr_iconst hx hb d_M_evened_42 ?_
        refine zr_iconst hx hb d_M_evened_43 ?_
        refine zr_callI (va_runV (As := [.int (zI 0), .int (zI 1), .int (zI 1)]) (rest := []) ⟨hx, hb, hml, hown, hts⟩ (c_M_goes l D k N AD C H.size th pn kc tr lc fa fb mn mr ma ab bl 0 1 1 1 0 hN hM (by decide) (by decide) (by decide) (by decide) (by decide)) (cwV 3 hts (good_V wk_578 wk_580 wk_11 wk_31 wk_581) rfl rfl rfl (by decide +kernel) ⟨Nat.le_of_ble_eq_true rfl, Nat.le_of_ble_eq_true rfl⟩) (cPre_V hK hw 82 ⟨by omega, by omega⟩ hM rfl) rfl rfl hl.1 rfl (lv_room (Nat.le_of_ble_eq_true rfl)) d_M_evened_44 ⟨Nat.le_of_ble_eq_true rfl, Nat.le_of_ble_eq_true rfl⟩) hw hA (fun r9 C16 H locs hq17 hw => ?_)
        obtain ⟨hr9, hq17a, frC16⟩ := hq17
        subst hr9
        have hM : C16 82 = .inr (4, [.int (zI 1), .int (zI pn), .ref (AD 83), .int (zI kc), .ref (AD 84), .ref (AD 85), .int (zI tr), .int (zI lc), .int (zI fa), .int (zI fb), .ref (AD 86), .ref (AD 87), .ref (AD 88), .int (zI mn), .int (zI mr), .int (zI ma), .long (zL ab), .long (zL bl)]) := hq17a
        have h84 : C16 84 = aI (k 0) 9 mz := (frC16 _ (by omega)).trans h84
        have h85 : C16 85 = aI (k 0) 216 mw := (frC16 _ (by omega)).trans h85
        refine zr_if_eq (tgt := 59) hx hb ⟨by omega, by omega⟩ d_M_evened_47 (by decide) (fun c18 => ?_) (fun c9 => absurd c9 (by decide))
        refine zr_iconst hx hb d_M_evened_59 ?_
        exact hret _ _ _ _ _ _ d_M_evened_60 hw rfl ⟨Or.inr ⟨by omega, hM⟩, fun j hj => by rw [frC16 _ (by omega)]⟩
    · exact absurd hq4 (by omega)
  · refine zr_if_eq (tgt := 41) hx hb ⟨by omega, by omega⟩ d_M_evened_6 (by decide) (fun c19 => ?_) (fun c9 => absurd c9 (by decide))
    refine zr_iconst hx hb d_M_evened_41 ?_
    refine zr_iconst hx hb d_M_evened_42 ?_
    refine zr_iconst hx hb d_M_evened_43 ?_
    refine zr_callI (va_runV (As := [.int (zI 0), .int (zI 1), .int (zI 1)]) (rest := []) ⟨hx, hb, hml, hown, hts⟩ (c_M_goes l D k N AD C H.size th pn kc tr lc fa fb mn mr ma ab bl 0 1 1 1 0 hN hM (by decide) (by decide) (by decide) (by decide) (by decide)) (cwV 3 hts (good_V wk_578 wk_580 wk_11 wk_31 wk_581) rfl rfl rfl (by decide +kernel) ⟨Nat.le_of_ble_eq_true rfl, Nat.le_of_ble_eq_true rfl⟩) (cPre_V hK hw 82 ⟨by omega, by omega⟩ hM rfl) rfl rfl hl.1 rfl (lv_room (Nat.le_of_ble_eq_true rfl)) d_M_evened_44 ⟨Nat.le_of_ble_eq_true rfl, Nat.le_of_ble_eq_true rfl⟩) hw hA (fun r9 C20 H locs hq21 hw => ?_)
    obtain ⟨hr9, hq21a, frC20⟩ := hq21
    subst hr9
    have hM : C20 82 = .inr (4, [.int (zI 1), .int (zI pn), .ref (AD 83), .int (zI kc), .ref (AD 84), .ref (AD 85), .int (zI tr), .int (zI lc), .int (zI fa), .int (zI fb), .ref (AD 86), .ref (AD 87), .ref (AD 88), .int (zI mn), .int (zI mr), .int (zI ma), .long (zL ab), .long (zL bl)]) := hq21a
    have h84 : C20 84 = aI (k 0) 9 mz := (frC20 _ (by omega)).trans h84
    have h85 : C20 85 = aI (k 0) 216 mw := (frC20 _ (by omega)).trans h85
    refine zr_if_eq (tgt := 59) hx hb ⟨by omega, by omega⟩ d_M_evened_47 (by decide) (fun c22 => ?_) (fun c9 => absurd c9 (by decide))
    refine zr_iconst hx hb d_M_evened_59 ?_
    exact hret _ _ _ _ _ _ d_M_evened_60 hw rfl ⟨Or.inr ⟨by omega, hM⟩, fun j hj => by rw [frC20 _ (by omega)]⟩
abbrev rm_M_isPair : Room := { frames := 1, cells := 0, slots := 0, locals := 22 }
set_option maxHeartbeats 4000000 in
set_option maxRecDepth 100000 in
theorem c_M_isPair (l : Launch) (D : va_G) (k : Nat → ClassId) (N : Nat) (AD : Int → Nat) (C : Int → va_E) (sz : Nat) (th : Int) (pn : Int) (kc : Int) (tr : Int) (lc : Int) (fa : Int) (fb : Int) (mn : Int) (mr : Int) (ma : Int) (ab : Int) (bl : Int) (mz : Int → Int) (mw : Int → Int) (a : Int) (b : Int) (s0 : Int) (i : Int) (hN : 90 ≤ (N : Int)) (hM : C 82 = .inr (4, [.int (zI th), .int (zI pn), .ref (AD 83), .int (zI kc), .ref (AD 84), .ref (AD 85), .int (zI tr), .int (zI lc), .int (zI fa), .int (zI fb), .ref (AD 86), .ref (AD 87), .ref (AD 88), .int (zI mn), .int (zI mr), .int (zI ma), .long (zL ab), .long (zL bl)])) (h84 : C 84 = aI (k 0) 9 mz) (h85 : C 85 = aI (k 0) 216 mw) (hmz : ∀ i : Int, 0 ≤ i → i < 9 → 0 ≤ mz i ∧ mz i ≤ 24) (hkc : 0 ≤ kc ∧ kc ≤ 8) (ha : 0 ≤ a ∧ a < 9) (hb9 : 0 ≤ b ∧ b < 9) (hs0 : -100 ≤ s0 ∧ s0 ≤ 100) (hi : -100 ≤ i ∧ i ≤ 100) (hok1 : MOK mw a (mz a)) (hok2 : MOK mw b (mz b)) : MI l y_M_isPair (Cond.code y_M_isPair b_M_isPair 6 (Option.some Jvm.ClassFile.FieldType.boolean) :: WS) rm_M_isPair D clW (tyW k) N AD C sz [.ref (AD 82), .int (zI a), .int (zI b), .int (zI s0), .int (zI i)] (fun r C' => (r = zI 1 ∧ (¬ wAt (WM mw a) (mz a) (i + s0) = -1 ∧ ¬ wAt (WM mw b) (mz b) i = -1) ∨ r = zI 0 ∧ ¬ (¬ wAt (WM mw a) (mz a) (i + s0) = -1 ∧ ¬ wAt (WM mw b) (mz b) i = -1)) ∧ C' = C) := by
  refine MI.start (cc := b_M_isPair) (maxL := 6) (rt := .boolean) (by decide) rfl (Nat.le_of_ble_eq_true rfl) ?_
  intro p e s m args below meth c Q ls hx hb hml hown hts hK hsz hw hl hret
  have hown : s.vm.findClass "RingMatchesModel" = some m.cls := hown
  have hl : lv_has ls 6 [(0, .ref (AD 82)), (1, .int (zI a)), (2, .int (zI b)), (3, .int (zI s0)), (4, .int (zI i))] := hl
  have hA := wA_hi (N := N) (AD := AD) hsz
  obtain ⟨H, hH⟩ : ∃ H, H = s.heap := ⟨_, rfl⟩
  obtain ⟨locs, hlocs⟩ : ∃ z : List Loc, z = [] := ⟨_, rfl⟩
  have hw : WD D clW (wA N AD sz) s.heap H locs N AD C := by rw [hH, hlocs]; exact hw
  rw [← hlocs]
  suffices hgo : W p l e rm_M_isPair s m args below meth c H locs 0 0 Q (F0 m 0 ls []) by rw [hH] at hgo; exact hgo
  have hz1 := hmz a (by omega) (by omega)
  have hz2 := hmz b (by omega) (by omega)
  have e1 := wAtM hok1 (i + s0)
  have e2 := wAtM hok2 i
  refine lv_iload hx hb d_M_isPair_0 (lv_at hl 4 rfl) ?_
  refine lv_iload_n hx hb d_M_isPair_2 rfl (lv_at hl 3 rfl) ?_
  refine zr_iadd hx hb d_M_isPair_3 ?_
  refine lv_istore (lv' := [(5, .int (zI (i + s0))), (0, .ref (AD 82)), (1, .int (zI a)), (2, .int (zI b)), (3, .int (zI s0)), (4, .int (zI i))]) hx hb d_M_isPair_4 hl (by decide) rfl (fun ls hl => ?_)
  refine lv_iload hx hb d_M_isPair_6 (lv_at hl 5 rfl) ?_
  refine zr_if_lt (tgt := 62) hx hb ⟨by omega, by omega⟩ d_M_isPair_8 (by decide) (fun c1 => ?_) (fun c1 => ?_)
  · refine zr_iconst hx hb d_M_isPair_62 ?_
    exact hret _ _ _ _ _ _ d_M_isPair_63 hw (by decide +kernel) ⟨Or.inr ⟨rfl, by omega⟩, rfl⟩
  · refine lv_iload hx hb d_M_isPair_11 (lv_at hl 5 rfl) ?_
    refine lv_aload_n hx hb d_M_isPair_13 rfl (lv_at hl 1 rfl) ?_
    refine zr_get (v := .ref (AD 84)) hx hb hts iw_M hown hK hw 82 ⟨by omega, by omega⟩ hM rfl 4 (by decide) (hts _ wk_510) (fun _ h => h) rfl d_M_isPair_14 ?_
    refine lv_iload_n hx hb d_M_isPair_17 rfl (lv_at hl 3 rfl) ?_
    refine zr_iald hx hb hK hw 84 ⟨by omega, by omega⟩ 0 h84 rfl ⟨by omega, by omega⟩ (by decide) d_M_isPair_18 ?_
    refine zr_icmp_ge (tgt := 62) hx hb ⟨by omega, by omega⟩ ⟨by omega, by omega⟩ d_M_isPair_19 (by decide) (fun c2 => ?_) (fun c2 => ?_)
    · refine zr_iconst hx hb d_M_isPair_62 ?_
      exact hret _ _ _ _ _ _ d_M_isPair_63 hw (by decide +kernel) ⟨Or.inr ⟨rfl, by omega⟩, rfl⟩
    · refine lv_iload hx hb d_M_isPair_22 (lv_at hl 0 rfl) ?_
      refine zr_if_lt (tgt := 62) hx hb ⟨by omega, by omega⟩ d_M_isPair_24 (by decide) (fun c3 => ?_) (fun c3 => ?_)
      · refine zr_iconst hx hb d_M_isPair_62 ?_
        exact hret _ _ _ _ _ _ d_M_isPair_63 hw (by decide +kernel) ⟨Or.inr ⟨rfl, by omega⟩, rfl⟩
      · refine lv_iload hx hb d_M_isPair_27 (lv_at hl 0 rfl) ?_
        refine lv_aload_n hx hb d_M_isPair_29 rfl (lv_at hl 1 rfl) ?_
        refine zr_get (v := .ref (AD 84)) hx hb hts iw_M hown hK hw 82 ⟨by omega, by omega⟩ hM rfl 4 (by decide) (hts _ wk_510) (fun _ h => h) rfl d_M_isPair_30 ?_
        refine lv_iload_n hx hb d_M_isPair_33 rfl (lv_at hl 2 rfl) ?_
        refine zr_iald hx hb hK hw 84 ⟨by omega, by omega⟩ 0 h84 rfl ⟨by omega, by omega⟩ (by decide) d_M_isPair_34 ?_
        refine zr_icmp_ge (tgt := 62) hx hb ⟨by omega, by omega⟩ ⟨by omega, by omega⟩ d_M_isPair_35 (by decide) (fun c4 => ?_) (fun c4 => ?_)
        · refine zr_iconst hx hb d_M_isPair_62 ?_
          exact hret _ _ _ _ _ _ d_M_isPair_63 hw (by decide +kernel) ⟨Or.inr ⟨rfl, by omega⟩, rfl⟩
        · refine lv_aload_n hx hb d_M_isPair_38 rfl (lv_at hl 1 rfl) ?_
          refine lv_iload_n hx hb d_M_isPair_39 rfl (lv_at hl 3 rfl) ?_
          refine lv_iload hx hb d_M_isPair_40 (lv_at hl 5 rfl) ?_
          refine zr_callI (va_runV (As := [.int (zI b), .int (zI i)]) (rest := []) ⟨hx, hb, hml, hown, hts⟩ (c_M_widthOf l D k N AD C H.size th pn kc tr lc fa fb mn mr ma ab bl mw b i hN hM h85 ⟨by omega, by omega⟩) (cwV 2 hts (good_V wk_602 wk_604 wk_15 wk_31 wk_605) rfl rfl rfl (by decide +kernel) ⟨Nat.le_of_ble_eq_true rfl, Nat.le_of_ble_eq_true rfl⟩) (cPre_V hK hw 82 ⟨by omega, by omega⟩ hM rfl) rfl rfl hl.1 rfl (lv_room (Nat.le_of_ble_eq_true rfl)) d_M_isPair_42 ⟨Nat.le_of_ble_eq_true rfl, Nat.le_of_ble_eq_true rfl⟩) hw hA (fun r9 C6 H locs hq5 hw => ?_)
          obtain ⟨hr9, hCe⟩ := hq5
          rw [hCe] at hw; subst hr9
          have hv2 := hok2 i (by omega) (by omega)
          refine zr_if_le (tgt := 62) hx hb ⟨by omega, by omega⟩ d_M_isPair_45 (by decide) (fun c7 => ?_) (fun c7 => ?_)
          · refine zr_iconst hx hb d_M_isPair_62 ?_
            exact hret _ _ _ _ _ _ d_M_isPair_63 hw (by decide +kernel) ⟨Or.inr ⟨rfl, by omega⟩, rfl⟩
          · refine lv_aload_n hx hb d_M_isPair_48 rfl (lv_at hl 1 rfl) ?_
            refine lv_iload_n hx hb d_M_isPair_49 rfl (lv_at hl 2 rfl) ?_
            refine lv_iload hx hb d_M_isPair_50 (lv_at hl 0 rfl) ?_
            refine zr_callI (va_runV (As := [.int (zI a), .int (zI (i + s0))]) (rest := []) ⟨hx, hb, hml, hown, hts⟩ (c_M_widthOf l D k N AD C H.size th pn kc tr lc fa fb mn mr ma ab bl mw a (i + s0) hN hM h85 ⟨by omega, by omega⟩) (cwV 2 hts (good_V wk_602 wk_604 wk_15 wk_31 wk_605) rfl rfl rfl (by decide +kernel) ⟨Nat.le_of_ble_eq_true rfl, Nat.le_of_ble_eq_true rfl⟩) (cPre_V hK hw 82 ⟨by omega, by omega⟩ hM rfl) rfl rfl hl.1 rfl (lv_room (Nat.le_of_ble_eq_true rfl)) d_M_isPair_52 ⟨Nat.le_of_ble_eq_true rfl, Nat.le_of_ble_eq_true rfl⟩) hw hA (fun r9 C9 H locs hq8 hw => ?_)
            obtain ⟨hr9, hCe⟩ := hq8
            rw [hCe] at hw; subst hr9
            have hv1 := hok1 (i + s0) (by omega) (by omega)
            refine zr_if_le (tgt := 62) hx hb ⟨by omega, by omega⟩ d_M_isPair_55 (by decide) (fun c10 => ?_) (fun c10 => ?_)
            · refine zr_iconst hx hb d_M_isPair_62 ?_
              exact hret _ _ _ _ _ _ d_M_isPair_63 hw (by decide +kernel) ⟨Or.inr ⟨rfl, by omega⟩, rfl⟩
            · refine zr_iconst hx hb d_M_isPair_58 ?_
              refine lv_goto (tgt := 63) hx hb d_M_isPair_59 (by decide) ?_
              exact hret _ _ _ _ _ _ d_M_isPair_63 hw (by decide +kernel) ⟨Or.inl ⟨rfl, by omega⟩, rfl⟩
abbrev rm_M_rise : Room := { frames := 1, cells := 0, slots := 0, locals := 22 }
set_option maxHeartbeats 4000000 in
set_option maxRecDepth 100000 in
theorem c_M_rise (l : Launch) (D : va_G) (k : Nat → ClassId) (N : Nat) (AD : Int → Nat) (C : Int → va_E) (sz : Nat) (th : Int) (pn : Int) (kc : Int) (tr : Int) (lc : Int) (fa : Int) (fb : Int) (mn : Int) (mr : Int) (ma : Int) (ab : Int) (bl : Int) (mz : Int → Int) (mw : Int → Int) (a : Int) (i : Int) (hN : 90 ≤ (N : Int)) (hM : C 82 = .inr (4, [.int (zI th), .int (zI pn), .ref (AD 83), .int (zI kc), .ref (AD 84), .ref (AD 85), .int (zI tr), .int (zI lc), .int (zI fa), .int (zI fb), .ref (AD 86), .ref (AD 87), .ref (AD 88), .int (zI mn), .int (zI mr), .int (zI ma), .long (zL ab), .long (zL bl)])) (h84 : C 84 = aI (k 0) 9 mz) (h85 : C 85 = aI (k 0) 216 mw) (hmz : ∀ i : Int, 0 ≤ i → i < 9 → 0 ≤ mz i ∧ mz i ≤ 24) (hkc : 0 ≤ kc ∧ kc ≤ 8) (ha : 0 ≤ a ∧ a < 9) (hok : MOK mw a (mz a)) (h1 : ¬ wAt (WM mw a) (mz a) i = -1) (h2 : ¬ wAt (WM mw a) (mz a) (i + 1) = -1) : MI l y_M_rise (Cond.code y_M_rise b_M_rise 4 (Option.some Jvm.ClassFile.FieldType.int) :: WS) rm_M_rise D clW (tyW k) N AD C sz [.ref (AD 82), .int (zI a), .int (zI i)] (fun r C' => r = zI (ris (WM mw a) (mz a) (i + 1)) ∧ C' = C) := by
  refine MI.start (cc := b_M_rise) (maxL := 4) (rt := .int) (by decide) rfl (Nat.le_of_ble_eq_true rfl) ?_
  intro p e s m args below meth c Q ls hx hb hml hown hts hK hsz hw hl hret
  have hown : s.vm.findClass "RingMatchesModel" = some m.cls := hown
  have hl : lv_has ls 4 [(0, .ref (AD 82)), (1, .int (zI a)), (2, .int (zI i))] := hl
  have hA := wA_hi (N := N) (AD := AD) hsz
  obtain ⟨H, hH⟩ : ∃ H, H = s.heap := ⟨_, rfl⟩
  obtain ⟨locs, hlocs⟩ : ∃ z : List Loc, z = [] := ⟨_, rfl⟩
  have hw : WD D clW (wA N AD sz) s.heap H locs N AD C := by rw [hH, hlocs]; exact hw
  rw [← hlocs]
  suffices hgo : W p l e rm_M_rise s m args below meth c H locs 0 0 Q (F0 m 0 ls []) by rw [hH] at hgo; exact hgo
  have hz1 := hmz a (by omega) (by omega)
  have e1 := wAtM hok (i + 1)
  have e2 := wAtM hok i
  have q1 := wAtP (mw := mw) (i := a) (n := mz a) (j := i + 1) (by omega)
  have q2 := wAtP (mw := mw) (i := a) (n := mz a) (j := i) (by omega)
  have hv1 := hok i (by omega) (by omega)
  have hv2 := hok (i + 1) (by omega) (by omega)
  refine lv_aload_n hx hb d_M_rise_0 rfl (lv_at hl 0 rfl) ?_
  refine lv_iload_n hx hb d_M_rise_1 rfl (lv_at hl 1 rfl) ?_
  refine lv_iload_n hx hb d_M_rise_2 rfl (lv_at hl 2 rfl) ?_
  refine zr_iconst hx hb d_M_rise_3 ?_
  refine zr_iadd hx hb d_M_rise_4 ?_
  refine zr_callI (va_runV (As := [.int (zI a), .int (zI (i + 1))]) (rest := []) ⟨hx, hb, hml, hown, hts⟩ (c_M_widthOf l D k N AD C H.size th pn kc tr lc fa fb mn mr ma ab bl mw a (i + 1) hN hM h85 ⟨by omega, by omega⟩) (cwV 2 hts (good_V wk_602 wk_604 wk_15 wk_31 wk_605) rfl rfl rfl (by decide +kernel) ⟨Nat.le_of_ble_eq_true rfl, Nat.le_of_ble_eq_true rfl⟩) (cPre_V hK hw 82 ⟨by omega, by omega⟩ hM rfl) rfl rfl hl.1 rfl (lv_room (Nat.le_of_ble_eq_true rfl)) d_M_rise_5 ⟨Nat.le_of_ble_eq_true rfl, Nat.le_of_ble_eq_true rfl⟩) hw hA (fun r9 C2 H locs hq1 hw => ?_)
  obtain ⟨hr9, hCe⟩ := hq1
  rw [hCe] at hw; subst hr9
  refine lv_aload_n hx hb d_M_rise_8 rfl (lv_at hl 0 rfl) ?_
  refine lv_iload_n hx hb d_M_rise_9 rfl (lv_at hl 1 rfl) ?_
  refine lv_iload_n hx hb d_M_rise_10 rfl (lv_at hl 2 rfl) ?_
  refine zr_callI (va_runV (As := [.int (zI a), .int (zI i)]) (rest := [.int (zI (mw (24 * a + (i + 1))))]) ⟨hx, hb, hml, hown, hts⟩ (c_M_widthOf l D k N AD C H.size th pn kc tr lc fa fb mn mr ma ab bl mw a i hN hM h85 ⟨by omega, by omega⟩) (cwV 2 hts (good_V wk_602 wk_604 wk_15 wk_31 wk_605) rfl rfl rfl (by decide +kernel) ⟨Nat.le_of_ble_eq_true rfl, Nat.le_of_ble_eq_true rfl⟩) (cPre_V hK hw 82 ⟨by omega, by omega⟩ hM rfl) rfl rfl hl.1 rfl (lv_room (Nat.le_of_ble_eq_true rfl)) d_M_rise_11 ⟨Nat.le_of_ble_eq_true rfl, Nat.le_of_ble_eq_true rfl⟩) hw hA (fun r9 C4 H locs hq3 hw => ?_)
  obtain ⟨hr9, hCe⟩ := hq3
  rw [hCe] at hw; subst hr9
  refine zr_isub hx hb d_M_rise_14 ?_
  refine lv_istore_n (lv' := [(3, .int (zI ((mw (24 * a + (i + 1))) - (mw (24 * a + i))))), (0, .ref (AD 82)), (1, .int (zI a)), (2, .int (zI i))]) hx hb d_M_rise_15 rfl hl (by decide) rfl (fun ls hl => ?_)
  refine lv_iload_n hx hb d_M_rise_16 rfl (lv_at hl 0 rfl) ?_
  refine zr_if_le (tgt := 24) hx hb ⟨by omega, by omega⟩ d_M_rise_17 (by decide) (fun c5 => ?_) (fun c5 => ?_)
  · refine lv_iload_n hx hb d_M_rise_24 rfl (lv_at hl 0 rfl) ?_
    refine zr_if_ge (tgt := 32) hx hb ⟨by omega, by omega⟩ d_M_rise_25 (by decide) (fun c6 => ?_) (fun c6 => ?_)
    · refine zr_iconst hx hb d_M_rise_32 ?_
      exact hret _ _ _ _ _ _ d_M_rise_33 hw rfl ⟨by unfold ris; rw [show i + 1 - 1 = i by omega, q1, q2, if_neg (by omega), if_neg (by omega)], rfl⟩
    · refine zr_iconst hx hb d_M_rise_28 ?_
      refine lv_goto (tgt := 33) hx hb d_M_rise_29 (by decide) ?_
      exact hret _ _ _ _ _ _ d_M_rise_33 hw rfl ⟨by unfold ris; rw [show i + 1 - 1 = i by omega, q1, q2, if_neg (by omega), if_pos (by omega)], rfl⟩
  · refine zr_iconst hx hb d_M_rise_20 ?_
    refine lv_goto (tgt := 33) hx hb d_M_rise_21 (by decide) ?_
    exact hret _ _ _ _ _ _ d_M_rise_33 hw rfl ⟨by unfold ris; rw [show i + 1 - 1 = i by omega, q1, q2, if_pos (by omega)], rfl⟩
abbrev rm_M_alike : Room := { frames := 0, cells := 0, slots := 0, locals := 0 }
set_option maxHeartbeats 4000000 in
set_option maxRecDepth 100000 in
theorem c_M_alike (l : Launch) (D : va_G) (k : Nat → ClassId) (N : Nat) (AD : Int → Nat) (C : Int → va_E) (sz : Nat) (x : Int) (y : Int) (hx1 : -1 ≤ x ∧ x ≤ 1) (hy1 : -1 ≤ y ∧ y ≤ 1) : MI l y_M_alike (Cond.code y_M_alike b_M_alike 2 (Option.some Jvm.ClassFile.FieldType.int) :: WS) rm_M_alike D clW (tyW k) N AD C sz [.int (zI x), .int (zI y)] (fun r C' => r = zI (lik x y) ∧ C' = C) := by
  refine MI.start (cc := b_M_alike) (maxL := 2) (rt := .int) (by decide) rfl (Nat.le_of_ble_eq_true rfl) ?_
  intro p e s m args below meth c Q ls hx hb hml hown hts hK hsz hw hl hret
  have hown : s.vm.findClass "RingMatchesModel" = some m.cls := hown
  have hl : lv_has ls 2 [(0, .int (zI x)), (1, .int (zI y))] := hl
  have hA := wA_hi (N := N) (AD := AD) hsz
  obtain ⟨H, hH⟩ : ∃ H, H = s.heap := ⟨_, rfl⟩
  obtain ⟨locs, hlocs⟩ : ∃ z : List Loc, z = [] := ⟨_, rfl⟩
  have hw : WD D clW (wA N AD sz) s.heap H locs N AD C := by rw [hH, hlocs]; exact hw
  rw [← hlocs]
  suffices hgo : W p l e rm_M_alike s m args below meth c H locs 0 0 Q (F0 m 0 ls []) by rw [hH] at hgo; exact hgo
  refine lv_iload_n hx hb d_M_alike_0 rfl (lv_at hl 0 rfl) ?_
  refine lv_iload_n hx hb d_M_alike_1 rfl (lv_at hl 1 rfl) ?_
  refine zr_icmp_ne (tgt := 9) hx hb ⟨by omega, by omega⟩ ⟨by omega, by omega⟩ d_M_alike_2 (by decide) (fun c1 => ?_) (fun c1 => ?_)
  · refine lv_iload_n hx hb d_M_alike_9 rfl (lv_at hl 0 rfl) ?_
    refine zr_if_eq (tgt := 17) hx hb ⟨by omega, by omega⟩ d_M_alike_10 (by decide) (fun c2 => ?_) (fun c2 => ?_)
    · refine zr_iconst hx hb d_M_alike_17 ?_
      refine lv_goto (tgt := 22) hx hb d_M_alike_18 (by decide) ?_
      exact hret _ _ _ _ _ _ d_M_alike_22 hw rfl ⟨by unfold lik; rw [if_neg (by omega), if_pos (by omega)], rfl⟩
    · refine lv_iload_n hx hb d_M_alike_13 rfl (lv_at hl 1 rfl) ?_
      refine zr_if_ne (tgt := 21) hx hb ⟨by omega, by omega⟩ d_M_alike_14 (by decide) (fun c3 => ?_) (fun c3 => ?_)
      · refine zr_iconst hx hb d_M_alike_21 ?_
        exact hret _ _ _ _ _ _ d_M_alike_22 hw rfl ⟨by unfold lik; rw [if_neg (by omega), if_neg (by omega)], rfl⟩
      · refine zr_iconst hx hb d_M_alike_17 ?_
        refine lv_goto (tgt := 22) hx hb d_M_alike_18 (by decide) ?_
        exact hret _ _ _ _ _ _ d_M_alike_22 hw rfl ⟨by unfold lik; rw [if_neg (by omega), if_pos (by omega)], rfl⟩
  · refine zr_iconst hx hb d_M_alike_5 ?_
    refine lv_goto (tgt := 22) hx hb d_M_alike_6 (by decide) ?_
    exact hret _ _ _ _ _ _ d_M_alike_22 hw rfl ⟨by unfold lik; rw [if_pos (by omega)], rfl⟩
abbrev rm_M_count : Room := { frames := 1, cells := 0, slots := 0, locals := 23 }
set_option maxHeartbeats 4000000 in
set_option maxRecDepth 100000 in
theorem c_M_count (l : Launch) (D : va_G) (k : Nat → ClassId) (N : Nat) (AD : Int → Nat) (C : Int → va_E) (sz : Nat) (th : Int) (pn : Int) (kc : Int) (tr : Int) (lc : Int) (fa : Int) (fb : Int) (mn : Int) (mr : Int) (ma : Int) (ab : Int) (bl : Int) (i : Int) (hN : 90 ≤ (N : Int)) (hM : C 82 = .inr (4, [.int (zI th), .int (zI pn), .ref (AD 83), .int (zI kc), .ref (AD 84), .ref (AD 85), .int (zI tr), .int (zI lc), .int (zI fa), .int (zI fb), .ref (AD 86), .ref (AD 87), .ref (AD 88), .int (zI mn), .int (zI mr), .int (zI ma), .long (zL ab), .long (zL bl)])) (hi : inI i) : MI l y_M_count (Cond.code y_M_count b_M_count 2 (Option.some Jvm.ClassFile.FieldType.int) :: WS) rm_M_count D clW (tyW k) N AD C sz [.ref (AD 82), .int (zI i)] (fun r C' => ((0 ≤ i ∧ i ≤ 3) ∧ r = zI (cntF pn kc lc tr i) ∧ C' 82 = .inr (4, [.int (zI 0), .int (zI pn), .ref (AD 83), .int (zI kc), .ref (AD 84), .ref (AD 85), .int (zI tr), .int (zI lc), .int (zI fa), .int (zI fb), .ref (AD 86), .ref (AD 87), .ref (AD 88), .int (zI mn), .int (zI mr), .int (zI ma), .long (zL ab), .long (zL bl)]) ∨ ¬ (0 ≤ i ∧ i ≤ 3) ∧ C' 82 = .inr (4, [.int (zI 1), .int (zI pn), .ref (AD 83), .int (zI kc), .ref (AD 84), .ref (AD 85), .int (zI tr), .int (zI lc), .int (zI fa), .int (zI fb), .ref (AD 86), .ref (AD 87), .ref (AD 88), .int (zI mn), .int (zI mr), .int (zI ma), .long (zL ab), .long (zL bl)])) ∧ ∀ j : Int, j ≠ 82 → C' j = C j) := by
  refine MI.start (cc := b_M_count) (maxL := 2) (rt := .int) (by decide) rfl (Nat.le_of_ble_eq_true rfl) ?_
  intro p e s m args below meth c Q ls hx hb hml hown hts hK hsz hw hl hret
  have hown : s.vm.findClass "RingMatchesModel" = some m.cls := hown
  have hl : lv_has ls 2 [(0, .ref (AD 82)), (1, .int (zI i))] := hl
  have hA := wA_hi (N := N) (AD := AD) hsz
  obtain ⟨H, hH⟩ : ∃ H, H = s.heap := ⟨_, rfl⟩
  obtain ⟨locs, hlocs⟩ : ∃ z : List Loc, z = [] := ⟨_, rfl⟩
  have hw : WD D clW (wA N AD sz) s.heap H locs N AD C := by rw [hH, hlocs]; exact hw
  rw [← hlocs]
  suffices hgo : W p l e rm_M_count s m args below meth c H locs 0 0 Q (F0 m 0 ls []) by rw [hH] at hgo; exact hgo
  refine lv_aload_n hx hb d_M_count_0 rfl (lv_at hl 0 rfl) ?_
  refine lv_iload_n hx hb d_M_count_1 rfl (lv_at hl 1 rfl) ?_
  refine zr_iconst hx hb d_M_count_2 ?_
  refine zr_iconst hx hb d_M_count_3 ?_
  refine zr_callI (va_runS (As := [.int (zI i), .int (zI 0), .int (zI 3)]) (rest := [.ref (AD 82)]) ⟨hx, hb, hml, hown, hts⟩ (c_M_within l D k N AD C H.size i 0 3 ⟨by omega, by omega⟩ ⟨by omega, by omega⟩ ⟨by omega, by omega⟩) (va_cwS 3 hts (good_S wk_572 wk_573 wk_31 wk_574) rfl rfl rfl (by decide +kernel) ⟨Nat.le_of_ble_eq_true rfl, Nat.le_of_ble_eq_true rfl⟩) (cPre_S hK hw) rfl rfl hl.1 rfl (lv_room (Nat.le_of_ble_eq_true rfl)) d_M_count_4 ⟨Nat.le_of_ble_eq_true rfl, Nat.le_of_ble_eq_true rfl⟩) hw hA (fun r9 C2 H locs hq1 hw => ?_)
  obtain ⟨hq1, hCe⟩ := hq1
  rw [hCe] at hw
  rcases hq1 with ⟨hr9, hq1⟩ | ⟨hr9, hq1⟩ <;> subst hr9
  · refine zr_iconst hx hb d_M_count_7 ?_
    refine zr_iconst hx hb d_M_count_8 ?_
    refine zr_callI (va_runV (As := [.int (zI 1), .int (zI 1), .int (zI 1)]) (rest := []) ⟨hx, hb, hml, hown, hts⟩ (c_M_goes l D k N AD C H.size th pn kc tr lc fa fb mn mr ma ab bl 1 1 1 0 1 hN hM (by decide) (by decide) (by decide) (by decide) (by decide)) (cwV 3 hts (good_V wk_578 wk_580 wk_11 wk_31 wk_581) rfl rfl rfl (by decide +kernel) ⟨Nat.le_of_ble_eq_true rfl, Nat.le_of_ble_eq_true rfl⟩) (cPre_V hK hw 82 ⟨by omega, by omega⟩ hM rfl) rfl rfl hl.1 rfl (lv_room (Nat.le_of_ble_eq_true rfl)) d_M_count_9 ⟨Nat.le_of_ble_eq_true rfl, Nat.le_of_ble_eq_true rfl⟩) hw hA (fun r9 C3 H locs hq4 hw => ?_)
    obtain ⟨hr9, hq4a, frC3⟩ := hq4
    subst hr9
    have hM : C3 82 = .inr (4, [.int (zI 0), .int (zI pn), .ref (AD 83), .int (zI kc), .ref (AD 84), .ref (AD 85), .int (zI tr), .int (zI lc), .int (zI fa), .int (zI fb), .ref (AD 86), .ref (AD 87), .ref (AD 88), .int (zI mn), .int (zI mr), .int (zI ma), .long (zL ab), .long (zL bl)]) := hq4a
    refine zr_if_ne (tgt := 17) hx hb ⟨by omega, by omega⟩ d_M_count_12 (by decide) (fun c5 => ?_) (fun c9 => absurd c9 (by decide))
    refine lv_iload_n hx hb d_M_count_17 rfl (lv_at hl 1 rfl) ?_
    refine zr_if_ne (tgt := 28) hx hb ⟨by omega, by omega⟩ d_M_count_18 (by decide) (fun c6 => ?_) (fun c6 => ?_)
    · refine lv_iload_n hx hb d_M_count_28 rfl (lv_at hl 1 rfl) ?_
      refine zr_iconst hx hb d_M_count_29 ?_
      refine zr_icmp_ne (tgt := 40) hx hb ⟨by omega, by omega⟩ ⟨by omega, by omega⟩ d_M_count_30 (by decide) (fun c7 => ?_) (fun c7 => ?_)
      · refine lv_iload_n hx hb d_M_count_40 rfl (lv_at hl 1 rfl) ?_
        refine zr_iconst hx hb d_M_count_41 ?_
        refine zr_icmp_ne (tgt := 52) hx hb ⟨by omega, by omega⟩ ⟨by omega, by omega⟩ d_M_count_42 (by decide) (fun c8 => ?_) (fun c8 => ?_)
        · refine lv_aload_n hx hb d_M_count_52 rfl (lv_at hl 0 rfl) ?_
          refine zr_get (v := .int (zI tr)) hx hb hts iw_M hown hK hw 82 ⟨by omega, by omega⟩ hM rfl 6 (by decide) (hts _ wk_512) (fun _ h => h) rfl d_M_count_53 ?_
          exact hret _ _ _ _ _ _ d_M_count_56 hw rfl ⟨Or.inl ⟨by omega, by unfold cntF; rw [if_neg (by omega), if_neg (by omega), if_neg (by omega)], hM⟩, fun j hj => by rw [frC3 _ (by omega)]⟩
        · refine lv_aload_n hx hb d_M_count_45 rfl (lv_at hl 0 rfl) ?_
          refine zr_get (v := .int (zI lc)) hx hb hts iw_M hown hK hw 82 ⟨by omega, by omega⟩ hM rfl 7 (by decide) (hts _ wk_513) (fun _ h => h) rfl d_M_count_46 ?_
          refine lv_goto (tgt := 56) hx hb d_M_count_49 (by decide) ?_
          exact hret _ _ _ _ _ _ d_M_count_56 hw rfl ⟨Or.inl ⟨by omega, by unfold cntF; rw [if_neg (by omega), if_neg (by omega), if_pos (by omega)], hM⟩, fun j hj => by rw [frC3 _ (by omega)]⟩
      · refine lv_aload_n hx hb d_M_count_33 rfl (lv_at hl 0 rfl) ?_
        refine zr_get (v := .int (zI kc)) hx hb hts iw_M hown hK hw 82 ⟨by omega, by omega⟩ hM rfl 3 (by decide) (hts _ wk_509) (fun _ h => h) rfl d_M_count_34 ?_
        refine lv_goto (tgt := 56) hx hb d_M_count_37 (by decide) ?_
        exact hret _ _ _ _ _ _ d_M_count_56 hw rfl ⟨Or.inl ⟨by omega, by unfold cntF; rw [if_neg (by omega), if_pos (by omega)], hM⟩, fun j hj => by rw [frC3 _ (by omega)]⟩
    · refine lv_aload_n hx hb d_M_count_21 rfl (lv_at hl 0 rfl) ?_
      refine zr_get (v := .int (zI pn)) hx hb hts iw_M hown hK hw 82 ⟨by omega, by omega⟩ hM rfl 1 (by decide) (hts _ wk_507) (fun _ h => h) rfl d_M_count_22 ?_
      refine lv_goto (tgt := 56) hx hb d_M_count_25 (by decide) ?_
      exact hret _ _ _ _ _ _ d_M_count_56 hw rfl ⟨Or.inl ⟨by omega, by unfold cntF; rw [if_pos (by omega)], hM⟩, fun j hj => by rw [frC3 _ (by omega)]⟩
  · refine zr_iconst hx hb d_M_count_7 ?_
    refine zr_iconst hx hb d_M_count_8 ?_
    refine zr_callI (va_runV (As := [.int (zI 0), .int (zI 1), .int (zI 1)]) (rest := []) ⟨hx, hb, hml, hown, hts⟩ (c_M_goes l D k N AD C H.size th pn kc tr lc fa fb mn mr ma ab bl 0 1 1 1 0 hN hM (by decide) (by decide) (by decide) (by decide) (by decide)) (cwV 3 hts (good_V wk_578 wk_580 wk_11 wk_31 wk_581) rfl rfl rfl (by decide +kernel) ⟨Nat.le_of_ble_eq_true rfl, Nat.le_of_ble_eq_true rfl⟩) (cPre_V hK hw 82 ⟨by omega, by omega⟩ hM rfl) rfl rfl hl.1 rfl (lv_room (Nat.le_of_ble_eq_true rfl)) d_M_count_9 ⟨Nat.le_of_ble_eq_true rfl, Nat.le_of_ble_eq_true rfl⟩) hw hA (fun r9 C9 H locs hq10 hw => ?_)
    obtain ⟨hr9, hq10a, frC9⟩ := hq10
    subst hr9
    have hM : C9 82 = .inr (4, [.int (zI 1), .int (zI pn), .ref (AD 83), .int (zI kc), .ref (AD 84), .ref (AD 85), .int (zI tr), .int (zI lc), .int (zI fa), .int (zI fb), .ref (AD 86), .ref (AD 87), .ref (AD 88), .int (zI mn), .int (zI mr), .int (zI ma), .long (zL ab), .long (zL bl)]) := hq10a
    refine zr_if_ne (tgt := 17) hx hb ⟨by omega, by omega⟩ d_M_count_12 (by decide) (fun c9 => absurd c9 (by decide)) (fun c11 => ?_)
    refine zr_iconst hx hb d_M_count_15 ?_
    exact hret _ _ _ _ _ _ d_M_count_16 hw rfl ⟨Or.inr ⟨by omega, hM⟩, fun j hj => by rw [frC9 _ (by omega)]⟩
abbrev rm_M_isListed : Room := { frames := 1, cells := 0, slots := 0, locals := 22 }
set_option maxHeartbeats 4000000 in
set_option maxRecDepth 100000 in
theorem c_M_isListed (l : Launch) (D : va_G) (k : Nat → ClassId) (N : Nat) (AD : Int → Nat) (C : Int → va_E) (sz : Nat) (th : Int) (pn : Int) (kc : Int) (tr : Int) (lc : Int) (fa : Int) (fb : Int) (mn : Int) (mr : Int) (ma : Int) (ab : Int) (bl : Int) (a : Int) (i : Int) (m9 : Int) (hN : 90 ≤ (N : Int)) (hM : C 82 = .inr (4, [.int (zI th), .int (zI pn), .ref (AD 83), .int (zI kc), .ref (AD 84), .ref (AD 85), .int (zI tr), .int (zI lc), .int (zI fa), .int (zI fb), .ref (AD 86), .ref (AD 87), .ref (AD 88), .int (zI mn), .int (zI mr), .int (zI ma), .long (zL ab), .long (zL bl)])) (hlc : 0 ≤ lc ∧ lc ≤ 47) (ha : inI a) (hi : inI i) (hm9 : 0 ≤ m9 ∧ m9 ≤ 3) : MI l y_M_isListed (Cond.code y_M_isListed b_M_isListed 4 (Option.some Jvm.ClassFile.FieldType.boolean) :: WS) rm_M_isListed D clW (tyW k) N AD C sz [.ref (AD 82), .int (zI a), .int (zI i), .int (zI m9)] (fun r C' => (r = zI 1 ∧ ((0 ≤ a ∧ a < lc) ∧ (0 ≤ i ∧ i < m9)) ∨ r = zI 0 ∧ ¬ ((0 ≤ a ∧ a < lc) ∧ (0 ≤ i ∧ i < m9))) ∧ C' = C) := by
  refine MI.start (cc := b_M_isListed) (maxL := 4) (rt := .boolean) (by decide) rfl (Nat.le_of_ble_eq_true rfl) ?_
  intro p e s m args below meth c Q ls hx hb hml hown hts hK hsz hw hl hret
  have hown : s.vm.findClass "RingMatchesModel" = some m.cls := hown
  have hl : lv_has ls 4 [(0, .ref (AD 82)), (1, .int (zI a)), (2, .int (zI i)), (3, .int (zI m9))] := hl
  have hA := wA_hi (N := N) (AD := AD) hsz
  obtain ⟨H, hH⟩ : ∃ H, H = s.heap := ⟨_, rfl⟩
  obtain ⟨locs, hlocs⟩ : ∃ z : List Loc, z = [] := ⟨_, rfl⟩
  have hw : WD D clW (wA N AD sz) s.heap H locs N AD C := by rw [hH, hlocs]; exact hw
  rw [← hlocs]
  suffices hgo : W p l e rm_M_isListed s m args below meth c H locs 0 0 Q (F0 m 0 ls []) by rw [hH] at hgo; exact hgo
  refine lv_iload_n hx hb d_M_isListed_0 rfl (lv_at hl 1 rfl) ?_
  refine zr_iconst hx hb d_M_isListed_1 ?_
  refine lv_aload_n hx hb d_M_isListed_2 rfl (lv_at hl 0 rfl) ?_
  refine zr_get (v := .int (zI lc)) hx hb hts iw_M hown hK hw 82 ⟨by omega, by omega⟩ hM rfl 7 (by decide) (hts _ wk_513) (fun _ h => h) rfl d_M_isListed_3 ?_
  refine zr_iconst hx hb d_M_isListed_6 ?_
  refine zr_isub hx hb d_M_isListed_7 ?_
  refine zr_callI (va_runS (As := [.int (zI a), .int (zI 0), .int (zI (lc - 1))]) (rest := []) ⟨hx, hb, hml, hown, hts⟩ (c_M_within l D k N AD C H.size a 0 (lc - 1) ⟨by omega, by omega⟩ ⟨by omega, by omega⟩ ⟨by omega, by omega⟩) (va_cwS 3 hts (good_S wk_572 wk_573 wk_31 wk_574) rfl rfl rfl (by decide +kernel) ⟨Nat.le_of_ble_eq_true rfl, Nat.le_of_ble_eq_true rfl⟩) (cPre_S hK hw) rfl rfl hl.1 rfl (lv_room (Nat.le_of_ble_eq_true rfl)) d_M_isListed_8 ⟨Nat.le_of_ble_eq_true rfl, Nat.le_of_ble_eq_true rfl⟩) hw hA (fun r9 C2 H locs hq1 hw => ?_)
  obtain ⟨hq1, hCe⟩ := hq1
  rw [hCe] at hw
  rcases hq1 with ⟨hr9, hq1⟩ | ⟨hr9, hq1⟩ <;> subst hr9
  · refine zr_if_eq (tgt := 29) hx hb ⟨by omega, by omega⟩ d_M_isListed_11 (by decide) (fun c9 => absurd c9 (by decide)) (fun c3 => ?_)
    refine lv_iload_n hx hb d_M_isListed_14 rfl (lv_at hl 2 rfl) ?_
    refine zr_iconst hx hb d_M_isListed_15 ?_
    refine lv_iload_n hx hb d_M_isListed_16 rfl (lv_at hl 3 rfl) ?_
    refine zr_iconst hx hb d_M_isListed_17 ?_
    refine zr_isub hx hb d_M_isListed_18 ?_
    refine zr_callI (va_runS (As := [.int (zI i), .int (zI 0), .int (zI (m9 - 1))]) (rest := []) ⟨hx, hb, hml, hown, hts⟩ (c_M_within l D k N AD C H.size i 0 (m9 - 1) ⟨by omega, by omega⟩ ⟨by omega, by omega⟩ ⟨by omega, by omega⟩) (va_cwS 3 hts (good_S wk_572 wk_573 wk_31 wk_574) rfl rfl rfl (by decide +kernel) ⟨Nat.le_of_ble_eq_true rfl, Nat.le_of_ble_eq_true rfl⟩) (cPre_S hK hw) rfl rfl hl.1 rfl (lv_room (Nat.le_of_ble_eq_true rfl)) d_M_isListed_19 ⟨Nat.le_of_ble_eq_true rfl, Nat.le_of_ble_eq_true rfl⟩) hw hA (fun r9 C5 H locs hq4 hw => ?_)
    obtain ⟨hq4, hCe⟩ := hq4
    rw [hCe] at hw
    rcases hq4 with ⟨hr9, hq4⟩ | ⟨hr9, hq4⟩ <;> subst hr9
    · refine zr_if_eq (tgt := 29) hx hb ⟨by omega, by omega⟩ d_M_isListed_22 (by decide) (fun c9 => absurd c9 (by decide)) (fun c6 => ?_)
      refine zr_iconst hx hb d_M_isListed_25 ?_
      refine lv_goto (tgt := 30) hx hb d_M_isListed_26 (by decide) ?_
      exact hret _ _ _ _ _ _ d_M_isListed_30 hw (by decide +kernel) ⟨Or.inl ⟨rfl, by omega⟩, rfl⟩
    · refine zr_if_eq (tgt := 29) hx hb ⟨by omega, by omega⟩ d_M_isListed_22 (by decide) (fun c7 => ?_) (fun c9 => absurd c9 (by decide))
      refine zr_iconst hx hb d_M_isListed_29 ?_
      exact hret _ _ _ _ _ _ d_M_isListed_30 hw (by decide +kernel) ⟨Or.inr ⟨rfl, by omega⟩, rfl⟩
  · refine zr_if_eq (tgt := 29) hx hb ⟨by omega, by omega⟩ d_M_isListed_11 (by decide) (fun c8 => ?_) (fun c9 => absurd c9 (by decide))
    refine zr_iconst hx hb d_M_isListed_29 ?_
    exact hret _ _ _ _ _ _ d_M_isListed_30 hw (by decide +kernel) ⟨Or.inr ⟨rfl, by omega⟩, rfl⟩
abbrev rm_M_overlap : Room := { frames := 2, cells := 0, slots := 0, locals := 45 }
set_option maxHeartbeats 4000000 in
set_option maxRecDepth 100000 in
theorem c_M_overlap (l : Launch) (D : va_G) (k : Nat → ClassId) (N : Nat) (AD : Int → Nat) (C : Int → va_E) (sz : Nat) (th : Int) (pn : Int) (kc : Int) (tr : Int) (lc : Int) (fa : Int) (fb : Int) (mn : Int) (mr : Int) (ma : Int) (ab : Int) (bl : Int) (mS : Int → Int) (mN : Int → Int) (mR : Int → Int) (a : Int) (i : Int) (hN : 90 ≤ (N : Int)) (hM : C 82 = .inr (4, [.int (zI th), .int (zI pn), .ref (AD 83), .int (zI kc), .ref (AD 84), .ref (AD 85), .int (zI tr), .int (zI lc), .int (zI fa), .int (zI fb), .ref (AD 86), .ref (AD 87), .ref (AD 88), .int (zI mn), .int (zI mr), .int (zI ma), .long (zL ab), .long (zL bl)])) (h86 : C 86 = aI (k 0) 48 mS) (h87 : C 87 = aI (k 0) 48 mN) (h88 : C 88 = aI (k 0) 48 mR) (hlc : 0 ≤ lc ∧ lc ≤ 47) (ha : inI a) (hi : inI i) : MI l y_M_overlap (Cond.code y_M_overlap b_M_overlap 3 (Option.some Jvm.ClassFile.FieldType.int) :: WS) rm_M_overlap D clW (tyW k) N AD C sz [.ref (AD 82), .int (zI a), .int (zI i)] (fun r C' => (((0 ≤ a ∧ a < lc) ∧ (0 ≤ i ∧ i ≤ 2)) ∧ r = zI (ovlF mS mN mR a i) ∧ C' 82 = .inr (4, [.int (zI 0), .int (zI pn), .ref (AD 83), .int (zI kc), .ref (AD 84), .ref (AD 85), .int (zI tr), .int (zI lc), .int (zI fa), .int (zI fb), .ref (AD 86), .ref (AD 87), .ref (AD 88), .int (zI mn), .int (zI mr), .int (zI ma), .long (zL ab), .long (zL bl)]) ∨ ¬ ((0 ≤ a ∧ a < lc) ∧ (0 ≤ i ∧ i ≤ 2)) ∧ C' 82 = .inr (4, [.int (zI 1), .int (zI pn), .ref (AD 83), .int (zI kc), .ref (AD 84), .ref (AD 85), .int (zI tr), .int (zI lc), .int (zI fa), .int (zI fb), .ref (AD 86), .ref (AD 87), .ref (AD 88), .int (zI mn), .int (zI mr), .int (zI ma), .long (zL ab), .long (zL bl)])) ∧ ∀ j : Int, j ≠ 82 → C' j = C j) := by
  refine MI.start (cc := b_M_overlap) (maxL := 3) (rt := .int) (by decide) rfl (Nat.le_of_ble_eq_true rfl) ?_
  intro p e s m args below meth c Q ls hx hb hml hown hts hK hsz hw hl hret
  have hown : s.vm.findClass "RingMatchesModel" = some m.cls := hown
  have hl : lv_has ls 3 [(0, .ref (AD 82)), (1, .int (zI a)), (2, .int (zI i))] := hl
  have hA := wA_hi (N := N) (AD := AD) hsz
  obtain ⟨H, hH⟩ : ∃ H, H = s.heap := ⟨_, rfl⟩
  obtain ⟨locs, hlocs⟩ : ∃ z : List Loc, z = [] := ⟨_, rfl⟩
  have hw : WD D clW (wA N AD sz) s.heap H locs N AD C := by rw [hH, hlocs]; exact hw
  rw [← hlocs]
  suffices hgo : W p l e rm_M_overlap s m args below meth c H locs 0 0 Q (F0 m 0 ls []) by rw [hH] at hgo; exact hgo
  refine lv_aload_n hx hb d_M_overlap_0 rfl (lv_at hl 0 rfl) ?_
  refine lv_aload_n hx hb d_M_overlap_1 rfl (lv_at hl 0 rfl) ?_
  refine lv_iload_n hx hb d_M_overlap_2 rfl (lv_at hl 1 rfl) ?_
  refine lv_iload_n hx hb d_M_overlap_3 rfl (lv_at hl 2 rfl) ?_
  refine zr_iconst hx hb d_M_overlap_4 ?_
  refine zr_callI (va_runV (As := [.int (zI a), .int (zI i), .int (zI 3)]) (rest := [.ref (AD 82)]) ⟨hx, hb, hml, hown, hts⟩ (c_M_isListed l D k N AD C H.size th pn kc tr lc fa fb mn mr ma ab bl a i 3 hN hM hlc ⟨by omega, by omega⟩ ⟨by omega, by omega⟩ (by omega)) (cwV 3 hts (good_V wk_650 wk_652 wk_22 wk_31 wk_653) rfl rfl rfl (by decide +kernel) ⟨Nat.le_of_ble_eq_true rfl, Nat.le_of_ble_eq_true rfl⟩) (cPre_V hK hw 82 ⟨by omega, by omega⟩ hM rfl) rfl rfl hl.1 rfl (lv_room (Nat.le_of_ble_eq_true rfl)) d_M_overlap_5 ⟨Nat.le_of_ble_eq_true rfl, Nat.le_of_ble_eq_true rfl⟩) hw hA (fun r9 C2 H locs hq1 hw => ?_)
  obtain ⟨hq1, hCe⟩ := hq1
  rw [hCe] at hw
  rcases hq1 with ⟨hr9, hq1⟩ | ⟨hr9, hq1⟩ <;> subst hr9
  · refine zr_iconst hx hb d_M_overlap_8 ?_
    refine zr_iconst hx hb d_M_overlap_9 ?_
    refine zr_callI (va_runV (As := [.int (zI 1), .int (zI 1), .int (zI 1)]) (rest := []) ⟨hx, hb, hml, hown, hts⟩ (c_M_goes l D k N AD C H.size th pn kc tr lc fa fb mn mr ma ab bl 1 1 1 0 1 hN hM (by decide) (by decide) (by decide) (by decide) (by decide)) (cwV 3 hts (good_V wk_578 wk_580 wk_11 wk_31 wk_581) rfl rfl rfl (by decide +kernel) ⟨Nat.le_of_ble_eq_true rfl, Nat.le_of_ble_eq_true rfl⟩) (cPre_V hK hw 82 ⟨by omega, by omega⟩ hM rfl) rfl rfl hl.1 rfl (lv_room (Nat.le_of_ble_eq_true rfl)) d_M_overlap_10 ⟨Nat.le_of_ble_eq_true rfl, Nat.le_of_ble_eq_true rfl⟩) hw hA (fun r9 C3 H locs hq4 hw => ?_)
    obtain ⟨hr9, hq4a, frC3⟩ := hq4
    subst hr9
    have hM : C3 82 = .inr (4, [.int (zI 0), .int (zI pn), .ref (AD 83), .int (zI kc), .ref (AD 84), .ref (AD 85), .int (zI tr), .int (zI lc), .int (zI fa), .int (zI fb), .ref (AD 86), .ref (AD 87), .ref (AD 88), .int (zI mn), .int (zI mr), .int (zI ma), .long (zL ab), .long (zL bl)]) := hq4a
    have h86 : C3 86 = aI (k 0) 48 mS := (frC3 _ (by omega)).trans h86
    have h87 : C3 87 = aI (k 0) 48 mN := (frC3 _ (by omega)).trans h87
    have h88 : C3 88 = aI (k 0) 48 mR := (frC3 _ (by omega)).trans h88
    refine zr_if_ne (tgt := 18) hx hb ⟨by omega, by omega⟩ d_M_overlap_13 (by decide) (fun c5 => ?_) (fun c9 => absurd c9 (by decide))
    refine lv_iload_n hx hb d_M_overlap_18 rfl (lv_at hl 2 rfl) ?_
    refine zr_if_ne (tgt := 31) hx hb ⟨by omega, by omega⟩ d_M_overlap_19 (by decide) (fun c6 => ?_) (fun c6 => ?_)
    · refine lv_iload_n hx hb d_M_overlap_31 rfl (lv_at hl 2 rfl) ?_
      refine zr_iconst hx hb d_M_overlap_32 ?_
      refine zr_icmp_ne (tgt := 45) hx hb ⟨by omega, by omega⟩ ⟨by omega, by omega⟩ d_M_overlap_33 (by decide) (fun c7 => ?_) (fun c7 => ?_)
      · refine lv_aload_n hx hb d_M_overlap_45 rfl (lv_at hl 0 rfl) ?_
        refine zr_get (v := .ref (AD 88)) hx hb hts iw_M hown hK hw 82 ⟨by omega, by omega⟩ hM rfl 12 (by decide) (hts _ wk_518) (fun _ h => h) rfl d_M_overlap_46 ?_
        refine lv_iload_n hx hb d_M_overlap_49 rfl (lv_at hl 1 rfl) ?_
        refine zr_iald hx hb hK hw 88 ⟨by omega, by omega⟩ 0 h88 rfl ⟨by omega, by omega⟩ (by decide) d_M_overlap_50 ?_
        exact hret _ _ _ _ _ _ d_M_overlap_51 hw rfl ⟨Or.inl ⟨by omega, by unfold ovlF; rw [if_neg (by omega), if_neg (by omega)], hM⟩, fun j hj => by rw [frC3 _ (by omega)]⟩
      · refine lv_aload_n hx hb d_M_overlap_36 rfl (lv_at hl 0 rfl) ?_
        refine zr_get (v := .ref (AD 87)) hx hb hts iw_M hown hK hw 82 ⟨by omega, by omega⟩ hM rfl 11 (by decide) (hts _ wk_517) (fun _ h => h) rfl d_M_overlap_37 ?_
        refine lv_iload_n hx hb d_M_overlap_40 rfl (lv_at hl 1 rfl) ?_
        refine zr_iald hx hb hK hw 87 ⟨by omega, by omega⟩ 0 h87 rfl ⟨by omega, by omega⟩ (by decide) d_M_overlap_41 ?_
        refine lv_goto (tgt := 51) hx hb d_M_overlap_42 (by decide) ?_
        exact hret _ _ _ _ _ _ d_M_overlap_51 hw rfl ⟨Or.inl ⟨by omega, by unfold ovlF; rw [if_neg (by omega), if_pos (by omega)], hM⟩, fun j hj => by rw [frC3 _ (by omega)]⟩
    · refine lv_aload_n hx hb d_M_overlap_22 rfl (lv_at hl 0 rfl) ?_
      refine zr_get (v := .ref (AD 86)) hx hb hts iw_M hown hK hw 82 ⟨by omega, by omega⟩ hM rfl 10 (by decide) (hts _ wk_516) (fun _ h => h) rfl d_M_overlap_23 ?_
      refine lv_iload_n hx hb d_M_overlap_26 rfl (lv_at hl 1 rfl) ?_
      refine zr_iald hx hb hK hw 86 ⟨by omega, by omega⟩ 0 h86 rfl ⟨by omega, by omega⟩ (by decide) d_M_overlap_27 ?_
      refine lv_goto (tgt := 51) hx hb d_M_overlap_28 (by decide) ?_
      exact hret _ _ _ _ _ _ d_M_overlap_51 hw rfl ⟨Or.inl ⟨by omega, by unfold ovlF; rw [if_pos (by omega)], hM⟩, fun j hj => by rw [frC3 _ (by omega)]⟩
  · refine zr_iconst hx hb d_M_overlap_8 ?_
    refine zr_iconst hx hb d_M_overlap_9 ?_
    refine zr_callI (va_runV (As := [.int (zI 0), .int (zI 1), .int (zI 1)]) (rest := []) ⟨hx, hb, hml, hown, hts⟩ (c_M_goes l D k N AD C H.size th pn kc tr lc fa fb mn mr ma ab bl 0 1 1 1 0 hN hM (by decide) (by decide) (by decide) (by decide) (by decide)) (cwV 3 hts (good_V wk_578 wk_580 wk_11 wk_31 wk_581) rfl rfl rfl (by decide +kernel) ⟨Nat.le_of_ble_eq_true rfl, Nat.le_of_ble_eq_true rfl⟩) (cPre_V hK hw 82 ⟨by omega, by omega⟩ hM rfl) rfl rfl hl.1 rfl (lv_room (Nat.le_of_ble_eq_true rfl)) d_M_overlap_10 ⟨Nat.le_of_ble_eq_true rfl, Nat.le_of_ble_eq_true rfl⟩) hw hA (fun r9 C8 H locs hq9 hw => ?_)
    obtain ⟨hr9, hq9a, frC8⟩ := hq9
    subst hr9
    have hM : C8 82 = .inr (4, [.int (zI 1), .int (zI pn), .ref (AD 83), .int (zI kc), .ref (AD 84), .ref (AD 85), .int (zI tr), .int (zI lc), .int (zI fa), .int (zI fb), .ref (AD 86), .ref (AD 87), .ref (AD 88), .int (zI mn), .int (zI mr), .int (zI ma), .long (zL ab), .long (zL bl)]) := hq9a
    have h86 : C8 86 = aI (k 0) 48 mS := (frC8 _ (by omega)).trans h86
    have h87 : C8 87 = aI (k 0) 48 mN := (frC8 _ (by omega)).trans h87
    have h88 : C8 88 = aI (k 0) 48 mR := (frC8 _ (by omega)).trans h88
    refine zr_if_ne (tgt := 18) hx hb ⟨by omega, by omega⟩ d_M_overlap_13 (by decide) (fun c9 => absurd c9 (by decide)) (fun c10 => ?_)
    refine zr_iconst hx hb d_M_overlap_16 ?_
    exact hret _ _ _ _ _ _ d_M_overlap_17 hw rfl ⟨Or.inr ⟨by omega, hM⟩, fun j hj => by rw [frC8 _ (by omega)]⟩
