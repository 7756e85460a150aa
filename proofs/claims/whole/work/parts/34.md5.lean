theorem ov_eq {w1 v1 w2 v2 : Int → Int} {n1 n2 a : Int} (h1 : ∀ j : Int, 0 ≤ j → j < n1 → w1 j = v1 j) (h2 : ∀ j : Int, 0 ≤ j → j < n2 → w2 j = v2 j) : ovN w1 n1 w2 n2 a = ovN v1 n1 v2 n2 a ∧ ovC w1 n1 w2 n2 a = ovC v1 n1 v2 n2 a ∧ ovR w1 n1 w2 n2 a = ovR v1 n1 v2 n2 a ∧ ovA w1 n1 w2 n2 a = ovA v1 n1 v2 n2 a := by
  have e1 := xV_eq h1
  have e2 := xV_eq h2
  have e3 := wAt_eq h1
  have e4 := wAt_eq h2
  have eT : ∀ g, ovT w1 n1 w2 n2 a g = ovT v1 n1 v2 n2 a g := fun g => by unfold ovT; rw [e1, e2]
  have eS : ∀ g, ovS w1 n1 w2 n2 a g = ovS v1 n1 v2 n2 a g := fun g => by unfold ovS; rw [eT]
  have eN : ovN w1 n1 w2 n2 a = ovN v1 n1 v2 n2 a := eS _
  have er : ∀ p, ris w1 n1 p = ris v1 n1 p := fun p => by unfold ris; rw [e3]
  have er2 : ∀ p, ris w2 n2 p = ris v2 n2 p := fun p => by unfold ris; rw [e4]
  have eR : rsT w1 n1 w2 n2 a = rsT v1 n1 v2 n2 a := by funext p; unfold rsT; rw [e3, e4]
  have eA : agT w1 n1 w2 n2 a = agT v1 n1 v2 n2 a := by funext p; unfold agT; rw [e3, e4, er, er2]
  refine ⟨eN, ?_, ?_, ?_⟩
  · unfold ovC; rw [eN, eS, eS, eS, eS, eS]
  · unfold ovR; rw [eR]
  · unfold ovA; rw [eA]
abbrev rm_M_fraction : Room := { frames := 0, cells := 0, slots := 0, locals := 0 }
set_option maxHeartbeats 4000000 in
set_option maxRecDepth 100000 in
theorem c_M_fraction (l : Launch) (D : va_G) (k : Nat → ClassId) (N : Nat) (AD : Int → Nat) (C : Int → va_E) (sz : Nat) (th : Int) (pn : Int) (kc : Int) (tr : Int) (lc : Int) (fa : Int) (fb : Int) (mn : Int) (mr : Int) (ma : Int) (ab : Int) (bl : Int) (x : Int) (y : Int) (hN : 90 ≤ (N : Int)) (hM : C 82 = .inr (4, [.int (zI th), .int (zI pn), .ref (AD 83), .int (zI kc), .ref (AD 84), .ref (AD 85), .int (zI tr), .int (zI lc), .int (zI fa), .int (zI fb), .ref (AD 86), .ref (AD 87), .ref (AD 88), .int (zI mn), .int (zI mr), .int (zI ma), .long (zL ab), .long (zL bl)])) (hx0 : 0 ≤ x ∧ x < 4611686018427387904) (hy0 : 0 < y ∧ y < 4611686018427387904) : MV l y_M_fraction (Cond.code y_M_fraction b_M_fraction 11 (Option.none : Option FieldType) :: WS) rm_M_fraction D clW (tyW k) N AD C sz [.ref (AD 82), .long (zL x), .long (zL y)] (fun C' => C' 82 = .inr (4, [.int (zI th), .int (zI pn), .ref (AD 83), .int (zI kc), .ref (AD 84), .ref (AD 85), .int (zI tr), .int (zI lc), .int (zI fa), .int (zI fb), .ref (AD 86), .ref (AD 87), .ref (AD 88), .int (zI mn), .int (zI mr), .int (zI ma), .long (zL (x / gcdZ x y)), .long (zL (y / gcdZ x y))]) ∧ ∀ j : Int, j ≠ 82 → C' j = C j) := by
  refine MV.start (cc := b_M_fraction) (maxL := 11) (by decide) rfl (Nat.le_of_ble_eq_true rfl) ?_
  intro p e s m args below meth c Q ls hx hb hml hown hts hK hsz hw hl hret
  have hown : s.vm.findClass "RingMatchesModel" = some m.cls := hown
  have hl : lv_has ls 11 [(0, .ref (AD 82)), (1, .long (zL x)), (3, .long (zL y))] := hl
  have hA := wA_hi (N := N) (AD := AD) hsz
  obtain ⟨H, hH⟩ : ∃ H, H = s.heap := ⟨_, rfl⟩
  obtain ⟨locs, hlocs⟩ : ∃ z : List Loc, z = [] := ⟨_, rfl⟩
  have hw : WD D clW (wA N AD sz) s.heap H locs N AD C := by rw [hH, hlocs]; exact hw
  rw [← hlocs]
  suffices hgo : W p l e rm_M_fraction s m args below meth c H locs 0 0 Q (F0 m 0 ls []) by rw [hH] at hgo; exact hgo
  refine lv_lload_n hx hb d_M_fraction_0 rfl (lv_at hl 1 rfl) ?_
  refine lv_lstore (lv' := [(5, .long (zL x)), (0, .ref (AD 82)), (1, .long (zL x)), (3, .long (zL y))]) hx hb d_M_fraction_1 hl (by decide) rfl (fun ls hl => ?_)
  refine lv_lload_n hx hb d_M_fraction_3 rfl (lv_at hl 3 rfl) ?_
  refine lv_lstore (lv' := [(7, .long (zL y)), (5, .long (zL x)), (0, .ref (AD 82)), (1, .long (zL x)), (3, .long (zL y))]) hx hb d_M_fraction_4 hl (by decide) rfl (fun ls hl => ?_)
  have lp : ∀ (n9 : Nat) (g : Int) (s9 : Int) (H : Heap) (locs : List Loc) (ls : Array Slot), (0 ≤ g ∧ g < 4611686018427387904) → (0 ≤ s9 ∧ s9 < 4611686018427387904) → (gcdZ g s9 = gcdZ x y) → (s9).toNat < n9 → WD D clW (wA N AD sz) s.heap H locs N AD C → lv_has ls 11 [(0, .ref (AD 82)), (1, .long (zL x)), (3, .long (zL y)), (5, .long (zL g)), (7, .long (zL s9))] → W p l e rm_M_fraction s m args below meth c H locs 0 0 Q (F0 m 6 ls []) := by
    intro n9
    induction n9 with
    | zero => intro g s9 H locs ls hg hs9 hgc  hm hw hl; exact absurd hm (by omega)
    | succ n9 ihlp =>
      intro g s9 H locs ls hg hs9 hgc  hm hw hl
      refine lv_lload hx hb d_M_fraction_6 (lv_at hl 4 rfl) ?_
      refine zr_lconst0 hx hb d_M_fraction_8 ?_
      refine zr_lcmp_eq (tgt := 31) hx hb ⟨by omega, by omega⟩ inL0 d_M_fraction_9 d_M_fraction_10 (by decide) (fun c1 => ?_) (fun c1 => ?_)
      · have hz : s9 = 0 := by omega
        rw [hz, gcdZ_0 hg.1] at hgc
        have hgp := gcdZ_pos (x := x) (y := y) (by omega)
        refine lv_aload_n hx hb d_M_fraction_31 rfl (lv_at hl 0 rfl) ?_
        refine lv_lload_n hx hb d_M_fraction_32 rfl (lv_at hl 1 rfl) ?_
        refine lv_lload hx hb d_M_fraction_33 (lv_at hl 3 rfl) ?_
        refine zr_ldiv hx hb d_M_fraction_35 ⟨by omega, by omega⟩ ⟨by omega, by omega⟩ (by omega) (by omega) ?_
        refine zr_put (ty := .long) (v := .long (zL (x / g))) hx hb hts iw_M tyM tyM_ok nmM hown hK hw 82 ⟨by omega, by omega⟩ hM rfl 16 (by decide) (hts _ wk_522) (fun _ h => h) rfl (by decide +kernel) rfl rfl (Nat.le_of_ble_eq_true rfl) d_M_fraction_36 (fun H locs hw => ?_)
        obtain ⟨C2, hC2⟩ : ∃ z : Int → va_E, z = zup C 82 (.inr (4, [.int (zI th), .int (zI pn), .ref (AD 83), .int (zI kc), .ref (AD 84), .ref (AD 85), .int (zI tr), .int (zI lc), .int (zI fa), .int (zI fb), .ref (AD 86), .ref (AD 87), .ref (AD 88), .int (zI mn), .int (zI mr), .int (zI ma), .long (zL (x / g)), .long (zL bl)])) := ⟨_, rfl⟩
        have hw : WD D clW (wA N AD sz) s.heap H locs N AD C2 := by rw [hC2]; exact hw
        have frC2 : ∀ j : Int, j ≠ 82 → C2 j = C j := fun j h => by rw [hC2]; exact zup_n h
        have hM : C2 82 = .inr (4, [.int (zI th), .int (zI pn), .ref (AD 83), .int (zI kc), .ref (AD 84), .ref (AD 85), .int (zI tr), .int (zI lc), .int (zI fa), .int (zI fb), .ref (AD 86), .ref (AD 87), .ref (AD 88), .int (zI mn), .int (zI mr), .int (zI ma), .long (zL (x / g)), .long (zL bl)]) := by rw [hC2]; exact zup_s
        refine lv_aload_n hx hb d_M_fraction_39 rfl (lv_at hl 0 rfl) ?_
        refine lv_lload_n hx hb d_M_fraction_40 rfl (lv_at hl 2 rfl) ?_
        refine lv_lload hx hb d_M_fraction_41 (lv_at hl 3 rfl) ?_
        refine zr_ldiv hx hb d_M_fraction_43 ⟨by omega, by omega⟩ ⟨by omega, by omega⟩ (by omega) (by omega) ?_
        refine zr_put (ty := .long) (v := .long (zL (y / g))) hx hb hts iw_M tyM tyM_ok nmM hown hK hw 82 ⟨by omega, by omega⟩ hM rfl 17 (by decide) (hts _ wk_523) (fun _ h => h) rfl (by decide +kernel) rfl rfl (Nat.le_of_ble_eq_true rfl) d_M_fraction_44 (fun H locs hw => ?_)
        obtain ⟨C3, hC3⟩ : ∃ z : Int → va_E, z = zup C2 82 (.inr (4, [.int (zI th), .int (zI pn), .ref (AD 83), .int (zI kc), .ref (AD 84), .ref (AD 85), .int (zI tr), .int (zI lc), .int (zI fa), .int (zI fb), .ref (AD 86), .ref (AD 87), .ref (AD 88), .int (zI mn), .int (zI mr), .int (zI ma), .long (zL (x / g)), .long (zL (y / g))])) := ⟨_, rfl⟩
        have hw : WD D clW (wA N AD sz) s.heap H locs N AD C3 := by rw [hC3]; exact hw
        have frC3 : ∀ j : Int, j ≠ 82 → C3 j = C2 j := fun j h => by rw [hC3]; exact zup_n h
        have hM : C3 82 = .inr (4, [.int (zI th), .int (zI pn), .ref (AD 83), .int (zI kc), .ref (AD 84), .ref (AD 85), .int (zI tr), .int (zI lc), .int (zI fa), .int (zI fb), .ref (AD 86), .ref (AD 87), .ref (AD 88), .int (zI mn), .int (zI mr), .int (zI ma), .long (zL (x / g)), .long (zL (y / g))]) := by rw [hC3]; exact zup_s
        exact hret _ _ _ _ _ d_M_fraction_47 hw ⟨by rw [hM, hgc], fun j hj => by rw [frC3 j hj, frC2 j hj]⟩
      · have hr0 := Int.emod_nonneg g (show s9 ≠ 0 by omega)
        have hr1 := Int.emod_lt_of_pos g (show 0 < s9 by omega)
        refine lv_lload hx hb d_M_fraction_13 (lv_at hl 3 rfl) ?_
        refine lv_lload hx hb d_M_fraction_15 (lv_at hl 4 rfl) ?_
        refine zr_lrem hx hb d_M_fraction_17 ⟨by omega, by omega⟩ ⟨by omega, by omega⟩ (by omega) (by omega) ?_
        refine lv_lstore (lv' := [(9, .long (zL (g % s9))), (0, .ref (AD 82)), (1, .long (zL x)), (3, .long (zL y)), (5, .long (zL g)), (7, .long (zL s9))]) hx hb d_M_fraction_18 hl (by decide) rfl (fun ls hl => ?_)
        refine lv_lload hx hb d_M_fraction_20 (lv_at hl 5 rfl) ?_
        refine lv_lstore (lv' := [(5, .long (zL s9)), (9, .long (zL (g % s9))), (0, .ref (AD 82)), (1, .long (zL x)), (3, .long (zL y)), (7, .long (zL s9))]) hx hb d_M_fraction_22 hl (by decide) rfl (fun ls hl => ?_)
        refine lv_lload hx hb d_M_fraction_24 (lv_at hl 1 rfl) ?_
        refine lv_lstore (lv' := [(7, .long (zL (g % s9))), (5, .long (zL s9)), (9, .long (zL (g % s9))), (0, .ref (AD 82)), (1, .long (zL x)), (3, .long (zL y))]) hx hb d_M_fraction_26 hl (by decide) rfl (fun ls hl => ?_)
        refine lv_goto (tgt := 6) hx hb d_M_fraction_28 (by decide) ?_
        exact ihlp s9 (g % s9) H locs ls (by omega) (by omega) ((gcdZ_step hg.1 (by omega)).trans hgc)  (by omega) hw (lv_sub hl [3, 4, 5, 1, 0] rfl)
  exact lp ((y : Int).toNat + 1) x y H locs ls (by omega) (by omega) rfl  (by omega) hw (lv_sub hl [2, 3, 4, 1, 0] rfl)
abbrev rm_M_agree : Room := { frames := 3, cells := 0, slots := 0, locals := 88 }
set_option maxHeartbeats 4000000 in
set_option maxRecDepth 100000 in
theorem c_M_agree (l : Launch) (D : va_G) (k : Nat → ClassId) (N : Nat) (AD : Int → Nat) (C : Int → va_E) (sz : Nat) (th : Int) (pn : Int) (kc : Int) (tr : Int) (lc : Int) (fa : Int) (fb : Int) (mn : Int) (mr : Int) (ma : Int) (ab : Int) (bl : Int) (mz : Int → Int) (mw : Int → Int) (mS : Int → Int) (a : Int) (i : Int) (hN : 90 ≤ (N : Int)) (hM : C 82 = .inr (4, [.int (zI th), .int (zI pn), .ref (AD 83), .int (zI kc), .ref (AD 84), .ref (AD 85), .int (zI tr), .int (zI lc), .int (zI fa), .int (zI fb), .ref (AD 86), .ref (AD 87), .ref (AD 88), .int (zI mn), .int (zI mr), .int (zI ma), .long (zL ab), .long (zL bl)])) (h84 : C 84 = aI (k 0) 9 mz) (h85 : C 85 = aI (k 0) 216 mw) (hmz : ∀ i : Int, 0 ≤ i → i < 9 → 0 ≤ mz i ∧ mz i ≤ 24) (hkc : 0 ≤ kc ∧ kc ≤ 8) (h86 : C 86 = aI (k 0) 48 mS) (hlc : 0 ≤ lc ∧ lc ≤ 47) (hok : ∀ i : Int, 0 ≤ i → i < kc → MOK mw i (mz i)) (hfab : 0 < lc → (0 ≤ fa ∧ fa < kc) ∧ (0 ≤ fb ∧ fb < kc)) (hms : ∀ r : Int, 0 ≤ r → r < lc → -24 ≤ mS r ∧ mS r ≤ 24) (ha : inI a) (hi : inI i) : MI l y_M_agree (Cond.code y_M_agree b_M_agree 3 (Option.some Jvm.ClassFile.FieldType.int) :: WS) rm_M_agree D clW (tyW k) N AD C sz [.ref (AD 82), .int (zI a), .int (zI i)] (fun r C' => (((0 ≤ a ∧ a < lc) ∧ (i = 0 ∨ i = 1)) ∧ r = zI (agrF (ovR (WM mw fa) (mz fa) (WM mw fb) (mz fb) (mS a)) (ovA (WM mw fa) (mz fa) (WM mw fb) (mz fb) (mS a)) i) ∧ (∃ n1 r1 a1 p1 p2 : Int, C' 82 = .inr (4, [.int (zI 0), .int (zI pn), .ref (AD 83), .int (zI kc), .ref (AD 84), .ref (AD 85), .int (zI tr), .int (zI lc), .int (zI fa), .int (zI fb), .ref (AD 86), .ref (AD 87), .ref (AD 88), .int (zI n1), .int (zI r1), .int (zI a1), .long (zL p1), .long (zL p2)])) ∨ ¬ ((0 ≤ a ∧ a < lc) ∧ (i = 0 ∨ i = 1)) ∧ C' 82 = .inr (4, [.int (zI 1), .int (zI pn), .ref (AD 83), .int (zI kc), .ref (AD 84), .ref (AD 85), .int (zI tr), .int (zI lc), .int (zI fa), .int (zI fb), .ref (AD 86), .ref (AD 87), .ref (AD 88), .int (zI mn), .int (zI mr), .int (zI ma), .long (zL ab), .long (zL bl)])) ∧ ∀ j : Int, j ≠ 82 → C' j = C j) := by
  refine MI.start (cc := b_M_agree) (maxL := 3) (rt := .int) (by decide) rfl (Nat.le_of_ble_eq_true rfl) ?_
  intro p e s m args below meth c Q ls hx hb hml hown hts hK hsz hw hl hret
  have hown : s.vm.findClass "RingMatchesModel" = some m.cls := hown
  have hl : lv_has ls 3 [(0, .ref (AD 82)), (1, .int (zI a)), (2, .int (zI i))] := hl
  have hA := wA_hi (N := N) (AD := AD) hsz
  obtain ⟨H, hH⟩ : ∃ H, H = s.heap := ⟨_, rfl⟩
  obtain ⟨locs, hlocs⟩ : ∃ z : List Loc, z = [] := ⟨_, rfl⟩
  have hw : WD D clW (wA N AD sz) s.heap H locs N AD C := by rw [hH, hlocs]; exact hw
  rw [← hlocs]
  suffices hgo : W p l e rm_M_agree s m args below meth c H locs 0 0 Q (F0 m 0 ls []) by rw [hH] at hgo; exact hgo
  refine lv_aload_n hx hb d_M_agree_0 rfl (lv_at hl 0 rfl) ?_
  refine lv_aload_n hx hb d_M_agree_1 rfl (lv_at hl 0 rfl) ?_
  refine lv_iload_n hx hb d_M_agree_2 rfl (lv_at hl 1 rfl) ?_
  refine lv_iload_n hx hb d_M_agree_3 rfl (lv_at hl 2 rfl) ?_
  refine zr_iconst hx hb d_M_agree_4 ?_
  refine zr_callI (va_runV (As := [.int (zI a), .int (zI i), .int (zI 2)]) (rest := [.ref (AD 82)]) ⟨hx, hb, hml, hown, hts⟩ (c_M_isListed l D k N AD C H.size th pn kc tr lc fa fb mn mr ma ab bl a i 2 hN hM hlc ⟨by omega, by omega⟩ ⟨by omega, by omega⟩ (by omega)) (cwV 3 hts (good_V wk_650 wk_652 wk_22 wk_31 wk_653) rfl rfl rfl (by decide +kernel) ⟨Nat.le_of_ble_eq_true rfl, Nat.le_of_ble_eq_true rfl⟩) (cPre_V hK hw 82 ⟨by omega, by omega⟩ hM rfl) rfl rfl hl.1 rfl (lv_room (Nat.le_of_ble_eq_true rfl)) d_M_agree_5 ⟨Nat.le_of_ble_eq_true rfl, Nat.le_of_ble_eq_true rfl⟩) hw hA (fun r9 C2 H locs hq1 hw => ?_)
  obtain ⟨hq1, hCe⟩ := hq1
  rw [hCe] at hw
  rcases hq1 with ⟨hr9, hq1⟩ | ⟨hr9, hq1⟩ <;> subst hr9
  · refine zr_iconst hx hb d_M_agree_8 ?_
    refine zr_iconst hx hb d_M_agree_9 ?_
    refine zr_callI (va_runV (As := [.int (zI 1), .int (zI 1), .int (zI 1)]) (rest := []) ⟨hx, hb, hml, hown, hts⟩ (c_M_goes l D k N AD C H.size th pn kc tr lc fa fb mn mr ma ab bl 1 1 1 0 1 hN hM (by decide) (by decide) (by decide) (by decide) (by decide)) (cwV 3 hts (good_V wk_578 wk_580 wk_11 wk_31 wk_581) rfl rfl rfl (by decide +kernel) ⟨Nat.le_of_ble_eq_true rfl, Nat.le_of_ble_eq_true rfl⟩) (cPre_V hK hw 82 ⟨by omega, by omega⟩ hM rfl) rfl rfl hl.1 rfl (lv_room (Nat.le_of_ble_eq_true rfl)) d_M_agree_10 ⟨Nat.le_of_ble_eq_true rfl, Nat.le_of_ble_eq_true rfl⟩) hw hA (fun r9 C3 H locs hq4 hw => ?_)
    obtain ⟨hr9, hq4a, frC3⟩ := hq4
    subst hr9
    have hM : C3 82 = .inr (4, [.int (zI 0), .int (zI pn), .ref (AD 83), .int (zI kc), .ref (AD 84), .ref (AD 85), .int (zI tr), .int (zI lc), .int (zI fa), .int (zI fb), .ref (AD 86), .ref (AD 87), .ref (AD 88), .int (zI mn), .int (zI mr), .int (zI ma), .long (zL ab), .long (zL bl)]) := hq4a
    have h84 : C3 84 = aI (k 0) 9 mz := (frC3 _ (by omega)).trans h84
    have h85 : C3 85 = aI (k 0) 216 mw := (frC3 _ (by omega)).trans h85
    have h86 : C3 86 = aI (k 0) 48 mS := (frC3 _ (by omega)).trans h86
    refine zr_if_ne (tgt := 18) hx hb ⟨by omega, by omega⟩ d_M_agree_13 (by decide) (fun c5 => ?_) (fun c9 => absurd c9 (by decide))
    obtain ⟨hfa, hfb⟩ := hfab (by omega)
    have hok1 := hok fa (by omega) (by omega)
    have hok2 := hok fb (by omega) (by omega)
    have hsa := hms a (by omega) (by omega)
    have hz1 := hmz fa (by omega) (by omega)
    have hz2 := hmz fb (by omega) (by omega)
    have hRi := ovR_in (w1 := WM mw fa) (w2 := WM mw fb) (a := mS a) hz1 hz2
    have hAi := ovA_in (WM mw fa) (WM mw fb) (mz fa) (mz fb) (mS a)
    refine lv_aload_n hx hb d_M_agree_18 rfl (lv_at hl 0 rfl) ?_
    refine lv_aload_n hx hb d_M_agree_19 rfl (lv_at hl 0 rfl) ?_
    refine zr_get (v := .int (zI fa)) hx hb hts iw_M hown hK hw 82 ⟨by omega, by omega⟩ hM rfl 8 (by decide) (hts _ wk_514) (fun _ h => h) rfl d_M_agree_20 ?_
    refine lv_aload_n hx hb d_M_agree_23 rfl (lv_at hl 0 rfl) ?_
    refine zr_get (v := .int (zI fb)) hx hb hts iw_M hown hK hw 82 ⟨by omega, by omega⟩ hM rfl 9 (by decide) (hts _ wk_515) (fun _ h => h) rfl d_M_agree_24 ?_
    refine lv_aload_n hx hb d_M_agree_27 rfl (lv_at hl 0 rfl) ?_
    refine zr_get (v := .ref (AD 86)) hx hb hts iw_M hown hK hw 82 ⟨by omega, by omega⟩ hM rfl 10 (by decide) (hts _ wk_516) (fun _ h => h) rfl d_M_agree_28 ?_
    refine lv_iload_n hx hb d_M_agree_31 rfl (lv_at hl 1 rfl) ?_
    refine zr_iald hx hb hK hw 86 ⟨by omega, by omega⟩ 0 h86 rfl ⟨by omega, by omega⟩ (by decide) d_M_agree_32 ?_
    refine zr_callI (va_runV (As := [.int (zI fa), .int (zI fb), .int (zI (mS a))]) (rest := []) ⟨hx, hb, hml, hown, hts⟩ (c_M_correlate l D k N AD C3 H.size 0 pn kc tr lc fa fb mn mr ma ab bl mz mw fa fb (mS a) hN hM h84 h85 hmz (by omega) ⟨by omega, by omega⟩ ⟨by omega, by omega⟩ ⟨by omega, by omega⟩ hok1 hok2) (cwV 3 hts (good_V wk_626 wk_628 wk_18 wk_31 wk_629) rfl rfl rfl (by decide +kernel) ⟨Nat.le_of_ble_eq_true rfl, Nat.le_of_ble_eq_true rfl⟩) (cPre_V hK hw 82 ⟨by omega, by omega⟩ hM rfl) rfl rfl hl.1 rfl (lv_room (Nat.le_of_ble_eq_true rfl)) d_M_agree_33 ⟨Nat.le_of_ble_eq_true rfl, Nat.le_of_ble_eq_true rfl⟩) hw hA (fun r9 C6 H locs hq7 hw => ?_)
    obtain ⟨hr9, hq7a, frC6⟩ := hq7
    subst hr9
    have hM : C6 82 = .inr (4, [.int (zI 0), .int (zI pn), .ref (AD 83), .int (zI kc), .ref (AD 84), .ref (AD 85), .int (zI tr), .int (zI lc), .int (zI fa), .int (zI fb), .ref (AD 86), .ref (AD 87), .ref (AD 88), .int (zI (ovN (WM mw fa) (mz fa) (WM mw fb) (mz fb) (mS a))), .int (zI (ovR (WM mw fa) (mz fa) (WM mw fb) (mz fb) (mS a))), .int (zI (ovA (WM mw fa) (mz fa) (WM mw fb) (mz fb) (mS a))), .long (zL ab), .long (zL bl)]) := hq7a
    have h84 : C6 84 = aI (k 0) 9 mz := (frC6 _ (by omega)).trans h84
    have h85 : C6 85 = aI (k 0) 216 mw := (frC6 _ (by omega)).trans h85
    have h86 : C6 86 = aI (k 0) 48 mS := (frC6 _ (by omega)).trans h86
    refine lv_pop hx hb d_M_agree_36 rfl ?_
    refine lv_aload_n hx hb d_M_agree_37 rfl (lv_at hl 0 rfl) ?_
    refine lv_aload_n hx hb d_M_agree_38 rfl (lv_at hl 0 rfl) ?_
    refine zr_get (v := .int (zI (ovA (WM mw fa) (mz fa) (WM mw fb) (mz fb) (mS a)))) hx hb hts iw_M hown hK hw 82 ⟨by omega, by omega⟩ hM rfl 15 (by decide) (hts _ wk_521) (fun _ h => h) rfl d_M_agree_39 ?_
    refine zr_i2l hx hb d_M_agree_42 ⟨by omega, by omega⟩ ?_
    refine lv_aload_n hx hb d_M_agree_43 rfl (lv_at hl 0 rfl) ?_
    refine zr_get (v := .int (zI (ovR (WM mw fa) (mz fa) (WM mw fb) (mz fb) (mS a)))) hx hb hts iw_M hown hK hw 82 ⟨by omega, by omega⟩ hM rfl 14 (by decide) (hts _ wk_520) (fun _ h => h) rfl d_M_agree_44 ?_
    refine zr_if_ne (tgt := 54) hx hb ⟨by omega, by omega⟩ d_M_agree_47 (by decide) (fun c8 => ?_) (fun c8 => ?_)
    · have hz9 := c8
      refine zr_ldc2 2 hx hb hown (hts _ wk_658) (by decide +kernel) d_M_agree_54 ?_
      refine lv_aload_n hx hb d_M_agree_57 rfl (lv_at hl 0 rfl) ?_
      refine zr_get (v := .int (zI (ovR (WM mw fa) (mz fa) (WM mw fb) (mz fb) (mS a)))) hx hb hts iw_M hown hK hw 82 ⟨by omega, by omega⟩ hM rfl 14 (by decide) (hts _ wk_520) (fun _ h => h) rfl d_M_agree_58 ?_
      refine zr_i2l hx hb d_M_agree_61 ⟨by omega, by omega⟩ ?_
      refine zr_lmul hx hb d_M_agree_62 ?_
      refine zr_callV (va_runV (As := [.long (zL (ovA (WM mw fa) (mz fa) (WM mw fb) (mz fb) (mS a))), .long (zL (2 * (ovR (WM mw fa) (mz fa) (WM mw fb) (mz fb) (mS a))))]) (rest := []) ⟨hx, hb, hml, hown, hts⟩ (c_M_fraction l D k N AD C6 H.size 0 pn kc tr lc fa fb (ovN (WM mw fa) (mz fa) (WM mw fb) (mz fb) (mS a)) (ovR (WM mw fa) (mz fa) (WM mw fb) (mz fb) (mS a)) (ovA (WM mw fa) (mz fa) (WM mw fb) (mz fb) (mS a)) ab bl (ovA (WM mw fa) (mz fa) (WM mw fb) (mz fb) (mS a)) (2 * (ovR (WM mw fa) (mz fa) (WM mw fb) (mz fb) (mS a))) hN hM (by omega) (by omega)) (cwV 2 hts (good_V wk_659 wk_661 wk_23 wk_31 wk_662) rfl rfl rfl (by decide +kernel) ⟨Nat.le_of_ble_eq_true rfl, Nat.le_of_ble_eq_true rfl⟩) (cPre_V hK hw 82 ⟨by omega, by omega⟩ hM rfl) rfl rfl hl.1 rfl (lv_room (Nat.le_of_ble_eq_true rfl)) d_M_agree_63 ⟨Nat.le_of_ble_eq_true rfl, Nat.le_of_ble_eq_true rfl⟩) hw hA (fun C9 H locs hq10 hw => ?_)
      obtain ⟨hq10a, frC9⟩ := hq10
      have hM : C9 82 = .inr (4, [.int (zI 0), .int (zI pn), .ref (AD 83), .int (zI kc), .ref (AD 84), .ref (AD 85), .int (zI tr), .int (zI lc), .int (zI fa), .int (zI fb), .ref (AD 86), .ref (AD 87), .ref (AD 88), .int (zI (ovN (WM mw fa) (mz fa) (WM mw fb) (mz fb) (mS a))), .int (zI (ovR (WM mw fa) (mz fa) (WM mw fb) (mz fb) (mS a))), .int (zI (ovA (WM mw fa) (mz fa) (WM mw fb) (mz fb) (mS a))), .long (zL ((ovA (WM mw fa) (mz fa) (WM mw fb) (mz fb) (mS a)) / gcdZ (ovA (WM mw fa) (mz fa) (WM mw fb) (mz fb) (mS a)) (2 * (ovR (WM mw fa) (mz fa) (WM mw fb) (mz fb) (mS a))))), .long (zL ((2 * (ovR (WM mw fa) (mz fa) (WM mw fb) (mz fb) (mS a))) / gcdZ (ovA (WM mw fa) (mz fa) (WM mw fb) (mz fb) (mS a)) (2 * (ovR (WM mw fa) (mz fa) (WM mw fb) (mz fb) (mS a)))))]) := hq10a
      have h84 : C9 84 = aI (k 0) 9 mz := (frC9 _ (by omega)).trans h84
      have h85 : C9 85 = aI (k 0) 216 mw := (frC9 _ (by omega)).trans h85
      have h86 : C9 86 = aI (k 0) 48 mS := (frC9 _ (by omega)).trans h86
      refine lv_iload_n hx hb d_M_agree_66 rfl (lv_at hl 2 rfl) ?_
      refine zr_if_ne (tgt := 77) hx hb ⟨by omega, by omega⟩ d_M_agree_67 (by decide) (fun c11 => ?_) (fun c11 => ?_)
      · refine lv_aload_n hx hb d_M_agree_77 rfl (lv_at hl 0 rfl) ?_
        refine zr_get (v := .long (zL ((2 * (ovR (WM mw fa) (mz fa) (WM mw fb) (mz fb) (mS a))) / gcdZ (ovA (WM mw fa) (mz fa) (WM mw fb) (mz fb) (mS a)) (2 * (ovR (WM mw fa) (mz fa) (WM mw fb) (mz fb) (mS a)))))) hx hb hts iw_M hown hK hw 82 ⟨by omega, by omega⟩ hM rfl 17 (by decide) (hts _ wk_523) (fun _ h => h) rfl d_M_agree_78 ?_
        refine zr_l2i hx hb d_M_agree_81 ?_
        exact hret _ _ _ _ _ _ d_M_agree_82 hw rfl ⟨Or.inl ⟨by omega, by unfold agrF lesF; rw [if_neg hz9, if_neg (by omega)], _, _, _, _, _, hM⟩, fun j hj => by rw [frC9 _ (by omega), frC6 _ (by omega), frC3 _ (by omega)]⟩
      · refine lv_aload_n hx hb d_M_agree_70 rfl (lv_at hl 0 rfl) ?_
        refine zr_get (v := .long (zL ((ovA (WM mw fa) (mz fa) (WM mw fb) (mz fb) (mS a)) / gcdZ (ovA (WM mw fa) (mz fa) (WM mw fb) (mz fb) (mS a)) (2 * (ovR (WM mw fa) (mz fa) (WM mw fb) (mz fb) (mS a)))))) hx hb hts iw_M hown hK hw 82 ⟨by omega, by omega⟩ hM rfl 16 (by decide) (hts _ wk_522) (fun _ h => h) rfl d_M_agree_71 ?_
        refine lv_goto (tgt := 81) hx hb d_M_agree_74 (by decide) ?_
        refine zr_l2i hx hb d_M_agree_81 ?_
        exact hret _ _ _ _ _ _ d_M_agree_82 hw rfl ⟨Or.inl ⟨by omega, by unfold agrF lesF; rw [if_neg hz9, if_pos (by omega)], _, _, _, _, _, hM⟩, fun j hj => by rw [frC9 _ (by omega), frC6 _ (by omega), frC3 _ (by omega)]⟩
    · have hz9 := c8
      refine zr_lconst1 hx hb d_M_agree_50 ?_
      refine lv_goto (tgt := 63) hx hb d_M_agree_51 (by decide) ?_
      refine zr_callV (va_runV (As := [.long (zL (ovA (WM mw fa) (mz fa) (WM mw fb) (mz fb) (mS a))), .long (zL 1)]) (rest := []) ⟨hx, hb, hml, hown, hts⟩ (c_M_fraction l D k N AD C6 H.size 0 pn kc tr lc fa fb (ovN (WM mw fa) (mz fa) (WM mw fb) (mz fb) (mS a)) (ovR (WM mw fa) (mz fa) (WM mw fb) (mz fb) (mS a)) (ovA (WM mw fa) (mz fa) (WM mw fb) (mz fb) (mS a)) ab bl (ovA (WM mw fa) (mz fa) (WM mw fb) (mz fb) (mS a)) 1 hN hM (by omega) (by omega)) (cwV 2 hts (good_V wk_659 wk_661 wk_23 wk_31 wk_662) rfl rfl rfl (by decide +kernel) ⟨Nat.le_of_ble_eq_true rfl, Nat.le_of_ble_eq_true rfl⟩) (cPre_V hK hw 82 ⟨by omega, by omega⟩ hM rfl) rfl rfl hl.1 rfl (lv_room (Nat.le_of_ble_eq_true rfl)) d_M_agree_63 ⟨Nat.le_of_ble_eq_true rfl, Nat.le_of_ble_eq_true rfl⟩) hw hA (fun C12 H locs hq13 hw => ?_)
      obtain ⟨hq13a, frC12⟩ := hq13
      have hM : C12 82 = .inr (4, [.int (zI 0), .int (zI pn), .ref (AD 83), .int (zI kc), .ref (AD 84), .ref (AD 85), .int (zI tr), .int (zI lc), .int (zI fa), .int (zI fb), .ref (AD 86), .ref (AD 87), .ref (AD 88), .int (zI (ovN (WM mw fa) (mz fa) (WM mw fb) (mz fb) (mS a))), .int (zI (ovR (WM mw fa) (mz fa) (WM mw fb) (mz fb) (mS a))), .int (zI (ovA (WM mw fa) (mz fa) (WM mw fb) (mz fb) (mS a))), .long (zL ((ovA (WM mw fa) (mz fa) (WM mw fb) (mz fb) (mS a)) / gcdZ (ovA (WM mw fa) (mz fa) (WM mw fb) (mz fb) (mS a)) 1)), .long (zL (1 / gcdZ (ovA (WM mw fa) (mz fa) (WM mw fb) (mz fb) (mS a)) 1))]) := hq13a
      have h84 : C12 84 = aI (k 0) 9 mz := (frC12 _ (by omega)).trans h84
      have h85 : C12 85 = aI (k 0) 216 mw := (frC12 _ (by omega)).trans h85
      have h86 : C12 86 = aI (k 0) 48 mS := (frC12 _ (by omega)).trans h86
      refine lv_iload_n hx hb d_M_agree_66 rfl (lv_at hl 2 rfl) ?_
      refine zr_if_ne (tgt := 77) hx hb ⟨by omega, by omega⟩ d_M_agree_67 (by decide) (fun c14 => ?_) (fun c14 => ?_)
      · refine lv_aload_n hx hb d_M_agree_77 rfl (lv_at hl 0 rfl) ?_
        refine zr_get (v := .long (zL (1 / gcdZ (ovA (WM mw fa) (mz fa) (WM mw fb) (mz fb) (mS a)) 1))) hx hb hts iw_M hown hK hw 82 ⟨by omega, by omega⟩ hM rfl 17 (by decide) (hts _ wk_523) (fun _ h => h) rfl d_M_agree_78 ?_
        refine zr_l2i hx hb d_M_agree_81 ?_
        exact hret _ _ _ _ _ _ d_M_agree_82 hw rfl ⟨Or.inl ⟨by omega, by unfold agrF lesF; rw [if_pos hz9, if_neg (by omega)], _, _, _, _, _, hM⟩, fun j hj => by rw [frC12 _ (by omega), frC6 _ (by omega), frC3 _ (by omega)]⟩
      · refine lv_aload_n hx hb d_M_agree_70 rfl (lv_at hl 0 rfl) ?_
        refine zr_get (v := .long (zL ((ovA (WM mw fa) (mz fa) (WM mw fb) (mz fb) (mS a)) / gcdZ (ovA (WM mw fa) (mz fa) (WM mw fb) (mz fb) (mS a)) 1))) hx hb hts iw_M hown hK hw 82 ⟨by omega, by omega⟩ hM rfl 16 (by decide) (hts _ wk_522) (fun _ h => h) rfl d_M_agree_71 ?_
        refine lv_goto (tgt := 81) hx hb d_M_agree_74 (by decide) ?_
        refine zr_l2i hx hb d_M_agree_81 ?_
        exact hret _ _ _ _ _ _ d_M_agree_82 hw rfl ⟨Or.inl ⟨by omega, by unfold agrF lesF; rw [if_pos hz9, if_pos (by omega)], _, _, _, _, _, hM⟩, fun j hj => by rw [frC12 _ (by omega), frC6 _ (by omega), frC3 _ (by omega)]⟩
  · refine zr_iconst hx hb d_M_agree_8 ?_
    refine zr_iconst hx hb d_M_agree_9 ?_
    refine zr_callI (va_runV (As := [.int (zI 0), .int (zI 1), .int (zI 1)]) (rest := []) ⟨hx, hb, hml, hown, hts⟩ (c_M_goes l D k N AD C H.size th pn kc tr lc fa fb mn mr ma ab bl 0 1 1 1 0 hN hM (by decide) (by decide) (by decide) (by decide) (by decide)) (cwV 3 hts (good_V wk_578 wk_580 wk_11 wk_31 wk_581) rfl rfl rfl (by decide +kernel) ⟨Nat.le_of_ble_eq_true rfl, Nat.le_of_ble_eq_true rfl⟩) (cPre_V hK hw 82 ⟨by omega, by omega⟩ hM rfl) rfl rfl hl.1 rfl (lv_room (Nat.le_of_ble_eq_true rfl)) d_M_agree_10 ⟨Nat.le_of_ble_eq_true rfl, Nat.le_of_ble_eq_true rfl⟩) hw hA (fun r9 C15 H locs hq16 hw => ?_)
    obtain ⟨hr9, hq16a, frC15⟩ := hq16
    subst hr9
    have hM : C15 82 = .inr (4, [.int (zI 1), .int (zI pn), .ref (AD 83), .int (zI kc), .ref (AD 84), .ref (AD 85), .int (zI tr), .int (zI lc), .int (zI fa), .int (zI fb), .ref (AD 86), .ref (AD 87), .ref (AD 88), .int (zI mn), .int (zI mr), .int (zI ma), .long (zL ab), .long (zL bl)]) := hq16a
    have h84 : C15 84 = aI (k 0) 9 mz := (frC15 _ (by omega)).trans h84
    have h85 : C15 85 = aI (k 0) 216 mw := (frC15 _ (by omega)).trans h85
    have h86 : C15 86 = aI (k 0) 48 mS := (frC15 _ (by omega)).trans h86
    refine zr_if_ne (tgt := 18) hx hb ⟨by omega, by omega⟩ d_M_agree_13 (by decide) (fun c9 => absurd c9 (by decide)) (fun c17 => ?_)
    refine zr_iconst hx hb d_M_agree_16 ?_
    exact hret _ _ _ _ _ _ d_M_agree_17 hw rfl ⟨Or.inr ⟨by omega, hM⟩, fun j hj => by rw [frC15 _ (by omega)]⟩
theorem gcdZ_self {y : Int} (h : 0 < y) : y / gcdZ y y = 1 := by
  have e : gcdZ y y = y := by unfold gcdZ; rw [Int.gcd_self]; omega
  rw [e]; exact Int.ediv_self (by omega)

abbrev rm_M_odds : Room := { frames := 3, cells := 0, slots := 0, locals := 88 }
set_option maxHeartbeats 4000000 in
set_option maxRecDepth 100000 in
theorem c_M_odds (l : Launch) (D : va_G) (k : Nat → ClassId) (N : Nat) (AD : Int → Nat) (C : Int → va_E) (sz : Nat) (th : Int) (pn : Int) (kc : Int) (tr : Int) (lc : Int) (fa : Int) (fb : Int) (mn : Int) (mr : Int) (ma : Int) (ab : Int) (bl : Int) (mz : Int → Int) (mw : Int → Int) (mS : Int → Int) (a : Int) (i : Int) (hN : 90 ≤ (N : Int)) (hM : C 82 = .inr (4, [.int (zI th), .int (zI pn), .ref (AD 83), .int (zI kc), .ref (AD 84), .ref (AD 85), .int (zI tr), .int (zI lc), .int (zI fa), .int (zI fb), .ref (AD 86), .ref (AD 87), .ref (AD 88), .int (zI mn), .int (zI mr), .int (zI ma), .long (zL ab), .long (zL bl)])) (h84 : C 84 = aI (k 0) 9 mz) (h85 : C 85 = aI (k 0) 216 mw) (hmz : ∀ i : Int, 0 ≤ i → i < 9 → 0 ≤ mz i ∧ mz i ≤ 24) (hkc : 0 ≤ kc ∧ kc ≤ 8) (h86 : C 86 = aI (k 0) 48 mS) (hlc : 0 ≤ lc ∧ lc ≤ 47) (hok : ∀ i : Int, 0 ≤ i → i < kc → MOK mw i (mz i)) (hfab : 0 < lc → (0 ≤ fa ∧ fa < kc) ∧ (0 ≤ fb ∧ fb < kc)) (hms : ∀ r : Int, 0 ≤ r → r < lc → -24 ≤ mS r ∧ mS r ≤ 24) (ha : inI a) (hi : inI i) (htr : 0 ≤ tr ∧ tr ≤ 100000) : ML l y_M_odds (Cond.code y_M_odds b_M_odds 11 (Option.some Jvm.ClassFile.FieldType.long) :: WS) rm_M_odds D clW (tyW k) N AD C sz [.ref (AD 82), .int (zI a), .int (zI i)] (fun r C' => (((0 ≤ a ∧ a < lc) ∧ (i = 0 ∨ i = 1)) ∧ r = zL (oddF (ovR (WM mw fa) (mz fa) (WM mw fb) (mz fb) (mS a)) (ovA (WM mw fa) (mz fa) (WM mw fb) (mz fb) (mS a)) tr i) ∧ (∃ n1 r1 a1 p1 p2 : Int, C' 82 = .inr (4, [.int (zI 0), .int (zI pn), .ref (AD 83), .int (zI kc), .ref (AD 84), .ref (AD 85), .int (zI tr), .int (zI lc), .int (zI fa), .int (zI fb), .ref (AD 86), .ref (AD 87), .ref (AD 88), .int (zI n1), .int (zI r1), .int (zI a1), .long (zL p1), .long (zL p2)])) ∨ ¬ ((0 ≤ a ∧ a < lc) ∧ (i = 0 ∨ i = 1)) ∧ C' 82 = .inr (4, [.int (zI 1), .int (zI pn), .ref (AD 83), .int (zI kc), .ref (AD 84), .ref (AD 85), .int (zI tr), .int (zI lc), .int (zI fa), .int (zI fb), .ref (AD 86), .ref (AD 87), .ref (AD 88), .int (zI mn), .int (zI mr), .int (zI ma), .long (zL ab), .long (zL bl)])) ∧ ∀ j : Int, j ≠ 82 → C' j = C j) := by
  refine ML.start (cc := b_M_odds) (maxL := 11) (by decide) rfl (Nat.le_of_ble_eq_true rfl) ?_
  intro p e s m args below meth c Q ls hx hb hml hown hts hK hsz hw hl hret
  have hown : s.vm.findClass "RingMatchesModel" = some m.cls := hown
  have hl : lv_has ls 11 [(0, .ref (AD 82)), (1, .int (zI a)), (2, .int (zI i))] := hl
  have hA := wA_hi (N := N) (AD := AD) hsz
  obtain ⟨H, hH⟩ : ∃ H, H = s.heap := ⟨_, rfl⟩
  obtain ⟨locs, hlocs⟩ : ∃ z : List Loc, z = [] := ⟨_, rfl⟩
  have hw : WD D clW (wA N AD sz) s.heap H locs N AD C := by rw [hH, hlocs]; exact hw
  rw [← hlocs]
  suffices hgo : W p l e rm_M_odds s m args below meth c H locs 0 0 Q (F0 m 0 ls []) by rw [hH] at hgo; exact hgo
  refine lv_aload_n hx hb d_M_odds_0 rfl (lv_at hl 0 rfl) ?_
  refine lv_aload_n hx hb d_M_odds_1 rfl (lv_at hl 0 rfl) ?_
  refine lv_iload_n hx hb d_M_odds_2 rfl (lv_at hl 1 rfl) ?_
  refine lv_iload_n hx hb d_M_odds_3 rfl (lv_at hl 2 rfl) ?_
  refine zr_iconst hx hb d_M_odds_4 ?_
  refine zr_callI (va_runV (As := [.int (zI a), .int (zI i), .int (zI 2)]) (rest := [.ref (AD 82)]) ⟨hx, hb, hml, hown, hts⟩ (c_M_isListed l D k N AD C H.size th pn kc tr lc fa fb mn mr ma ab bl a i 2 hN hM hlc ⟨by omega, by omega⟩ ⟨by omega, by omega⟩ (by omega)) (cwV 3 hts (good_V wk_650 wk_652 wk_22 wk_31 wk_653) rfl rfl rfl (by decide +kernel) ⟨Nat.le_of_ble_eq_true rfl, Nat.le_of_ble_eq_true rfl⟩) (cPre_V hK hw 82 ⟨by omega, by omega⟩ hM rfl) rfl rfl hl.1 rfl (lv_room (Nat.le_of_ble_eq_true rfl)) d_M_odds_5 ⟨Nat.le_of_ble_eq_true rfl, Nat.le_of_ble_eq_true rfl⟩) hw hA (fun r9 C2 H locs hq1 hw => ?_)
  obtain ⟨hq1, hCe⟩ := hq1
  rw [hCe] at hw
  rcases hq1 with ⟨hr9, hq1⟩ | ⟨hr9, hq1⟩ <;> subst hr9
  · refine zr_iconst hx hb d_M_odds_8 ?_
    refine zr_iconst hx hb d_M_odds_9 ?_
    refine zr_callI (va_runV (As := [.int (zI 1), .int (zI 1), .int (zI 1)]) (rest := []) ⟨hx, hb, hml, hown, hts⟩ (c_M_goes l D k N AD C H.size th pn kc tr lc fa fb mn mr ma ab bl 1 1 1 0 1 hN hM (by decide) (by decide) (by decide) (by decide) (by decide)) (cwV 3 hts (good_V wk_578 wk_580 wk_11 wk_31 wk_581) rfl rfl rfl (by decide +kernel) ⟨Nat.le_of_ble_eq_true rfl, Nat.le_of_ble_eq_true rfl⟩) (cPre_V hK hw 82 ⟨by omega, by omega⟩ hM rfl) rfl rfl hl.1 rfl (lv_room (Nat.le_of_ble_eq_true rfl)) d_M_odds_10 ⟨Nat.le_of_ble_eq_true rfl, Nat.le_of_ble_eq_true rfl⟩) hw hA (fun r9 C3 H locs hq4 hw => ?_)
    obtain ⟨hr9, hq4a, frC3⟩ := hq4
    subst hr9
    have hM : C3 82 = .inr (4, [.int (zI 0), .int (zI pn), .ref (AD 83), .int (zI kc), .ref (AD 84), .ref (AD 85), .int (zI tr), .int (zI lc), .int (zI fa), .int (zI fb), .ref (AD 86), .ref (AD 87), .ref (AD 88), .int (zI mn), .int (zI mr), .int (zI ma), .long (zL ab), .long (zL bl)]) := hq4a
    have h84 : C3 84 = aI (k 0) 9 mz := (frC3 _ (by omega)).trans h84
    have h85 : C3 85 = aI (k 0) 216 mw := (frC3 _ (by omega)).trans h85
    have h86 : C3 86 = aI (k 0) 48 mS := (frC3 _ (by omega)).trans h86
    refine zr_if_ne (tgt := 18) hx hb ⟨by omega, by omega⟩ d_M_odds_13 (by decide) (fun c5 => ?_) (fun c9 => absurd c9 (by decide))
    obtain ⟨hfa, hfb⟩ := hfab (by omega)
    have hok1 := hok fa (by omega) (by omega)
    have hok2 := hok fb (by omega) (by omega)
    have hsa := hms a (by omega) (by omega)
    have hz1 := hmz fa (by omega) (by omega)
    have hz2 := hmz fb (by omega) (by omega)
    have hRi := ovR_in (w1 := WM mw fa) (w2 := WM mw fb) (a := mS a) hz1 hz2
    have hAi := ovA_in (WM mw fa) (WM mw fb) (mz fa) (mz fb) (mS a)
    refine lv_aload_n hx hb d_M_odds_18 rfl (lv_at hl 0 rfl) ?_
    refine lv_aload_n hx hb d_M_odds_19 rfl (lv_at hl 0 rfl) ?_
    refine zr_get (v := .int (zI fa)) hx hb hts iw_M hown hK hw 82 ⟨by omega, by omega⟩ hM rfl 8 (by decide) (hts _ wk_514) (fun _ h => h) rfl d_M_odds_20 ?_
    refine lv_aload_n hx hb d_M_odds_23 rfl (lv_at hl 0 rfl) ?_
    refine zr_get (v := .int (zI fb)) hx hb hts iw_M hown hK hw 82 ⟨by omega, by omega⟩ hM rfl 9 (by decide) (hts _ wk_515) (fun _ h => h) rfl d_M_odds_24 ?_
    refine lv_aload_n hx hb d_M_odds_27 rfl (lv_at hl 0 rfl) ?_
    refine zr_get (v := .ref (AD 86)) hx hb hts iw_M hown hK hw 82 ⟨by omega, by omega⟩ hM rfl 10 (by decide) (hts _ wk_516) (fun _ h => h) rfl d_M_odds_28 ?_
    refine lv_iload_n hx hb d_M_odds_31 rfl (lv_at hl 1 rfl) ?_
    refine zr_iald hx hb hK hw 86 ⟨by omega, by omega⟩ 0 h86 rfl ⟨by omega, by omega⟩ (by decide) d_M_odds_32 ?_
    refine zr_callI (va_runV (As := [.int (zI fa), .int (zI fb), .int (zI (mS a))]) (rest := []) ⟨hx, hb, hml, hown, hts⟩ (c_M_correlate l D k N AD C3 H.size 0 pn kc tr lc fa fb mn mr ma ab bl mz mw fa fb (mS a) hN hM h84 h85 hmz (by omega) ⟨by omega, by omega⟩ ⟨by omega, by omega⟩ ⟨by omega, by omega⟩ hok1 hok2) (cwV 3 hts (good_V wk_626 wk_628 wk_18 wk_31 wk_629) rfl rfl rfl (by decide +kernel) ⟨Nat.le_of_ble_eq_true rfl, Nat.le_of_ble_eq_true rfl⟩) (cPre_V hK hw 82 ⟨by omega, by omega⟩ hM rfl) rfl rfl hl.1 rfl (lv_room (Nat.le_of_ble_eq_true rfl)) d_M_odds_33 ⟨Nat.le_of_ble_eq_true rfl, Nat.le_of_ble_eq_true rfl⟩) hw hA (fun r9 C6 H locs hq7 hw => ?_)
    obtain ⟨hr9, hq7a, frC6⟩ := hq7
    subst hr9
    have hM : C6 82 = .inr (4, [.int (zI 0), .int (zI pn), .ref (AD 83), .int (zI kc), .ref (AD 84), .ref (AD 85), .int (zI tr), .int (zI lc), .int (zI fa), .int (zI fb), .ref (AD 86), .ref (AD 87), .ref (AD 88), .int (zI (ovN (WM mw fa) (mz fa) (WM mw fb) (mz fb) (mS a))), .int (zI (ovR (WM mw fa) (mz fa) (WM mw fb) (mz fb) (mS a))), .int (zI (ovA (WM mw fa) (mz fa) (WM mw fb) (mz fb) (mS a))), .long (zL ab), .long (zL bl)]) := hq7a
    have h84 : C6 84 = aI (k 0) 9 mz := (frC6 _ (by omega)).trans h84
    have h85 : C6 85 = aI (k 0) 216 mw := (frC6 _ (by omega)).trans h85
    have h86 : C6 86 = aI (k 0) 48 mS := (frC6 _ (by omega)).trans h86
    refine lv_pop hx hb d_M_odds_36 rfl ?_
    obtain ⟨t9, ht9⟩ : ∃ z : Int, z = ovR (WM mw fa) (mz fa) (WM mw fb) (mz fb) (mS a) := ⟨_, rfl⟩
    obtain ⟨g9, hg9⟩ : ∃ z : Int, z = ovA (WM mw fa) (mz fa) (WM mw fb) (mz fb) (mS a) := ⟨_, rfl⟩
    rw [← ht9, ← hg9] at hM
    rw [← ht9] at hRi
    rw [← ht9, ← hg9] at hAi
    refine zr_lconst0 hx hb d_M_odds_37 ?_
    refine lv_lstore_n (lv' := [(3, .long (zL 0)), (0, .ref (AD 82)), (1, .int (zI a)), (2, .int (zI i))]) hx hb d_M_odds_38 rfl hl (by decide) rfl (fun ls hl => ?_)
    refine zr_lconst1 hx hb d_M_odds_39 ?_
    refine lv_lstore (lv' := [(5, .long (zL 1)), (3, .long (zL 0)), (0, .ref (AD 82)), (1, .int (zI a)), (2, .int (zI i))]) hx hb d_M_odds_40 hl (by decide) rfl (fun ls hl => ?_)
    refine zr_iconst hx hb d_M_odds_42 ?_
    refine lv_istore (lv' := [(7, .int (zI 0)), (5, .long (zL 1)), (3, .long (zL 0)), (0, .ref (AD 82)), (1, .int (zI a)), (2, .int (zI i))]) hx hb d_M_odds_43 hl (by decide) rfl (fun ls hl => ?_)
    have lp : ∀ (n9 : Nat) (x : Int) (wy : Int) (ex : Int) (H : Heap) (locs : List Loc) (ls : Array Slot), (0 ≤ x ∧ x ≤ t9 + 1) → (wy = sumR (wyT ((g9 + 1) / 2) t9) 0 (x - 0).toNat) → (ex = exR t9 x.toNat) → (t9 + 1 - x).toNat < n9 → WD D clW (wA N AD sz) s.heap H locs N AD C6 → lv_has ls 11 [(0, .ref (AD 82)), (1, .int (zI a)), (2, .int (zI i)), (3, .long (zL wy)), (5, .long (zL ex)), (7, .int (zI x))] → W p l e rm_M_odds s m args below meth c H locs 0 0 Q (F0 m 45 ls []) := by
      intro n9
      induction n9 with
      | zero => intro x wy ex H locs ls hx1 hwy hex  hm hw hl; exact absurd hm (by omega)
      | succ n9 ihlp =>
        intro x wy ex H locs ls hx1 hwy hex  hm hw hl
        have hei := exR_in (r := t9) (x := x) hRi (by omega)
        refine lv_iload hx hb d_M_odds_45 (lv_at hl 5 rfl) ?_
        refine lv_aload_n hx hb d_M_odds_47 rfl (lv_at hl 0 rfl) ?_
        refine zr_get (v := .int (zI t9)) hx hb hts iw_M hown hK hw 82 ⟨by omega, by omega⟩ hM rfl 14 (by decide) (hts _ wk_520) (fun _ h => h) rfl d_M_odds_48 ?_
        refine zr_icmp_gt (tgt := 99) hx hb ⟨by omega, by omega⟩ ⟨by omega, by omega⟩ d_M_odds_51 (by decide) (fun c8 => ?_) (fun c8 => ?_)
        · have hxr : x = t9 + 1 := by omega
          have hwe : wy = ways ((g9 + 1) / 2) t9 := by rw [hwy, hxr]; rfl
          have hwi := ways_in (f := (g9 + 1) / 2) (r := t9) hRi
          have hpi := p2_in (r := t9) hRi
          have hmb := mul_b (a := wy) (b := tr) (A := 40000000) (B := 100000) (by omega) (by omega) (by omega) (by omega)
          refine zr_lconst1 hx hb d_M_odds_99 ?_
          refine lv_aload_n hx hb d_M_odds_100 rfl (lv_at hl 0 rfl) ?_
          refine zr_get (v := .int (zI t9)) hx hb hts iw_M hown hK hw 82 ⟨by omega, by omega⟩ hM rfl 14 (by decide) (hts _ wk_520) (fun _ h => h) rfl d_M_odds_101 ?_
          refine lv_lshl (v := zL (p2 t9)) hx hb d_M_odds_104 (p2_is (by omega)) ?_
          refine lv_lstore (lv' := [(7, .long (zL (p2 t9))), (0, .ref (AD 82)), (1, .int (zI a)), (2, .int (zI i)), (3, .long (zL wy)), (5, .long (zL ex))]) hx hb d_M_odds_105 hl (by decide) rfl (fun ls hl => ?_)
          refine lv_lload_n hx hb d_M_odds_107 rfl (lv_at hl 4 rfl) ?_
          refine lv_aload_n hx hb d_M_odds_108 rfl (lv_at hl 1 rfl) ?_
          refine zr_get (v := .int (zI tr)) hx hb hts iw_M hown hK hw 82 ⟨by omega, by omega⟩ hM rfl 6 (by decide) (hts _ wk_512) (fun _ h => h) rfl d_M_odds_109 ?_
          refine zr_i2l hx hb d_M_odds_112 ⟨by omega, by omega⟩ ?_
          refine zr_lmul hx hb d_M_odds_113 ?_
          refine lv_lstore (lv' := [(9, .long (zL (wy * tr))), (7, .long (zL (p2 t9))), (0, .ref (AD 82)), (1, .int (zI a)), (2, .int (zI i)), (3, .long (zL wy)), (5, .long (zL ex))]) hx hb d_M_odds_114 hl (by decide) rfl (fun ls hl => ?_)
          refine lv_aload_n hx hb d_M_odds_116 rfl (lv_at hl 2 rfl) ?_
          refine lv_lload hx hb d_M_odds_117 (lv_at hl 0 rfl) ?_
          refine lv_lload hx hb d_M_odds_119 (lv_at hl 1 rfl) ?_
          refine zr_lcmp_ge (tgt := 130) hx hb ⟨by omega, by omega⟩ ⟨by omega, by omega⟩ d_M_odds_121 d_M_odds_122 (by decide) (fun c9 => ?_) (fun c9 => ?_)
          · have hz9 := c9
            refine lv_lload hx hb d_M_odds_130 (lv_at hl 1 rfl) ?_
            refine lv_lload hx hb d_M_odds_132 (lv_at hl 1 rfl) ?_
            refine zr_callV (va_runV (As := [.long (zL (p2 t9)), .long (zL (p2 t9))]) (rest := []) ⟨hx, hb, hml, hown, hts⟩ (c_M_fraction l D k N AD C6 H.size 0 pn kc tr lc fa fb (ovN (WM mw fa) (mz fa) (WM mw fb) (mz fb) (mS a)) t9 g9 ab bl (p2 t9) (p2 t9) hN hM (by omega) (by omega)) (cwV 2 hts (good_V wk_659 wk_661 wk_23 wk_31 wk_662) rfl rfl rfl (by decide +kernel) ⟨Nat.le_of_ble_eq_true rfl, Nat.le_of_ble_eq_true rfl⟩) (cPre_V hK hw 82 ⟨by omega, by omega⟩ hM rfl) rfl rfl hl.1 rfl (lv_room (Nat.le_of_ble_eq_true rfl)) d_M_odds_134 ⟨Nat.le_of_ble_eq_true rfl, Nat.le_of_ble_eq_true rfl⟩) hw hA (fun C10 H locs hq11 hw => ?_)
            obtain ⟨hq11a, frC10⟩ := hq11
            have hM : C10 82 = .inr (4, [.int (zI 0), .int (zI pn), .ref (AD 83), .int (zI kc), .ref (AD 84), .ref (AD 85), .int (zI tr), .int (zI lc), .int (zI fa), .int (zI fb), .ref (AD 86), .ref (AD 87), .ref (AD 88), .int (zI (ovN (WM mw fa) (mz fa) (WM mw fb) (mz fb) (mS a))), .int (zI t9), .int (zI g9), .long (zL ((p2 t9) / gcdZ (p2 t9) (p2 t9))), .long (zL ((p2 t9) / gcdZ (p2 t9) (p2 t9)))]) := hq11a
            have h84 : C10 84 = aI (k 0) 9 mz := (frC10 _ (by omega)).trans h84
            have h85 : C10 85 = aI (k 0) 216 mw := (frC10 _ (by omega)).trans h85
            have h86 : C10 86 = aI (k 0) 48 mS := (frC10 _ (by omega)).trans h86
            refine lv_iload_n hx hb d_M_odds_137 rfl (lv_at hl 4 rfl) ?_
            refine zr_if_ne (tgt := 148) hx hb ⟨by omega, by omega⟩ d_M_odds_138 (by decide) (fun c12 => ?_) (fun c12 => ?_)
            · refine lv_aload_n hx hb d_M_odds_148 rfl (lv_at hl 2 rfl) ?_
              refine zr_get (v := .long (zL ((p2 t9) / gcdZ (p2 t9) (p2 t9)))) hx hb hts iw_M hown hK hw 82 ⟨by omega, by omega⟩ hM rfl 17 (by decide) (hts _ wk_523) (fun _ h => h) rfl d_M_odds_149 ?_
              exact hret _ _ _ _ _ _ d_M_odds_152 hw ⟨Or.inl ⟨by omega, by unfold oddF; rw [← ht9, ← hg9, if_pos (by rw [← hwe]; omega), gcdZ_self (by omega)], _, _, _, _, _, hM⟩, fun j hj => by rw [frC10 _ (by omega), frC6 _ (by omega), frC3 _ (by omega)]⟩
            · refine lv_aload_n hx hb d_M_odds_141 rfl (lv_at hl 2 rfl) ?_
              refine zr_get (v := .long (zL ((p2 t9) / gcdZ (p2 t9) (p2 t9)))) hx hb hts iw_M hown hK hw 82 ⟨by omega, by omega⟩ hM rfl 16 (by decide) (hts _ wk_522) (fun _ h => h) rfl d_M_odds_142 ?_
              refine lv_goto (tgt := 152) hx hb d_M_odds_145 (by decide) ?_
              exact hret _ _ _ _ _ _ d_M_odds_152 hw ⟨Or.inl ⟨by omega, by unfold oddF; rw [← ht9, ← hg9, if_pos (by rw [← hwe]; omega), gcdZ_self (by omega)], _, _, _, _, _, hM⟩, fun j hj => by rw [frC10 _ (by omega), frC6 _ (by omega), frC3 _ (by omega)]⟩
          · have hz9 := c9
            refine lv_lload hx hb d_M_odds_125 (lv_at hl 0 rfl) ?_
            refine lv_goto (tgt := 132) hx hb d_M_odds_127 (by decide) ?_
            refine lv_lload hx hb d_M_odds_132 (lv_at hl 1 rfl) ?_
            refine zr_callV (va_runV (As := [.long (zL (wy * tr)), .long (zL (p2 t9))]) (rest := []) ⟨hx, hb, hml, hown, hts⟩ (c_M_fraction l D k N AD C6 H.size 0 pn kc tr lc fa fb (ovN (WM mw fa) (mz fa) (WM mw fb) (mz fb) (mS a)) t9 g9 ab bl (wy * tr) (p2 t9) hN hM (by omega) (by omega)) (cwV 2 hts (good_V wk_659 wk_661 wk_23 wk_31 wk_662) rfl rfl rfl (by decide +kernel) ⟨Nat.le_of_ble_eq_true rfl, Nat.le_of_ble_eq_true rfl⟩) (cPre_V hK hw 82 ⟨by omega, by omega⟩ hM rfl) rfl rfl hl.1 rfl (lv_room (Nat.le_of_ble_eq_true rfl)) d_M_odds_134 ⟨Nat.le_of_ble_eq_true rfl, Nat.le_of_ble_eq_true rfl⟩) hw hA (fun C13 H locs hq14 hw => ?_)
            obtain ⟨hq14a, frC13⟩ := hq14
            have hM : C13 82 = .inr (4, [.int (zI 0), .int (zI pn), .ref (AD 83), .int (zI kc), .ref (AD 84), .ref (AD 85), .int (zI tr), .int (zI lc), .int (zI fa), .int (zI fb), .ref (AD 86), .ref (AD 87), .ref (AD 88), .int (zI (ovN (WM mw fa) (mz fa) (WM mw fb) (mz fb) (mS a))), .int (zI t9), .int (zI g9), .long (zL ((wy * tr) / gcdZ (wy * tr) (p2 t9))), .long (zL ((p2 t9) / gcdZ (wy * tr) (p2 t9)))]) := hq14a
            have h84 : C13 84 = aI (k 0) 9 mz := (frC13 _ (by omega)).trans h84
            have h85 : C13 85 = aI (k 0) 216 mw := (frC13 _ (by omega)).trans h85
            have h86 : C13 86 = aI (k 0) 48 mS := (frC13 _ (by omega)).trans h86
            refine lv_iload_n hx hb d_M_odds_137 rfl (lv_at hl 4 rfl) ?_
            refine zr_if_ne (tgt := 148) hx hb ⟨by omega, by omega⟩ d_M_odds_138 (by decide) (fun c15 => ?_) (fun c15 => ?_)
            · refine lv_aload_n hx hb d_M_odds_148 rfl (lv_at hl 2 rfl) ?_
              refine zr_get (v := .long (zL ((p2 t9) / gcdZ (wy * tr) (p2 t9)))) hx hb hts iw_M hown hK hw 82 ⟨by omega, by omega⟩ hM rfl 17 (by decide) (hts _ wk_523) (fun _ h => h) rfl d_M_odds_149 ?_
              exact hret _ _ _ _ _ _ d_M_odds_152 hw ⟨Or.inl ⟨by omega, by unfold oddF lesF; rw [← ht9, ← hg9, ← hwe, if_neg (by omega), if_neg (by omega)], _, _, _, _, _, hM⟩, fun j hj => by rw [frC13 _ (by omega), frC6 _ (by omega), frC3 _ (by omega)]⟩
            · refine lv_aload_n hx hb d_M_odds_141 rfl (lv_at hl 2 rfl) ?_
              refine zr_get (v := .long (zL ((wy * tr) / gcdZ (wy * tr) (p2 t9)))) hx hb hts iw_M hown hK hw 82 ⟨by omega, by omega⟩ hM rfl 16 (by decide) (hts _ wk_522) (fun _ h => h) rfl d_M_odds_142 ?_
              refine lv_goto (tgt := 152) hx hb d_M_odds_145 (by decide) ?_
              exact hret _ _ _ _ _ _ d_M_odds_152 hw ⟨Or.inl ⟨by omega, by unfold oddF lesF; rw [← ht9, ← hg9, ← hwe, if_neg (by omega), if_pos (by omega)], _, _, _, _, _, hM⟩, fun j hj => by rw [frC13 _ (by omega), frC6 _ (by omega), frC3 _ (by omega)]⟩
        · refine zr_iconst hx hb d_M_odds_54 ?_
          refine lv_iload hx hb d_M_odds_55 (lv_at hl 5 rfl) ?_
          refine zr_imul hx hb d_M_odds_57 ?_
          refine lv_aload_n hx hb d_M_odds_58 rfl (lv_at hl 0 rfl) ?_
          refine zr_get (v := .int (zI g9)) hx hb hts iw_M hown hK hw 82 ⟨by omega, by omega⟩ hM rfl 15 (by decide) (hts _ wk_521) (fun _ h => h) rfl d_M_odds_59 ?_
          refine zr_icmp_lt (tgt := 72) hx hb ⟨by omega, by omega⟩ ⟨by omega, by omega⟩ d_M_odds_62 (by decide) (fun c16 => ?_) (fun c16 => ?_)
          · refine lv_lload_n hx hb d_M_odds_72 rfl (lv_at hl 3 rfl) ?_
            refine lv_lstore_n (lv' := [(3, .long (zL wy)), (0, .ref (AD 82)), (1, .int (zI a)), (2, .int (zI i)), (5, .long (zL ex)), (7, .int (zI x))]) hx hb d_M_odds_73 rfl hl (by decide) rfl (fun ls hl => ?_)
            have hmb := mul_b (a := ex) (b := t9 - x) (A := 1352078) (B := 23) (by omega) (by omega) (by omega) (by omega)
            refine lv_lload hx hb d_M_odds_74 (lv_at hl 4 rfl) ?_
            refine lv_aload_n hx hb d_M_odds_76 rfl (lv_at hl 1 rfl) ?_
            refine zr_get (v := .int (zI t9)) hx hb hts iw_M hown hK hw 82 ⟨by omega, by omega⟩ hM rfl 14 (by decide) (hts _ wk_520) (fun _ h => h) rfl d_M_odds_77 ?_
            refine lv_iload hx hb d_M_odds_80 (lv_at hl 5 rfl) ?_
            refine zr_isub hx hb d_M_odds_82 ?_
            refine zr_i2l hx hb d_M_odds_83 ⟨by omega, by omega⟩ ?_
            refine zr_lmul hx hb d_M_odds_84 ?_
            refine lv_iload hx hb d_M_odds_85 (lv_at hl 5 rfl) ?_
            refine zr_iconst hx hb d_M_odds_87 ?_
            refine zr_iadd hx hb d_M_odds_88 ?_
            refine zr_i2l hx hb d_M_odds_89 ⟨by omega, by omega⟩ ?_
            refine zr_ldiv hx hb d_M_odds_90 ⟨by omega, by omega⟩ ⟨by omega, by omega⟩ (by omega) (by omega) ?_
            refine lv_lstore (lv' := [(5, .long (zL ((ex * (t9 - x)) / (x + 1)))), (3, .long (zL wy)), (0, .ref (AD 82)), (1, .int (zI a)), (2, .int (zI i)), (7, .int (zI x))]) hx hb d_M_odds_91 hl (by decide) rfl (fun ls hl => ?_)
            refine lv_iinc (v := zI (x + 1)) (lv' := [(7, .int (zI (x + 1))), (5, .long (zL ((ex * (t9 - x)) / (x + 1)))), (3, .long (zL wy)), (0, .ref (AD 82)), (1, .int (zI a)), (2, .int (zI i))]) hx hb d_M_odds_93 hl (k := 5) rfl (zI_add _ _) (by decide) rfl (fun ls hl => ?_)
            refine lv_goto (tgt := 45) hx hb d_M_odds_96 (by decide) ?_
            exact ihlp (x + 1) wy ((ex * (t9 - x)) / (x + 1)) H locs ls (by omega) (by rw [sumR_step _ hx1.1, ← hwy]; unfold wyT; rw [if_neg (by omega)]; omega) (by rw [exR_step t9 hx1.1, ← hex])  (by omega) hw (lv_sub hl [3, 4, 5, 2, 1, 0] rfl)
          · refine lv_lload_n hx hb d_M_odds_65 rfl (lv_at hl 3 rfl) ?_
            refine lv_lload hx hb d_M_odds_66 (lv_at hl 4 rfl) ?_
            refine zr_ladd hx hb d_M_odds_68 ?_
            refine lv_goto (tgt := 73) hx hb d_M_odds_69 (by decide) ?_
            refine lv_lstore_n (lv' := [(3, .long (zL (wy + ex))), (0, .ref (AD 82)), (1, .int (zI a)), (2, .int (zI i)), (5, .long (zL ex)), (7, .int (zI x))]) hx hb d_M_odds_73 rfl hl (by decide) rfl (fun ls hl => ?_)
            have hmb := mul_b (a := ex) (b := t9 - x) (A := 1352078) (B := 23) (by omega) (by omega) (by omega) (by omega)
            refine lv_lload hx hb d_M_odds_74 (lv_at hl 4 rfl) ?_
            refine lv_aload_n hx hb d_M_odds_76 rfl (lv_at hl 1 rfl) ?_
            refine zr_get (v := .int (zI t9)) hx hb hts iw_M hown hK hw 82 ⟨by omega, by omega⟩ hM rfl 14 (by decide) (hts _ wk_520) (fun _ h => h) rfl d_M_odds_77 ?_
            refine lv_iload hx hb d_M_odds_80 (lv_at hl 5 rfl) ?_
            refine zr_isub hx hb d_M_odds_82 ?_
            refine zr_i2l hx hb d_M_odds_83 ⟨by omega, by omega⟩ ?_
            refine zr_lmul hx hb d_M_odds_84 ?_
            refine lv_iload hx hb d_M_odds_85 (lv_at hl 5 rfl) ?_
            refine zr_iconst hx hb d_M_odds_87 ?_
            refine zr_iadd hx hb d_M_odds_88 ?_
            refine zr_i2l hx hb d_M_odds_89 ⟨by omega, by omega⟩ ?_
            refine zr_ldiv hx hb d_M_odds_90 ⟨by omega, by omega⟩ ⟨by omega, by omega⟩ (by omega) (by omega) ?_
            refine lv_lstore (lv' := [(5, .long (zL ((ex * (t9 - x)) / (x + 1)))), (3, .long (zL (wy + ex))), (0, .ref (AD 82)), (1, .int (zI a)), (2, .int (zI i)), (7, .int (zI x))]) hx hb d_M_odds_91 hl (by decide) rfl (fun ls hl => ?_)
            refine lv_iinc (v := zI (x + 1)) (lv' := [(7, .int (zI (x + 1))), (5, .long (zL ((ex * (t9 - x)) / (x + 1)))), (3, .long (zL (wy + ex))), (0, .ref (AD 82)), (1, .int (zI a)), (2, .int (zI i))]) hx hb d_M_odds_93 hl (k := 5) rfl (zI_add _ _) (by decide) rfl (fun ls hl => ?_)
            refine lv_goto (tgt := 45) hx hb d_M_odds_96 (by decide) ?_
            exact ihlp (x + 1) (wy + ex) ((ex * (t9 - x)) / (x + 1)) H locs ls (by omega) (by rw [sumR_step _ hx1.1, ← hwy]; unfold wyT; rw [if_pos (by omega), hex]) (by rw [exR_step t9 hx1.1, ← hex])  (by omega) hw (lv_sub hl [3, 4, 5, 2, 1, 0] rfl)
    exact lp ((t9 + 1 - 0 : Int).toNat + 1) 0 0 1 H locs ls (by omega) rfl rfl  (by omega) hw (lv_sub hl [3, 4, 5, 2, 1, 0] rfl)
  · refine zr_iconst hx hb d_M_odds_8 ?_
    refine zr_iconst hx hb d_M_odds_9 ?_
    refine zr_callI (va_runV (As := [.int (zI 0), .int (zI 1), .int (zI 1)]) (rest := []) ⟨hx, hb, hml, hown, hts⟩ (c_M_goes l D k N AD C H.size th pn kc tr lc fa fb mn mr ma ab bl 0 1 1 1 0 hN hM (by decide) (by decide) (by decide) (by decide) (by decide)) (cwV 3 hts (good_V wk_578 wk_580 wk_11 wk_31 wk_581) rfl rfl rfl (by decide +kernel) ⟨Nat.le_of_ble_eq_true rfl, Nat.le_of_ble_eq_true rfl⟩) (cPre_V hK hw 82 ⟨by omega, by omega⟩ hM rfl) rfl rfl hl.1 rfl (lv_room (Nat.le_of_ble_eq_true rfl)) d_M_odds_10 ⟨Nat.le_of_ble_eq_true rfl, Nat.le_of_ble_eq_true rfl⟩) hw hA (fun r9 C17 H locs hq18 hw => ?_)
    obtain ⟨hr9, hq18a, frC17⟩ := hq18
    subst hr9
    have hM : C17 82 = .inr (4, [.int (zI 1), .int (zI pn), .ref (AD 83), .int (zI kc), .ref (AD 84), .ref (AD 85), .int (zI tr), .int (zI lc), .int (zI fa), .int (zI fb), .ref (AD 86), .ref (AD 87), .ref (AD 88), .int (zI mn), .int (zI mr), .int (zI ma), .long (zL ab), .long (zL bl)]) := hq18a
    have h84 : C17 84 = aI (k 0) 9 mz := (frC17 _ (by omega)).trans h84
    have h85 : C17 85 = aI (k 0) 216 mw := (frC17 _ (by omega)).trans h85
    have h86 : C17 86 = aI (k 0) 48 mS := (frC17 _ (by omega)).trans h86
    refine zr_if_ne (tgt := 18) hx hb ⟨by omega, by omega⟩ d_M_odds_13 (by decide) (fun c9 => absurd c9 (by decide)) (fun c19 => ?_)
    refine zr_lconst0 hx hb d_M_odds_16 ?_
    exact hret _ _ _ _ _ _ d_M_odds_17 hw ⟨Or.inr ⟨by omega, hM⟩, fun j hj => by rw [frC17 _ (by omega)]⟩
abbrev rm_M_joined : Room := { frames := 3, cells := 0, slots := 0, locals := 88 }
set_option maxHeartbeats 4000000 in
set_option maxRecDepth 100000 in
theorem c_M_joined (l : Launch) (D : va_G) (k : Nat → ClassId) (N : Nat) (AD : Int → Nat) (C : Int → va_E) (sz : Nat) (th : Int) (pn : Int) (kc : Int) (tr : Int) (lc : Int) (fa : Int) (fb : Int) (mn : Int) (mr : Int) (ma : Int) (ab : Int) (bl : Int) (mz : Int → Int) (mw : Int → Int) (a : Int) (b : Int) (least : Int) (bound : Int) (hN : 90 ≤ (N : Int)) (hM : C 82 = .inr (4, [.int (zI th), .int (zI pn), .ref (AD 83), .int (zI kc), .ref (AD 84), .ref (AD 85), .int (zI tr), .int (zI lc), .int (zI fa), .int (zI fb), .ref (AD 86), .ref (AD 87), .ref (AD 88), .int (zI mn), .int (zI mr), .int (zI ma), .long (zL ab), .long (zL bl)])) (h84 : C 84 = aI (k 0) 9 mz) (h85 : C 85 = aI (k 0) 216 mw) (hmz : ∀ i : Int, 0 ≤ i → i < 9 → 0 ≤ mz i ∧ mz i ≤ 24) (hkc : 0 ≤ kc ∧ kc ≤ 8) (ha : 0 ≤ a ∧ a < 9) (hb9 : 0 ≤ b ∧ b < 9) (hok1 : MOK mw a (mz a)) (hok2 : MOK mw b (mz b)) (hn1 : 1 ≤ mz a ∧ 1 ≤ mz b) (hl9 : inI least) (hbo : inI bound) : MI l y_M_joined (Cond.code y_M_joined b_M_joined 8 (Option.some Jvm.ClassFile.FieldType.boolean) :: WS) rm_M_joined D clW (tyW k) N AD C sz [.ref (AD 82), .int (zI a), .int (zI b), .int (zI least), .int (zI bound)] (fun r C' => (r = zI 1 ∧ Jn mz (WM mw) least bound a b ∨ r = zI 0 ∧ ¬ Jn mz (WM mw) least bound a b) ∧ (∃ n1 r1 a1 : Int, C' 82 = .inr (4, [.int (zI th), .int (zI pn), .ref (AD 83), .int (zI kc), .ref (AD 84), .ref (AD 85), .int (zI tr), .int (zI lc), .int (zI fa), .int (zI fb), .ref (AD 86), .ref (AD 87), .ref (AD 88), .int (zI n1), .int (zI r1), .int (zI a1), .long (zL ab), .long (zL bl)])) ∧ ∀ j : Int, j ≠ 82 → C' j = C j) := by
  refine MI.start (cc := b_M_joined) (maxL := 8) (rt := .boolean) (by decide) rfl (Nat.le_of_ble_eq_true rfl) ?_
  intro p e s m args below meth c Q ls hx hb hml hown hts hK hsz hw hl hret
  have hown : s.vm.findClass "RingMatchesModel" = some m.cls := hown
  have hl : lv_has ls 8 [(0, .ref (AD 82)), (1, .int (zI a)), (2, .int (zI b)), (3, .int (zI least)), (4, .int (zI bound))] := hl
  have hA := wA_hi (N := N) (AD := AD) hsz
  obtain ⟨H, hH⟩ : ∃ H, H = s.heap := ⟨_, rfl⟩
  obtain ⟨locs, hlocs⟩ : ∃ z : List Loc, z = [] := ⟨_, rfl⟩
  have hw : WD D clW (wA N AD sz) s.heap H locs N AD C := by rw [hH, hlocs]; exact hw
  rw [← hlocs]
  suffices hgo : W p l e rm_M_joined s m args below meth c H locs 0 0 Q (F0 m 0 ls []) by rw [hH] at hgo; exact hgo
  obtain ⟨C0, hC0⟩ : ∃ z : Int → va_E, z = C := ⟨_, rfl⟩
  rw [← hC0] at hret
  have hz1 := hmz a (by omega) (by omega)
  have hz2 := hmz b (by omega) (by omega)
  refine zr_iconst hx hb d_M_joined_0 ?_
  refine lv_istore (lv' := [(5, .int (zI 0)), (0, .ref (AD 82)), (1, .int (zI a)), (2, .int (zI b)), (3, .int (zI least)), (4, .int (zI bound))]) hx hb d_M_joined_1 hl (by decide) rfl (fun ls hl => ?_)
  refine zr_iconst hx hb d_M_joined_3 ?_
  refine lv_aload_n hx hb d_M_joined_4 rfl (lv_at hl 1 rfl) ?_
  refine zr_get (v := .ref (AD 84)) hx hb hts iw_M hown hK hw 82 ⟨by omega, by omega⟩ hM rfl 4 (by decide) (hts _ wk_510) (fun _ h => h) rfl d_M_joined_5 ?_
  refine lv_iload_n hx hb d_M_joined_8 rfl (lv_at hl 3 rfl) ?_
  refine zr_iald hx hb hK hw 84 ⟨by omega, by omega⟩ 0 h84 rfl ⟨by omega, by omega⟩ (by decide) d_M_joined_9 ?_
  refine zr_isub hx hb d_M_joined_10 ?_
  refine lv_istore (lv' := [(6, .int (zI (1 - (mz b)))), (5, .int (zI 0)), (0, .ref (AD 82)), (1, .int (zI a)), (2, .int (zI b)), (3, .int (zI least)), (4, .int (zI bound))]) hx hb d_M_joined_11 hl (by decide) rfl (fun ls hl => ?_)
  have lp : ∀ (n9 : Nat) (x : Int) (is : Int) (n1 : Int) (r1 : Int) (a1 : Int) (C : Int → va_E) (H : Heap) (locs : List Loc) (ls : Array Slot), (1 - mz b ≤ x ∧ x ≤ mz a) → ((is = 1 ∧ ∃ s : Int, 1 - mz b ≤ s ∧ s < x ∧ (least ≤ ovN (WM mw a) (mz a) (WM mw b) (mz b) s ∧ bound ≤ ovC (WM mw a) (mz a) (WM mw b) (mz b) s)) ∨ (is = 0 ∧ ∀ s : Int, 1 - mz b ≤ s → s < x → ¬ (least ≤ ovN (WM mw a) (mz a) (WM mw b) (mz b) s ∧ bound ≤ ovC (WM mw a) (mz a) (WM mw b) (mz b) s))) → (∀ j : Int, j ≠ 82 → C j = C0 j) → (C 82 = .inr (4, [.int (zI th), .int (zI pn), .ref (AD 83), .int (zI kc), .ref (AD 84), .ref (AD 85), .int (zI tr), .int (zI lc), .int (zI fa), .int (zI fb), .ref (AD 86), .ref (AD 87), .ref (AD 88), .int (zI n1), .int (zI r1), .int (zI a1), .long (zL ab), .long (zL bl)])) → (C 84 = aI (k 0) 9 mz) → (C 85 = aI (k 0) 216 mw) → (mz a - x).toNat < n9 → WD D clW (wA N AD sz) s.heap H locs N AD C → lv_has ls 8 [(0, .ref (AD 82)), (1, .int (zI a)), (2, .int (zI b)), (3, .int (zI least)), (4, .int (zI bound)), (5, .int (zI is)), (6, .int (zI x))] → W p l e rm_M_joined s m args below meth c H locs 0 0 Q (F0 m 13 ls []) := by
    intro n9
    induction n9 with
    | zero => intro x is n1 r1 a1 C H locs ls hx1 his hfr hM h84 h85 hm hw hl; exact absurd hm (by omega)
    | succ n9 ihlp =>
      intro x is n1 r1 a1 C H locs ls hx1 his hfr hM h84 h85 hm hw hl
      refine lv_iload hx hb d_M_joined_13 (lv_at hl 6 rfl) ?_
      refine lv_aload_n hx hb d_M_joined_15 rfl (lv_at hl 0 rfl) ?_
      refine zr_get (v := .ref (AD 84)) hx hb hts iw_M hown hK hw 82 ⟨by omega, by omega⟩ hM rfl 4 (by decide) (hts _ wk_510) (fun _ h => h) rfl d_M_joined_16 ?_
      refine lv_iload_n hx hb d_M_joined_19 rfl (lv_at hl 1 rfl) ?_
      refine zr_iald hx hb hK hw 84 ⟨by omega, by omega⟩ 0 h84 rfl ⟨by omega, by omega⟩ (by decide) d_M_joined_20 ?_
      refine zr_icmp_ge (tgt := 67) hx hb ⟨by omega, by omega⟩ ⟨by omega, by omega⟩ d_M_joined_21 (by decide) (fun c1 => ?_) (fun c1 => ?_)
      · refine lv_iload hx hb d_M_joined_67 (lv_at hl 5 rfl) ?_
        exact hret _ _ _ _ _ _ d_M_joined_69 hw (by rcases his with h | h <;> rw [h.1] <;> decide +kernel) ⟨by rcases his with ⟨e, s, h1, h2, h3⟩ | ⟨e, h⟩; exact Or.inl ⟨by rw [e], s, h1, by omega, h3⟩; exact Or.inr ⟨by rw [e], fun ⟨s, h1, h2, h3⟩ => h s h1 (by omega) h3⟩, ⟨n1, r1, a1, hM⟩, hfr⟩
      · refine lv_aload_n hx hb d_M_joined_24 rfl (lv_at hl 0 rfl) ?_
        refine lv_iload_n hx hb d_M_joined_25 rfl (lv_at hl 1 rfl) ?_
        refine lv_iload_n hx hb d_M_joined_26 rfl (lv_at hl 2 rfl) ?_
        refine lv_iload hx hb d_M_joined_27 (lv_at hl 6 rfl) ?_
        refine zr_callI (va_runV (As := [.int (zI a), .int (zI b), .int (zI x)]) (rest := []) ⟨hx, hb, hml, hown, hts⟩ (c_M_correlate l D k N AD C H.size th pn kc tr lc fa fb n1 r1 a1 ab bl mz mw a b x hN hM h84 h85 hmz (by omega) ⟨by omega, by omega⟩ ⟨by omega, by omega⟩ ⟨by omega, by omega⟩ hok1 hok2) (cwV 3 hts (good_V wk_626 wk_628 wk_18 wk_31 wk_629) rfl rfl rfl (by decide +kernel) ⟨Nat.le_of_ble_eq_true rfl, Nat.le_of_ble_eq_true rfl⟩) (cPre_V hK hw 82 ⟨by omega, by omega⟩ hM rfl) rfl rfl hl.1 rfl (lv_room (Nat.le_of_ble_eq_true rfl)) d_M_joined_29 ⟨Nat.le_of_ble_eq_true rfl, Nat.le_of_ble_eq_true rfl⟩) hw hA (fun r9 C2 H locs hq3 hw => ?_)
        obtain ⟨hr9, hq3a, frC2⟩ := hq3
        subst hr9
        have hM : C2 82 = .inr (4, [.int (zI th), .int (zI pn), .ref (AD 83), .int (zI kc), .ref (AD 84), .ref (AD 85), .int (zI tr), .int (zI lc), .int (zI fa), .int (zI fb), .ref (AD 86), .ref (AD 87), .ref (AD 88), .int (zI (ovN (WM mw a) (mz a) (WM mw b) (mz b) x)), .int (zI (ovR (WM mw a) (mz a) (WM mw b) (mz b) x)), .int (zI (ovA (WM mw a) (mz a) (WM mw b) (mz b) x)), .long (zL ab), .long (zL bl)]) := hq3a
        have h84 : C2 84 = aI (k 0) 9 mz := (frC2 _ (by omega)).trans h84
        have h85 : C2 85 = aI (k 0) 216 mw := (frC2 _ (by omega)).trans h85
        have hNi := ovN_in (w1 := WM mw a) (w2 := WM mw b) (a := x) hz1 hz2
        have hCi : -100 ≤ ovC (WM mw a) (mz a) (WM mw b) (mz b) x ∧ ovC (WM mw a) (mz a) (WM mw b) (mz b) x ≤ 100 := corrF_in _ _ _
        refine lv_istore (lv' := [(7, .int (zI (ovC (WM mw a) (mz a) (WM mw b) (mz b) x))), (0, .ref (AD 82)), (1, .int (zI a)), (2, .int (zI b)), (3, .int (zI least)), (4, .int (zI bound)), (5, .int (zI is)), (6, .int (zI x))]) hx hb d_M_joined_32 hl (by decide) rfl (fun ls hl => ?_)
        refine lv_iload hx hb d_M_joined_34 (lv_at hl 6 rfl) ?_
        refine zr_if_ne (tgt := 54) hx hb ⟨by omega, by omega⟩ d_M_joined_36 (by decide) (fun c4 => ?_) (fun c4 => ?_)
        · refine zr_iconst hx hb d_M_joined_54 ?_
          refine lv_goto (tgt := 59) hx hb d_M_joined_55 (by decide) ?_
          refine lv_istore (lv' := [(5, .int (zI 1)), (7, .int (zI (ovC (WM mw a) (mz a) (WM mw b) (mz b) x))), (0, .ref (AD 82)), (1, .int (zI a)), (2, .int (zI b)), (3, .int (zI least)), (4, .int (zI bound)), (6, .int (zI x))]) hx hb d_M_joined_59 hl (by decide) rfl (fun ls hl => ?_)
          refine lv_iinc (v := zI (x + 1)) (lv' := [(6, .int (zI (x + 1))), (5, .int (zI 1)), (7, .int (zI (ovC (WM mw a) (mz a) (WM mw b) (mz b) x))), (0, .ref (AD 82)), (1, .int (zI a)), (2, .int (zI b)), (3, .int (zI least)), (4, .int (zI bound))]) hx hb d_M_joined_61 hl (k := 7) rfl (zI_add _ _) (by decide) rfl (fun ls hl => ?_)
          refine lv_goto (tgt := 13) hx hb d_M_joined_64 (by decide) ?_
          exact ihlp (x + 1) 1 (ovN (WM mw a) (mz a) (WM mw b) (mz b) x) (ovR (WM mw a) (mz a) (WM mw b) (mz b) x) (ovA (WM mw a) (mz a) (WM mw b) (mz b) x) C2 H locs ls (by omega) (Or.inl ⟨rfl, by rcases his with h | h; obtain ⟨s, h1, h2, h3⟩ := h.2; exact ⟨s, h1, by omega, h3⟩; omega⟩) (fun j hj => by rw [frC2 j hj]; exact hfr j hj) hM h84 h85 (by omega) hw (lv_sub hl [3, 4, 5, 6, 7, 1, 0] rfl)
        · refine lv_aload_n hx hb d_M_joined_39 rfl (lv_at hl 1 rfl) ?_
          refine zr_get (v := .int (zI (ovN (WM mw a) (mz a) (WM mw b) (mz b) x))) hx hb hts iw_M hown hK hw 82 ⟨by omega, by omega⟩ hM rfl 13 (by decide) (hts _ wk_519) (fun _ h => h) rfl d_M_joined_40 ?_
          refine lv_iload_n hx hb d_M_joined_43 rfl (lv_at hl 4 rfl) ?_
          refine zr_icmp_lt (tgt := 58) hx hb ⟨by omega, by omega⟩ ⟨by omega, by omega⟩ d_M_joined_44 (by decide) (fun c5 => ?_) (fun c5 => ?_)
          · refine zr_iconst hx hb d_M_joined_58 ?_
            refine lv_istore (lv' := [(5, .int (zI 0)), (7, .int (zI (ovC (WM mw a) (mz a) (WM mw b) (mz b) x))), (0, .ref (AD 82)), (1, .int (zI a)), (2, .int (zI b)), (3, .int (zI least)), (4, .int (zI bound)), (6, .int (zI x))]) hx hb d_M_joined_59 hl (by decide) rfl (fun ls hl => ?_)
            refine lv_iinc (v := zI (x + 1)) (lv' := [(6, .int (zI (x + 1))), (5, .int (zI 0)), (7, .int (zI (ovC (WM mw a) (mz a) (WM mw b) (mz b) x))), (0, .ref (AD 82)), (1, .int (zI a)), (2, .int (zI b)), (3, .int (zI least)), (4, .int (zI bound))]) hx hb d_M_joined_61 hl (k := 7) rfl (zI_add _ _) (by decide) rfl (fun ls hl => ?_)
            refine lv_goto (tgt := 13) hx hb d_M_joined_64 (by decide) ?_
            exact ihlp (x + 1) 0 (ovN (WM mw a) (mz a) (WM mw b) (mz b) x) (ovR (WM mw a) (mz a) (WM mw b) (mz b) x) (ovA (WM mw a) (mz a) (WM mw b) (mz b) x) C2 H locs ls (by omega) (Or.inr ⟨rfl, by rcases his with h | h; omega; exact fun s h1 h2 => by by_cases e : s = x; rw [e]; omega; exact h.2 s h1 (by omega)⟩) (fun j hj => by rw [frC2 j hj]; exact hfr j hj) hM h84 h85 (by omega) hw (lv_sub hl [3, 4, 5, 6, 7, 1, 0] rfl)
          · refine lv_iload hx hb d_M_joined_47 (lv_at hl 0 rfl) ?_
            refine lv_iload hx hb d_M_joined_49 (lv_at hl 5 rfl) ?_
            refine zr_icmp_lt (tgt := 58) hx hb ⟨by omega, by omega⟩ ⟨by omega, by omega⟩ d_M_joined_51 (by decide) (fun c6 => ?_) (fun c6 => ?_)
            · refine zr_iconst hx hb d_M_joined_58 ?_
              refine lv_istore (lv' := [(5, .int (zI 0)), (7, .int (zI (ovC (WM mw a) (mz a) (WM mw b) (mz b) x))), (0, .ref (AD 82)), (1, .int (zI a)), (2, .int (zI b)), (3, .int (zI least)), (4, .int (zI bound)), (6, .int (zI x))]) hx hb d_M_joined_59 hl (by decide) rfl (fun ls hl => ?_)
              refine lv_iinc (v := zI (x + 1)) (lv' := [(6, .int (zI (x + 1))), (5, .int (zI 0)), (7, .int (zI (ovC (WM mw a) (mz a) (WM mw b) (mz b) x))), (0, .ref (AD 82)), (1, .int (zI a)), (2, .int (zI b)), (3, .int (zI least)), (4, .int (zI bound))]) hx hb d_M_joined_61 hl (k := 7) rfl (zI_add _ _) (by decide) rfl (fun ls hl => ?_)
              refine lv_goto (tgt := 13) hx hb d_M_joined_64 (by decide) ?_
              exact ihlp (x + 1) 0 (ovN (WM mw a) (mz a) (WM mw b) (mz b) x) (ovR (WM mw a) (mz a) (WM mw b) (mz b) x) (ovA (WM mw a) (mz a) (WM mw b) (mz b) x) C2 H locs ls (by omega) (Or.inr ⟨rfl, by rcases his with h | h; omega; exact fun s h1 h2 => by by_cases e : s = x; rw [e]; omega; exact h.2 s h1 (by omega)⟩) (fun j hj => by rw [frC2 j hj]; exact hfr j hj) hM h84 h85 (by omega) hw (lv_sub hl [3, 4, 5, 6, 7, 1, 0] rfl)
            · refine zr_iconst hx hb d_M_joined_54 ?_
              refine lv_goto (tgt := 59) hx hb d_M_joined_55 (by decide) ?_
              refine lv_istore (lv' := [(5, .int (zI 1)), (7, .int (zI (ovC (WM mw a) (mz a) (WM mw b) (mz b) x))), (0, .ref (AD 82)), (1, .int (zI a)), (2, .int (zI b)), (3, .int (zI least)), (4, .int (zI bound)), (6, .int (zI x))]) hx hb d_M_joined_59 hl (by decide) rfl (fun ls hl => ?_)
              refine lv_iinc (v := zI (x + 1)) (lv' := [(6, .int (zI (x + 1))), (5, .int (zI 1)), (7, .int (zI (ovC (WM mw a) (mz a) (WM mw b) (mz b) x))), (0, .ref (AD 82)), (1, .int (zI a)), (2, .int (zI b)), (3, .int (zI least)), (4, .int (zI bound))]) hx hb d_M_joined_61 hl (k := 7) rfl (zI_add _ _) (by decide) rfl (fun ls hl => ?_)
              refine lv_goto (tgt := 13) hx hb d_M_joined_64 (by decide) ?_
              exact ihlp (x + 1) 1 (ovN (WM mw a) (mz a) (WM mw b) (mz b) x) (ovR (WM mw a) (mz a) (WM mw b) (mz b) x) (ovA (WM mw a) (mz a) (WM mw b) (mz b) x) C2 H locs ls (by omega) (Or.inl ⟨rfl, x, by omega, by omega, by omega, by omega⟩) (fun j hj => by rw [frC2 j hj]; exact hfr j hj) hM h84 h85 (by omega) hw (lv_sub hl [3, 4, 5, 6, 7, 1, 0] rfl)
  exact lp ((mz a - (1 - mz b) : Int).toNat + 1) (1 - mz b) 0 mn mr ma C H locs ls (by omega) (Or.inr ⟨rfl, fun s h1 h2 => absurd h2 (by omega)⟩) (fun j _ => by rw [hC0]) hM h84 h85 (by omega) hw (lv_sub hl [2, 3, 4, 5, 6, 1, 0] rfl)
