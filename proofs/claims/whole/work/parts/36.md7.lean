abbrev rm_M_written : Room := { frames := 2, cells := 0, slots := 0, locals := 45 }
set_option maxHeartbeats 4000000 in
set_option maxRecDepth 100000 in
theorem c_M_written (l : Launch) (D : va_G) (k : Nat → ClassId) (N : Nat) (AD : Int → Nat) (C : Int → va_E) (sz : Nat) (th : Int) (pn : Int) (kc : Int) (tr : Int) (lc : Int) (fa : Int) (fb : Int) (mn : Int) (mr : Int) (ma : Int) (ab : Int) (bl : Int) (mz : Int → Int) (mw : Int → Int) (a : Int) (i : Int) (hN : 90 ≤ (N : Int)) (hM : C 82 = .inr (4, [.int (zI th), .int (zI pn), .ref (AD 83), .int (zI kc), .ref (AD 84), .ref (AD 85), .int (zI tr), .int (zI lc), .int (zI fa), .int (zI fb), .ref (AD 86), .ref (AD 87), .ref (AD 88), .int (zI mn), .int (zI mr), .int (zI ma), .long (zL ab), .long (zL bl)])) (h84 : C 84 = aI (k 0) 9 mz) (h85 : C 85 = aI (k 0) 216 mw) (hmz : ∀ i : Int, 0 ≤ i → i < 9 → 0 ≤ mz i ∧ mz i ≤ 24) (hkc : 0 ≤ kc ∧ kc ≤ 8) (hok : ∀ i : Int, 0 ≤ i → i < kc → MOK mw i (mz i)) (ha : inI a) (hi : inI i) : MI l y_M_written (Cond.code y_M_written b_M_written 9 (Option.some Jvm.ClassFile.FieldType.int) :: WS) rm_M_written D clW (tyW k) N AD C sz [.ref (AD 82), .int (zI a), .int (zI i)] (fun r C' => (((0 ≤ a ∧ a < kc) ∧ (-1 ≤ i ∧ i < posR (WM mw a) (mz a) - 1)) ∧ (i = -1 ∧ r = zI (posR (WM mw a) (mz a) - 1) ∨ 0 ≤ i ∧ ∃ x : Int, (0 ≤ x ∧ x < mz a) ∧ (posR (WM mw a) x ≤ i ∧ i < posR (WM mw a) (x + 1)) ∧ r = zI (tsg (WM mw a) x i)) ∧ C' 82 = .inr (4, [.int (zI 0), .int (zI pn), .ref (AD 83), .int (zI kc), .ref (AD 84), .ref (AD 85), .int (zI tr), .int (zI lc), .int (zI fa), .int (zI fb), .ref (AD 86), .ref (AD 87), .ref (AD 88), .int (zI mn), .int (zI mr), .int (zI ma), .long (zL ab), .long (zL bl)]) ∨ ¬ ((0 ≤ a ∧ a < kc) ∧ (-1 ≤ i ∧ i < posR (WM mw a) (mz a) - 1)) ∧ C' 82 = .inr (4, [.int (zI 1), .int (zI pn), .ref (AD 83), .int (zI kc), .ref (AD 84), .ref (AD 85), .int (zI tr), .int (zI lc), .int (zI fa), .int (zI fb), .ref (AD 86), .ref (AD 87), .ref (AD 88), .int (zI mn), .int (zI mr), .int (zI ma), .long (zL ab), .long (zL bl)])) ∧ ∀ j : Int, j ≠ 82 → C' j = C j) := by
  refine MI.start (cc := b_M_written) (maxL := 9) (rt := .int) (by decide) rfl (Nat.le_of_ble_eq_true rfl) ?_
  intro p e s m args below meth c Q ls hx hb hml hown hts hK hsz hw hl hret
  have hown : s.vm.findClass "RingMatchesModel" = some m.cls := hown
  have hl : lv_has ls 9 [(0, .ref (AD 82)), (1, .int (zI a)), (2, .int (zI i))] := hl
  have hA := wA_hi (N := N) (AD := AD) hsz
  obtain ⟨H, hH⟩ : ∃ H, H = s.heap := ⟨_, rfl⟩
  obtain ⟨locs, hlocs⟩ : ∃ z : List Loc, z = [] := ⟨_, rfl⟩
  have hw : WD D clW (wA N AD sz) s.heap H locs N AD C := by rw [hH, hlocs]; exact hw
  rw [← hlocs]
  suffices hgo : W p l e rm_M_written s m args below meth c H locs 0 0 Q (F0 m 0 ls []) by rw [hH] at hgo; exact hgo
  refine zr_iconst hx hb d_M_written_0 ?_
  refine lv_istore_n (lv' := [(3, .int (zI (-1))), (0, .ref (AD 82)), (1, .int (zI a)), (2, .int (zI i))]) hx hb d_M_written_1 rfl hl (by decide) rfl (fun ls hl => ?_)
  refine zr_iconst hx hb d_M_written_2 ?_
  refine lv_istore (lv' := [(4, .int (zI 0)), (3, .int (zI (-1))), (0, .ref (AD 82)), (1, .int (zI a)), (2, .int (zI i))]) hx hb d_M_written_3 hl (by decide) rfl (fun ls hl => ?_)
  refine zr_iconst hx hb d_M_written_5 ?_
  refine lv_istore (lv' := [(5, .int (zI 0)), (4, .int (zI 0)), (3, .int (zI (-1))), (0, .ref (AD 82)), (1, .int (zI a)), (2, .int (zI i))]) hx hb d_M_written_6 hl (by decide) rfl (fun ls hl => ?_)
  refine zr_iconst hx hb d_M_written_8 ?_
  refine lv_istore (lv' := [(6, .int (zI 0)), (5, .int (zI 0)), (4, .int (zI 0)), (3, .int (zI (-1))), (0, .ref (AD 82)), (1, .int (zI a)), (2, .int (zI i))]) hx hb d_M_written_9 hl (by decide) rfl (fun ls hl => ?_)
  have lp : ∀ (n9 : Nat) (x : Int) (aw : Int) (at9 : Int) (rg : Int) (H : Heap) (locs : List Loc) (ls : Array Slot), (0 ≤ x ∧ x ≤ 24 ∧ ((0 ≤ a ∧ a < kc) → x ≤ mz a)) → (aw = posR (WM mw a) x - 1) → ((0 ≤ rg ∧ rg ≤ 24) ∧ (0 ≤ at9 ∧ at9 ≤ 100)) → (0 ≤ i → 0 < x → rg < x ∧ at9 = posR (WM mw a) rg ∧ posR (WM mw a) rg ≤ i ∧ (rg + 1 < x → i < posR (WM mw a) (rg + 1))) → (24 - x).toNat < n9 → WD D clW (wA N AD sz) s.heap H locs N AD C → lv_has ls 9 [(0, .ref (AD 82)), (1, .int (zI a)), (2, .int (zI i)), (3, .int (zI aw)), (4, .int (zI at9)), (5, .int (zI rg)), (6, .int (zI x))] → W p l e rm_M_written s m args below meth c H locs 0 0 Q (F0 m 11 ls []) := by
    intro n9
    induction n9 with
    | zero => intro x aw at9 rg H locs ls hx1 haw hrg hq  hm hw hl; exact absurd hm (by omega)
    | succ n9 ihlp =>
      intro x aw at9 rg H locs ls hx1 haw hrg hq  hm hw hl
      have hpb := posR_b (WM mw a) hx1.1
      refine lv_aload_n hx hb d_M_written_11 rfl (lv_at hl 0 rfl) ?_
      refine lv_iload_n hx hb d_M_written_12 rfl (lv_at hl 1 rfl) ?_
      refine zr_callI (va_runV (As := [.int (zI a)]) (rest := []) ⟨hx, hb, hml, hown, hts⟩ (c_M_isSeries l D k N AD C H.size th pn kc tr lc fa fb mn mr ma ab bl a hN hM ⟨by omega, by omega⟩ (by omega)) (cwV 1 hts (good_V wk_598 wk_600 wk_14 wk_31 wk_601) rfl rfl rfl (by decide +kernel) ⟨Nat.le_of_ble_eq_true rfl, Nat.le_of_ble_eq_true rfl⟩) (cPre_V hK hw 82 ⟨by omega, by omega⟩ hM rfl) rfl rfl hl.1 rfl (lv_room (Nat.le_of_ble_eq_true rfl)) d_M_written_13 ⟨Nat.le_of_ble_eq_true rfl, Nat.le_of_ble_eq_true rfl⟩) hw hA (fun r9 C2 H locs hq1 hw => ?_)
      obtain ⟨hq1, hCe⟩ := hq1
      rw [hCe] at hw
      rcases hq1 with ⟨hr9, hq1⟩ | ⟨hr9, hq1⟩ <;> subst hr9
      · have hz9 := hmz a (by omega) (by omega)
        refine zr_if_eq (tgt := 77) hx hb ⟨by omega, by omega⟩ d_M_written_16 (by decide) (fun c9 => absurd c9 (by decide)) (fun c3 => ?_)
        refine lv_iload hx hb d_M_written_19 (lv_at hl 6 rfl) ?_
        refine lv_aload_n hx hb d_M_written_21 rfl (lv_at hl 0 rfl) ?_
        refine zr_get (v := .ref (AD 84)) hx hb hts iw_M hown hK hw 82 ⟨by omega, by omega⟩ hM rfl 4 (by decide) (hts _ wk_510) (fun _ h => h) rfl d_M_written_22 ?_
        refine lv_iload_n hx hb d_M_written_25 rfl (lv_at hl 1 rfl) ?_
        refine zr_iald hx hb hK hw 84 ⟨by omega, by omega⟩ 0 h84 rfl ⟨by omega, by omega⟩ (by decide) d_M_written_26 ?_
        refine zr_icmp_ge (tgt := 77) hx hb ⟨by omega, by omega⟩ ⟨by omega, by omega⟩ d_M_written_27 (by decide) (fun c4 => ?_) (fun c4 => ?_)
        · refine lv_aload_n hx hb d_M_written_77 rfl (lv_at hl 0 rfl) ?_
          refine lv_aload_n hx hb d_M_written_78 rfl (lv_at hl 0 rfl) ?_
          refine lv_iload_n hx hb d_M_written_79 rfl (lv_at hl 1 rfl) ?_
          refine zr_callI (va_runV (As := [.int (zI a)]) (rest := [.ref (AD 82)]) ⟨hx, hb, hml, hown, hts⟩ (c_M_isSeries l D k N AD C H.size th pn kc tr lc fa fb mn mr ma ab bl a hN hM ⟨by omega, by omega⟩ (by omega)) (cwV 1 hts (good_V wk_598 wk_600 wk_14 wk_31 wk_601) rfl rfl rfl (by decide +kernel) ⟨Nat.le_of_ble_eq_true rfl, Nat.le_of_ble_eq_true rfl⟩) (cPre_V hK hw 82 ⟨by omega, by omega⟩ hM rfl) rfl rfl hl.1 rfl (lv_room (Nat.le_of_ble_eq_true rfl)) d_M_written_80 ⟨Nat.le_of_ble_eq_true rfl, Nat.le_of_ble_eq_true rfl⟩) hw hA (fun r9 C6 H locs hq5 hw => ?_)
          obtain ⟨hq5, hCe⟩ := hq5
          rw [hCe] at hw
          rcases hq5 with ⟨hr9, hq5⟩ | ⟨hr9, hq5⟩ <;> subst hr9
          · refine zr_if_eq (tgt := 100) hx hb ⟨by omega, by omega⟩ d_M_written_83 (by decide) (fun c9 => absurd c9 (by decide)) (fun c7 => ?_)
            refine lv_iload_n hx hb d_M_written_86 rfl (lv_at hl 2 rfl) ?_
            refine zr_iconst hx hb d_M_written_87 ?_
            refine zr_icmp_lt (tgt := 100) hx hb ⟨by omega, by omega⟩ ⟨by omega, by omega⟩ d_M_written_88 (by decide) (fun c8 => ?_) (fun c8 => ?_)
            · refine zr_iconst hx hb d_M_written_100 ?_
              refine zr_iconst hx hb d_M_written_101 ?_
              refine zr_iconst hx hb d_M_written_102 ?_
              refine zr_callI (va_runV (As := [.int (zI 0), .int (zI 1), .int (zI 1)]) (rest := []) ⟨hx, hb, hml, hown, hts⟩ (c_M_goes l D k N AD C H.size th pn kc tr lc fa fb mn mr ma ab bl 0 1 1 1 0 hN hM (by decide) (by decide) (by decide) (by decide) (by decide)) (cwV 3 hts (good_V wk_578 wk_580 wk_11 wk_31 wk_581) rfl rfl rfl (by decide +kernel) ⟨Nat.le_of_ble_eq_true rfl, Nat.le_of_ble_eq_true rfl⟩) (cPre_V hK hw 82 ⟨by omega, by omega⟩ hM rfl) rfl rfl hl.1 rfl (lv_room (Nat.le_of_ble_eq_true rfl)) d_M_written_103 ⟨Nat.le_of_ble_eq_true rfl, Nat.le_of_ble_eq_true rfl⟩) hw hA (fun r9 C9 H locs hq10 hw => ?_)
              obtain ⟨hr9, hq10a, frC9⟩ := hq10
              subst hr9
              have hM : C9 82 = .inr (4, [.int (zI 1), .int (zI pn), .ref (AD 83), .int (zI kc), .ref (AD 84), .ref (AD 85), .int (zI tr), .int (zI lc), .int (zI fa), .int (zI fb), .ref (AD 86), .ref (AD 87), .ref (AD 88), .int (zI mn), .int (zI mr), .int (zI ma), .long (zL ab), .long (zL bl)]) := hq10a
              have h84 : C9 84 = aI (k 0) 9 mz := (frC9 _ (by omega)).trans h84
              have h85 : C9 85 = aI (k 0) 216 mw := (frC9 _ (by omega)).trans h85
              refine zr_if_ne (tgt := 111) hx hb ⟨by omega, by omega⟩ d_M_written_106 (by decide) (fun c9 => absurd c9 (by decide)) (fun c11 => ?_)
              refine zr_iconst hx hb d_M_written_109 ?_
              exact hret _ _ _ _ _ _ d_M_written_110 hw rfl ⟨Or.inr ⟨by rw [← show x = mz a by omega]; omega, hM⟩, fun j hj => by rw [frC9 _ (by omega)]⟩
            · refine lv_iload_n hx hb d_M_written_91 rfl (lv_at hl 2 rfl) ?_
              refine lv_iload_n hx hb d_M_written_92 rfl (lv_at hl 3 rfl) ?_
              refine zr_icmp_ge (tgt := 100) hx hb ⟨by omega, by omega⟩ ⟨by omega, by omega⟩ d_M_written_93 (by decide) (fun c12 => ?_) (fun c12 => ?_)
              · refine zr_iconst hx hb d_M_written_100 ?_
                refine zr_iconst hx hb d_M_written_101 ?_
                refine zr_iconst hx hb d_M_written_102 ?_
                refine zr_callI (va_runV (As := [.int (zI 0), .int (zI 1), .int (zI 1)]) (rest := []) ⟨hx, hb, hml, hown, hts⟩ (c_M_goes l D k N AD C H.size th pn kc tr lc fa fb mn mr ma ab bl 0 1 1 1 0 hN hM (by decide) (by decide) (by decide) (by decide) (by decide)) (cwV 3 hts (good_V wk_578 wk_580 wk_11 wk_31 wk_581) rfl rfl rfl (by decide +kernel) ⟨Nat.le_of_ble_eq_true rfl, Nat.le_of_ble_eq_true rfl⟩) (cPre_V hK hw 82 ⟨by omega, by omega⟩ hM rfl) rfl rfl hl.1 rfl (lv_room (Nat.le_of_ble_eq_true rfl)) d_M_written_103 ⟨Nat.le_of_ble_eq_true rfl, Nat.le_of_ble_eq_true rfl⟩) hw hA (fun r9 C13 H locs hq14 hw => ?_)
                obtain ⟨hr9, hq14a, frC13⟩ := hq14
                subst hr9
                have hM : C13 82 = .inr (4, [.int (zI 1), .int (zI pn), .ref (AD 83), .int (zI kc), .ref (AD 84), .ref (AD 85), .int (zI tr), .int (zI lc), .int (zI fa), .int (zI fb), .ref (AD 86), .ref (AD 87), .ref (AD 88), .int (zI mn), .int (zI mr), .int (zI ma), .long (zL ab), .long (zL bl)]) := hq14a
                have h84 : C13 84 = aI (k 0) 9 mz := (frC13 _ (by omega)).trans h84
                have h85 : C13 85 = aI (k 0) 216 mw := (frC13 _ (by omega)).trans h85
                refine zr_if_ne (tgt := 111) hx hb ⟨by omega, by omega⟩ d_M_written_106 (by decide) (fun c9 => absurd c9 (by decide)) (fun c15 => ?_)
                refine zr_iconst hx hb d_M_written_109 ?_
                exact hret _ _ _ _ _ _ d_M_written_110 hw rfl ⟨Or.inr ⟨by rw [← show x = mz a by omega]; omega, hM⟩, fun j hj => by rw [frC13 _ (by omega)]⟩
              · refine zr_iconst hx hb d_M_written_96 ?_
                refine lv_goto (tgt := 101) hx hb d_M_written_97 (by decide) ?_
                refine zr_iconst hx hb d_M_written_101 ?_
                refine zr_iconst hx hb d_M_written_102 ?_
                refine zr_callI (va_runV (As := [.int (zI 1), .int (zI 1), .int (zI 1)]) (rest := []) ⟨hx, hb, hml, hown, hts⟩ (c_M_goes l D k N AD C H.size th pn kc tr lc fa fb mn mr ma ab bl 1 1 1 0 1 hN hM (by decide) (by decide) (by decide) (by decide) (by decide)) (cwV 3 hts (good_V wk_578 wk_580 wk_11 wk_31 wk_581) rfl rfl rfl (by decide +kernel) ⟨Nat.le_of_ble_eq_true rfl, Nat.le_of_ble_eq_true rfl⟩) (cPre_V hK hw 82 ⟨by omega, by omega⟩ hM rfl) rfl rfl hl.1 rfl (lv_room (Nat.le_of_ble_eq_true rfl)) d_M_written_103 ⟨Nat.le_of_ble_eq_true rfl, Nat.le_of_ble_eq_true rfl⟩) hw hA (fun r9 C16 H locs hq17 hw => ?_)
                obtain ⟨hr9, hq17a, frC16⟩ := hq17
                subst hr9
                have hM : C16 82 = .inr (4, [.int (zI 0), .int (zI pn), .ref (AD 83), .int (zI kc), .ref (AD 84), .ref (AD 85), .int (zI tr), .int (zI lc), .int (zI fa), .int (zI fb), .ref (AD 86), .ref (AD 87), .ref (AD 88), .int (zI mn), .int (zI mr), .int (zI ma), .long (zL ab), .long (zL bl)]) := hq17a
                have h84 : C16 84 = aI (k 0) 9 mz := (frC16 _ (by omega)).trans h84
                have h85 : C16 85 = aI (k 0) 216 mw := (frC16 _ (by omega)).trans h85
                refine zr_if_ne (tgt := 111) hx hb ⟨by omega, by omega⟩ d_M_written_106 (by decide) (fun c18 => ?_) (fun c9 => absurd c9 (by decide))
                refine lv_iload_n hx hb d_M_written_111 rfl (lv_at hl 2 rfl) ?_
                refine zr_iconst hx hb d_M_written_112 ?_
                refine zr_icmp_ne (tgt := 118) hx hb ⟨by omega, by omega⟩ ⟨by omega, by omega⟩ d_M_written_113 (by decide) (fun c19 => ?_) (fun c19 => ?_)
                · have hxe : x = mz a := by omega
                  have hx0 : 0 < x := by by_cases h0 : 0 < x; exact h0; rw [show x = 0 by omega, posR_0] at haw; omega
                  obtain ⟨g1, g2, g3, g4⟩ := hq (by omega) hx0
                  have g5 : i < posR (WM mw a) (rg + 1) := by by_cases e : rg + 1 < x; exact g4 e; rw [show rg + 1 = x by omega]; omega
                  have hvr := hok a (by omega) (by omega) rg (by omega) (by omega)
                  have hdr := dg_in (WM mw a rg)
                  have hps := posR_step (WM mw a) (k := rg) (by omega)
                  refine lv_iload_n hx hb d_M_written_118 rfl (lv_at hl 2 rfl) ?_
                  refine lv_iload hx hb d_M_written_119 (lv_at hl 4 rfl) ?_
                  refine zr_isub hx hb d_M_written_121 ?_
                  refine lv_istore (lv' := [(6, .int (zI (i - at9))), (0, .ref (AD 82)), (1, .int (zI a)), (2, .int (zI i)), (3, .int (zI aw)), (4, .int (zI at9)), (5, .int (zI rg))]) hx hb d_M_written_122 hl (by decide) rfl (fun ls hl => ?_)
                  refine lv_aload_n hx hb d_M_written_124 rfl (lv_at hl 1 rfl) ?_
                  refine lv_iload_n hx hb d_M_written_125 rfl (lv_at hl 2 rfl) ?_
                  refine lv_iload hx hb d_M_written_126 (lv_at hl 6 rfl) ?_
                  refine zr_callI (va_runV (As := [.int (zI a), .int (zI rg)]) (rest := []) ⟨hx, hb, hml, hown, hts⟩ (c_M_widthOf l D k N AD C16 H.size 0 pn kc tr lc fa fb mn mr ma ab bl mw a rg hN hM h85 ⟨by omega, by omega⟩) (cwV 2 hts (good_V wk_602 wk_604 wk_15 wk_31 wk_605) rfl rfl rfl (by decide +kernel) ⟨Nat.le_of_ble_eq_true rfl, Nat.le_of_ble_eq_true rfl⟩) (cPre_V hK hw 82 ⟨by omega, by omega⟩ hM rfl) rfl rfl hl.1 rfl (lv_room (Nat.le_of_ble_eq_true rfl)) d_M_written_128 ⟨Nat.le_of_ble_eq_true rfl, Nat.le_of_ble_eq_true rfl⟩) hw hA (fun r9 C21 H locs hq20 hw => ?_)
                  obtain ⟨hr9, hCe⟩ := hq20
                  rw [hCe] at hw; subst hr9
                  refine lv_istore (lv' := [(7, .int (zI (mw (24 * a + rg)))), (6, .int (zI (i - at9))), (0, .ref (AD 82)), (1, .int (zI a)), (2, .int (zI i)), (3, .int (zI aw)), (4, .int (zI at9)), (5, .int (zI rg))]) hx hb d_M_written_131 hl (by decide) rfl (fun ls hl => ?_)
                  refine lv_aload_n hx hb d_M_written_133 rfl (lv_at hl 2 rfl) ?_
                  refine lv_iload_n hx hb d_M_written_134 rfl (lv_at hl 3 rfl) ?_
                  refine lv_iload hx hb d_M_written_135 (lv_at hl 7 rfl) ?_
                  refine zr_callI (va_runV (As := [.int (zI a), .int (zI rg)]) (rest := []) ⟨hx, hb, hml, hown, hts⟩ (c_M_room l D k N AD C16 H.size 0 pn kc tr lc fa fb mn mr ma ab bl mw a rg hN hM h85 ⟨by omega, by omega⟩ (by omega)) (cwV 2 hts (good_V wk_610 wk_612 wk_16 wk_31 wk_613) rfl rfl rfl (by decide +kernel) ⟨Nat.le_of_ble_eq_true rfl, Nat.le_of_ble_eq_true rfl⟩) (cPre_V hK hw 82 ⟨by omega, by omega⟩ hM rfl) rfl rfl hl.1 rfl (lv_room (Nat.le_of_ble_eq_true rfl)) d_M_written_137 ⟨Nat.le_of_ble_eq_true rfl, Nat.le_of_ble_eq_true rfl⟩) hw hA (fun r9 C23 H locs hq22 hw => ?_)
                  obtain ⟨hr9, hCe⟩ := hq22
                  rw [hCe] at hw; subst hr9
                  refine lv_iload hx hb d_M_written_140 (lv_at hl 1 rfl) ?_
                  refine zr_isub hx hb d_M_written_142 ?_
                  refine zr_iconst hx hb d_M_written_143 ?_
                  refine zr_icmp_ne (tgt := 152) hx hb ⟨by omega, by omega⟩ ⟨by omega, by omega⟩ d_M_written_144 (by decide) (fun c24 => ?_) (fun c24 => ?_)
                  · refine lv_aload_n hx hb d_M_written_152 rfl (lv_at hl 2 rfl) ?_
                    refine lv_iload_n hx hb d_M_written_153 rfl (lv_at hl 3 rfl) ?_
                    refine lv_iload hx hb d_M_written_154 (lv_at hl 7 rfl) ?_
                    refine zr_callI (va_runV (As := [.int (zI a), .int (zI rg)]) (rest := []) ⟨hx, hb, hml, hown, hts⟩ (c_M_room l D k N AD C16 H.size 0 pn kc tr lc fa fb mn mr ma ab bl mw a rg hN hM h85 ⟨by omega, by omega⟩ (by omega)) (cwV 2 hts (good_V wk_610 wk_612 wk_16 wk_31 wk_613) rfl rfl rfl (by decide +kernel) ⟨Nat.le_of_ble_eq_true rfl, Nat.le_of_ble_eq_true rfl⟩) (cPre_V hK hw 82 ⟨by omega, by omega⟩ hM rfl) rfl rfl hl.1 rfl (lv_room (Nat.le_of_ble_eq_true rfl)) d_M_written_156 ⟨Nat.le_of_ble_eq_true rfl, Nat.le_of_ble_eq_true rfl⟩) hw hA (fun r9 C26 H locs hq25 hw => ?_)
                    obtain ⟨hr9, hCe⟩ := hq25
                    rw [hCe] at hw; subst hr9
                    refine lv_iload hx hb d_M_written_159 (lv_at hl 1 rfl) ?_
                    refine zr_isub hx hb d_M_written_161 ?_
                    refine zr_iconst hx hb d_M_written_162 ?_
                    refine zr_icmp_ne (tgt := 171) hx hb ⟨by omega, by omega⟩ ⟨by omega, by omega⟩ d_M_written_163 (by decide) (fun c27 => ?_) (fun c27 => ?_)
                    · refine zr_iconst hx hb d_M_written_171 ?_
                      refine lv_istore (lv' := [(8, .int (zI 1)), (7, .int (zI (mw (24 * a + rg)))), (6, .int (zI (i - at9))), (0, .ref (AD 82)), (1, .int (zI a)), (2, .int (zI i)), (3, .int (zI aw)), (4, .int (zI at9)), (5, .int (zI rg))]) hx hb d_M_written_172 hl (by decide) rfl (fun ls hl => ?_)
                      refine lv_iload hx hb d_M_written_174 (lv_at hl 2 rfl) ?_
                      refine lv_aload_n hx hb d_M_written_176 rfl (lv_at hl 3 rfl) ?_
                      refine lv_iload_n hx hb d_M_written_177 rfl (lv_at hl 4 rfl) ?_
                      refine lv_iload hx hb d_M_written_178 (lv_at hl 8 rfl) ?_
                      refine zr_callI (va_runV (As := [.int (zI a), .int (zI rg)]) (rest := [.int (zI (i - at9))]) ⟨hx, hb, hml, hown, hts⟩ (c_M_room l D k N AD C16 H.size 0 pn kc tr lc fa fb mn mr ma ab bl mw a rg hN hM h85 ⟨by omega, by omega⟩ (by omega)) (cwV 2 hts (good_V wk_610 wk_612 wk_16 wk_31 wk_613) rfl rfl rfl (by decide +kernel) ⟨Nat.le_of_ble_eq_true rfl, Nat.le_of_ble_eq_true rfl⟩) (cPre_V hK hw 82 ⟨by omega, by omega⟩ hM rfl) rfl rfl hl.1 rfl (lv_room (Nat.le_of_ble_eq_true rfl)) d_M_written_180 ⟨Nat.le_of_ble_eq_true rfl, Nat.le_of_ble_eq_true rfl⟩) hw hA (fun r9 C29 H locs hq28 hw => ?_)
                      obtain ⟨hr9, hCe⟩ := hq28
                      rw [hCe] at hw; subst hr9
                      refine zr_icmp_ne (tgt := 191) hx hb ⟨by omega, by omega⟩ ⟨by omega, by omega⟩ d_M_written_183 (by decide) (fun c30 => ?_) (fun c30 => ?_)
                      · refine lv_iload hx hb d_M_written_191 (lv_at hl 1 rfl) ?_
                        refine zr_if_ne (tgt := 201) hx hb ⟨by omega, by omega⟩ d_M_written_193 (by decide) (fun c31 => ?_) (fun c31 => ?_)
                        · refine zr_bipush hx hb d_M_written_201 (by decide) ?_
                          refine lv_iload hx hb d_M_written_203 (lv_at hl 1 rfl) ?_
                          refine lv_iload hx hb d_M_written_205 (lv_at hl 0 rfl) ?_
                          refine zr_idiv hx hb d_M_written_207 ⟨by omega, by omega⟩ ⟨by omega, by omega⟩ (by omega) (by omega) ?_
                          refine zr_bipush hx hb d_M_written_208 (by decide) ?_
                          refine zr_irem hx hb d_M_written_210 ⟨by omega, by omega⟩ ⟨by omega, by omega⟩ (by omega) (by omega) ?_
                          refine zr_iadd hx hb d_M_written_211 ?_
                          exact hret _ _ _ _ _ _ d_M_written_212 hw rfl ⟨Or.inl ⟨⟨by omega, by rw [← show x = mz a by omega]; omega⟩, Or.inr ⟨by omega, rg, by omega, ⟨by omega, g5⟩, by have hW1 : WM mw a rg = mw (24 * a + rg) := if_neg (by omega); unfold tsg sgn; rw [← g2, if_neg (by omega), if_neg (by omega), show dg (WM mw a rg) - 1 - (i - at9) = 0 by omega, hW1]; rfl⟩, hM⟩, fun j hj => by rw [frC16 _ (by omega)]⟩
                        · refine zr_bipush hx hb d_M_written_196 (by decide) ?_
                          refine lv_goto (tgt := 212) hx hb d_M_written_198 (by decide) ?_
                          exact hret _ _ _ _ _ _ d_M_written_212 hw rfl ⟨Or.inl ⟨⟨by omega, by rw [← show x = mz a by omega]; omega⟩, Or.inr ⟨by omega, rg, by omega, ⟨by omega, g5⟩, by have hW0 : WM mw a rg = -1 := if_pos (by omega); unfold tsg sgn; rw [← g2, if_neg (by omega), if_pos hW0]⟩, hM⟩, fun j hj => by rw [frC16 _ (by omega)]⟩
                      · refine zr_bipush hx hb d_M_written_186 (by decide) ?_
                        refine lv_goto (tgt := 212) hx hb d_M_written_188 (by decide) ?_
                        exact hret _ _ _ _ _ _ d_M_written_212 hw rfl ⟨Or.inl ⟨⟨by omega, by rw [← show x = mz a by omega]; omega⟩, Or.inr ⟨by omega, rg, by omega, ⟨by omega, g5⟩, by unfold tsg; rw [← g2, if_pos (by omega)]⟩, hM⟩, fun j hj => by rw [frC16 _ (by omega)]⟩
                    · refine zr_bipush hx hb d_M_written_166 (by decide) ?_
                      refine lv_goto (tgt := 172) hx hb d_M_written_168 (by decide) ?_
                      refine lv_istore (lv' := [(8, .int (zI 10)), (7, .int (zI (mw (24 * a + rg)))), (6, .int (zI (i - at9))), (0, .ref (AD 82)), (1, .int (zI a)), (2, .int (zI i)), (3, .int (zI aw)), (4, .int (zI at9)), (5, .int (zI rg))]) hx hb d_M_written_172 hl (by decide) rfl (fun ls hl => ?_)
                      refine lv_iload hx hb d_M_written_174 (lv_at hl 2 rfl) ?_
                      refine lv_aload_n hx hb d_M_written_176 rfl (lv_at hl 3 rfl) ?_
                      refine lv_iload_n hx hb d_M_written_177 rfl (lv_at hl 4 rfl) ?_
                      refine lv_iload hx hb d_M_written_178 (lv_at hl 8 rfl) ?_
                      refine zr_callI (va_runV (As := [.int (zI a), .int (zI rg)]) (rest := [.int (zI (i - at9))]) ⟨hx, hb, hml, hown, hts⟩ (c_M_room l D k N AD C16 H.size 0 pn kc tr lc fa fb mn mr ma ab bl mw a rg hN hM h85 ⟨by omega, by omega⟩ (by omega)) (cwV 2 hts (good_V wk_610 wk_612 wk_16 wk_31 wk_613) rfl rfl rfl (by decide +kernel) ⟨Nat.le_of_ble_eq_true rfl, Nat.le_of_ble_eq_true rfl⟩) (cPre_V hK hw 82 ⟨by omega, by omega⟩ hM rfl) rfl rfl hl.1 rfl (lv_room (Nat.le_of_ble_eq_true rfl)) d_M_written_180 ⟨Nat.le_of_ble_eq_true rfl, Nat.le_of_ble_eq_true rfl⟩) hw hA (fun r9 C33 H locs hq32 hw => ?_)
                      obtain ⟨hr9, hCe⟩ := hq32
                      rw [hCe] at hw; subst hr9
                      refine zr_icmp_ne (tgt := 191) hx hb ⟨by omega, by omega⟩ ⟨by omega, by omega⟩ d_M_written_183 (by decide) (fun c34 => ?_) (fun c34 => ?_)
                      · refine lv_iload hx hb d_M_written_191 (lv_at hl 1 rfl) ?_
                        refine zr_if_ne (tgt := 201) hx hb ⟨by omega, by omega⟩ d_M_written_193 (by decide) (fun c35 => ?_) (fun c35 => ?_)
                        · refine zr_bipush hx hb d_M_written_201 (by decide) ?_
                          refine lv_iload hx hb d_M_written_203 (lv_at hl 1 rfl) ?_
                          refine lv_iload hx hb d_M_written_205 (lv_at hl 0 rfl) ?_
                          refine zr_idiv hx hb d_M_written_207 ⟨by omega, by omega⟩ ⟨by omega, by omega⟩ (by omega) (by omega) ?_
                          refine zr_bipush hx hb d_M_written_208 (by decide) ?_
                          refine zr_irem hx hb d_M_written_210 ⟨by omega, by omega⟩ ⟨by omega, by omega⟩ (by omega) (by omega) ?_
                          refine zr_iadd hx hb d_M_written_211 ?_
                          exact hret _ _ _ _ _ _ d_M_written_212 hw rfl ⟨Or.inl ⟨⟨by omega, by rw [← show x = mz a by omega]; omega⟩, Or.inr ⟨by omega, rg, by omega, ⟨by omega, g5⟩, by have hW1 : WM mw a rg = mw (24 * a + rg) := if_neg (by omega); unfold tsg sgn; rw [← g2, if_neg (by omega), if_neg (by omega), show dg (WM mw a rg) - 1 - (i - at9) = 1 by omega, hW1]; rfl⟩, hM⟩, fun j hj => by rw [frC16 _ (by omega)]⟩
                        · refine zr_bipush hx hb d_M_written_196 (by decide) ?_
                          refine lv_goto (tgt := 212) hx hb d_M_written_198 (by decide) ?_
                          exact hret _ _ _ _ _ _ d_M_written_212 hw rfl ⟨Or.inl ⟨⟨by omega, by rw [← show x = mz a by omega]; omega⟩, Or.inr ⟨by omega, rg, by omega, ⟨by omega, g5⟩, by have hW0 : WM mw a rg = -1 := if_pos (by omega); unfold tsg sgn; rw [← g2, if_neg (by omega), if_pos hW0]⟩, hM⟩, fun j hj => by rw [frC16 _ (by omega)]⟩
                      · refine zr_bipush hx hb d_M_written_186 (by decide) ?_
                        refine lv_goto (tgt := 212) hx hb d_M_written_188 (by decide) ?_
                        exact hret _ _ _ _ _ _ d_M_written_212 hw rfl ⟨Or.inl ⟨⟨by omega, by rw [← show x = mz a by omega]; omega⟩, Or.inr ⟨by omega, rg, by omega, ⟨by omega, g5⟩, by unfold tsg; rw [← g2, if_pos (by omega)]⟩, hM⟩, fun j hj => by rw [frC16 _ (by omega)]⟩
                  · refine zr_bipush hx hb d_M_written_147 (by decide) ?_
                    refine lv_goto (tgt := 172) hx hb d_M_written_149 (by decide) ?_
                    refine lv_istore (lv' := [(8, .int (zI 100)), (7, .int (zI (mw (24 * a + rg)))), (6, .int (zI (i - at9))), (0, .ref (AD 82)), (1, .int (zI a)), (2, .int (zI i)), (3, .int (zI aw)), (4, .int (zI at9)), (5, .int (zI rg))]) hx hb d_M_written_172 hl (by decide) rfl (fun ls hl => ?_)
                    refine lv_iload hx hb d_M_written_174 (lv_at hl 2 rfl) ?_
                    refine lv_aload_n hx hb d_M_written_176 rfl (lv_at hl 3 rfl) ?_
                    refine lv_iload_n hx hb d_M_written_177 rfl (lv_at hl 4 rfl) ?_
                    refine lv_iload hx hb d_M_written_178 (lv_at hl 8 rfl) ?_
                    refine zr_callI (va_runV (As := [.int (zI a), .int (zI rg)]) (rest := [.int (zI (i - at9))]) ⟨hx, hb, hml, hown, hts⟩ (c_M_room l D k N AD C16 H.size 0 pn kc tr lc fa fb mn mr ma ab bl mw a rg hN hM h85 ⟨by omega, by omega⟩ (by omega)) (cwV 2 hts (good_V wk_610 wk_612 wk_16 wk_31 wk_613) rfl rfl rfl (by decide +kernel) ⟨Nat.le_of_ble_eq_true rfl, Nat.le_of_ble_eq_true rfl⟩) (cPre_V hK hw 82 ⟨by omega, by omega⟩ hM rfl) rfl rfl hl.1 rfl (lv_room (Nat.le_of_ble_eq_true rfl)) d_M_written_180 ⟨Nat.le_of_ble_eq_true rfl, Nat.le_of_ble_eq_true rfl⟩) hw hA (fun r9 C37 H locs hq36 hw => ?_)
                    obtain ⟨hr9, hCe⟩ := hq36
                    rw [hCe] at hw; subst hr9
                    refine zr_icmp_ne (tgt := 191) hx hb ⟨by omega, by omega⟩ ⟨by omega, by omega⟩ d_M_written_183 (by decide) (fun c38 => ?_) (fun c38 => ?_)
                    · refine lv_iload hx hb d_M_written_191 (lv_at hl 1 rfl) ?_
                      refine zr_if_ne (tgt := 201) hx hb ⟨by omega, by omega⟩ d_M_written_193 (by decide) (fun c39 => ?_) (fun c39 => ?_)
                      · refine zr_bipush hx hb d_M_written_201 (by decide) ?_
                        refine lv_iload hx hb d_M_written_203 (lv_at hl 1 rfl) ?_
                        refine lv_iload hx hb d_M_written_205 (lv_at hl 0 rfl) ?_
                        refine zr_idiv hx hb d_M_written_207 ⟨by omega, by omega⟩ ⟨by omega, by omega⟩ (by omega) (by omega) ?_
                        refine zr_bipush hx hb d_M_written_208 (by decide) ?_
                        refine zr_irem hx hb d_M_written_210 ⟨by omega, by omega⟩ ⟨by omega, by omega⟩ (by omega) (by omega) ?_
                        refine zr_iadd hx hb d_M_written_211 ?_
                        exact hret _ _ _ _ _ _ d_M_written_212 hw rfl ⟨Or.inl ⟨⟨by omega, by rw [← show x = mz a by omega]; omega⟩, Or.inr ⟨by omega, rg, by omega, ⟨by omega, g5⟩, by have hW1 : WM mw a rg = mw (24 * a + rg) := if_neg (by omega); unfold tsg sgn; rw [← g2, if_neg (by omega), if_neg (by omega), show dg (WM mw a rg) - 1 - (i - at9) = 2 by omega, hW1]; rfl⟩, hM⟩, fun j hj => by rw [frC16 _ (by omega)]⟩
                      · refine zr_bipush hx hb d_M_written_196 (by decide) ?_
                        refine lv_goto (tgt := 212) hx hb d_M_written_198 (by decide) ?_
                        exact hret _ _ _ _ _ _ d_M_written_212 hw rfl ⟨Or.inl ⟨⟨by omega, by rw [← show x = mz a by omega]; omega⟩, Or.inr ⟨by omega, rg, by omega, ⟨by omega, g5⟩, by have hW0 : WM mw a rg = -1 := if_pos (by omega); unfold tsg sgn; rw [← g2, if_neg (by omega), if_pos hW0]⟩, hM⟩, fun j hj => by rw [frC16 _ (by omega)]⟩
                    · refine zr_bipush hx hb d_M_written_186 (by decide) ?_
                      refine lv_goto (tgt := 212) hx hb d_M_written_188 (by decide) ?_
                      exact hret _ _ _ _ _ _ d_M_written_212 hw rfl ⟨Or.inl ⟨⟨by omega, by rw [← show x = mz a by omega]; omega⟩, Or.inr ⟨by omega, rg, by omega, ⟨by omega, g5⟩, by unfold tsg; rw [← g2, if_pos (by omega)]⟩, hM⟩, fun j hj => by rw [frC16 _ (by omega)]⟩
                · refine lv_iload_n hx hb d_M_written_116 rfl (lv_at hl 3 rfl) ?_
                  exact hret _ _ _ _ _ _ d_M_written_117 hw rfl ⟨Or.inl ⟨⟨by omega, by rw [← show x = mz a by omega]; omega⟩, Or.inl ⟨by omega, by rw [haw, show x = mz a by omega]⟩, hM⟩, fun j hj => by rw [frC16 _ (by omega)]⟩
          · exact absurd hq5 (by omega)
        · have hvx := hok a (by omega) (by omega) x (by omega) (by omega)
          have hdx := dg_in (WM mw a x)
          refine lv_iload_n hx hb d_M_written_30 rfl (lv_at hl 3 rfl) ?_
          refine zr_iconst hx hb d_M_written_31 ?_
          refine zr_iadd hx hb d_M_written_32 ?_
          refine lv_istore_n (lv' := [(3, .int (zI (aw + 1))), (0, .ref (AD 82)), (1, .int (zI a)), (2, .int (zI i)), (4, .int (zI at9)), (5, .int (zI rg)), (6, .int (zI x))]) hx hb d_M_written_33 rfl hl (by decide) rfl (fun ls hl => ?_)
          refine lv_iload_n hx hb d_M_written_34 rfl (lv_at hl 3 rfl) ?_
          refine lv_iload_n hx hb d_M_written_35 rfl (lv_at hl 0 rfl) ?_
          refine zr_icmp_lt (tgt := 44) hx hb ⟨by omega, by omega⟩ ⟨by omega, by omega⟩ d_M_written_36 (by decide) (fun c40 => ?_) (fun c40 => ?_)
          · refine lv_iload hx hb d_M_written_44 (lv_at hl 5 rfl) ?_
            refine lv_istore (lv' := [(5, .int (zI rg)), (3, .int (zI (aw + 1))), (0, .ref (AD 82)), (1, .int (zI a)), (2, .int (zI i)), (4, .int (zI at9)), (6, .int (zI x))]) hx hb d_M_written_46 hl (by decide) rfl (fun ls hl => ?_)
            refine lv_iload_n hx hb d_M_written_48 rfl (lv_at hl 4 rfl) ?_
            refine lv_iload_n hx hb d_M_written_49 rfl (lv_at hl 1 rfl) ?_
            refine zr_icmp_lt (tgt := 57) hx hb ⟨by omega, by omega⟩ ⟨by omega, by omega⟩ d_M_written_50 (by decide) (fun c41 => ?_) (fun c41 => ?_)
            · refine lv_iload hx hb d_M_written_57 (lv_at hl 5 rfl) ?_
              refine lv_istore (lv' := [(4, .int (zI at9)), (5, .int (zI rg)), (3, .int (zI (aw + 1))), (0, .ref (AD 82)), (1, .int (zI a)), (2, .int (zI i)), (6, .int (zI x))]) hx hb d_M_written_59 hl (by decide) rfl (fun ls hl => ?_)
              refine lv_iload_n hx hb d_M_written_61 rfl (lv_at hl 2 rfl) ?_
              refine lv_aload_n hx hb d_M_written_62 rfl (lv_at hl 3 rfl) ?_
              refine lv_iload_n hx hb d_M_written_63 rfl (lv_at hl 4 rfl) ?_
              refine lv_iload hx hb d_M_written_64 (lv_at hl 6 rfl) ?_
              refine zr_callI (va_runV (As := [.int (zI a), .int (zI x)]) (rest := [.int (zI (aw + 1))]) ⟨hx, hb, hml, hown, hts⟩ (c_M_room l D k N AD C H.size th pn kc tr lc fa fb mn mr ma ab bl mw a x hN hM h85 ⟨by omega, by omega⟩ (by omega)) (cwV 2 hts (good_V wk_610 wk_612 wk_16 wk_31 wk_613) rfl rfl rfl (by decide +kernel) ⟨Nat.le_of_ble_eq_true rfl, Nat.le_of_ble_eq_true rfl⟩) (cPre_V hK hw 82 ⟨by omega, by omega⟩ hM rfl) rfl rfl hl.1 rfl (lv_room (Nat.le_of_ble_eq_true rfl)) d_M_written_66 ⟨Nat.le_of_ble_eq_true rfl, Nat.le_of_ble_eq_true rfl⟩) hw hA (fun r9 C43 H locs hq42 hw => ?_)
              obtain ⟨hr9, hCe⟩ := hq42
              rw [hCe] at hw; subst hr9
              refine zr_iadd hx hb d_M_written_69 ?_
              refine lv_istore_n (lv' := [(3, .int (zI ((aw + 1) + (dg (WM mw a x))))), (4, .int (zI at9)), (5, .int (zI rg)), (0, .ref (AD 82)), (1, .int (zI a)), (2, .int (zI i)), (6, .int (zI x))]) hx hb d_M_written_70 rfl hl (by decide) rfl (fun ls hl => ?_)
              refine lv_iinc (v := zI (x + 1)) (lv' := [(6, .int (zI (x + 1))), (3, .int (zI ((aw + 1) + (dg (WM mw a x))))), (4, .int (zI at9)), (5, .int (zI rg)), (0, .ref (AD 82)), (1, .int (zI a)), (2, .int (zI i))]) hx hb d_M_written_71 hl (k := 6) rfl (zI_add _ _) (by decide) rfl (fun ls hl => ?_)
              refine lv_goto (tgt := 11) hx hb d_M_written_74 (by decide) ?_
              exact ihlp (x + 1) ((aw + 1) + (dg (WM mw a x))) at9 rg H locs ls (by omega) (by rw [posR_step _ hx1.1]; omega) (by omega) (fun h1 h2 => by by_cases h0 : 0 < x; obtain ⟨g1, g2, g3, g4⟩ := hq h1 h0; exact ⟨by omega, g2, g3, fun h => by by_cases e : rg + 1 < x; exact g4 e; rw [show rg + 1 = x by omega]; omega⟩; exact absurd h1 (by rw [show x = 0 by omega, posR_0] at haw; omega))  (by omega) hw (lv_sub hl [4, 5, 6, 1, 2, 3, 0] rfl)
            · exact absurd c41 (by omega)
          · refine lv_iload hx hb d_M_written_39 (lv_at hl 6 rfl) ?_
            refine lv_goto (tgt := 46) hx hb d_M_written_41 (by decide) ?_
            refine lv_istore (lv' := [(5, .int (zI x)), (3, .int (zI (aw + 1))), (0, .ref (AD 82)), (1, .int (zI a)), (2, .int (zI i)), (4, .int (zI at9)), (6, .int (zI x))]) hx hb d_M_written_46 hl (by decide) rfl (fun ls hl => ?_)
            refine lv_iload_n hx hb d_M_written_48 rfl (lv_at hl 4 rfl) ?_
            refine lv_iload_n hx hb d_M_written_49 rfl (lv_at hl 1 rfl) ?_
            refine zr_icmp_lt (tgt := 57) hx hb ⟨by omega, by omega⟩ ⟨by omega, by omega⟩ d_M_written_50 (by decide) (fun c44 => ?_) (fun c44 => ?_)
            · exact absurd c44 (by omega)
            · refine lv_iload_n hx hb d_M_written_53 rfl (lv_at hl 1 rfl) ?_
              refine lv_goto (tgt := 59) hx hb d_M_written_54 (by decide) ?_
              refine lv_istore (lv' := [(4, .int (zI (aw + 1))), (5, .int (zI x)), (3, .int (zI (aw + 1))), (0, .ref (AD 82)), (1, .int (zI a)), (2, .int (zI i)), (6, .int (zI x))]) hx hb d_M_written_59 hl (by decide) rfl (fun ls hl => ?_)
              refine lv_iload_n hx hb d_M_written_61 rfl (lv_at hl 2 rfl) ?_
              refine lv_aload_n hx hb d_M_written_62 rfl (lv_at hl 3 rfl) ?_
              refine lv_iload_n hx hb d_M_written_63 rfl (lv_at hl 4 rfl) ?_
              refine lv_iload hx hb d_M_written_64 (lv_at hl 6 rfl) ?_
              refine zr_callI (va_runV (As := [.int (zI a), .int (zI x)]) (rest := [.int (zI (aw + 1))]) ⟨hx, hb, hml, hown, hts⟩ (c_M_room l D k N AD C H.size th pn kc tr lc fa fb mn mr ma ab bl mw a x hN hM h85 ⟨by omega, by omega⟩ (by omega)) (cwV 2 hts (good_V wk_610 wk_612 wk_16 wk_31 wk_613) rfl rfl rfl (by decide +kernel) ⟨Nat.le_of_ble_eq_true rfl, Nat.le_of_ble_eq_true rfl⟩) (cPre_V hK hw 82 ⟨by omega, by omega⟩ hM rfl) rfl rfl hl.1 rfl (lv_room (Nat.le_of_ble_eq_true rfl)) d_M_written_66 ⟨Nat.le_of_ble_eq_true rfl, Nat.le_of_ble_eq_true rfl⟩) hw hA (fun r9 C46 H locs hq45 hw => ?_)
              obtain ⟨hr9, hCe⟩ := hq45
              rw [hCe] at hw; subst hr9
              refine zr_iadd hx hb d_M_written_69 ?_
              refine lv_istore_n (lv' := [(3, .int (zI ((aw + 1) + (dg (WM mw a x))))), (4, .int (zI (aw + 1))), (5, .int (zI x)), (0, .ref (AD 82)), (1, .int (zI a)), (2, .int (zI i)), (6, .int (zI x))]) hx hb d_M_written_70 rfl hl (by decide) rfl (fun ls hl => ?_)
              refine lv_iinc (v := zI (x + 1)) (lv' := [(6, .int (zI (x + 1))), (3, .int (zI ((aw + 1) + (dg (WM mw a x))))), (4, .int (zI (aw + 1))), (5, .int (zI x)), (0, .ref (AD 82)), (1, .int (zI a)), (2, .int (zI i))]) hx hb d_M_written_71 hl (k := 6) rfl (zI_add _ _) (by decide) rfl (fun ls hl => ?_)
              refine lv_goto (tgt := 11) hx hb d_M_written_74 (by decide) ?_
              exact ihlp (x + 1) ((aw + 1) + (dg (WM mw a x))) (aw + 1) x H locs ls (by omega) (by rw [posR_step _ hx1.1]; omega) (by omega) (fun h1 h2 => ⟨by omega, by omega, by omega, fun h => absurd h (by omega)⟩)  (by omega) hw (lv_sub hl [4, 5, 6, 1, 2, 3, 0] rfl)
      · refine zr_if_eq (tgt := 77) hx hb ⟨by omega, by omega⟩ d_M_written_16 (by decide) (fun c47 => ?_) (fun c9 => absurd c9 (by decide))
        refine lv_aload_n hx hb d_M_written_77 rfl (lv_at hl 0 rfl) ?_
        refine lv_aload_n hx hb d_M_written_78 rfl (lv_at hl 0 rfl) ?_
        refine lv_iload_n hx hb d_M_written_79 rfl (lv_at hl 1 rfl) ?_
        refine zr_callI (va_runV (As := [.int (zI a)]) (rest := [.ref (AD 82)]) ⟨hx, hb, hml, hown, hts⟩ (c_M_isSeries l D k N AD C H.size th pn kc tr lc fa fb mn mr ma ab bl a hN hM ⟨by omega, by omega⟩ (by omega)) (cwV 1 hts (good_V wk_598 wk_600 wk_14 wk_31 wk_601) rfl rfl rfl (by decide +kernel) ⟨Nat.le_of_ble_eq_true rfl, Nat.le_of_ble_eq_true rfl⟩) (cPre_V hK hw 82 ⟨by omega, by omega⟩ hM rfl) rfl rfl hl.1 rfl (lv_room (Nat.le_of_ble_eq_true rfl)) d_M_written_80 ⟨Nat.le_of_ble_eq_true rfl, Nat.le_of_ble_eq_true rfl⟩) hw hA (fun r9 C49 H locs hq48 hw => ?_)
        obtain ⟨hq48, hCe⟩ := hq48
        rw [hCe] at hw
        rcases hq48 with ⟨hr9, hq48⟩ | ⟨hr9, hq48⟩ <;> subst hr9
        · exact absurd hq48 (by omega)
        · refine zr_if_eq (tgt := 100) hx hb ⟨by omega, by omega⟩ d_M_written_83 (by decide) (fun c50 => ?_) (fun c9 => absurd c9 (by decide))
          refine zr_iconst hx hb d_M_written_100 ?_
          refine zr_iconst hx hb d_M_written_101 ?_
          refine zr_iconst hx hb d_M_written_102 ?_
          refine zr_callI (va_runV (As := [.int (zI 0), .int (zI 1), .int (zI 1)]) (rest := []) ⟨hx, hb, hml, hown, hts⟩ (c_M_goes l D k N AD C H.size th pn kc tr lc fa fb mn mr ma ab bl 0 1 1 1 0 hN hM (by decide) (by decide) (by decide) (by decide) (by decide)) (cwV 3 hts (good_V wk_578 wk_580 wk_11 wk_31 wk_581) rfl rfl rfl (by decide +kernel) ⟨Nat.le_of_ble_eq_true rfl, Nat.le_of_ble_eq_true rfl⟩) (cPre_V hK hw 82 ⟨by omega, by omega⟩ hM rfl) rfl rfl hl.1 rfl (lv_room (Nat.le_of_ble_eq_true rfl)) d_M_written_103 ⟨Nat.le_of_ble_eq_true rfl, Nat.le_of_ble_eq_true rfl⟩) hw hA (fun r9 C51 H locs hq52 hw => ?_)
          obtain ⟨hr9, hq52a, frC51⟩ := hq52
          subst hr9
          have hM : C51 82 = .inr (4, [.int (zI 1), .int (zI pn), .ref (AD 83), .int (zI kc), .ref (AD 84), .ref (AD 85), .int (zI tr), .int (zI lc), .int (zI fa), .int (zI fb), .ref (AD 86), .ref (AD 87), .ref (AD 88), .int (zI mn), .int (zI mr), .int (zI ma), .long (zL ab), .long (zL bl)]) := hq52a
          have h84 : C51 84 = aI (k 0) 9 mz := (frC51 _ (by omega)).trans h84
          have h85 : C51 85 = aI (k 0) 216 mw := (frC51 _ (by omega)).trans h85
          refine zr_if_ne (tgt := 111) hx hb ⟨by omega, by omega⟩ d_M_written_106 (by decide) (fun c9 => absurd c9 (by decide)) (fun c53 => ?_)
          refine zr_iconst hx hb d_M_written_109 ?_
          exact hret _ _ _ _ _ _ d_M_written_110 hw rfl ⟨Or.inr ⟨by omega, hM⟩, fun j hj => by rw [frC51 _ (by omega)]⟩
  exact lp ((24 - 0 : Int).toNat + 1) 0 (-1) 0 0 H locs ls ⟨by omega, by omega, fun h => (hmz a (by omega) (by omega)).1⟩ (by rw [posR_0]; rfl) (by omega) (fun _ h => absurd h (by omega))  (by omega) hw (lv_sub hl [4, 5, 6, 3, 2, 1, 0] rfl)
theorem grw_m {q s : Int} (hq : q = 0 ∨ q = -1 ∨ (1 ≤ q ∧ q ≤ 500)) : (¬ grw q s = -2) ↔ ((s = 45 ∧ q = 0) ∨ (48 ≤ s ∧ s ≤ 57 ∧ ¬ q = -1 ∧ 1 ≤ 10 * q + s - 48 ∧ 10 * q + s - 48 ≤ 500)) := by
  unfold grw
  by_cases h1 : s = 45
  · rw [if_pos h1]
    by_cases h2 : q = 0
    · rw [if_pos h2]; omega
    · rw [if_neg h2]; omega
  · rw [if_neg h1]
    by_cases h2 : s < 48 ∨ 57 < s ∨ q = -1
    · rw [if_pos h2]; omega
    · rw [if_neg h2]
      by_cases h3 : 1 ≤ 10 * q + s - 48 ∧ 10 * q + s - 48 ≤ 500
      · rw [if_pos h3]; omega
      · rw [if_neg h3]; omega
theorem grw_a {q s : Int} (h : s = 45 ∧ q = 0) : grw q s = -1 := by unfold grw; rw [if_pos h.1, if_pos h.2]
theorem grw_b {q s : Int} (h : 48 ≤ s ∧ s ≤ 57 ∧ ¬ q = -1 ∧ 1 ≤ 10 * q + s - 48 ∧ 10 * q + s - 48 ≤ 500) : grw q s = 10 * q + s - 48 := by unfold grw; rw [if_neg (by omega), if_neg (by omega), if_pos (by omega)]
/-- what the reference has of the rings so far -/
def FL (m1 : Int → Int) (kc q cn rg my : Int) (sw : Int → Int) : Prop := ((q = 0 ∧ rg = -1 ∧ my = cn) ∨ (q = -1 ∧ rg = 0 ∧ my = cn + 1) ∨ ((1 ≤ q ∧ q ≤ 500) ∧ rg = q ∧ my = cn + 1)) ∧ (0 ≤ cn ∧ cn ≤ 23) ∧ (∀ j : Int, 0 ≤ j → j < cn → WM m1 kc j = sw j ∧ (0 ≤ m1 (24 * kc + j) ∧ m1 (24 * kc + j) ≤ 500)) ∧ (¬ q = 0 → m1 (24 * kc + cn) = rg)
theorem FL_q {m1 : Int → Int} {kc q cn rg my : Int} {sw : Int → Int} (h : FL m1 kc q cn rg my sw) : q = 0 ∨ q = -1 ∨ (1 ≤ q ∧ q ≤ 500) := by have := h.1; omega
theorem FL_d {rg q : Int} (h : (q = -1 ∧ rg = 0) ∨ ((1 ≤ q ∧ q ≤ 500) ∧ rg = q)) : dcd rg = q := by
  unfold dcd
  split <;> omega
theorem FL_sp {m1 : Int → Int} {kc q cn rg my : Int} {sw : Int → Int} (h : FL m1 kc q cn rg my sw) (hq : ¬ q = 0) (hc : cn < 23) : FL m1 kc 0 (cn + 1) (-1) my (zup sw cn q) := by
  obtain ⟨h1, h2, h3, h4⟩ := h
  refine ⟨by omega, by omega, fun j a b => ?_, fun h => absurd rfl h⟩
  by_cases e : j = cn
  · have h5 := h4 hq
    rw [e, zup_s]
    unfold WM
    rw [h5]
    exact ⟨FL_d (by omega), by omega, by omega⟩
  · rw [zup_n e]; exact h3 j a (by omega)
theorem FL_wr {m1 : Int → Int} {kc q cn rg my q2 r2 i : Int} {sw : Int → Int} (h : FL m1 kc q cn rg my sw) (h2 : (q2 = -1 ∧ r2 = 0) ∨ ((1 ≤ q2 ∧ q2 ≤ 500) ∧ r2 = q2)) (hi : i = 24 * kc + cn) : FL (zup m1 i r2) kc q2 cn r2 (cn + 1) sw := by
  obtain ⟨a1, a2, a3, a4⟩ := h
  refine ⟨by omega, a2, fun j a b => ?_, fun _ => by rw [hi, zup_s]⟩
  have h5 := a3 j a b
  unfold WM at *
  rw [zup_n (by omega)]
  exact h5
theorem FL_en {m1 : Int → Int} {kc q cn rg my : Int} {sw : Int → Int} (h : FL m1 kc q cn rg my sw) (hq : ¬ q = 0) : my = cn + 1 ∧ MOK m1 kc (cn + 1) ∧ ∀ j : Int, 0 ≤ j → j < cn + 1 → WM m1 kc j = zup sw cn q j := by
  obtain ⟨h1, h2, h3, h4⟩ := h
  have h5 := h4 hq
  refine ⟨by omega, fun j a b => ?_, fun j a b => ?_⟩
  · by_cases e : j = cn
    · rw [e, h5]; omega
    · exact (h3 j a (by omega)).2
  · by_cases e : j = cn
    · rw [e, zup_s]
      unfold WM
      rw [h5]
      exact FL_d (by omega)
    · rw [zup_n e]; exact (h3 j a (by omega)).1
theorem stp_s {s q cn : Int} {sw : Int → Int} (h : s = 32 ∧ ¬ q = 0 ∧ cn < 23) : stp s (q, cn, sw) = (0, cn + 1, zup sw cn q) := if_pos h
theorem stp_g {s q cn : Int} {sw : Int → Int} (h : ¬ s = 32) : stp s (q, cn, sw) = (grw q s, cn, sw) := if_neg (fun g => h g.1)
abbrev rm_M_fault : Room := { frames := 1, cells := 0, slots := 0, locals := 22 }
set_option maxHeartbeats 4000000 in
set_option maxRecDepth 100000 in
theorem c_M_fault (l : Launch) (D : va_G) (k : Nat → ClassId) (N : Nat) (AD : Int → Nat) (C : Int → va_E) (sz : Nat) (th : Int) (pn : Int) (kc : Int) (tr : Int) (lc : Int) (fa : Int) (fb : Int) (mn : Int) (mr : Int) (ma : Int) (ab : Int) (bl : Int) (mz : Int → Int) (mw : Int → Int) (mp : Int → Int) (hN : 90 ≤ (N : Int)) (hM : C 82 = .inr (4, [.int (zI th), .int (zI pn), .ref (AD 83), .int (zI kc), .ref (AD 84), .ref (AD 85), .int (zI tr), .int (zI lc), .int (zI fa), .int (zI fb), .ref (AD 86), .ref (AD 87), .ref (AD 88), .int (zI mn), .int (zI mr), .int (zI ma), .long (zL ab), .long (zL bl)])) (h84 : C 84 = aI (k 0) 9 mz) (h85 : C 85 = aI (k 0) 216 mw) (hmz : ∀ i : Int, 0 ≤ i → i < 9 → 0 ≤ mz i ∧ mz i ≤ 24) (hkc : 0 ≤ kc ∧ kc ≤ 8) (h83 : C 83 = aI (k 0) 100 mp) (hpf : ∀ j : Int, 0 ≤ j → j < pn → 32 ≤ mp j ∧ mp j ≤ 126) (hpn : 0 ≤ pn ∧ pn ≤ 100) (hk8 : kc < 8) : MI l y_M_fault (Cond.code y_M_fault b_M_fault 6 (Option.some Jvm.ClassFile.FieldType.int) :: WS) rm_M_fault D clW (tyW k) N AD C sz [.ref (AD 82)] (fun r C' => ∃ mz1 m1 : Int → Int, C' 84 = aI (k 0) 9 mz1 ∧ C' 85 = aI (k 0) 216 m1 ∧ (∀ j : Int, j ≠ kc → mz1 j = mz j) ∧ (0 ≤ mz1 kc ∧ mz1 kc ≤ 24) ∧ (∀ j : Int, j < 24 * kc → m1 j = mw j) ∧ ((∃ x : Int, (0 ≤ x ∧ x < pn) ∧ okP mp x ∧ ¬ okS (mp x) (ps mp x.toNat) ∧ r = zI x) ∨ (okP mp pn ∧ (ps mp pn.toNat).1 = 0 ∧ r = zI pn) ∨ (∃ (q cn : Int) (sw : Int → Int), okP mp pn ∧ ps mp pn.toNat = (q, cn, sw) ∧ ¬ q = 0 ∧ r = zI (-1) ∧ mz1 kc = cn + 1 ∧ MOK m1 kc (cn + 1) ∧ ∀ j : Int, 0 ≤ j → j < cn + 1 → WM m1 kc j = zup sw cn q j)) ∧ ∀ j : Int, ¬ (84 ≤ j ∧ j ≤ 85) → C' j = C j) := by
  refine MI.start (cc := b_M_fault) (maxL := 6) (rt := .int) (by decide) rfl (Nat.le_of_ble_eq_true rfl) ?_
  intro p e s m args below meth c Q ls hx hb hml hown hts hK hsz hw hl hret
  have hown : s.vm.findClass "RingMatchesModel" = some m.cls := hown
  have hl : lv_has ls 6 [(0, .ref (AD 82))] := hl
  have hA := wA_hi (N := N) (AD := AD) hsz
  obtain ⟨H, hH⟩ : ∃ H, H = s.heap := ⟨_, rfl⟩
  obtain ⟨locs, hlocs⟩ : ∃ z : List Loc, z = [] := ⟨_, rfl⟩
  have hw : WD D clW (wA N AD sz) s.heap H locs N AD C := by rw [hH, hlocs]; exact hw
  rw [← hlocs]
  suffices hgo : W p l e rm_M_fault s m args below meth c H locs 0 0 Q (F0 m 0 ls []) by rw [hH] at hgo; exact hgo
  obtain ⟨C0, hC0⟩ : ∃ z : Int → va_E, z = C := ⟨_, rfl⟩
  refine zr_iconst hx hb d_M_fault_0 ?_
  refine lv_istore_n (lv' := [(1, .int (zI (-1))), (0, .ref (AD 82))]) hx hb d_M_fault_1 rfl hl (by decide) rfl (fun ls hl => ?_)
  refine zr_iconst hx hb d_M_fault_2 ?_
  refine lv_istore_n (lv' := [(2, .int (zI 0)), (1, .int (zI (-1))), (0, .ref (AD 82))]) hx hb d_M_fault_3 rfl hl (by decide) rfl (fun ls hl => ?_)
  refine zr_iconst hx hb d_M_fault_4 ?_
  refine lv_istore_n (lv' := [(3, .int (zI 0)), (2, .int (zI 0)), (1, .int (zI (-1))), (0, .ref (AD 82))]) hx hb d_M_fault_5 rfl hl (by decide) rfl (fun ls hl => ?_)
  have lp : ∀ (n9 : Nat) (x : Int) (rg : Int) (my : Int) (m1 : Int → Int) (q : Int) (cn : Int) (sw : Int → Int) (C : Int → va_E) (H : Heap) (locs : List Loc) (ls : Array Slot), (0 ≤ x ∧ x ≤ pn) → (okP mp x) → (ps mp x.toNat = (q, cn, sw)) → (FL m1 kc q cn rg my sw) → (∀ j : Int, j < 24 * kc → m1 j = mw j) → (∀ j : Int, ¬ (84 ≤ j ∧ j ≤ 85) → C j = C0 j) → (C 82 = .inr (4, [.int (zI th), .int (zI pn), .ref (AD 83), .int (zI kc), .ref (AD 84), .ref (AD 85), .int (zI tr), .int (zI lc), .int (zI fa), .int (zI fb), .ref (AD 86), .ref (AD 87), .ref (AD 88), .int (zI mn), .int (zI mr), .int (zI ma), .long (zL ab), .long (zL bl)])) → (C 84 = aI (k 0) 9 mz) → (C 85 = aI (k 0) 216 m1) → (C 83 = aI (k 0) 100 mp) → (pn - x).toNat < n9 → WD D clW (wA N AD sz) s.heap H locs N AD C → lv_has ls 6 [(0, .ref (AD 82)), (1, .int (zI rg)), (2, .int (zI my)), (3, .int (zI x))] → W p l e rm_M_fault s m args below meth c H locs 0 0 Q (F0 m 6 ls []) := by
    intro n9
    induction n9 with
    | zero => intro x rg my m1 q cn sw C H locs ls hx1 hokp hst hFL hlo hfr hM h84 h85 h83 hm hw hl; exact absurd hm (by omega)
    | succ n9 ihlp =>
      intro x rg my m1 q cn sw C H locs ls hx1 hokp hst hFL hlo hfr hM h84 h85 h83 hm hw hl
      have hF1 := hFL.1
      have hF2 := hFL.2.1
      refine lv_iload_n hx hb d_M_fault_6 rfl (lv_at hl 3 rfl) ?_
      refine lv_aload_n hx hb d_M_fault_7 rfl (lv_at hl 0 rfl) ?_
      refine zr_get (v := .int (zI pn)) hx hb hts iw_M hown hK hw 82 ⟨by omega, by omega⟩ hM rfl 1 (by decide) (hts _ wk_507) (fun _ h => h) rfl d_M_fault_8 ?_
      refine zr_icmp_ge (tgt := 191) hx hb ⟨by omega, by omega⟩ ⟨by omega, by omega⟩ d_M_fault_11 (by decide) (fun c1 => ?_) (fun c1 => ?_)
      · refine lv_aload_n hx hb d_M_fault_191 rfl (lv_at hl 0 rfl) ?_
        refine zr_get (v := .ref (AD 84)) hx hb hts iw_M hown hK hw 82 ⟨by omega, by omega⟩ hM rfl 4 (by decide) (hts _ wk_510) (fun _ h => h) rfl d_M_fault_192 ?_
        refine lv_aload_n hx hb d_M_fault_195 rfl (lv_at hl 0 rfl) ?_
        refine zr_get (v := .int (zI kc)) hx hb hts iw_M hown hK hw 82 ⟨by omega, by omega⟩ hM rfl 3 (by decide) (hts _ wk_509) (fun _ h => h) rfl d_M_fault_196 ?_
        refine lv_iload_n hx hb d_M_fault_199 rfl (lv_at hl 2 rfl) ?_
        refine zr_iast hx hb hK hw 84 ⟨by omega, by omega⟩ 0 h84 rfl ⟨by omega, by omega⟩ (by decide) d_M_fault_200 (fun H locs hw => ?_)
        obtain ⟨C2, hC2⟩ : ∃ z : Int → va_E, z = zup C 84 (aI (k 0) 9 (zup mz kc my)) := ⟨_, rfl⟩
        have hw : WD D clW (wA N AD sz) s.heap H locs N AD C2 := by rw [hC2]; exact hw
        have frC2 : ∀ j : Int, j ≠ 84 → C2 j = C j := fun j h => by rw [hC2]; exact zup_n h
        have hM : C2 82 = .inr (4, [.int (zI th), .int (zI pn), .ref (AD 83), .int (zI kc), .ref (AD 84), .ref (AD 85), .int (zI tr), .int (zI lc), .int (zI fa), .int (zI fb), .ref (AD 86), .ref (AD 87), .ref (AD 88), .int (zI mn), .int (zI mr), .int (zI ma), .long (zL ab), .long (zL bl)]) := (frC2 _ (by omega)).trans hM
        have h84 : C2 84 = aI (k 0) 9 (zup mz kc my) := by rw [hC2]; exact zup_s
        have h85 : C2 85 = aI (k 0) 216 m1 := (frC2 _ (by omega)).trans h85
        have h83 : C2 83 = aI (k 0) 100 mp := (frC2 _ (by omega)).trans h83
        refine lv_iload_n hx hb d_M_fault_201 rfl (lv_at hl 1 rfl) ?_
        refine zr_iconst hx hb d_M_fault_202 ?_
        refine zr_icmp_ne (tgt := 213) hx hb ⟨by omega, by omega⟩ ⟨by omega, by omega⟩ d_M_fault_203 (by decide) (fun c3 => ?_) (fun c3 => ?_)
        · refine zr_iconst hx hb d_M_fault_213 ?_
          exact hret _ _ _ _ _ _ d_M_fault_214 hw rfl ⟨zup mz kc my, m1, h84, h85, fun j hj => zup_n hj, by rw [zup_s]; omega, hlo, Or.inr (Or.inr ⟨q, cn, sw, by rw [← show x = pn by omega]; exact hokp, by rw [← show x = pn by omega]; exact hst, by omega, rfl, by rw [zup_s]; exact (FL_en hFL (by omega)).1, (FL_en hFL (by omega)).2.1, (FL_en hFL (by omega)).2.2⟩), fun j hj => by rw [frC2 _ (by omega)]; exact (hfr j hj).trans (by rw [hC0])⟩
        · refine lv_aload_n hx hb d_M_fault_206 rfl (lv_at hl 0 rfl) ?_
          refine zr_get (v := .int (zI pn)) hx hb hts iw_M hown hK hw 82 ⟨by omega, by omega⟩ hM rfl 1 (by decide) (hts _ wk_507) (fun _ h => h) rfl d_M_fault_207 ?_
          refine lv_goto (tgt := 214) hx hb d_M_fault_210 (by decide) ?_
          exact hret _ _ _ _ _ _ d_M_fault_214 hw rfl ⟨zup mz kc my, m1, h84, h85, fun j hj => zup_n hj, by rw [zup_s]; omega, hlo, Or.inr (Or.inl ⟨by rw [← show x = pn by omega]; exact hokp, by rw [← show x = pn by omega, hst]; show q = 0; omega, rfl⟩), fun j hj => by rw [frC2 _ (by omega)]; exact (hfr j hj).trans (by rw [hC0])⟩
      · have hpx := hpf x (by omega) (by omega)
        have hgm := grw_m (s := mp x) (FL_q hFL)
        refine lv_aload_n hx hb d_M_fault_14 rfl (lv_at hl 0 rfl) ?_
        refine zr_get (v := .ref (AD 83)) hx hb hts iw_M hown hK hw 82 ⟨by omega, by omega⟩ hM rfl 2 (by decide) (hts _ wk_508) (fun _ h => h) rfl d_M_fault_15 ?_
        refine lv_iload_n hx hb d_M_fault_18 rfl (lv_at hl 3 rfl) ?_
        refine zr_iald hx hb hK hw 83 ⟨by omega, by omega⟩ 0 h83 rfl ⟨by omega, by omega⟩ (by decide) d_M_fault_19 ?_
        refine lv_istore (lv' := [(4, .int (zI (mp x))), (0, .ref (AD 82)), (1, .int (zI rg)), (2, .int (zI my)), (3, .int (zI x))]) hx hb d_M_fault_20 hl (by decide) rfl (fun ls hl => ?_)
        refine lv_iload hx hb d_M_fault_22 (lv_at hl 0 rfl) ?_
        refine zr_bipush hx hb d_M_fault_24 (by decide) ?_
        refine zr_icmp_ne (tgt := 52) hx hb ⟨by omega, by omega⟩ ⟨by omega, by omega⟩ d_M_fault_26 (by decide) (fun c4 => ?_) (fun c4 => ?_)
        · refine lv_iload_n hx hb d_M_fault_52 rfl (lv_at hl 2 rfl) ?_
          refine zr_iconst hx hb d_M_fault_53 ?_
          refine zr_icmp_ne (tgt := 106) hx hb ⟨by omega, by omega⟩ ⟨by omega, by omega⟩ d_M_fault_54 (by decide) (fun c5 => ?_) (fun c5 => ?_)
          · refine lv_iload hx hb d_M_fault_106 (lv_at hl 0 rfl) ?_
            refine zr_bipush hx hb d_M_fault_108 (by decide) ?_
            refine zr_bipush hx hb d_M_fault_110 (by decide) ?_
            refine zr_callI (va_runS (As := [.int (zI (mp x)), .int (zI 48), .int (zI 57)]) (rest := []) ⟨hx, hb, hml, hown, hts⟩ (c_M_within l D k N AD C H.size (mp x) 48 57 ⟨by omega, by omega⟩ ⟨by omega, by omega⟩ ⟨by omega, by omega⟩) (va_cwS 3 hts (good_S wk_572 wk_573 wk_31 wk_574) rfl rfl rfl (by decide +kernel) ⟨Nat.le_of_ble_eq_true rfl, Nat.le_of_ble_eq_true rfl⟩) (cPre_S hK hw) rfl rfl hl.1 rfl (lv_room (Nat.le_of_ble_eq_true rfl)) d_M_fault_112 ⟨Nat.le_of_ble_eq_true rfl, Nat.le_of_ble_eq_true rfl⟩) hw hA (fun r9 C7 H locs hq6 hw => ?_)
            obtain ⟨hq6, hCe⟩ := hq6
            rw [hCe] at hw
            rcases hq6 with ⟨hr9, hq6⟩ | ⟨hr9, hq6⟩ <;> subst hr9
            · refine zr_if_eq (tgt := 142) hx hb ⟨by omega, by omega⟩ d_M_fault_115 (by decide) (fun c9 => absurd c9 (by decide)) (fun c8 => ?_)
              refine lv_iload_n hx hb d_M_fault_118 rfl (lv_at hl 2 rfl) ?_
              refine zr_if_le (tgt := 142) hx hb ⟨by omega, by omega⟩ d_M_fault_119 (by decide) (fun c9 => ?_) (fun c9 => ?_)
              · refine zr_iconst hx hb d_M_fault_142 ?_
                refine lv_istore (lv' := [(5, .int (zI 0)), (4, .int (zI (mp x))), (0, .ref (AD 82)), (1, .int (zI rg)), (2, .int (zI my)), (3, .int (zI x))]) hx hb d_M_fault_143 hl (by decide) rfl (fun ls hl => ?_)
                refine zr_bipush hx hb d_M_fault_145 (by decide) ?_
                refine lv_iload_n hx hb d_M_fault_147 rfl (lv_at hl 3 rfl) ?_
                refine zr_imul hx hb d_M_fault_148 ?_
                refine lv_iload hx hb d_M_fault_149 (lv_at hl 1 rfl) ?_
                refine zr_iadd hx hb d_M_fault_151 ?_
                refine zr_bipush hx hb d_M_fault_152 (by decide) ?_
                refine zr_isub hx hb d_M_fault_154 ?_
                refine lv_istore_n (lv' := [(1, .int (zI (((10 * rg) + (mp x)) - 48))), (5, .int (zI 0)), (4, .int (zI (mp x))), (0, .ref (AD 82)), (2, .int (zI my)), (3, .int (zI x))]) hx hb d_M_fault_155 rfl hl (by decide) rfl (fun ls hl => ?_)
                refine lv_iload hx hb d_M_fault_156 (lv_at hl 1 rfl) ?_
                refine zr_if_ne (tgt := 163) hx hb ⟨by omega, by omega⟩ d_M_fault_158 (by decide) (fun c9 => absurd c9 (by decide)) (fun c10 => ?_)
                refine lv_iload_n hx hb d_M_fault_161 rfl (lv_at hl 5 rfl) ?_
                exact hret _ _ _ _ _ _ d_M_fault_162 hw rfl ⟨mz, m1, h84, h85, fun j _ => rfl, hmz kc (by omega) (by omega), hlo, Or.inl ⟨x, by omega, hokp, by rw [hst]; show ¬ ((mp x = 32 ∧ ¬ q = 0 ∧ cn < 23) ∨ ¬ grw q (mp x) = -2); omega, rfl⟩, fun j hj => (hfr j hj).trans (by rw [hC0])⟩
              · refine zr_bipush hx hb d_M_fault_122 (by decide) ?_
                refine lv_iload_n hx hb d_M_fault_124 rfl (lv_at hl 2 rfl) ?_
                refine zr_imul hx hb d_M_fault_125 ?_
                refine lv_iload hx hb d_M_fault_126 (lv_at hl 0 rfl) ?_
                refine zr_iadd hx hb d_M_fault_128 ?_
                refine zr_bipush hx hb d_M_fault_129 (by decide) ?_
                refine zr_isub hx hb d_M_fault_131 ?_
                refine zr_sipush hx hb d_M_fault_132 (by decide) ?_
                refine zr_icmp_gt (tgt := 142) hx hb ⟨by omega, by omega⟩ ⟨by omega, by omega⟩ d_M_fault_135 (by decide) (fun c11 => ?_) (fun c11 => ?_)
                · refine zr_iconst hx hb d_M_fault_142 ?_
                  refine lv_istore (lv' := [(5, .int (zI 0)), (4, .int (zI (mp x))), (0, .ref (AD 82)), (1, .int (zI rg)), (2, .int (zI my)), (3, .int (zI x))]) hx hb d_M_fault_143 hl (by decide) rfl (fun ls hl => ?_)
                  refine zr_bipush hx hb d_M_fault_145 (by decide) ?_
                  refine lv_iload_n hx hb d_M_fault_147 rfl (lv_at hl 3 rfl) ?_
                  refine zr_imul hx hb d_M_fault_148 ?_
                  refine lv_iload hx hb d_M_fault_149 (lv_at hl 1 rfl) ?_
                  refine zr_iadd hx hb d_M_fault_151 ?_
                  refine zr_bipush hx hb d_M_fault_152 (by decide) ?_
                  refine zr_isub hx hb d_M_fault_154 ?_
                  refine lv_istore_n (lv' := [(1, .int (zI (((10 * rg) + (mp x)) - 48))), (5, .int (zI 0)), (4, .int (zI (mp x))), (0, .ref (AD 82)), (2, .int (zI my)), (3, .int (zI x))]) hx hb d_M_fault_155 rfl hl (by decide) rfl (fun ls hl => ?_)
                  refine lv_iload hx hb d_M_fault_156 (lv_at hl 1 rfl) ?_
                  refine zr_if_ne (tgt := 163) hx hb ⟨by omega, by omega⟩ d_M_fault_158 (by decide) (fun c9 => absurd c9 (by decide)) (fun c12 => ?_)
                  refine lv_iload_n hx hb d_M_fault_161 rfl (lv_at hl 5 rfl) ?_
                  exact hret _ _ _ _ _ _ d_M_fault_162 hw rfl ⟨mz, m1, h84, h85, fun j _ => rfl, hmz kc (by omega) (by omega), hlo, Or.inl ⟨x, by omega, hokp, by rw [hst]; show ¬ ((mp x = 32 ∧ ¬ q = 0 ∧ cn < 23) ∨ ¬ grw q (mp x) = -2); omega, rfl⟩, fun j hj => (hfr j hj).trans (by rw [hC0])⟩
                · refine zr_iconst hx hb d_M_fault_138 ?_
                  refine lv_goto (tgt := 143) hx hb d_M_fault_139 (by decide) ?_
                  refine lv_istore (lv' := [(5, .int (zI 1)), (4, .int (zI (mp x))), (0, .ref (AD 82)), (1, .int (zI rg)), (2, .int (zI my)), (3, .int (zI x))]) hx hb d_M_fault_143 hl (by decide) rfl (fun ls hl => ?_)
                  refine zr_bipush hx hb d_M_fault_145 (by decide) ?_
                  refine lv_iload_n hx hb d_M_fault_147 rfl (lv_at hl 3 rfl) ?_
                  refine zr_imul hx hb d_M_fault_148 ?_
                  refine lv_iload hx hb d_M_fault_149 (lv_at hl 1 rfl) ?_
                  refine zr_iadd hx hb d_M_fault_151 ?_
                  refine zr_bipush hx hb d_M_fault_152 (by decide) ?_
                  refine zr_isub hx hb d_M_fault_154 ?_
                  refine lv_istore_n (lv' := [(1, .int (zI (((10 * rg) + (mp x)) - 48))), (5, .int (zI 1)), (4, .int (zI (mp x))), (0, .ref (AD 82)), (2, .int (zI my)), (3, .int (zI x))]) hx hb d_M_fault_155 rfl hl (by decide) rfl (fun ls hl => ?_)
                  refine lv_iload hx hb d_M_fault_156 (lv_at hl 1 rfl) ?_
                  refine zr_if_ne (tgt := 163) hx hb ⟨by omega, by omega⟩ d_M_fault_158 (by decide) (fun c13 => ?_) (fun c9 => absurd c9 (by decide))
                  have hos : okS (mp x) (q, cn, sw) := by show (mp x = 32 ∧ ¬ q = 0 ∧ cn < 23) ∨ ¬ grw q (mp x) = -2; omega
                  refine lv_iload_n hx hb d_M_fault_163 rfl (lv_at hl 0 rfl) ?_
                  refine zr_iconst hx hb d_M_fault_164 ?_
                  refine zr_icmp_eq (tgt := 185) hx hb ⟨by omega, by omega⟩ ⟨by omega, by omega⟩ d_M_fault_165 (by decide) (fun c14 => ?_) (fun c14 => ?_)
                  · exact absurd c14 (by omega)
                  · refine lv_aload_n hx hb d_M_fault_168 rfl (lv_at hl 3 rfl) ?_
                    refine zr_get (v := .ref (AD 85)) hx hb hts iw_M hown hK hw 82 ⟨by omega, by omega⟩ hM rfl 5 (by decide) (hts _ wk_511) (fun _ h => h) rfl d_M_fault_169 ?_
                    refine zr_bipush hx hb d_M_fault_172 (by decide) ?_
                    refine lv_aload_n hx hb d_M_fault_174 rfl (lv_at hl 3 rfl) ?_
                    refine zr_get (v := .int (zI kc)) hx hb hts iw_M hown hK hw 82 ⟨by omega, by omega⟩ hM rfl 3 (by decide) (hts _ wk_509) (fun _ h => h) rfl d_M_fault_175 ?_
                    refine zr_imul hx hb d_M_fault_178 ?_
                    refine lv_iload_n hx hb d_M_fault_179 rfl (lv_at hl 4 rfl) ?_
                    refine zr_iadd hx hb d_M_fault_180 ?_
                    refine zr_iconst hx hb d_M_fault_181 ?_
                    refine zr_isub hx hb d_M_fault_182 ?_
                    refine lv_iload_n hx hb d_M_fault_183 rfl (lv_at hl 0 rfl) ?_
                    refine zr_iast hx hb hK hw 85 ⟨by omega, by omega⟩ 0 h85 rfl ⟨by omega, by omega⟩ (by decide) d_M_fault_184 (fun H locs hw => ?_)
                    obtain ⟨C15, hC15⟩ : ∃ z : Int → va_E, z = zup C 85 (aI (k 0) 216 (zup m1 (((24 * kc) + my) - 1) (((10 * rg) + (mp x)) - 48))) := ⟨_, rfl⟩
                    have hw : WD D clW (wA N AD sz) s.heap H locs N AD C15 := by rw [hC15]; exact hw
                    have frC15 : ∀ j : Int, j ≠ 85 → C15 j = C j := fun j h => by rw [hC15]; exact zup_n h
                    have hM : C15 82 = .inr (4, [.int (zI th), .int (zI pn), .ref (AD 83), .int (zI kc), .ref (AD 84), .ref (AD 85), .int (zI tr), .int (zI lc), .int (zI fa), .int (zI fb), .ref (AD 86), .ref (AD 87), .ref (AD 88), .int (zI mn), .int (zI mr), .int (zI ma), .long (zL ab), .long (zL bl)]) := (frC15 _ (by omega)).trans hM
                    have h84 : C15 84 = aI (k 0) 9 mz := (frC15 _ (by omega)).trans h84
                    have h85 : C15 85 = aI (k 0) 216 (zup m1 (((24 * kc) + my) - 1) (((10 * rg) + (mp x)) - 48)) := by rw [hC15]; exact zup_s
                    have h83 : C15 83 = aI (k 0) 100 mp := (frC15 _ (by omega)).trans h83
                    have hfl9 : FL (zup m1 (((24 * kc) + my) - 1) (((10 * rg) + (mp x)) - 48)) kc (10 * rg + mp x - 48) cn (((10 * rg) + (mp x)) - 48) my sw := by rw [show (my : Int) = cn + 1 by omega]; exact FL_wr hFL (by omega) (by omega)
                    refine lv_iinc (v := zI (x + 1)) (lv' := [(3, .int (zI (x + 1))), (1, .int (zI (((10 * rg) + (mp x)) - 48))), (5, .int (zI 1)), (4, .int (zI (mp x))), (0, .ref (AD 82)), (2, .int (zI my))]) hx hb d_M_fault_185 hl (k := 5) rfl (zI_add _ _) (by decide) rfl (fun ls hl => ?_)
                    refine lv_goto (tgt := 6) hx hb d_M_fault_188 (by decide) ?_
                    exact ihlp (x + 1) (((10 * rg) + (mp x)) - 48) my (zup m1 (((24 * kc) + my) - 1) (((10 * rg) + (mp x)) - 48)) (10 * rg + mp x - 48) cn sw C15 H locs ls (by omega) (okP_step hokp (by rw [hst]; exact hos)) (by rw [ps_step _ hx1.1, hst]; rw [stp_g (by omega), grw_b (by omega), show q = rg by omega]) hfl9 (fun j hj => by rw [zup_n (by omega)]; exact hlo j hj) (fun j hj => by rw [frC15 _ (by omega)]; exact hfr j hj) hM h84 h85 h83 (by omega) hw (lv_sub hl [4, 1, 5, 0] rfl)
            · refine zr_if_eq (tgt := 142) hx hb ⟨by omega, by omega⟩ d_M_fault_115 (by decide) (fun c16 => ?_) (fun c9 => absurd c9 (by decide))
              refine zr_iconst hx hb d_M_fault_142 ?_
              refine lv_istore (lv' := [(5, .int (zI 0)), (4, .int (zI (mp x))), (0, .ref (AD 82)), (1, .int (zI rg)), (2, .int (zI my)), (3, .int (zI x))]) hx hb d_M_fault_143 hl (by decide) rfl (fun ls hl => ?_)
              refine zr_bipush hx hb d_M_fault_145 (by decide) ?_
              refine lv_iload_n hx hb d_M_fault_147 rfl (lv_at hl 3 rfl) ?_
              refine zr_imul hx hb d_M_fault_148 ?_
              refine lv_iload hx hb d_M_fault_149 (lv_at hl 1 rfl) ?_
              refine zr_iadd hx hb d_M_fault_151 ?_
              refine zr_bipush hx hb d_M_fault_152 (by decide) ?_
              refine zr_isub hx hb d_M_fault_154 ?_
              refine lv_istore_n (lv' := [(1, .int (zI (((10 * rg) + (mp x)) - 48))), (5, .int (zI 0)), (4, .int (zI (mp x))), (0, .ref (AD 82)), (2, .int (zI my)), (3, .int (zI x))]) hx hb d_M_fault_155 rfl hl (by decide) rfl (fun ls hl => ?_)
              refine lv_iload hx hb d_M_fault_156 (lv_at hl 1 rfl) ?_
              refine zr_if_ne (tgt := 163) hx hb ⟨by omega, by omega⟩ d_M_fault_158 (by decide) (fun c9 => absurd c9 (by decide)) (fun c17 => ?_)
              refine lv_iload_n hx hb d_M_fault_161 rfl (lv_at hl 5 rfl) ?_
              exact hret _ _ _ _ _ _ d_M_fault_162 hw rfl ⟨mz, m1, h84, h85, fun j _ => rfl, hmz kc (by omega) (by omega), hlo, Or.inl ⟨x, by omega, hokp, by rw [hst]; show ¬ ((mp x = 32 ∧ ¬ q = 0 ∧ cn < 23) ∨ ¬ grw q (mp x) = -2); omega, rfl⟩, fun j hj => (hfr j hj).trans (by rw [hC0])⟩
          · refine lv_iload hx hb d_M_fault_57 (lv_at hl 0 rfl) ?_
            refine zr_bipush hx hb d_M_fault_59 (by decide) ?_
            refine zr_icmp_eq (tgt := 76) hx hb ⟨by omega, by omega⟩ ⟨by omega, by omega⟩ d_M_fault_61 (by decide) (fun c18 => ?_) (fun c18 => ?_)
            · refine zr_iconst hx hb d_M_fault_76 ?_
              refine lv_goto (tgt := 81) hx hb d_M_fault_77 (by decide) ?_
              refine lv_istore (lv' := [(5, .int (zI 1)), (4, .int (zI (mp x))), (0, .ref (AD 82)), (1, .int (zI rg)), (2, .int (zI my)), (3, .int (zI x))]) hx hb d_M_fault_81 hl (by decide) rfl (fun ls hl => ?_)
              refine lv_iload hx hb d_M_fault_83 (lv_at hl 1 rfl) ?_
              refine zr_bipush hx hb d_M_fault_85 (by decide) ?_
              refine zr_icmp_ne (tgt := 94) hx hb ⟨by omega, by omega⟩ ⟨by omega, by omega⟩ d_M_fault_87 (by decide) (fun c19 => ?_) (fun c19 => ?_)
              · refine lv_iload hx hb d_M_fault_94 (lv_at hl 1 rfl) ?_
                refine zr_bipush hx hb d_M_fault_96 (by decide) ?_
                refine zr_isub hx hb d_M_fault_98 ?_
                refine lv_istore_n (lv' := [(1, .int (zI ((mp x) - 48))), (5, .int (zI 1)), (4, .int (zI (mp x))), (0, .ref (AD 82)), (2, .int (zI my)), (3, .int (zI x))]) hx hb d_M_fault_99 rfl hl (by decide) rfl (fun ls hl => ?_)
                refine lv_iinc (v := zI (my + 1)) (lv' := [(2, .int (zI (my + 1))), (1, .int (zI ((mp x) - 48))), (5, .int (zI 1)), (4, .int (zI (mp x))), (0, .ref (AD 82)), (3, .int (zI x))]) hx hb d_M_fault_100 hl (k := 4) rfl (zI_add _ _) (by decide) rfl (fun ls hl => ?_)
                refine lv_goto (tgt := 156) hx hb d_M_fault_103 (by decide) ?_
                refine lv_iload hx hb d_M_fault_156 (lv_at hl 2 rfl) ?_
                refine zr_if_ne (tgt := 163) hx hb ⟨by omega, by omega⟩ d_M_fault_158 (by decide) (fun c20 => ?_) (fun c9 => absurd c9 (by decide))
                have hos : okS (mp x) (q, cn, sw) := by show (mp x = 32 ∧ ¬ q = 0 ∧ cn < 23) ∨ ¬ grw q (mp x) = -2; omega
                refine lv_iload_n hx hb d_M_fault_163 rfl (lv_at hl 1 rfl) ?_
                refine zr_iconst hx hb d_M_fault_164 ?_
                refine zr_icmp_eq (tgt := 185) hx hb ⟨by omega, by omega⟩ ⟨by omega, by omega⟩ d_M_fault_165 (by decide) (fun c21 => ?_) (fun c21 => ?_)
                · exact absurd c21 (by omega)
                · refine lv_aload_n hx hb d_M_fault_168 rfl (lv_at hl 4 rfl) ?_
                  refine zr_get (v := .ref (AD 85)) hx hb hts iw_M hown hK hw 82 ⟨by omega, by omega⟩ hM rfl 5 (by decide) (hts _ wk_511) (fun _ h => h) rfl d_M_fault_169 ?_
                  refine zr_bipush hx hb d_M_fault_172 (by decide) ?_
                  refine lv_aload_n hx hb d_M_fault_174 rfl (lv_at hl 4 rfl) ?_
                  refine zr_get (v := .int (zI kc)) hx hb hts iw_M hown hK hw 82 ⟨by omega, by omega⟩ hM rfl 3 (by decide) (hts _ wk_509) (fun _ h => h) rfl d_M_fault_175 ?_
                  refine zr_imul hx hb d_M_fault_178 ?_
                  refine lv_iload_n hx hb d_M_fault_179 rfl (lv_at hl 0 rfl) ?_
                  refine zr_iadd hx hb d_M_fault_180 ?_
                  refine zr_iconst hx hb d_M_fault_181 ?_
                  refine zr_isub hx hb d_M_fault_182 ?_
                  refine lv_iload_n hx hb d_M_fault_183 rfl (lv_at hl 1 rfl) ?_
                  refine zr_iast hx hb hK hw 85 ⟨by omega, by omega⟩ 0 h85 rfl ⟨by omega, by omega⟩ (by decide) d_M_fault_184 (fun H locs hw => ?_)
                  obtain ⟨C22, hC22⟩ : ∃ z : Int → va_E, z = zup C 85 (aI (k 0) 216 (zup m1 (((24 * kc) + (my + 1)) - 1) ((mp x) - 48))) := ⟨_, rfl⟩
                  have hw : WD D clW (wA N AD sz) s.heap H locs N AD C22 := by rw [hC22]; exact hw
                  have frC22 : ∀ j : Int, j ≠ 85 → C22 j = C j := fun j h => by rw [hC22]; exact zup_n h
                  have hM : C22 82 = .inr (4, [.int (zI th), .int (zI pn), .ref (AD 83), .int (zI kc), .ref (AD 84), .ref (AD 85), .int (zI tr), .int (zI lc), .int (zI fa), .int (zI fb), .ref (AD 86), .ref (AD 87), .ref (AD 88), .int (zI mn), .int (zI mr), .int (zI ma), .long (zL ab), .long (zL bl)]) := (frC22 _ (by omega)).trans hM
                  have h84 : C22 84 = aI (k 0) 9 mz := (frC22 _ (by omega)).trans h84
                  have h85 : C22 85 = aI (k 0) 216 (zup m1 (((24 * kc) + (my + 1)) - 1) ((mp x) - 48)) := by rw [hC22]; exact zup_s
                  have h83 : C22 83 = aI (k 0) 100 mp := (frC22 _ (by omega)).trans h83
                  have hfl9 : FL (zup m1 (((24 * kc) + (my + 1)) - 1) ((mp x) - 48)) kc (mp x - 48) cn ((mp x) - 48) (my + 1) sw := by rw [show ((my + 1) : Int) = cn + 1 by omega]; exact FL_wr hFL (by omega) (by omega)
                  refine lv_iinc (v := zI (x + 1)) (lv' := [(3, .int (zI (x + 1))), (2, .int (zI (my + 1))), (1, .int (zI ((mp x) - 48))), (5, .int (zI 1)), (4, .int (zI (mp x))), (0, .ref (AD 82))]) hx hb d_M_fault_185 hl (k := 5) rfl (zI_add _ _) (by decide) rfl (fun ls hl => ?_)
                  refine lv_goto (tgt := 6) hx hb d_M_fault_188 (by decide) ?_
                  exact ihlp (x + 1) ((mp x) - 48) (my + 1) (zup m1 (((24 * kc) + (my + 1)) - 1) ((mp x) - 48)) (mp x - 48) cn sw C22 H locs ls (by omega) (okP_step hokp (by rw [hst]; exact hos)) (by rw [ps_step _ hx1.1, hst]; rw [stp_g (by omega), grw_b (by omega), show 10 * q + mp x - 48 = mp x - 48 by omega]) hfl9 (fun j hj => by rw [zup_n (by omega)]; exact hlo j hj) (fun j hj => by rw [frC22 _ (by omega)]; exact hfr j hj) hM h84 h85 h83 (by omega) hw (lv_sub hl [5, 2, 1, 0] rfl)
              · refine zr_iconst hx hb d_M_fault_90 ?_
                refine lv_goto (tgt := 99) hx hb d_M_fault_91 (by decide) ?_
                refine lv_istore_n (lv' := [(1, .int (zI 0)), (5, .int (zI 1)), (4, .int (zI (mp x))), (0, .ref (AD 82)), (2, .int (zI my)), (3, .int (zI x))]) hx hb d_M_fault_99 rfl hl (by decide) rfl (fun ls hl => ?_)
                refine lv_iinc (v := zI (my + 1)) (lv' := [(2, .int (zI (my + 1))), (1, .int (zI 0)), (5, .int (zI 1)), (4, .int (zI (mp x))), (0, .ref (AD 82)), (3, .int (zI x))]) hx hb d_M_fault_100 hl (k := 4) rfl (zI_add _ _) (by decide) rfl (fun ls hl => ?_)
                refine lv_goto (tgt := 156) hx hb d_M_fault_103 (by decide) ?_
                refine lv_iload hx hb d_M_fault_156 (lv_at hl 2 rfl) ?_
                refine zr_if_ne (tgt := 163) hx hb ⟨by omega, by omega⟩ d_M_fault_158 (by decide) (fun c23 => ?_) (fun c9 => absurd c9 (by decide))
                have hos : okS (mp x) (q, cn, sw) := by show (mp x = 32 ∧ ¬ q = 0 ∧ cn < 23) ∨ ¬ grw q (mp x) = -2; omega
                have eq9 : my = cn := by omega
                refine lv_iload_n hx hb d_M_fault_163 rfl (lv_at hl 1 rfl) ?_
                refine zr_iconst hx hb d_M_fault_164 ?_
                refine zr_icmp_eq (tgt := 185) hx hb ⟨by omega, by omega⟩ ⟨by omega, by omega⟩ d_M_fault_165 (by decide) (fun c24 => ?_) (fun c24 => ?_)
                · exact absurd c24 (by omega)
                · refine lv_aload_n hx hb d_M_fault_168 rfl (lv_at hl 4 rfl) ?_
                  refine zr_get (v := .ref (AD 85)) hx hb hts iw_M hown hK hw 82 ⟨by omega, by omega⟩ hM rfl 5 (by decide) (hts _ wk_511) (fun _ h => h) rfl d_M_fault_169 ?_
                  refine zr_bipush hx hb d_M_fault_172 (by decide) ?_
                  refine lv_aload_n hx hb d_M_fault_174 rfl (lv_at hl 4 rfl) ?_
                  refine zr_get (v := .int (zI kc)) hx hb hts iw_M hown hK hw 82 ⟨by omega, by omega⟩ hM rfl 3 (by decide) (hts _ wk_509) (fun _ h => h) rfl d_M_fault_175 ?_
                  refine zr_imul hx hb d_M_fault_178 ?_
                  refine lv_iload_n hx hb d_M_fault_179 rfl (lv_at hl 0 rfl) ?_
                  refine zr_iadd hx hb d_M_fault_180 ?_
                  refine zr_iconst hx hb d_M_fault_181 ?_
                  refine zr_isub hx hb d_M_fault_182 ?_
                  refine lv_iload_n hx hb d_M_fault_183 rfl (lv_at hl 1 rfl) ?_
                  refine zr_iast hx hb hK hw 85 ⟨by omega, by omega⟩ 0 h85 rfl ⟨by omega, by omega⟩ (by decide) d_M_fault_184 (fun H locs hw => ?_)
                  obtain ⟨C25, hC25⟩ : ∃ z : Int → va_E, z = zup C 85 (aI (k 0) 216 (zup m1 (((24 * kc) + (my + 1)) - 1) 0)) := ⟨_, rfl⟩
                  have hw : WD D clW (wA N AD sz) s.heap H locs N AD C25 := by rw [hC25]; exact hw
                  have frC25 : ∀ j : Int, j ≠ 85 → C25 j = C j := fun j h => by rw [hC25]; exact zup_n h
                  have hM : C25 82 = .inr (4, [.int (zI th), .int (zI pn), .ref (AD 83), .int (zI kc), .ref (AD 84), .ref (AD 85), .int (zI tr), .int (zI lc), .int (zI fa), .int (zI fb), .ref (AD 86), .ref (AD 87), .ref (AD 88), .int (zI mn), .int (zI mr), .int (zI ma), .long (zL ab), .long (zL bl)]) := (frC25 _ (by omega)).trans hM
                  have h84 : C25 84 = aI (k 0) 9 mz := (frC25 _ (by omega)).trans h84
                  have h85 : C25 85 = aI (k 0) 216 (zup m1 (((24 * kc) + (my + 1)) - 1) 0) := by rw [hC25]; exact zup_s
                  have h83 : C25 83 = aI (k 0) 100 mp := (frC25 _ (by omega)).trans h83
                  have hfl9 : FL (zup m1 (((24 * kc) + (my + 1)) - 1) 0) kc (-1) cn 0 (my + 1) sw := by rw [show ((my + 1) : Int) = cn + 1 by omega]; exact FL_wr hFL (by omega) (by omega)
                  refine lv_iinc (v := zI (x + 1)) (lv' := [(3, .int (zI (x + 1))), (2, .int (zI (my + 1))), (1, .int (zI 0)), (5, .int (zI 1)), (4, .int (zI (mp x))), (0, .ref (AD 82))]) hx hb d_M_fault_185 hl (k := 5) rfl (zI_add _ _) (by decide) rfl (fun ls hl => ?_)
                  refine lv_goto (tgt := 6) hx hb d_M_fault_188 (by decide) ?_
                  exact ihlp (x + 1) 0 (my + 1) (zup m1 (((24 * kc) + (my + 1)) - 1) 0) (-1) cn sw C25 H locs ls (by omega) (okP_step hokp (by rw [hst]; exact hos)) (by rw [ps_step _ hx1.1, hst]; rw [stp_g (by omega), grw_a (by omega)]) hfl9 (fun j hj => by rw [zup_n (by omega)]; exact hlo j hj) (fun j hj => by rw [frC25 _ (by omega)]; exact hfr j hj) hM h84 h85 h83 (by omega) hw (lv_sub hl [5, 2, 1, 0] rfl)
            · refine lv_iload hx hb d_M_fault_64 (lv_at hl 0 rfl) ?_
              refine zr_bipush hx hb d_M_fault_66 (by decide) ?_
              refine zr_bipush hx hb d_M_fault_68 (by decide) ?_
              refine zr_callI (va_runS (As := [.int (zI (mp x)), .int (zI 49), .int (zI 57)]) (rest := []) ⟨hx, hb, hml, hown, hts⟩ (c_M_within l D k N AD C H.size (mp x) 49 57 ⟨by omega, by omega⟩ ⟨by omega, by omega⟩ ⟨by omega, by omega⟩) (va_cwS 3 hts (good_S wk_572 wk_573 wk_31 wk_574) rfl rfl rfl (by decide +kernel) ⟨Nat.le_of_ble_eq_true rfl, Nat.le_of_ble_eq_true rfl⟩) (cPre_S hK hw) rfl rfl hl.1 rfl (lv_room (Nat.le_of_ble_eq_true rfl)) d_M_fault_70 ⟨Nat.le_of_ble_eq_true rfl, Nat.le_of_ble_eq_true rfl⟩) hw hA (fun r9 C27 H locs hq26 hw => ?_)
              obtain ⟨hq26, hCe⟩ := hq26
              rw [hCe] at hw
              rcases hq26 with ⟨hr9, hq26⟩ | ⟨hr9, hq26⟩ <;> subst hr9
              · refine zr_if_eq (tgt := 80) hx hb ⟨by omega, by omega⟩ d_M_fault_73 (by decide) (fun c9 => absurd c9 (by decide)) (fun c28 => ?_)
                refine zr_iconst hx hb d_M_fault_76 ?_
                refine lv_goto (tgt := 81) hx hb d_M_fault_77 (by decide) ?_
                refine lv_istore (lv' := [(5, .int (zI 1)), (4, .int (zI (mp x))), (0, .ref (AD 82)), (1, .int (zI rg)), (2, .int (zI my)), (3, .int (zI x))]) hx hb d_M_fault_81 hl (by decide) rfl (fun ls hl => ?_)
                refine lv_iload hx hb d_M_fault_83 (lv_at hl 1 rfl) ?_
                refine zr_bipush hx hb d_M_fault_85 (by decide) ?_
                refine zr_icmp_ne (tgt := 94) hx hb ⟨by omega, by omega⟩ ⟨by omega, by omega⟩ d_M_fault_87 (by decide) (fun c29 => ?_) (fun c29 => ?_)
                · refine lv_iload hx hb d_M_fault_94 (lv_at hl 1 rfl) ?_
                  refine zr_bipush hx hb d_M_fault_96 (by decide) ?_
                  refine zr_isub hx hb d_M_fault_98 ?_
                  refine lv_istore_n (lv' := [(1, .int (zI ((mp x) - 48))), (5, .int (zI 1)), (4, .int (zI (mp x))), (0, .ref (AD 82)), (2, .int (zI my)), (3, .int (zI x))]) hx hb d_M_fault_99 rfl hl (by decide) rfl (fun ls hl => ?_)
                  refine lv_iinc (v := zI (my + 1)) (lv' := [(2, .int (zI (my + 1))), (1, .int (zI ((mp x) - 48))), (5, .int (zI 1)), (4, .int (zI (mp x))), (0, .ref (AD 82)), (3, .int (zI x))]) hx hb d_M_fault_100 hl (k := 4) rfl (zI_add _ _) (by decide) rfl (fun ls hl => ?_)
                  refine lv_goto (tgt := 156) hx hb d_M_fault_103 (by decide) ?_
                  refine lv_iload hx hb d_M_fault_156 (lv_at hl 2 rfl) ?_
                  refine zr_if_ne (tgt := 163) hx hb ⟨by omega, by omega⟩ d_M_fault_158 (by decide) (fun c30 => ?_) (fun c9 => absurd c9 (by decide))
                  have hos : okS (mp x) (q, cn, sw) := by show (mp x = 32 ∧ ¬ q = 0 ∧ cn < 23) ∨ ¬ grw q (mp x) = -2; omega
                  refine lv_iload_n hx hb d_M_fault_163 rfl (lv_at hl 1 rfl) ?_
                  refine zr_iconst hx hb d_M_fault_164 ?_
                  refine zr_icmp_eq (tgt := 185) hx hb ⟨by omega, by omega⟩ ⟨by omega, by omega⟩ d_M_fault_165 (by decide) (fun c31 => ?_) (fun c31 => ?_)
                  · exact absurd c31 (by omega)
                  · refine lv_aload_n hx hb d_M_fault_168 rfl (lv_at hl 4 rfl) ?_
                    refine zr_get (v := .ref (AD 85)) hx hb hts iw_M hown hK hw 82 ⟨by omega, by omega⟩ hM rfl 5 (by decide) (hts _ wk_511) (fun _ h => h) rfl d_M_fault_169 ?_
                    refine zr_bipush hx hb d_M_fault_172 (by decide) ?_
                    refine lv_aload_n hx hb d_M_fault_174 rfl (lv_at hl 4 rfl) ?_
                    refine zr_get (v := .int (zI kc)) hx hb hts iw_M hown hK hw 82 ⟨by omega, by omega⟩ hM rfl 3 (by decide) (hts _ wk_509) (fun _ h => h) rfl d_M_fault_175 ?_
                    refine zr_imul hx hb d_M_fault_178 ?_
                    refine lv_iload_n hx hb d_M_fault_179 rfl (lv_at hl 0 rfl) ?_
                    refine zr_iadd hx hb d_M_fault_180 ?_
                    refine zr_iconst hx hb d_M_fault_181 ?_
                    refine zr_isub hx hb d_M_fault_182 ?_
                    refine lv_iload_n hx hb d_M_fault_183 rfl (lv_at hl 1 rfl) ?_
                    refine zr_iast hx hb hK hw 85 ⟨by omega, by omega⟩ 0 h85 rfl ⟨by omega, by omega⟩ (by decide) d_M_fault_184 (fun H locs hw => ?_)
                    obtain ⟨C32, hC32⟩ : ∃ z : Int → va_E, z = zup C 85 (aI (k 0) 216 (zup m1 (((24 * kc) + (my + 1)) - 1) ((mp x) - 48))) := ⟨_, rfl⟩
                    have hw : WD D clW (wA N AD sz) s.heap H locs N AD C32 := by rw [hC32]; exact hw
                    have frC32 : ∀ j : Int, j ≠ 85 → C32 j = C j := fun j h => by rw [hC32]; exact zup_n h
                    have hM : C32 82 = .inr (4, [.int (zI th), .int (zI pn), .ref (AD 83), .int (zI kc), .ref (AD 84), .ref (AD 85), .int (zI tr), .int (zI lc), .int (zI fa), .int (zI fb), .ref (AD 86), .ref (AD 87), .ref (AD 88), .int (zI mn), .int (zI mr), .int (zI ma), .long (zL ab), .long (zL bl)]) := (frC32 _ (by omega)).trans hM
                    have h84 : C32 84 = aI (k 0) 9 mz := (frC32 _ (by omega)).trans h84
                    have h85 : C32 85 = aI (k 0) 216 (zup m1 (((24 * kc) + (my + 1)) - 1) ((mp x) - 48)) := by rw [hC32]; exact zup_s
                    have h83 : C32 83 = aI (k 0) 100 mp := (frC32 _ (by omega)).trans h83
                    have hfl9 : FL (zup m1 (((24 * kc) + (my + 1)) - 1) ((mp x) - 48)) kc (mp x - 48) cn ((mp x) - 48) (my + 1) sw := by rw [show ((my + 1) : Int) = cn + 1 by omega]; exact FL_wr hFL (by omega) (by omega)
                    refine lv_iinc (v := zI (x + 1)) (lv' := [(3, .int (zI (x + 1))), (2, .int (zI (my + 1))), (1, .int (zI ((mp x) - 48))), (5, .int (zI 1)), (4, .int (zI (mp x))), (0, .ref (AD 82))]) hx hb d_M_fault_185 hl (k := 5) rfl (zI_add _ _) (by decide) rfl (fun ls hl => ?_)
                    refine lv_goto (tgt := 6) hx hb d_M_fault_188 (by decide) ?_
                    exact ihlp (x + 1) ((mp x) - 48) (my + 1) (zup m1 (((24 * kc) + (my + 1)) - 1) ((mp x) - 48)) (mp x - 48) cn sw C32 H locs ls (by omega) (okP_step hokp (by rw [hst]; exact hos)) (by rw [ps_step _ hx1.1, hst]; rw [stp_g (by omega), grw_b (by omega), show 10 * q + mp x - 48 = mp x - 48 by omega]) hfl9 (fun j hj => by rw [zup_n (by omega)]; exact hlo j hj) (fun j hj => by rw [frC32 _ (by omega)]; exact hfr j hj) hM h84 h85 h83 (by omega) hw (lv_sub hl [5, 2, 1, 0] rfl)
                · refine zr_iconst hx hb d_M_fault_90 ?_
                  refine lv_goto (tgt := 99) hx hb d_M_fault_91 (by decide) ?_
                  refine lv_istore_n (lv' := [(1, .int (zI 0)), (5, .int (zI 1)), (4, .int (zI (mp x))), (0, .ref (AD 82)), (2, .int (zI my)), (3, .int (zI x))]) hx hb d_M_fault_99 rfl hl (by decide) rfl (fun ls hl => ?_)
                  refine lv_iinc (v := zI (my + 1)) (lv' := [(2, .int (zI (my + 1))), (1, .int (zI 0)), (5, .int (zI 1)), (4, .int (zI (mp x))), (0, .ref (AD 82)), (3, .int (zI x))]) hx hb d_M_fault_100 hl (k := 4) rfl (zI_add _ _) (by decide) rfl (fun ls hl => ?_)
                  refine lv_goto (tgt := 156) hx hb d_M_fault_103 (by decide) ?_
                  refine lv_iload hx hb d_M_fault_156 (lv_at hl 2 rfl) ?_
                  refine zr_if_ne (tgt := 163) hx hb ⟨by omega, by omega⟩ d_M_fault_158 (by decide) (fun c33 => ?_) (fun c9 => absurd c9 (by decide))
                  have hos : okS (mp x) (q, cn, sw) := by show (mp x = 32 ∧ ¬ q = 0 ∧ cn < 23) ∨ ¬ grw q (mp x) = -2; omega
                  have eq9 : my = cn := by omega
                  refine lv_iload_n hx hb d_M_fault_163 rfl (lv_at hl 1 rfl) ?_
                  refine zr_iconst hx hb d_M_fault_164 ?_
                  refine zr_icmp_eq (tgt := 185) hx hb ⟨by omega, by omega⟩ ⟨by omega, by omega⟩ d_M_fault_165 (by decide) (fun c34 => ?_) (fun c34 => ?_)
                  · exact absurd c34 (by omega)
                  · refine lv_aload_n hx hb d_M_fault_168 rfl (lv_at hl 4 rfl) ?_
                    refine zr_get (v := .ref (AD 85)) hx hb hts iw_M hown hK hw 82 ⟨by omega, by omega⟩ hM rfl 5 (by decide) (hts _ wk_511) (fun _ h => h) rfl d_M_fault_169 ?_
                    refine zr_bipush hx hb d_M_fault_172 (by decide) ?_
                    refine lv_aload_n hx hb d_M_fault_174 rfl (lv_at hl 4 rfl) ?_
                    refine zr_get (v := .int (zI kc)) hx hb hts iw_M hown hK hw 82 ⟨by omega, by omega⟩ hM rfl 3 (by decide) (hts _ wk_509) (fun _ h => h) rfl d_M_fault_175 ?_
                    refine zr_imul hx hb d_M_fault_178 ?_
                    refine lv_iload_n hx hb d_M_fault_179 rfl (lv_at hl 0 rfl) ?_
                    refine zr_iadd hx hb d_M_fault_180 ?_
                    refine zr_iconst hx hb d_M_fault_181 ?_
                    refine zr_isub hx hb d_M_fault_182 ?_
                    refine lv_iload_n hx hb d_M_fault_183 rfl (lv_at hl 1 rfl) ?_
                    refine zr_iast hx hb hK hw 85 ⟨by omega, by omega⟩ 0 h85 rfl ⟨by omega, by omega⟩ (by decide) d_M_fault_184 (fun H locs hw => ?_)
                    obtain ⟨C35, hC35⟩ : ∃ z : Int → va_E, z = zup C 85 (aI (k 0) 216 (zup m1 (((24 * kc) + (my + 1)) - 1) 0)) := ⟨_, rfl⟩
                    have hw : WD D clW (wA N AD sz) s.heap H locs N AD C35 := by rw [hC35]; exact hw
                    have frC35 : ∀ j : Int, j ≠ 85 → C35 j = C j := fun j h => by rw [hC35]; exact zup_n h
                    have hM : C35 82 = .inr (4, [.int (zI th), .int (zI pn), .ref (AD 83), .int (zI kc), .ref (AD 84), .ref (AD 85), .int (zI tr), .int (zI lc), .int (zI fa), .int (zI fb), .ref (AD 86), .ref (AD 87), .ref (AD 88), .int (zI mn), .int (zI mr), .int (zI ma), .long (zL ab), .long (zL bl)]) := (frC35 _ (by omega)).trans hM
                    have h84 : C35 84 = aI (k 0) 9 mz := (frC35 _ (by omega)).trans h84
                    have h85 : C35 85 = aI (k 0) 216 (zup m1 (((24 * kc) + (my + 1)) - 1) 0) := by rw [hC35]; exact zup_s
                    have h83 : C35 83 = aI (k 0) 100 mp := (frC35 _ (by omega)).trans h83
                    have hfl9 : FL (zup m1 (((24 * kc) + (my + 1)) - 1) 0) kc (-1) cn 0 (my + 1) sw := by rw [show ((my + 1) : Int) = cn + 1 by omega]; exact FL_wr hFL (by omega) (by omega)
                    refine lv_iinc (v := zI (x + 1)) (lv' := [(3, .int (zI (x + 1))), (2, .int (zI (my + 1))), (1, .int (zI 0)), (5, .int (zI 1)), (4, .int (zI (mp x))), (0, .ref (AD 82))]) hx hb d_M_fault_185 hl (k := 5) rfl (zI_add _ _) (by decide) rfl (fun ls hl => ?_)
                    refine lv_goto (tgt := 6) hx hb d_M_fault_188 (by decide) ?_
                    exact ihlp (x + 1) 0 (my + 1) (zup m1 (((24 * kc) + (my + 1)) - 1) 0) (-1) cn sw C35 H locs ls (by omega) (okP_step hokp (by rw [hst]; exact hos)) (by rw [ps_step _ hx1.1, hst]; rw [stp_g (by omega), grw_a (by omega)]) hfl9 (fun j hj => by rw [zup_n (by omega)]; exact hlo j hj) (fun j hj => by rw [frC35 _ (by omega)]; exact hfr j hj) hM h84 h85 h83 (by omega) hw (lv_sub hl [5, 2, 1, 0] rfl)
              · refine zr_if_eq (tgt := 80) hx hb ⟨by omega, by omega⟩ d_M_fault_73 (by decide) (fun c36 => ?_) (fun c9 => absurd c9 (by decide))
                refine zr_iconst hx hb d_M_fault_80 ?_
                refine lv_istore (lv' := [(5, .int (zI 0)), (4, .int (zI (mp x))), (0, .ref (AD 82)), (1, .int (zI rg)), (2, .int (zI my)), (3, .int (zI x))]) hx hb d_M_fault_81 hl (by decide) rfl (fun ls hl => ?_)
                refine lv_iload hx hb d_M_fault_83 (lv_at hl 1 rfl) ?_
                refine zr_bipush hx hb d_M_fault_85 (by decide) ?_
                refine zr_icmp_ne (tgt := 94) hx hb ⟨by omega, by omega⟩ ⟨by omega, by omega⟩ d_M_fault_87 (by decide) (fun c37 => ?_) (fun c37 => ?_)
                · refine lv_iload hx hb d_M_fault_94 (lv_at hl 1 rfl) ?_
                  refine zr_bipush hx hb d_M_fault_96 (by decide) ?_
                  refine zr_isub hx hb d_M_fault_98 ?_
                  refine lv_istore_n (lv' := [(1, .int (zI ((mp x) - 48))), (5, .int (zI 0)), (4, .int (zI (mp x))), (0, .ref (AD 82)), (2, .int (zI my)), (3, .int (zI x))]) hx hb d_M_fault_99 rfl hl (by decide) rfl (fun ls hl => ?_)
                  refine lv_iinc (v := zI (my + 1)) (lv' := [(2, .int (zI (my + 1))), (1, .int (zI ((mp x) - 48))), (5, .int (zI 0)), (4, .int (zI (mp x))), (0, .ref (AD 82)), (3, .int (zI x))]) hx hb d_M_fault_100 hl (k := 4) rfl (zI_add _ _) (by decide) rfl (fun ls hl => ?_)
                  refine lv_goto (tgt := 156) hx hb d_M_fault_103 (by decide) ?_
                  refine lv_iload hx hb d_M_fault_156 (lv_at hl 2 rfl) ?_
                  refine zr_if_ne (tgt := 163) hx hb ⟨by omega, by omega⟩ d_M_fault_158 (by decide) (fun c9 => absurd c9 (by decide)) (fun c38 => ?_)
                  refine lv_iload_n hx hb d_M_fault_161 rfl (lv_at hl 5 rfl) ?_
                  exact hret _ _ _ _ _ _ d_M_fault_162 hw rfl ⟨mz, m1, h84, h85, fun j _ => rfl, hmz kc (by omega) (by omega), hlo, Or.inl ⟨x, by omega, hokp, by rw [hst]; show ¬ ((mp x = 32 ∧ ¬ q = 0 ∧ cn < 23) ∨ ¬ grw q (mp x) = -2); omega, rfl⟩, fun j hj => (hfr j hj).trans (by rw [hC0])⟩
                · refine zr_iconst hx hb d_M_fault_90 ?_
                  refine lv_goto (tgt := 99) hx hb d_M_fault_91 (by decide) ?_
                  refine lv_istore_n (lv' := [(1, .int (zI 0)), (5, .int (zI 0)), (4, .int (zI (mp x))), (0, .ref (AD 82)), (2, .int (zI my)), (3, .int (zI x))]) hx hb d_M_fault_99 rfl hl (by decide) rfl (fun ls hl => ?_)
                  refine lv_iinc (v := zI (my + 1)) (lv' := [(2, .int (zI (my + 1))), (1, .int (zI 0)), (5, .int (zI 0)), (4, .int (zI (mp x))), (0, .ref (AD 82)), (3, .int (zI x))]) hx hb d_M_fault_100 hl (k := 4) rfl (zI_add _ _) (by decide) rfl (fun ls hl => ?_)
                  refine lv_goto (tgt := 156) hx hb d_M_fault_103 (by decide) ?_
                  refine lv_iload hx hb d_M_fault_156 (lv_at hl 2 rfl) ?_
                  refine zr_if_ne (tgt := 163) hx hb ⟨by omega, by omega⟩ d_M_fault_158 (by decide) (fun c9 => absurd c9 (by decide)) (fun c39 => ?_)
                  refine lv_iload_n hx hb d_M_fault_161 rfl (lv_at hl 5 rfl) ?_
                  exact hret _ _ _ _ _ _ d_M_fault_162 hw rfl ⟨mz, m1, h84, h85, fun j _ => rfl, hmz kc (by omega) (by omega), hlo, Or.inl ⟨x, by omega, hokp, by rw [hst]; show ¬ ((mp x = 32 ∧ ¬ q = 0 ∧ cn < 23) ∨ ¬ grw q (mp x) = -2); omega, rfl⟩, fun j hj => (hfr j hj).trans (by rw [hC0])⟩
        · refine lv_iload_n hx hb d_M_fault_29 rfl (lv_at hl 2 rfl) ?_
          refine zr_iconst hx hb d_M_fault_30 ?_
          refine zr_icmp_eq (tgt := 44) hx hb ⟨by omega, by omega⟩ ⟨by omega, by omega⟩ d_M_fault_31 (by decide) (fun c40 => ?_) (fun c40 => ?_)
          · refine zr_iconst hx hb d_M_fault_44 ?_
            refine lv_istore (lv' := [(5, .int (zI 0)), (4, .int (zI (mp x))), (0, .ref (AD 82)), (1, .int (zI rg)), (2, .int (zI my)), (3, .int (zI x))]) hx hb d_M_fault_45 hl (by decide) rfl (fun ls hl => ?_)
            refine zr_iconst hx hb d_M_fault_47 ?_
            refine lv_istore_n (lv' := [(1, .int (zI (-1))), (5, .int (zI 0)), (4, .int (zI (mp x))), (0, .ref (AD 82)), (2, .int (zI my)), (3, .int (zI x))]) hx hb d_M_fault_48 rfl hl (by decide) rfl (fun ls hl => ?_)
            refine lv_goto (tgt := 156) hx hb d_M_fault_49 (by decide) ?_
            refine lv_iload hx hb d_M_fault_156 (lv_at hl 1 rfl) ?_
            refine zr_if_ne (tgt := 163) hx hb ⟨by omega, by omega⟩ d_M_fault_158 (by decide) (fun c9 => absurd c9 (by decide)) (fun c41 => ?_)
            refine lv_iload_n hx hb d_M_fault_161 rfl (lv_at hl 5 rfl) ?_
            exact hret _ _ _ _ _ _ d_M_fault_162 hw rfl ⟨mz, m1, h84, h85, fun j _ => rfl, hmz kc (by omega) (by omega), hlo, Or.inl ⟨x, by omega, hokp, by rw [hst]; show ¬ ((mp x = 32 ∧ ¬ q = 0 ∧ cn < 23) ∨ ¬ grw q (mp x) = -2); omega, rfl⟩, fun j hj => (hfr j hj).trans (by rw [hC0])⟩
          · refine lv_iload_n hx hb d_M_fault_34 rfl (lv_at hl 3 rfl) ?_
            refine zr_bipush hx hb d_M_fault_35 (by decide) ?_
            refine zr_icmp_ge (tgt := 44) hx hb ⟨by omega, by omega⟩ ⟨by omega, by omega⟩ d_M_fault_37 (by decide) (fun c42 => ?_) (fun c42 => ?_)
            · refine zr_iconst hx hb d_M_fault_44 ?_
              refine lv_istore (lv' := [(5, .int (zI 0)), (4, .int (zI (mp x))), (0, .ref (AD 82)), (1, .int (zI rg)), (2, .int (zI my)), (3, .int (zI x))]) hx hb d_M_fault_45 hl (by decide) rfl (fun ls hl => ?_)
              refine zr_iconst hx hb d_M_fault_47 ?_
              refine lv_istore_n (lv' := [(1, .int (zI (-1))), (5, .int (zI 0)), (4, .int (zI (mp x))), (0, .ref (AD 82)), (2, .int (zI my)), (3, .int (zI x))]) hx hb d_M_fault_48 rfl hl (by decide) rfl (fun ls hl => ?_)
              refine lv_goto (tgt := 156) hx hb d_M_fault_49 (by decide) ?_
              refine lv_iload hx hb d_M_fault_156 (lv_at hl 1 rfl) ?_
              refine zr_if_ne (tgt := 163) hx hb ⟨by omega, by omega⟩ d_M_fault_158 (by decide) (fun c9 => absurd c9 (by decide)) (fun c43 => ?_)
              refine lv_iload_n hx hb d_M_fault_161 rfl (lv_at hl 5 rfl) ?_
              exact hret _ _ _ _ _ _ d_M_fault_162 hw rfl ⟨mz, m1, h84, h85, fun j _ => rfl, hmz kc (by omega) (by omega), hlo, Or.inl ⟨x, by omega, hokp, by rw [hst]; show ¬ ((mp x = 32 ∧ ¬ q = 0 ∧ cn < 23) ∨ ¬ grw q (mp x) = -2); omega, rfl⟩, fun j hj => (hfr j hj).trans (by rw [hC0])⟩
            · refine zr_iconst hx hb d_M_fault_40 ?_
              refine lv_goto (tgt := 45) hx hb d_M_fault_41 (by decide) ?_
              refine lv_istore (lv' := [(5, .int (zI 1)), (4, .int (zI (mp x))), (0, .ref (AD 82)), (1, .int (zI rg)), (2, .int (zI my)), (3, .int (zI x))]) hx hb d_M_fault_45 hl (by decide) rfl (fun ls hl => ?_)
              refine zr_iconst hx hb d_M_fault_47 ?_
              refine lv_istore_n (lv' := [(1, .int (zI (-1))), (5, .int (zI 1)), (4, .int (zI (mp x))), (0, .ref (AD 82)), (2, .int (zI my)), (3, .int (zI x))]) hx hb d_M_fault_48 rfl hl (by decide) rfl (fun ls hl => ?_)
              refine lv_goto (tgt := 156) hx hb d_M_fault_49 (by decide) ?_
              refine lv_iload hx hb d_M_fault_156 (lv_at hl 1 rfl) ?_
              refine zr_if_ne (tgt := 163) hx hb ⟨by omega, by omega⟩ d_M_fault_158 (by decide) (fun c44 => ?_) (fun c9 => absurd c9 (by decide))
              have hos : okS (mp x) (q, cn, sw) := by show (mp x = 32 ∧ ¬ q = 0 ∧ cn < 23) ∨ ¬ grw q (mp x) = -2; omega
              refine lv_iload_n hx hb d_M_fault_163 rfl (lv_at hl 0 rfl) ?_
              refine zr_iconst hx hb d_M_fault_164 ?_
              refine zr_icmp_eq (tgt := 185) hx hb ⟨by omega, by omega⟩ ⟨by omega, by omega⟩ d_M_fault_165 (by decide) (fun c45 => ?_) (fun c45 => ?_)
              · refine lv_iinc (v := zI (x + 1)) (lv' := [(3, .int (zI (x + 1))), (1, .int (zI (-1))), (5, .int (zI 1)), (4, .int (zI (mp x))), (0, .ref (AD 82)), (2, .int (zI my))]) hx hb d_M_fault_185 hl (k := 5) rfl (zI_add _ _) (by decide) rfl (fun ls hl => ?_)
                refine lv_goto (tgt := 6) hx hb d_M_fault_188 (by decide) ?_
                exact ihlp (x + 1) (-1) my m1 0 (cn + 1) (zup sw cn q) C H locs ls (by omega) (okP_step hokp (by rw [hst]; exact hos)) (by rw [ps_step _ hx1.1, hst]; exact stp_s (by omega)) (FL_sp hFL (by omega) (by omega)) hlo hfr hM h84 h85 h83 (by omega) hw (lv_sub hl [4, 1, 5, 0] rfl)
              · exact absurd c45 (by omega)
  exact lp ((pn - 0 : Int).toNat + 1) 0 (-1) 0 mw 0 0 (fun _ => -1) C H locs ls (by omega) (fun j h1 h2 => absurd h2 (by omega)) rfl ⟨Or.inl ⟨rfl, rfl, rfl⟩, by omega, fun j h1 h2 => absurd h2 (by omega), fun h => absurd rfl h⟩ (fun j _ => rfl) (fun j _ => by rw [hC0]) hM h84 h85 h83 (by omega) hw (lv_sub hl [3, 2, 1, 0] rfl)
abbrev rm_M_read : Room := { frames := 2, cells := 0, slots := 0, locals := 47 }
set_option maxHeartbeats 4000000 in
set_option maxRecDepth 100000 in
theorem c_M_read (l : Launch) (D : va_G) (k : Nat → ClassId) (N : Nat) (AD : Int → Nat) (C : Int → va_E) (sz : Nat) (th : Int) (pn : Int) (kc : Int) (tr : Int) (lc : Int) (fa : Int) (fb : Int) (mn : Int) (mr : Int) (ma : Int) (ab : Int) (bl : Int) (mz : Int → Int) (mw : Int → Int) (mp : Int → Int) (hN : 90 ≤ (N : Int)) (hM : C 82 = .inr (4, [.int (zI th), .int (zI pn), .ref (AD 83), .int (zI kc), .ref (AD 84), .ref (AD 85), .int (zI tr), .int (zI lc), .int (zI fa), .int (zI fb), .ref (AD 86), .ref (AD 87), .ref (AD 88), .int (zI mn), .int (zI mr), .int (zI ma), .long (zL ab), .long (zL bl)])) (h84 : C 84 = aI (k 0) 9 mz) (h85 : C 85 = aI (k 0) 216 mw) (hmz : ∀ i : Int, 0 ≤ i → i < 9 → 0 ≤ mz i ∧ mz i ≤ 24) (hkc : 0 ≤ kc ∧ kc ≤ 8) (h83 : C 83 = aI (k 0) 100 mp) (hpf : ∀ j : Int, 0 ≤ j → j < pn → 32 ≤ mp j ∧ mp j ≤ 126) (hpn : 0 ≤ pn ∧ pn ≤ 100) : MI l y_M_read (Cond.code y_M_read b_M_read 2 (Option.some Jvm.ClassFile.FieldType.int) :: WS) rm_M_read D clW (tyW k) N AD C sz [.ref (AD 82)] (fun r C' => ((kc < 8 ∧ ∃ mz1 m1 : Int → Int, C' 84 = aI (k 0) 9 mz1 ∧ C' 85 = aI (k 0) 216 m1 ∧ (∀ j : Int, j ≠ kc → mz1 j = mz j) ∧ (0 ≤ mz1 kc ∧ mz1 kc ≤ 24) ∧ (∀ j : Int, j < 24 * kc → m1 j = mw j) ∧ ((∃ x : Int, (0 ≤ x ∧ x < pn) ∧ okP mp x ∧ ¬ okS (mp x) (ps mp x.toNat) ∧ r = zI (-1 - x) ∧ C' 82 = .inr (4, [.int (zI 0), .int (zI 0), .ref (AD 83), .int (zI kc), .ref (AD 84), .ref (AD 85), .int (zI tr), .int (zI lc), .int (zI fa), .int (zI fb), .ref (AD 86), .ref (AD 87), .ref (AD 88), .int (zI mn), .int (zI mr), .int (zI ma), .long (zL ab), .long (zL bl)])) ∨ (okP mp pn ∧ (ps mp pn.toNat).1 = 0 ∧ r = zI (-1 - pn) ∧ C' 82 = .inr (4, [.int (zI 0), .int (zI 0), .ref (AD 83), .int (zI kc), .ref (AD 84), .ref (AD 85), .int (zI tr), .int (zI lc), .int (zI fa), .int (zI fb), .ref (AD 86), .ref (AD 87), .ref (AD 88), .int (zI mn), .int (zI mr), .int (zI ma), .long (zL ab), .long (zL bl)])) ∨ (∃ (q cn : Int) (sw : Int → Int), okP mp pn ∧ ps mp pn.toNat = (q, cn, sw) ∧ ¬ q = 0 ∧ (r = zI kc ∧ C' 82 = .inr (4, [.int (zI 0), .int (zI 0), .ref (AD 83), .int (zI (kc + 1)), .ref (AD 84), .ref (AD 85), .int (zI tr), .int (zI lc), .int (zI fa), .int (zI fb), .ref (AD 86), .ref (AD 87), .ref (AD 88), .int (zI mn), .int (zI mr), .int (zI ma), .long (zL ab), .long (zL bl)])) ∧ mz1 kc = cn + 1 ∧ MOK m1 kc (cn + 1) ∧ ∀ j : Int, 0 ≤ j → j < cn + 1 → WM m1 kc j = zup sw cn q j))) ∨ (¬ kc < 8 ∧ C' 82 = .inr (4, [.int (zI 1), .int (zI pn), .ref (AD 83), .int (zI kc), .ref (AD 84), .ref (AD 85), .int (zI tr), .int (zI lc), .int (zI fa), .int (zI fb), .ref (AD 86), .ref (AD 87), .ref (AD 88), .int (zI mn), .int (zI mr), .int (zI ma), .long (zL ab), .long (zL bl)]) ∧ C' 84 = aI (k 0) 9 mz ∧ C' 85 = aI (k 0) 216 mw)) ∧ ∀ j : Int, ¬ (j = 82 ∨ (84 ≤ j ∧ j ≤ 85)) → C' j = C j) := by
  refine MI.start (cc := b_M_read) (maxL := 2) (rt := .int) (by decide) rfl (Nat.le_of_ble_eq_true rfl) ?_
  intro p e s m args below meth c Q ls hx hb hml hown hts hK hsz hw hl hret
  have hown : s.vm.findClass "RingMatchesModel" = some m.cls := hown
  have hl : lv_has ls 2 [(0, .ref (AD 82))] := hl
  have hA := wA_hi (N := N) (AD := AD) hsz
  obtain ⟨H, hH⟩ : ∃ H, H = s.heap := ⟨_, rfl⟩
  obtain ⟨locs, hlocs⟩ : ∃ z : List Loc, z = [] := ⟨_, rfl⟩
  have hw : WD D clW (wA N AD sz) s.heap H locs N AD C := by rw [hH, hlocs]; exact hw
  rw [← hlocs]
  suffices hgo : W p l e rm_M_read s m args below meth c H locs 0 0 Q (F0 m 0 ls []) by rw [hH] at hgo; exact hgo
  refine lv_aload_n hx hb d_M_read_0 rfl (lv_at hl 0 rfl) ?_
  refine lv_aload_n hx hb d_M_read_1 rfl (lv_at hl 0 rfl) ?_
  refine zr_get (v := .int (zI kc)) hx hb hts iw_M hown hK hw 82 ⟨by omega, by omega⟩ hM rfl 3 (by decide) (hts _ wk_509) (fun _ h => h) rfl d_M_read_2 ?_
  refine zr_bipush hx hb d_M_read_5 (by decide) ?_
  refine zr_icmp_ge (tgt := 14) hx hb ⟨by omega, by omega⟩ ⟨by omega, by omega⟩ d_M_read_7 (by decide) (fun c1 => ?_) (fun c1 => ?_)
  · refine zr_iconst hx hb d_M_read_14 ?_
    refine zr_iconst hx hb d_M_read_15 ?_
    refine zr_iconst hx hb d_M_read_16 ?_
    refine zr_callI (va_runV (As := [.int (zI 0), .int (zI 1), .int (zI 1)]) (rest := []) ⟨hx, hb, hml, hown, hts⟩ (c_M_goes l D k N AD C H.size th pn kc tr lc fa fb mn mr ma ab bl 0 1 1 1 0 hN hM (by decide) (by decide) (by decide) (by decide) (by decide)) (cwV 3 hts (good_V wk_578 wk_580 wk_11 wk_31 wk_581) rfl rfl rfl (by decide +kernel) ⟨Nat.le_of_ble_eq_true rfl, Nat.le_of_ble_eq_true rfl⟩) (cPre_V hK hw 82 ⟨by omega, by omega⟩ hM rfl) rfl rfl hl.1 rfl (lv_room (Nat.le_of_ble_eq_true rfl)) d_M_read_17 ⟨Nat.le_of_ble_eq_true rfl, Nat.le_of_ble_eq_true rfl⟩) hw hA (fun r9 C2 H locs hq3 hw => ?_)
    obtain ⟨hr9, hq3a, frC2⟩ := hq3
    subst hr9
    have hM : C2 82 = .inr (4, [.int (zI 1), .int (zI pn), .ref (AD 83), .int (zI kc), .ref (AD 84), .ref (AD 85), .int (zI tr), .int (zI lc), .int (zI fa), .int (zI fb), .ref (AD 86), .ref (AD 87), .ref (AD 88), .int (zI mn), .int (zI mr), .int (zI ma), .long (zL ab), .long (zL bl)]) := hq3a
    have h84 : C2 84 = aI (k 0) 9 mz := (frC2 _ (by omega)).trans h84
    have h85 : C2 85 = aI (k 0) 216 mw := (frC2 _ (by omega)).trans h85
    have h83 : C2 83 = aI (k 0) 100 mp := (frC2 _ (by omega)).trans h83
    refine zr_if_ne (tgt := 25) hx hb ⟨by omega, by omega⟩ d_M_read_20 (by decide) (fun c9 => absurd c9 (by decide)) (fun c4 => ?_)
    refine zr_iconst hx hb d_M_read_23 ?_
    exact hret _ _ _ _ _ _ d_M_read_24 hw rfl ⟨Or.inr ⟨by omega, hM, h84, h85⟩, fun j hj => by rw [frC2 _ (by omega)]⟩
  · refine zr_iconst hx hb d_M_read_10 ?_
    refine lv_goto (tgt := 15) hx hb d_M_read_11 (by decide) ?_
    refine zr_iconst hx hb d_M_read_15 ?_
    refine zr_iconst hx hb d_M_read_16 ?_
    refine zr_callI (va_runV (As := [.int (zI 1), .int (zI 1), .int (zI 1)]) (rest := []) ⟨hx, hb, hml, hown, hts⟩ (c_M_goes l D k N AD C H.size th pn kc tr lc fa fb mn mr ma ab bl 1 1 1 0 1 hN hM (by decide) (by decide) (by decide) (by decide) (by decide)) (cwV 3 hts (good_V wk_578 wk_580 wk_11 wk_31 wk_581) rfl rfl rfl (by decide +kernel) ⟨Nat.le_of_ble_eq_true rfl, Nat.le_of_ble_eq_true rfl⟩) (cPre_V hK hw 82 ⟨by omega, by omega⟩ hM rfl) rfl rfl hl.1 rfl (lv_room (Nat.le_of_ble_eq_true rfl)) d_M_read_17 ⟨Nat.le_of_ble_eq_true rfl, Nat.le_of_ble_eq_true rfl⟩) hw hA (fun r9 C5 H locs hq6 hw => ?_)
    obtain ⟨hr9, hq6a, frC5⟩ := hq6
    subst hr9
    have hM : C5 82 = .inr (4, [.int (zI 0), .int (zI pn), .ref (AD 83), .int (zI kc), .ref (AD 84), .ref (AD 85), .int (zI tr), .int (zI lc), .int (zI fa), .int (zI fb), .ref (AD 86), .ref (AD 87), .ref (AD 88), .int (zI mn), .int (zI mr), .int (zI ma), .long (zL ab), .long (zL bl)]) := hq6a
    have h84 : C5 84 = aI (k 0) 9 mz := (frC5 _ (by omega)).trans h84
    have h85 : C5 85 = aI (k 0) 216 mw := (frC5 _ (by omega)).trans h85
    have h83 : C5 83 = aI (k 0) 100 mp := (frC5 _ (by omega)).trans h83
    refine zr_if_ne (tgt := 25) hx hb ⟨by omega, by omega⟩ d_M_read_20 (by decide) (fun c7 => ?_) (fun c9 => absurd c9 (by decide))
    refine lv_aload_n hx hb d_M_read_25 rfl (lv_at hl 0 rfl) ?_
    refine zr_callI (va_runV (As := []) (rest := []) ⟨hx, hb, hml, hown, hts⟩ (c_M_fault l D k N AD C5 H.size 0 pn kc tr lc fa fb mn mr ma ab bl mz mw mp hN hM h84 h85 hmz (by omega) h83 hpf hpn (by omega)) (cwV 0 hts (good_V wk_590 wk_592 wk_13 wk_31 wk_593) rfl rfl rfl (by decide +kernel) ⟨Nat.le_of_ble_eq_true rfl, Nat.le_of_ble_eq_true rfl⟩) (cPre_V hK hw 82 ⟨by omega, by omega⟩ hM rfl) rfl rfl hl.1 rfl (lv_room (Nat.le_of_ble_eq_true rfl)) d_M_read_26 ⟨Nat.le_of_ble_eq_true rfl, Nat.le_of_ble_eq_true rfl⟩) hw hA (fun r9 C8 H locs hq9 hw => ?_)
    obtain ⟨mz1, m1, hq9z, hq9w, hz1, hz2, hlo, hq9, frC8⟩ := hq9
    have hM : C8 82 = .inr (4, [.int (zI 0), .int (zI pn), .ref (AD 83), .int (zI kc), .ref (AD 84), .ref (AD 85), .int (zI tr), .int (zI lc), .int (zI fa), .int (zI fb), .ref (AD 86), .ref (AD 87), .ref (AD 88), .int (zI mn), .int (zI mr), .int (zI ma), .long (zL ab), .long (zL bl)]) := (frC8 _ (by omega)).trans hM
    have h84 : C8 84 = aI (k 0) 9 mz1 := hq9z
    have h85 : C8 85 = aI (k 0) 216 m1 := hq9w
    have h83 : C8 83 = aI (k 0) 100 mp := (frC8 _ (by omega)).trans h83
    rcases hq9 with ⟨x9, hx9, hk9, hb9, hr9⟩ | ⟨hk9, hb9, hr9⟩ | ⟨q9, cn9, sw9, hk9, hp9, hq9, hr9, hd9⟩ <;> subst hr9
    · refine lv_istore_n (lv' := [(1, .int (zI x9)), (0, .ref (AD 82))]) hx hb d_M_read_29 rfl hl (by decide) rfl (fun ls hl => ?_)
      refine lv_aload_n hx hb d_M_read_30 rfl (lv_at hl 1 rfl) ?_
      refine zr_iconst hx hb d_M_read_31 ?_
      refine zr_put (ty := .int) (v := .int (zI 0)) hx hb hts iw_M tyM tyM_ok nmM hown hK hw 82 ⟨by omega, by omega⟩ hM rfl 1 (by decide) (hts _ wk_507) (fun _ h => h) rfl (by decide +kernel) rfl rfl (Nat.le_of_ble_eq_true rfl) d_M_read_32 (fun H locs hw => ?_)
      obtain ⟨C10, hC10⟩ : ∃ z : Int → va_E, z = zup C8 82 (.inr (4, [.int (zI 0), .int (zI 0), .ref (AD 83), .int (zI kc), .ref (AD 84), .ref (AD 85), .int (zI tr), .int (zI lc), .int (zI fa), .int (zI fb), .ref (AD 86), .ref (AD 87), .ref (AD 88), .int (zI mn), .int (zI mr), .int (zI ma), .long (zL ab), .long (zL bl)])) := ⟨_, rfl⟩
      have hw : WD D clW (wA N AD sz) s.heap H locs N AD C10 := by rw [hC10]; exact hw
      have frC10 : ∀ j : Int, j ≠ 82 → C10 j = C8 j := fun j h => by rw [hC10]; exact zup_n h
      have hM : C10 82 = .inr (4, [.int (zI 0), .int (zI 0), .ref (AD 83), .int (zI kc), .ref (AD 84), .ref (AD 85), .int (zI tr), .int (zI lc), .int (zI fa), .int (zI fb), .ref (AD 86), .ref (AD 87), .ref (AD 88), .int (zI mn), .int (zI mr), .int (zI ma), .long (zL ab), .long (zL bl)]) := by rw [hC10]; exact zup_s
      have h84 : C10 84 = aI (k 0) 9 mz1 := (frC10 _ (by omega)).trans h84
      have h85 : C10 85 = aI (k 0) 216 m1 := (frC10 _ (by omega)).trans h85
      have h83 : C10 83 = aI (k 0) 100 mp := (frC10 _ (by omega)).trans h83
      refine lv_iload_n hx hb d_M_read_35 rfl (lv_at hl 0 rfl) ?_
      refine zr_iconst hx hb d_M_read_36 ?_
      refine zr_icmp_eq (tgt := 44) hx hb ⟨by omega, by omega⟩ ⟨by omega, by omega⟩ d_M_read_37 (by decide) (fun c11 => ?_) (fun c11 => ?_)
      · exact absurd c11 (by omega)
      · refine zr_iconst hx hb d_M_read_40 ?_
        refine lv_iload_n hx hb d_M_read_41 rfl (lv_at hl 0 rfl) ?_
        refine zr_isub hx hb d_M_read_42 ?_
        exact hret _ _ _ _ _ _ d_M_read_43 hw rfl ⟨Or.inl ⟨by omega, mz1, m1, h84, h85, hz1, hz2, hlo, Or.inl ⟨x9, hx9, hk9, hb9, rfl, hM⟩⟩, fun j hj => by rw [frC10 _ (by omega), frC8 _ (by omega), frC5 _ (by omega)]⟩
    · refine lv_istore_n (lv' := [(1, .int (zI pn)), (0, .ref (AD 82))]) hx hb d_M_read_29 rfl hl (by decide) rfl (fun ls hl => ?_)
      refine lv_aload_n hx hb d_M_read_30 rfl (lv_at hl 1 rfl) ?_
      refine zr_iconst hx hb d_M_read_31 ?_
      refine zr_put (ty := .int) (v := .int (zI 0)) hx hb hts iw_M tyM tyM_ok nmM hown hK hw 82 ⟨by omega, by omega⟩ hM rfl 1 (by decide) (hts _ wk_507) (fun _ h => h) rfl (by decide +kernel) rfl rfl (Nat.le_of_ble_eq_true rfl) d_M_read_32 (fun H locs hw => ?_)
      obtain ⟨C12, hC12⟩ : ∃ z : Int → va_E, z = zup C8 82 (.inr (4, [.int (zI 0), .int (zI 0), .ref (AD 83), .int (zI kc), .ref (AD 84), .ref (AD 85), .int (zI tr), .int (zI lc), .int (zI fa), .int (zI fb), .ref (AD 86), .ref (AD 87), .ref (AD 88), .int (zI mn), .int (zI mr), .int (zI ma), .long (zL ab), .long (zL bl)])) := ⟨_, rfl⟩
      have hw : WD D clW (wA N AD sz) s.heap H locs N AD C12 := by rw [hC12]; exact hw
      have frC12 : ∀ j : Int, j ≠ 82 → C12 j = C8 j := fun j h => by rw [hC12]; exact zup_n h
      have hM : C12 82 = .inr (4, [.int (zI 0), .int (zI 0), .ref (AD 83), .int (zI kc), .ref (AD 84), .ref (AD 85), .int (zI tr), .int (zI lc), .int (zI fa), .int (zI fb), .ref (AD 86), .ref (AD 87), .ref (AD 88), .int (zI mn), .int (zI mr), .int (zI ma), .long (zL ab), .long (zL bl)]) := by rw [hC12]; exact zup_s
      have h84 : C12 84 = aI (k 0) 9 mz1 := (frC12 _ (by omega)).trans h84
      have h85 : C12 85 = aI (k 0) 216 m1 := (frC12 _ (by omega)).trans h85
      have h83 : C12 83 = aI (k 0) 100 mp := (frC12 _ (by omega)).trans h83
      refine lv_iload_n hx hb d_M_read_35 rfl (lv_at hl 0 rfl) ?_
      refine zr_iconst hx hb d_M_read_36 ?_
      refine zr_icmp_eq (tgt := 44) hx hb ⟨by omega, by omega⟩ ⟨by omega, by omega⟩ d_M_read_37 (by decide) (fun c13 => ?_) (fun c13 => ?_)
      · exact absurd c13 (by omega)
      · refine zr_iconst hx hb d_M_read_40 ?_
        refine lv_iload_n hx hb d_M_read_41 rfl (lv_at hl 0 rfl) ?_
        refine zr_isub hx hb d_M_read_42 ?_
        exact hret _ _ _ _ _ _ d_M_read_43 hw rfl ⟨Or.inl ⟨by omega, mz1, m1, h84, h85, hz1, hz2, hlo, Or.inr (Or.inl ⟨hk9, hb9, rfl, hM⟩)⟩, fun j hj => by rw [frC12 _ (by omega), frC8 _ (by omega), frC5 _ (by omega)]⟩
    · refine lv_istore_n (lv' := [(1, .int (zI (-1))), (0, .ref (AD 82))]) hx hb d_M_read_29 rfl hl (by decide) rfl (fun ls hl => ?_)
      refine lv_aload_n hx hb d_M_read_30 rfl (lv_at hl 1 rfl) ?_
      refine zr_iconst hx hb d_M_read_31 ?_
      refine zr_put (ty := .int) (v := .int (zI 0)) hx hb hts iw_M tyM tyM_ok nmM hown hK hw 82 ⟨by omega, by omega⟩ hM rfl 1 (by decide) (hts _ wk_507) (fun _ h => h) rfl (by decide +kernel) rfl rfl (Nat.le_of_ble_eq_true rfl) d_M_read_32 (fun H locs hw => ?_)
      obtain ⟨C14, hC14⟩ : ∃ z : Int → va_E, z = zup C8 82 (.inr (4, [.int (zI 0), .int (zI 0), .ref (AD 83), .int (zI kc), .ref (AD 84), .ref (AD 85), .int (zI tr), .int (zI lc), .int (zI fa), .int (zI fb), .ref (AD 86), .ref (AD 87), .ref (AD 88), .int (zI mn), .int (zI mr), .int (zI ma), .long (zL ab), .long (zL bl)])) := ⟨_, rfl⟩
      have hw : WD D clW (wA N AD sz) s.heap H locs N AD C14 := by rw [hC14]; exact hw
      have frC14 : ∀ j : Int, j ≠ 82 → C14 j = C8 j := fun j h => by rw [hC14]; exact zup_n h
      have hM : C14 82 = .inr (4, [.int (zI 0), .int (zI 0), .ref (AD 83), .int (zI kc), .ref (AD 84), .ref (AD 85), .int (zI tr), .int (zI lc), .int (zI fa), .int (zI fb), .ref (AD 86), .ref (AD 87), .ref (AD 88), .int (zI mn), .int (zI mr), .int (zI ma), .long (zL ab), .long (zL bl)]) := by rw [hC14]; exact zup_s
      have h84 : C14 84 = aI (k 0) 9 mz1 := (frC14 _ (by omega)).trans h84
      have h85 : C14 85 = aI (k 0) 216 m1 := (frC14 _ (by omega)).trans h85
      have h83 : C14 83 = aI (k 0) 100 mp := (frC14 _ (by omega)).trans h83
      refine lv_iload_n hx hb d_M_read_35 rfl (lv_at hl 0 rfl) ?_
      refine zr_iconst hx hb d_M_read_36 ?_
      refine zr_icmp_eq (tgt := 44) hx hb ⟨by omega, by omega⟩ ⟨by omega, by omega⟩ d_M_read_37 (by decide) (fun c15 => ?_) (fun c15 => ?_)
      · refine lv_aload_n hx hb d_M_read_44 rfl (lv_at hl 1 rfl) ?_
        refine lv_dup hx hb d_M_read_45 rfl ?_
        refine zr_get (v := .int (zI kc)) hx hb hts iw_M hown hK hw 82 ⟨by omega, by omega⟩ hM rfl 3 (by decide) (hts _ wk_509) (fun _ h => h) rfl d_M_read_46 ?_
        refine zr_iconst hx hb d_M_read_49 ?_
        refine zr_iadd hx hb d_M_read_50 ?_
        refine zr_put (ty := .int) (v := .int (zI (kc + 1))) hx hb hts iw_M tyM tyM_ok nmM hown hK hw 82 ⟨by omega, by omega⟩ hM rfl 3 (by decide) (hts _ wk_509) (fun _ h => h) rfl (by decide +kernel) rfl rfl (Nat.le_of_ble_eq_true rfl) d_M_read_51 (fun H locs hw => ?_)
        obtain ⟨C16, hC16⟩ : ∃ z : Int → va_E, z = zup C14 82 (.inr (4, [.int (zI 0), .int (zI 0), .ref (AD 83), .int (zI (kc + 1)), .ref (AD 84), .ref (AD 85), .int (zI tr), .int (zI lc), .int (zI fa), .int (zI fb), .ref (AD 86), .ref (AD 87), .ref (AD 88), .int (zI mn), .int (zI mr), .int (zI ma), .long (zL ab), .long (zL bl)])) := ⟨_, rfl⟩
        have hw : WD D clW (wA N AD sz) s.heap H locs N AD C16 := by rw [hC16]; exact hw
        have frC16 : ∀ j : Int, j ≠ 82 → C16 j = C14 j := fun j h => by rw [hC16]; exact zup_n h
        have hM : C16 82 = .inr (4, [.int (zI 0), .int (zI 0), .ref (AD 83), .int (zI (kc + 1)), .ref (AD 84), .ref (AD 85), .int (zI tr), .int (zI lc), .int (zI fa), .int (zI fb), .ref (AD 86), .ref (AD 87), .ref (AD 88), .int (zI mn), .int (zI mr), .int (zI ma), .long (zL ab), .long (zL bl)]) := by rw [hC16]; exact zup_s
        have h84 : C16 84 = aI (k 0) 9 mz1 := (frC16 _ (by omega)).trans h84
        have h85 : C16 85 = aI (k 0) 216 m1 := (frC16 _ (by omega)).trans h85
        have h83 : C16 83 = aI (k 0) 100 mp := (frC16 _ (by omega)).trans h83
        refine lv_aload_n hx hb d_M_read_54 rfl (lv_at hl 1 rfl) ?_
        refine zr_get (v := .int (zI (kc + 1))) hx hb hts iw_M hown hK hw 82 ⟨by omega, by omega⟩ hM rfl 3 (by decide) (hts _ wk_509) (fun _ h => h) rfl d_M_read_55 ?_
        refine zr_iconst hx hb d_M_read_58 ?_
        refine zr_isub hx hb d_M_read_59 ?_
        exact hret _ _ _ _ _ _ d_M_read_60 hw rfl ⟨Or.inl ⟨by omega, mz1, m1, h84, h85, hz1, hz2, hlo, Or.inr (Or.inr ⟨q9, cn9, sw9, hk9, hp9, hq9, ⟨by rw [show kc + 1 - 1 = kc by omega], hM⟩, hd9⟩)⟩, fun j hj => by rw [frC16 _ (by omega), frC14 _ (by omega), frC8 _ (by omega), frC5 _ (by omega)]⟩
      · exact absurd c15 (by omega)
