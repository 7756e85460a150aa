/-- a row with a missing ring put in ahead of place g -/
def gapW (w : Int → Int) (g j : Int) : Int := if j < g then w j else if j = g then -1 else w (j - 1)
theorem gapW_lt {w : Int → Int} {g j : Int} (h : j < g) : gapW w g j = w j := if_pos h
theorem gapW_eq {w : Int → Int} {g j : Int} (h : j = g) : gapW w g j = -1 := by unfold gapW; rw [if_neg (by omega), if_pos h]
theorem gapW_gt {w : Int → Int} {g j : Int} (h : g < j) : gapW w g j = w (j - 1) := by unfold gapW; rw [if_neg (by omega), if_neg (by omega)]
theorem gapW_ok {w : Int → Int} {n g : Int} (h : WOK w n) (hg : 0 ≤ g ∧ g ≤ n) : WOK (gapW w g) (n + 1) := by
  intro j h0 h1
  unfold gapW
  split
  · exact h j h0 (by omega)
  · split
    · exact Or.inl rfl
    · exact h (j - 1) (by omega) (by omega)
theorem WOK.to {w v : Int → Int} {n : Int} (h : WOK w n) (e : ∀ j : Int, 0 ≤ j → j < n → v j = w j) : WOK v n := fun j h0 h1 => by rw [e j h0 h1]; exact h j h0 h1
abbrev rm_S_copyWithGap : Room := { frames := 4, cells := 0, slots := 0, locals := 88 }
set_option maxHeartbeats 4000000 in
set_option maxRecDepth 100000 in
theorem c_S_copyWithGap (l : Launch) (D : va_G) (k : Nat → ClassId) (N : Nat) (AD : Int → Nat) (C : Int → va_E) (sz : Nat) (b : Int) (n0 : Int) (w0 : Int → Int) (e0 : Int → Int) (b2 : Int) (n : Int) (w : Int → Int) (e9 : Int → Int) (g : Int) (hb0 : 0 ≤ b ∧ b + 2 < (N : Int)) (hb2 : 0 ≤ b2 ∧ b2 + 2 < (N : Int)) (hbb : b + 2 < b2 ∨ b2 + 2 < b) (hn0 : 0 ≤ n0 ∧ n0 ≤ 24) (hn : 0 ≤ n ∧ n ≤ 23) (hg : 0 ≤ g ∧ g ≤ n) (hS : C b = .inr (2, [.ref (AD (b + 1)), .ref (AD (b + 2)), .int (zI n0)])) (hSw : C (b + 1) = aI (k 0) 24 w0) (hSe : C (b + 2) = aI (k 0) 24 e0) (hT : C b2 = .inr (2, [.ref (AD (b2 + 1)), .ref (AD (b2 + 2)), .int (zI n)])) (hTw : C (b2 + 1) = aI (k 0) 24 w) (hTe : C (b2 + 2) = aI (k 0) 24 e9) (hok : WOK w n) : MV l y_S_copyWithGap (Cond.code y_S_copyWithGap b_S_copyWithGap 4 (Option.none : Option FieldType) :: WS) rm_S_copyWithGap D clW (tyW k) N AD C sz [.ref (AD b), .ref (AD b2), .int (zI g)] (fun C' => ∃ ww ee : Int → Int, C' b = .inr (2, [.ref (AD (b + 1)), .ref (AD (b + 2)), .int (zI (n + 1))]) ∧ C' (b + 1) = aI (k 0) 24 ww ∧ C' (b + 2) = aI (k 0) 24 ee ∧ (∀ j : Int, 0 ≤ j → j < n + 1 → ww j = gapW w g j) ∧ EvOK ww ee (n + 1) ∧ ∀ j : Int, ¬ (b ≤ j ∧ j ≤ b + 2) → C' j = C j) := by
  refine MV.start (cc := b_S_copyWithGap) (maxL := 4) (by decide) rfl (Nat.le_of_ble_eq_true rfl) ?_
  intro p e s m args below meth c Q ls hx hb hml hown hts hK hsz hw hl hret
  have hown : s.vm.findClass "RingMatches$Series" = some m.cls := hown
  have hl : lv_has ls 4 [(0, .ref (AD b)), (1, .ref (AD b2)), (2, .int (zI g))] := hl
  have hA := wA_hi (N := N) (AD := AD) hsz
  obtain ⟨H, hH⟩ : ∃ H, H = s.heap := ⟨_, rfl⟩
  obtain ⟨locs, hlocs⟩ : ∃ z : List Loc, z = [] := ⟨_, rfl⟩
  have hw : WD D clW (wA N AD sz) s.heap H locs N AD C := by rw [hH, hlocs]; exact hw
  rw [← hlocs]
  suffices hgo : W p l e rm_S_copyWithGap s m args below meth c H locs 0 0 Q (F0 m 0 ls []) by rw [hH] at hgo; exact hgo
  obtain ⟨C0, hC0⟩ : ∃ z : Int → va_E, z = C := ⟨_, rfl⟩
  rw [← hC0] at hret
  refine lv_aload_n hx hb d_S_copyWithGap_0 rfl (lv_at hl 0 rfl) ?_
  refine zr_iconst hx hb d_S_copyWithGap_1 ?_
  refine zr_put (ty := .int) (v := .int (zI 0)) hx hb hts iw_S tyS tyS_ok nmS hown hK hw b ⟨by omega, by omega⟩ hS rfl 2 (by decide) (hts _ wk_71) (fun _ h => h) rfl (by decide +kernel) rfl rfl (Nat.le_of_ble_eq_true rfl) d_S_copyWithGap_2 (fun H locs hw => ?_)
  obtain ⟨C1, hC1⟩ : ∃ z : Int → va_E, z = zup C b (.inr (2, [.ref (AD (b + 1)), .ref (AD (b + 2)), .int (zI 0)])) := ⟨_, rfl⟩
  have hw : WD D clW (wA N AD sz) s.heap H locs N AD C1 := by rw [hC1]; exact hw
  have frC1 : ∀ j : Int, j ≠ b → C1 j = C j := fun j h => by rw [hC1]; exact zup_n h
  have hS : C1 b = .inr (2, [.ref (AD (b + 1)), .ref (AD (b + 2)), .int (zI 0)]) := by rw [hC1]; exact zup_s
  have hSw : C1 (b + 1) = aI (k 0) 24 w0 := (frC1 _ (by omega)).trans hSw
  have hSe : C1 (b + 2) = aI (k 0) 24 e0 := (frC1 _ (by omega)).trans hSe
  have hT : C1 b2 = .inr (2, [.ref (AD (b2 + 1)), .ref (AD (b2 + 2)), .int (zI n)]) := (frC1 _ (by omega)).trans hT
  have hTw : C1 (b2 + 1) = aI (k 0) 24 w := (frC1 _ (by omega)).trans hTw
  have hTe : C1 (b2 + 2) = aI (k 0) 24 e9 := (frC1 _ (by omega)).trans hTe
  refine zr_iconst hx hb d_S_copyWithGap_5 ?_
  refine lv_istore_n (lv' := [(3, .int (zI 0)), (0, .ref (AD b)), (1, .ref (AD b2)), (2, .int (zI g))]) hx hb d_S_copyWithGap_6 rfl hl (by decide) rfl (fun ls hl => ?_)
  have lp : ∀ (n9 : Nat) (x : Int) (n1 : Int) (ww : Int → Int) (C : Int → va_E) (H : Heap) (locs : List Loc) (ls : Array Slot), (0 ≤ x ∧ x ≤ n) → ((x ≤ g ∧ n1 = x) ∨ (g < x ∧ n1 = x + 1)) → (∀ j : Int, 0 ≤ j → j < n1 → ww j = gapW w g j) → (∀ j : Int, ¬ (b ≤ j ∧ j ≤ b + 2) → C j = C0 j) → (C b = .inr (2, [.ref (AD (b + 1)), .ref (AD (b + 2)), .int (zI n1)])) → (C (b + 1) = aI (k 0) 24 ww) → (C (b + 2) = aI (k 0) 24 e0) → (C b2 = .inr (2, [.ref (AD (b2 + 1)), .ref (AD (b2 + 2)), .int (zI n)])) → (C (b2 + 1) = aI (k 0) 24 w) → (C (b2 + 2) = aI (k 0) 24 e9) → (n + 1 - x).toNat < n9 → WD D clW (wA N AD sz) s.heap H locs N AD C → lv_has ls 4 [(0, .ref (AD b)), (1, .ref (AD b2)), (2, .int (zI g)), (3, .int (zI x))] → W p l e rm_S_copyWithGap s m args below meth c H locs 0 0 Q (F0 m 7 ls []) := by
    intro n9
    induction n9 with
    | zero => intro x n1 ww C H locs ls hx1 hn1 hw1 hfr hS hSw hSe hT hTw hTe hm hw hl; exact absurd hm (by omega)
    | succ n9 ihlp =>
      intro x n1 ww C H locs ls hx1 hn1 hw1 hfr hS hSw hSe hT hTw hTe hm hw hl
      refine lv_iload_n hx hb d_S_copyWithGap_7 rfl (lv_at hl 3 rfl) ?_
      refine lv_aload_n hx hb d_S_copyWithGap_8 rfl (lv_at hl 1 rfl) ?_
      refine zr_get (v := .int (zI n)) hx hb hts iw_S hown hK hw b2 ⟨by omega, by omega⟩ hT rfl 2 (by decide) (hts _ wk_71) (fun _ h => h) rfl d_S_copyWithGap_9 ?_
      refine zr_icmp_ge (tgt := 40) hx hb ⟨by omega, by omega⟩ ⟨by omega, by omega⟩ d_S_copyWithGap_12 (by decide) (fun c2 => ?_) (fun c2 => ?_)
      · have hx2 : x = n := by omega
        refine lv_iload_n hx hb d_S_copyWithGap_40 rfl (lv_at hl 2 rfl) ?_
        refine lv_aload_n hx hb d_S_copyWithGap_41 rfl (lv_at hl 1 rfl) ?_
        refine zr_get (v := .int (zI n)) hx hb hts iw_S hown hK hw b2 ⟨by omega, by omega⟩ hT rfl 2 (by decide) (hts _ wk_71) (fun _ h => h) rfl d_S_copyWithGap_42 ?_
        refine zr_icmp_ne (tgt := 53) hx hb ⟨by omega, by omega⟩ ⟨by omega, by omega⟩ d_S_copyWithGap_45 (by decide) (fun c3 => ?_) (fun c3 => ?_)
        · have hn3 : n1 = n + 1 := by omega
          have hw3 : ∀ j : Int, 0 ≤ j → j < n1 → ww j = gapW w g j := hw1
          have hok3 : WOK ww n1 := WOK.to (by rw [hn3]; exact gapW_ok hok (by omega)) hw3
          refine lv_aload_n hx hb d_S_copyWithGap_53 rfl (lv_at hl 0 rfl) ?_
          refine zr_callV (va_runV (As := []) (rest := []) ⟨hx, hb, hml, hown, hts⟩ (c_S_makeEven l D k N AD C H.size b n1 ww e0 ⟨by omega, by omega⟩ ⟨by omega, by omega⟩ hS hSw hSe hok3) (cwV 0 hts (good_V wk_455 wk_268 wk_269 wk_29 wk_270) rfl rfl rfl (by decide +kernel) ⟨Nat.le_of_ble_eq_true rfl, Nat.le_of_ble_eq_true rfl⟩) (cPre_V hK hw b ⟨by omega, by omega⟩ hS rfl) rfl rfl hl.1 rfl (lv_room (Nat.le_of_ble_eq_true rfl)) d_S_copyWithGap_54 ⟨Nat.le_of_ble_eq_true rfl, Nat.le_of_ble_eq_true rfl⟩) hw hA (fun C4 H locs hq5 hw => ?_)
          obtain ⟨ev6, hq5a, hEv, frC4⟩ := hq5
          have hS : C4 b = .inr (2, [.ref (AD (b + 1)), .ref (AD (b + 2)), .int (zI n1)]) := (frC4 _ (by omega)).trans hS
          have hSw : C4 (b + 1) = aI (k 0) 24 ww := (frC4 _ (by omega)).trans hSw
          have hSe : C4 (b + 2) = aI (k 0) 24 ev6 := hq5a
          have hT : C4 b2 = .inr (2, [.ref (AD (b2 + 1)), .ref (AD (b2 + 2)), .int (zI n)]) := (frC4 _ (by omega)).trans hT
          have hTw : C4 (b2 + 1) = aI (k 0) 24 w := (frC4 _ (by omega)).trans hTw
          have hTe : C4 (b2 + 2) = aI (k 0) 24 e9 := (frC4 _ (by omega)).trans hTe
          exact hret _ _ _ _ _ d_S_copyWithGap_57 hw ⟨_, _, by rw [hS, hn3], hSw, hSe, fun j h1 h2 => hw3 j h1 (by omega), by rw [← hn3]; exact hEv, fun j hj => by rw [frC4 j (by omega)]; exact hfr j hj⟩
        · refine lv_aload_n hx hb d_S_copyWithGap_48 rfl (lv_at hl 0 rfl) ?_
          refine zr_iconst hx hb d_S_copyWithGap_49 ?_
          refine zr_callV (va_runV (As := [.int (zI (-1))]) (rest := []) ⟨hx, hb, hml, hown, hts⟩ (c_S_add l D k N AD C H.size b n1 ww e0 (-1) ⟨by omega, by omega⟩ ⟨by omega, by omega⟩ hS hSw hSe (by omega)) (cwV 1 hts (good_V wk_454 wk_261 wk_262 wk_29 wk_263) rfl rfl rfl (by decide +kernel) ⟨Nat.le_of_ble_eq_true rfl, Nat.le_of_ble_eq_true rfl⟩) (cPre_V hK hw b ⟨by omega, by omega⟩ hS rfl) rfl rfl hl.1 rfl (lv_room (Nat.le_of_ble_eq_true rfl)) d_S_copyWithGap_50 ⟨Nat.le_of_ble_eq_true rfl, Nat.le_of_ble_eq_true rfl⟩) hw hA (fun C7 H locs hq8 hw => ?_)
          obtain ⟨hq8a, hq8b, hq8c, frC7⟩ := hq8
          have hS : C7 b = .inr (2, [.ref (AD (b + 1)), .ref (AD (b + 2)), .int (zI (n1 + 1))]) := hq8a
          have hSw : C7 (b + 1) = aI (k 0) 24 (zup ww n1 (-1)) := hq8b
          have hSe : C7 (b + 2) = aI (k 0) 24 e0 := hq8c.trans hSe
          have hT : C7 b2 = .inr (2, [.ref (AD (b2 + 1)), .ref (AD (b2 + 2)), .int (zI n)]) := (frC7 _ (by omega)).trans hT
          have hTw : C7 (b2 + 1) = aI (k 0) 24 w := (frC7 _ (by omega)).trans hTw
          have hTe : C7 (b2 + 2) = aI (k 0) 24 e9 := (frC7 _ (by omega)).trans hTe
          have hn3 : (n1 + 1) = n + 1 := by omega
          have hw3 : ∀ j : Int, 0 ≤ j → j < (n1 + 1) → (zup ww n1 (-1)) j = gapW w g j := zup_ok hw1 (by rw [gapW_eq (by omega)])
          have hok3 : WOK (zup ww n1 (-1)) (n1 + 1) := WOK.to (by rw [hn3]; exact gapW_ok hok (by omega)) hw3
          refine lv_aload_n hx hb d_S_copyWithGap_53 rfl (lv_at hl 0 rfl) ?_
          refine zr_callV (va_runV (As := []) (rest := []) ⟨hx, hb, hml, hown, hts⟩ (c_S_makeEven l D k N AD C7 H.size b (n1 + 1) (zup ww n1 (-1)) e0 ⟨by omega, by omega⟩ ⟨by omega, by omega⟩ hS hSw hSe hok3) (cwV 0 hts (good_V wk_455 wk_268 wk_269 wk_29 wk_270) rfl rfl rfl (by decide +kernel) ⟨Nat.le_of_ble_eq_true rfl, Nat.le_of_ble_eq_true rfl⟩) (cPre_V hK hw b ⟨by omega, by omega⟩ hS rfl) rfl rfl hl.1 rfl (lv_room (Nat.le_of_ble_eq_true rfl)) d_S_copyWithGap_54 ⟨Nat.le_of_ble_eq_true rfl, Nat.le_of_ble_eq_true rfl⟩) hw hA (fun C9 H locs hq10 hw => ?_)
          obtain ⟨ev11, hq10a, hEv, frC9⟩ := hq10
          have hS : C9 b = .inr (2, [.ref (AD (b + 1)), .ref (AD (b + 2)), .int (zI (n1 + 1))]) := (frC9 _ (by omega)).trans hS
          have hSw : C9 (b + 1) = aI (k 0) 24 (zup ww n1 (-1)) := (frC9 _ (by omega)).trans hSw
          have hSe : C9 (b + 2) = aI (k 0) 24 ev11 := hq10a
          have hT : C9 b2 = .inr (2, [.ref (AD (b2 + 1)), .ref (AD (b2 + 2)), .int (zI n)]) := (frC9 _ (by omega)).trans hT
          have hTw : C9 (b2 + 1) = aI (k 0) 24 w := (frC9 _ (by omega)).trans hTw
          have hTe : C9 (b2 + 2) = aI (k 0) 24 e9 := (frC9 _ (by omega)).trans hTe
          exact hret _ _ _ _ _ d_S_copyWithGap_57 hw ⟨_, _, by rw [hS, hn3], hSw, hSe, fun j h1 h2 => hw3 j h1 (by omega), by rw [← hn3]; exact hEv, fun j hj => by rw [frC9 j (by omega), frC7 j (by omega)]; exact hfr j hj⟩
      · refine lv_iload_n hx hb d_S_copyWithGap_15 rfl (lv_at hl 3 rfl) ?_
        refine lv_iload_n hx hb d_S_copyWithGap_16 rfl (lv_at hl 2 rfl) ?_
        refine zr_icmp_ne (tgt := 25) hx hb ⟨by omega, by omega⟩ ⟨by omega, by omega⟩ d_S_copyWithGap_17 (by decide) (fun c12 => ?_) (fun c12 => ?_)
        · refine lv_aload_n hx hb d_S_copyWithGap_25 rfl (lv_at hl 0 rfl) ?_
          refine lv_aload_n hx hb d_S_copyWithGap_26 rfl (lv_at hl 1 rfl) ?_
          refine lv_iload_n hx hb d_S_copyWithGap_27 rfl (lv_at hl 3 rfl) ?_
          refine zr_callI (va_runV (As := [.int (zI x)]) (rest := [.ref (AD b)]) ⟨hx, hb, hml, hown, hts⟩ (c_S_widthAt l D k N AD C H.size b2 n w e9 x ⟨by omega, by omega⟩ ⟨by omega, by omega⟩ hT hTw hTe ⟨by omega, by omega⟩) (cwV 1 hts (good_V wk_275 wk_276 wk_277 wk_29 wk_278) rfl rfl rfl (by decide +kernel) ⟨Nat.le_of_ble_eq_true rfl, Nat.le_of_ble_eq_true rfl⟩) (cPre_V hK hw b2 ⟨by omega, by omega⟩ hT rfl) rfl rfl hl.1 rfl (lv_room (Nat.le_of_ble_eq_true rfl)) d_S_copyWithGap_28 ⟨Nat.le_of_ble_eq_true rfl, Nat.le_of_ble_eq_true rfl⟩) hw hA (fun r9 C14 H locs hq13 hw => ?_)
          obtain ⟨hr9, hCe⟩ := hq13
          rw [hCe] at hw; subst hr9
          refine zr_callV (va_runV (As := [.int (zI (wAt w n x))]) (rest := []) ⟨hx, hb, hml, hown, hts⟩ (c_S_add l D k N AD C H.size b n1 ww e0 (wAt w n x) ⟨by omega, by omega⟩ ⟨by omega, by omega⟩ hS hSw hSe (by omega)) (cwV 1 hts (good_V wk_454 wk_261 wk_262 wk_29 wk_263) rfl rfl rfl (by decide +kernel) ⟨Nat.le_of_ble_eq_true rfl, Nat.le_of_ble_eq_true rfl⟩) (cPre_V hK hw b ⟨by omega, by omega⟩ hS rfl) rfl rfl hl.1 rfl (lv_room (Nat.le_of_ble_eq_true rfl)) d_S_copyWithGap_31 ⟨Nat.le_of_ble_eq_true rfl, Nat.le_of_ble_eq_true rfl⟩) hw hA (fun C15 H locs hq16 hw => ?_)
          obtain ⟨hq16a, hq16b, hq16c, frC15⟩ := hq16
          have hS : C15 b = .inr (2, [.ref (AD (b + 1)), .ref (AD (b + 2)), .int (zI (n1 + 1))]) := hq16a
          have hSw : C15 (b + 1) = aI (k 0) 24 (zup ww n1 (wAt w n x)) := hq16b
          have hSe : C15 (b + 2) = aI (k 0) 24 e0 := hq16c.trans hSe
          have hT : C15 b2 = .inr (2, [.ref (AD (b2 + 1)), .ref (AD (b2 + 2)), .int (zI n)]) := (frC15 _ (by omega)).trans hT
          have hTw : C15 (b2 + 1) = aI (k 0) 24 w := (frC15 _ (by omega)).trans hTw
          have hTe : C15 (b2 + 2) = aI (k 0) 24 e9 := (frC15 _ (by omega)).trans hTe
          have hv3 : wAt w n x = gapW w g n1 := by
            rw [wAt_in (by omega)]
            rcases hn1 with hq | hq
            · rw [gapW_lt (by omega), hq.2]
            · rw [gapW_gt (by omega)]; congr 1; omega
          refine lv_iinc (v := zI (x + 1)) (lv' := [(3, .int (zI (x + 1))), (0, .ref (AD b)), (1, .ref (AD b2)), (2, .int (zI g))]) hx hb d_S_copyWithGap_34 hl (k := 3) rfl (zI_add _ _) (by decide) rfl (fun ls hl => ?_)
          refine lv_goto (tgt := 7) hx hb d_S_copyWithGap_37 (by decide) ?_
          exact ihlp (x + 1) (n1 + 1) (zup ww n1 (wAt w n x)) C15 H locs ls (by omega) (by omega) (zup_ok hw1 hv3) (fun j hj => by rw [frC15 j (by omega)]; exact hfr j hj) hS hSw hSe hT hTw hTe (by omega) hw (lv_sub hl [1, 2, 3, 0] rfl)
        · refine lv_aload_n hx hb d_S_copyWithGap_20 rfl (lv_at hl 0 rfl) ?_
          refine zr_iconst hx hb d_S_copyWithGap_21 ?_
          refine zr_callV (va_runV (As := [.int (zI (-1))]) (rest := []) ⟨hx, hb, hml, hown, hts⟩ (c_S_add l D k N AD C H.size b n1 ww e0 (-1) ⟨by omega, by omega⟩ ⟨by omega, by omega⟩ hS hSw hSe (by omega)) (cwV 1 hts (good_V wk_454 wk_261 wk_262 wk_29 wk_263) rfl rfl rfl (by decide +kernel) ⟨Nat.le_of_ble_eq_true rfl, Nat.le_of_ble_eq_true rfl⟩) (cPre_V hK hw b ⟨by omega, by omega⟩ hS rfl) rfl rfl hl.1 rfl (lv_room (Nat.le_of_ble_eq_true rfl)) d_S_copyWithGap_22 ⟨Nat.le_of_ble_eq_true rfl, Nat.le_of_ble_eq_true rfl⟩) hw hA (fun C17 H locs hq18 hw => ?_)
          obtain ⟨hq18a, hq18b, hq18c, frC17⟩ := hq18
          have hS : C17 b = .inr (2, [.ref (AD (b + 1)), .ref (AD (b + 2)), .int (zI (n1 + 1))]) := hq18a
          have hSw : C17 (b + 1) = aI (k 0) 24 (zup ww n1 (-1)) := hq18b
          have hSe : C17 (b + 2) = aI (k 0) 24 e0 := hq18c.trans hSe
          have hT : C17 b2 = .inr (2, [.ref (AD (b2 + 1)), .ref (AD (b2 + 2)), .int (zI n)]) := (frC17 _ (by omega)).trans hT
          have hTw : C17 (b2 + 1) = aI (k 0) 24 w := (frC17 _ (by omega)).trans hTw
          have hTe : C17 (b2 + 2) = aI (k 0) 24 e9 := (frC17 _ (by omega)).trans hTe
          refine lv_aload_n hx hb d_S_copyWithGap_25 rfl (lv_at hl 0 rfl) ?_
          refine lv_aload_n hx hb d_S_copyWithGap_26 rfl (lv_at hl 1 rfl) ?_
          refine lv_iload_n hx hb d_S_copyWithGap_27 rfl (lv_at hl 3 rfl) ?_
          refine zr_callI (va_runV (As := [.int (zI x)]) (rest := [.ref (AD b)]) ⟨hx, hb, hml, hown, hts⟩ (c_S_widthAt l D k N AD C17 H.size b2 n w e9 x ⟨by omega, by omega⟩ ⟨by omega, by omega⟩ hT hTw hTe ⟨by omega, by omega⟩) (cwV 1 hts (good_V wk_275 wk_276 wk_277 wk_29 wk_278) rfl rfl rfl (by decide +kernel) ⟨Nat.le_of_ble_eq_true rfl, Nat.le_of_ble_eq_true rfl⟩) (cPre_V hK hw b2 ⟨by omega, by omega⟩ hT rfl) rfl rfl hl.1 rfl (lv_room (Nat.le_of_ble_eq_true rfl)) d_S_copyWithGap_28 ⟨Nat.le_of_ble_eq_true rfl, Nat.le_of_ble_eq_true rfl⟩) hw hA (fun r9 C20 H locs hq19 hw => ?_)
          obtain ⟨hr9, hCe⟩ := hq19
          rw [hCe] at hw; subst hr9
          refine zr_callV (va_runV (As := [.int (zI (wAt w n x))]) (rest := []) ⟨hx, hb, hml, hown, hts⟩ (c_S_add l D k N AD C17 H.size b (n1 + 1) (zup ww n1 (-1)) e0 (wAt w n x) ⟨by omega, by omega⟩ ⟨by omega, by omega⟩ hS hSw hSe (by omega)) (cwV 1 hts (good_V wk_454 wk_261 wk_262 wk_29 wk_263) rfl rfl rfl (by decide +kernel) ⟨Nat.le_of_ble_eq_true rfl, Nat.le_of_ble_eq_true rfl⟩) (cPre_V hK hw b ⟨by omega, by omega⟩ hS rfl) rfl rfl hl.1 rfl (lv_room (Nat.le_of_ble_eq_true rfl)) d_S_copyWithGap_31 ⟨Nat.le_of_ble_eq_true rfl, Nat.le_of_ble_eq_true rfl⟩) hw hA (fun C21 H locs hq22 hw => ?_)
          obtain ⟨hq22a, hq22b, hq22c, frC21⟩ := hq22
          have hS : C21 b = .inr (2, [.ref (AD (b + 1)), .ref (AD (b + 2)), .int (zI ((n1 + 1) + 1))]) := hq22a
          have hSw : C21 (b + 1) = aI (k 0) 24 (zup (zup ww n1 (-1)) (n1 + 1) (wAt w n x)) := hq22b
          have hSe : C21 (b + 2) = aI (k 0) 24 e0 := hq22c.trans hSe
          have hT : C21 b2 = .inr (2, [.ref (AD (b2 + 1)), .ref (AD (b2 + 2)), .int (zI n)]) := (frC21 _ (by omega)).trans hT
          have hTw : C21 (b2 + 1) = aI (k 0) 24 w := (frC21 _ (by omega)).trans hTw
          have hTe : C21 (b2 + 2) = aI (k 0) 24 e9 := (frC21 _ (by omega)).trans hTe
          refine lv_iinc (v := zI (x + 1)) (lv' := [(3, .int (zI (x + 1))), (0, .ref (AD b)), (1, .ref (AD b2)), (2, .int (zI g))]) hx hb d_S_copyWithGap_34 hl (k := 3) rfl (zI_add _ _) (by decide) rfl (fun ls hl => ?_)
          refine lv_goto (tgt := 7) hx hb d_S_copyWithGap_37 (by decide) ?_
          exact ihlp (x + 1) ((n1 + 1) + 1) (zup (zup ww n1 (-1)) (n1 + 1) (wAt w n x)) C21 H locs ls (by omega) (by omega) (zup_ok (zup_ok hw1 (by rw [gapW_eq (by omega)])) (by rw [wAt_in (by omega), gapW_gt (by omega)]; congr 1; omega)) (fun j hj => by rw [frC21 j (by omega), frC17 j (by omega)]; exact hfr j hj) hS hSw hSe hT hTw hTe (by omega) hw (lv_sub hl [1, 2, 3, 0] rfl)
  exact lp ((n + 1 - 0).toNat + 1) 0 0 w0 C1 H locs ls (by omega) (by omega) (fun j h1 h2 => absurd h2 (by omega)) (fun j hj => by rw [frC1 j (by omega), hC0]) hS hSw hSe hT hTw hTe (by omega) hw (lv_sub hl [1, 2, 3, 0] rfl)
/-- how many signs a width takes -/
def dg (x : Int) : Int := if x < 10 then 1 else if x < 100 then 2 else 3
theorem dg_in (x : Int) : 1 ≤ dg x ∧ dg x ≤ 3 := by
  unfold dg
  split
  · exact ⟨by omega, by omega⟩
  · split <;> exact ⟨by omega, by omega⟩
def p10 (i : Int) : Int := if i = 0 then 1 else if i = 1 then 10 else 100
theorem p10_step (x : Int) {i : Int} (h : 0 ≤ i ∧ i < 2) : x / p10 i / 10 = x / p10 (i + 1) := by
  have hi : i = 0 ∨ i = 1 := by omega
  rcases hi with rfl | rfl
  · show x / 1 / 10 = x / 10
    omega
  · show x / 10 / 10 = x / 100
    omega
theorem p10_in {x b : Int} (h : 0 ≤ x) (hb : 0 ≤ b ∧ b ≤ 2) : 0 ≤ x / p10 b ∧ x / p10 b ≤ x := by
  rcases (show b = 0 ∨ b = 1 ∨ b = 2 by omega) with rfl | rfl | rfl
  · show 0 ≤ x / 1 ∧ x / 1 ≤ x
    omega
  · show 0 ≤ x / 10 ∧ x / 10 ≤ x
    omega
  · show 0 ≤ x / 100 ∧ x / 100 ≤ x
    omega
/-- the sign of a width that has so many behind it -/
def sgn (x b : Int) : Int := if x = -1 then 45 else 48 + x / p10 b % 10
def posR (w : Int → Int) (k : Int) : Int := sumR (fun j => dg (w j) + 1) 0 k.toNat
theorem posR_0 (w : Int → Int) : posR w 0 = 0 := rfl
theorem posR_step (w : Int → Int) {k : Int} (h : 0 ≤ k) : posR w (k + 1) = posR w k + (dg (w k) + 1) := by
  have := sumR_step (fun j => dg (w j) + 1) (lo := 0) (x := k) h
  simp only [Int.sub_zero] at this
  exact this
/-- sign i of a row's text: ring k has it -/
def tsg (w : Int → Int) (k i : Int) : Int := if i - posR w k = dg (w k) then 32 else sgn (w k) (dg (w k) - 1 - (i - posR w k))
abbrev rm_S_signsFor : Room := { frames := 0, cells := 0, slots := 0, locals := 0 }
set_option maxHeartbeats 4000000 in
set_option maxRecDepth 100000 in
theorem c_S_signsFor (l : Launch) (D : va_G) (k : Nat → ClassId) (N : Nat) (AD : Int → Nat) (C : Int → va_E) (sz : Nat) (x : Int) (hi : inI x) : MI l y_S_signsFor (Cond.code y_S_signsFor b_S_signsFor 1 (Option.some Jvm.ClassFile.FieldType.int) :: WS) rm_S_signsFor D clW (tyW k) N AD C sz [.int (zI x)] (fun r C' => r = zI (dg x) ∧ C' = C) := by
  refine MI.start (cc := b_S_signsFor) (maxL := 1) (rt := .int) (by decide) rfl (Nat.le_of_ble_eq_true rfl) ?_
  intro p e s m args below meth c Q ls hx hb hml hown hts hK hsz hw hl hret
  have hown : s.vm.findClass "RingMatches$Series" = some m.cls := hown
  have hl : lv_has ls 1 [(0, .int (zI x))] := hl
  have hA := wA_hi (N := N) (AD := AD) hsz
  obtain ⟨H, hH⟩ : ∃ H, H = s.heap := ⟨_, rfl⟩
  obtain ⟨locs, hlocs⟩ : ∃ z : List Loc, z = [] := ⟨_, rfl⟩
  have hw : WD D clW (wA N AD sz) s.heap H locs N AD C := by rw [hH, hlocs]; exact hw
  rw [← hlocs]
  suffices hgo : W p l e rm_S_signsFor s m args below meth c H locs 0 0 Q (F0 m 0 ls []) by rw [hH] at hgo; exact hgo
  refine lv_iload_n hx hb d_S_signsFor_0 rfl (lv_at hl 0 rfl) ?_
  refine zr_bipush hx hb d_S_signsFor_1 (by decide) ?_
  refine zr_icmp_ge (tgt := 8) hx hb ⟨by omega, by omega⟩ ⟨by omega, by omega⟩ d_S_signsFor_3 (by decide) (fun c1 => ?_) (fun c1 => ?_)
  · refine lv_iload_n hx hb d_S_signsFor_8 rfl (lv_at hl 0 rfl) ?_
    refine zr_bipush hx hb d_S_signsFor_9 (by decide) ?_
    refine zr_icmp_ge (tgt := 18) hx hb ⟨by omega, by omega⟩ ⟨by omega, by omega⟩ d_S_signsFor_11 (by decide) (fun c2 => ?_) (fun c2 => ?_)
    · refine zr_iconst hx hb d_S_signsFor_18 ?_
      exact hret _ _ _ _ _ _ d_S_signsFor_19 hw rfl ⟨by unfold dg; rw [if_neg (by omega), if_neg (by omega)], rfl⟩
    · refine zr_iconst hx hb d_S_signsFor_14 ?_
      refine lv_goto (tgt := 19) hx hb d_S_signsFor_15 (by decide) ?_
      exact hret _ _ _ _ _ _ d_S_signsFor_19 hw rfl ⟨by unfold dg; rw [if_neg (by omega), if_pos (by omega)], rfl⟩
  · refine zr_iconst hx hb d_S_signsFor_6 ?_
    exact hret _ _ _ _ _ _ d_S_signsFor_7 hw rfl ⟨by unfold dg; rw [if_pos (by omega)], rfl⟩
abbrev rm_S_signFor : Room := { frames := 0, cells := 0, slots := 0, locals := 0 }
set_option maxHeartbeats 4000000 in
set_option maxRecDepth 100000 in
theorem c_S_signFor (l : Launch) (D : va_G) (k : Nat → ClassId) (N : Nat) (AD : Int → Nat) (C : Int → va_E) (sz : Nat) (x : Int) (q : Int) (hx0 : x = -1 ∨ (1 ≤ x ∧ x ≤ 500)) (hq : 0 ≤ q ∧ q ≤ 2) : MI l y_S_signFor (Cond.code y_S_signFor b_S_signFor 4 (Option.some Jvm.ClassFile.FieldType.int) :: WS) rm_S_signFor D clW (tyW k) N AD C sz [.int (zI x), .int (zI q)] (fun r C' => r = zI (sgn x q) ∧ C' = C) := by
  refine MI.start (cc := b_S_signFor) (maxL := 4) (rt := .int) (by decide) rfl (Nat.le_of_ble_eq_true rfl) ?_
  intro p e s m args below meth c Q ls hx hb hml hown hts hK hsz hw hl hret
  have hown : s.vm.findClass "RingMatches$Series" = some m.cls := hown
  have hl : lv_has ls 4 [(0, .int (zI x)), (1, .int (zI q))] := hl
  have hA := wA_hi (N := N) (AD := AD) hsz
  obtain ⟨H, hH⟩ : ∃ H, H = s.heap := ⟨_, rfl⟩
  obtain ⟨locs, hlocs⟩ : ∃ z : List Loc, z = [] := ⟨_, rfl⟩
  have hw : WD D clW (wA N AD sz) s.heap H locs N AD C := by rw [hH, hlocs]; exact hw
  rw [← hlocs]
  suffices hgo : W p l e rm_S_signFor s m args below meth c H locs 0 0 Q (F0 m 0 ls []) by rw [hH] at hgo; exact hgo
  refine lv_iload_n hx hb d_S_signFor_0 rfl (lv_at hl 0 rfl) ?_
  refine zr_iconst hx hb d_S_signFor_1 ?_
  refine zr_icmp_ne (tgt := 8) hx hb ⟨by omega, by omega⟩ ⟨by omega, by omega⟩ d_S_signFor_2 (by decide) (fun c1 => ?_) (fun c1 => ?_)
  · have hne := c1
    refine lv_iload_n hx hb d_S_signFor_8 rfl (lv_at hl 0 rfl) ?_
    refine lv_istore_n (lv' := [(2, .int (zI x)), (0, .int (zI x)), (1, .int (zI q))]) hx hb d_S_signFor_9 rfl hl (by decide) rfl (fun ls hl => ?_)
    have e0 : x = x / p10 0 := by show x = x / 1; omega
    have hl : lv_has ls 4 [(2, .int (zI (x / p10 0))), (0, .int (zI x)), (1, .int (zI q))] := by rw [← e0]; exact hl
    refine zr_iconst hx hb d_S_signFor_10 ?_
    refine lv_istore_n (lv' := [(3, .int (zI 0)), (2, .int (zI (x / p10 0))), (0, .int (zI x)), (1, .int (zI q))]) hx hb d_S_signFor_11 rfl hl (by decide) rfl (fun ls hl => ?_)
    have lp : ∀ (n9 : Nat) (i : Int) (H : Heap) (locs : List Loc) (ls : Array Slot), (0 ≤ i ∧ i ≤ q) → (q + 1 - i).toNat < n9 → WD D clW (wA N AD sz) s.heap H locs N AD C → lv_has ls 4 [(0, .int (zI x)), (1, .int (zI q)), (2, .int (zI (x / p10 i))), (3, .int (zI i))] → W p l e rm_S_signFor s m args below meth c H locs 0 0 Q (F0 m 12 ls []) := by
      intro n9
      induction n9 with
      | zero => intro i H locs ls hi1  hm hw hl; exact absurd hm (by omega)
      | succ n9 ihlp =>
        intro i H locs ls hi1  hm hw hl
        refine lv_iload_n hx hb d_S_signFor_12 rfl (lv_at hl 3 rfl) ?_
        refine lv_iload_n hx hb d_S_signFor_13 rfl (lv_at hl 1 rfl) ?_
        refine zr_icmp_ge (tgt := 28) hx hb ⟨by omega, by omega⟩ ⟨by omega, by omega⟩ d_S_signFor_14 (by decide) (fun c2 => ?_) (fun c2 => ?_)
        · have hiq : i = q := by omega
          have hp := p10_in (x := x) (b := q) (by omega) (by omega)
          rw [hiq] at hl
          refine zr_bipush hx hb d_S_signFor_28 (by decide) ?_
          refine lv_iload_n hx hb d_S_signFor_30 rfl (lv_at hl 2 rfl) ?_
          refine zr_bipush hx hb d_S_signFor_31 (by decide) ?_
          refine zr_irem hx hb d_S_signFor_33 ⟨by omega, by omega⟩ ⟨by omega, by omega⟩ (by omega) (by omega) ?_
          refine zr_iadd hx hb d_S_signFor_34 ?_
          exact hret _ _ _ _ _ _ d_S_signFor_35 hw rfl ⟨by unfold sgn; rw [if_neg hne], rfl⟩
        · have hp := p10_in (x := x) (b := i) (by omega) (by omega)
          refine lv_iload_n hx hb d_S_signFor_17 rfl (lv_at hl 2 rfl) ?_
          refine zr_bipush hx hb d_S_signFor_18 (by decide) ?_
          refine zr_idiv hx hb d_S_signFor_20 ⟨by omega, by omega⟩ ⟨by omega, by omega⟩ (by omega) (by omega) ?_
          refine lv_istore_n (lv' := [(2, .int (zI ((x / p10 i) / 10))), (0, .int (zI x)), (1, .int (zI q)), (3, .int (zI i))]) hx hb d_S_signFor_21 rfl hl (by decide) rfl (fun ls hl => ?_)
          have e1 := p10_step x (i := i) (by omega)
          have hl : lv_has ls 4 [(2, .int (zI (x / p10 (i + 1)))), (0, .int (zI x)), (1, .int (zI q)), (3, .int (zI i))] := by rw [← e1]; exact hl
          refine lv_iinc (v := zI (i + 1)) (lv' := [(3, .int (zI (i + 1))), (2, .int (zI (x / p10 (i + 1)))), (0, .int (zI x)), (1, .int (zI q))]) hx hb d_S_signFor_22 hl (k := 3) rfl (zI_add _ _) (by decide) rfl (fun ls hl => ?_)
          refine lv_goto (tgt := 12) hx hb d_S_signFor_25 (by decide) ?_
          exact ihlp (i + 1) H locs ls (by omega)  (by omega) hw (lv_sub hl [2, 3, 1, 0] rfl)
    exact lp ((q + 1 - 0).toNat + 1) 0 H locs ls (by omega)  (by omega) hw (lv_sub hl [2, 3, 1, 0] rfl)
  · refine zr_bipush hx hb d_S_signFor_5 (by decide) ?_
    exact hret _ _ _ _ _ _ d_S_signFor_7 hw rfl ⟨by unfold sgn; rw [if_pos c1], rfl⟩
abbrev rm_S_textLength : Room := { frames := 1, cells := 0, slots := 0, locals := 20 }
set_option maxHeartbeats 4000000 in
set_option maxRecDepth 100000 in
theorem c_S_textLength (l : Launch) (D : va_G) (k : Nat → ClassId) (N : Nat) (AD : Int → Nat) (C : Int → va_E) (sz : Nat) (b : Int) (n : Int) (w : Int → Int) (e9 : Int → Int) (hb0 : 0 ≤ b ∧ b + 2 < (N : Int)) (hn : 0 ≤ n ∧ n ≤ 24) (hS : C b = .inr (2, [.ref (AD (b + 1)), .ref (AD (b + 2)), .int (zI n)])) (hSw : C (b + 1) = aI (k 0) 24 w) (hSe : C (b + 2) = aI (k 0) 24 e9) (hok : WOK w n) : MI l y_S_textLength (Cond.code y_S_textLength b_S_textLength 3 (Option.some Jvm.ClassFile.FieldType.int) :: WS) rm_S_textLength D clW (tyW k) N AD C sz [.ref (AD b)] (fun r C' => r = zI (posR w n - 1) ∧ C' = C) := by
  refine MI.start (cc := b_S_textLength) (maxL := 3) (rt := .int) (by decide) rfl (Nat.le_of_ble_eq_true rfl) ?_
  intro p e s m args below meth c Q ls hx hb hml hown hts hK hsz hw hl hret
  have hown : s.vm.findClass "RingMatches$Series" = some m.cls := hown
  have hl : lv_has ls 3 [(0, .ref (AD b))] := hl
  have hA := wA_hi (N := N) (AD := AD) hsz
  obtain ⟨H, hH⟩ : ∃ H, H = s.heap := ⟨_, rfl⟩
  obtain ⟨locs, hlocs⟩ : ∃ z : List Loc, z = [] := ⟨_, rfl⟩
  have hw : WD D clW (wA N AD sz) s.heap H locs N AD C := by rw [hH, hlocs]; exact hw
  rw [← hlocs]
  suffices hgo : W p l e rm_S_textLength s m args below meth c H locs 0 0 Q (F0 m 0 ls []) by rw [hH] at hgo; exact hgo
  refine lv_aload_n hx hb d_S_textLength_0 rfl (lv_at hl 0 rfl) ?_
  refine zr_get (v := .int (zI n)) hx hb hts iw_S hown hK hw b ⟨by omega, by omega⟩ hS rfl 2 (by decide) (hts _ wk_71) (fun _ h => h) rfl d_S_textLength_1 ?_
  refine zr_iconst hx hb d_S_textLength_4 ?_
  refine zr_isub hx hb d_S_textLength_5 ?_
  refine lv_istore_n (lv' := [(1, .int (zI (n - 1))), (0, .ref (AD b))]) hx hb d_S_textLength_6 rfl hl (by decide) rfl (fun ls hl => ?_)
  refine zr_iconst hx hb d_S_textLength_7 ?_
  refine lv_istore_n (lv' := [(2, .int (zI 0)), (1, .int (zI (n - 1))), (0, .ref (AD b))]) hx hb d_S_textLength_8 rfl hl (by decide) rfl (fun ls hl => ?_)
  have lp : ∀ (n9 : Nat) (x : Int) (len : Int) (H : Heap) (locs : List Loc) (ls : Array Slot), (0 ≤ x ∧ x ≤ n) → (len = n - 1 - x + posR w x) → (x ≤ posR w x ∧ posR w x ≤ 4 * x) → (n + 1 - x).toNat < n9 → WD D clW (wA N AD sz) s.heap H locs N AD C → lv_has ls 3 [(0, .ref (AD b)), (1, .int (zI len)), (2, .int (zI x))] → W p l e rm_S_textLength s m args below meth c H locs 0 0 Q (F0 m 9 ls []) := by
    intro n9
    induction n9 with
    | zero => intro x len H locs ls hx1 hl1 hp1  hm hw hl; exact absurd hm (by omega)
    | succ n9 ihlp =>
      intro x len H locs ls hx1 hl1 hp1  hm hw hl
      refine lv_iload_n hx hb d_S_textLength_9 rfl (lv_at hl 2 rfl) ?_
      refine lv_aload_n hx hb d_S_textLength_10 rfl (lv_at hl 0 rfl) ?_
      refine zr_get (v := .int (zI n)) hx hb hts iw_S hown hK hw b ⟨by omega, by omega⟩ hS rfl 2 (by decide) (hts _ wk_71) (fun _ h => h) rfl d_S_textLength_11 ?_
      refine zr_icmp_ge (tgt := 35) hx hb ⟨by omega, by omega⟩ ⟨by omega, by omega⟩ d_S_textLength_14 (by decide) (fun c1 => ?_) (fun c1 => ?_)
      · refine lv_iload_n hx hb d_S_textLength_35 rfl (lv_at hl 1 rfl) ?_
        exact hret _ _ _ _ _ _ d_S_textLength_36 hw rfl ⟨by rw [hl1, show x = n by omega]; congr 1; omega, rfl⟩
      · refine lv_iload_n hx hb d_S_textLength_17 rfl (lv_at hl 1 rfl) ?_
        refine lv_aload_n hx hb d_S_textLength_18 rfl (lv_at hl 0 rfl) ?_
        refine zr_get (v := .ref (AD (b + 1))) hx hb hts iw_S hown hK hw b ⟨by omega, by omega⟩ hS rfl 0 (by decide) (hts _ wk_69) (fun _ h => h) rfl d_S_textLength_19 ?_
        refine lv_iload_n hx hb d_S_textLength_22 rfl (lv_at hl 2 rfl) ?_
        refine zr_iald hx hb hK hw (b + 1) ⟨by omega, by omega⟩ 0 hSw rfl ⟨by omega, by omega⟩ (by decide) d_S_textLength_23 ?_
        have hwx := hok x (by omega) (by omega)
        have hdg := dg_in (w x)
        refine zr_callI (va_runS (As := [.int (zI (w x))]) (rest := [.int (zI len)]) ⟨hx, hb, hml, hown, hts⟩ (c_S_signsFor l D k N AD C H.size (w x) ⟨by omega, by omega⟩) (va_cwS 1 hts (good_S wk_332 wk_333 wk_29 wk_334) rfl rfl rfl (by decide +kernel) ⟨Nat.le_of_ble_eq_true rfl, Nat.le_of_ble_eq_true rfl⟩) (cPre_S hK hw) rfl rfl hl.1 rfl (lv_room (Nat.le_of_ble_eq_true rfl)) d_S_textLength_24 ⟨Nat.le_of_ble_eq_true rfl, Nat.le_of_ble_eq_true rfl⟩) hw hA (fun r9 C3 H locs hq2 hw => ?_)
        obtain ⟨hr9, hCe⟩ := hq2
        rw [hCe] at hw; subst hr9
        refine zr_iadd hx hb d_S_textLength_27 ?_
        refine lv_istore_n (lv' := [(1, .int (zI (len + (dg (w x))))), (0, .ref (AD b)), (2, .int (zI x))]) hx hb d_S_textLength_28 rfl hl (by decide) rfl (fun ls hl => ?_)
        refine lv_iinc (v := zI (x + 1)) (lv' := [(2, .int (zI (x + 1))), (1, .int (zI (len + (dg (w x))))), (0, .ref (AD b))]) hx hb d_S_textLength_29 hl (k := 2) rfl (zI_add _ _) (by decide) rfl (fun ls hl => ?_)
        refine lv_goto (tgt := 9) hx hb d_S_textLength_32 (by decide) ?_
        exact ihlp (x + 1) (len + (dg (w x))) H locs ls (by omega) (by rw [posR_step w (by omega)]; omega) (by rw [posR_step w (by omega)]; omega)  (by omega) hw (lv_sub hl [2, 1, 0] rfl)
  exact lp ((n + 1 - 0).toNat + 1) 0 (n - 1) H locs ls (by omega) (by rw [posR_0]; omega) (by rw [posR_0]; omega)  (by omega) hw (lv_sub hl [2, 1, 0] rfl)
abbrev rm_S_textSign : Room := { frames := 1, cells := 0, slots := 0, locals := 23 }
set_option maxHeartbeats 4000000 in
set_option maxRecDepth 100000 in
theorem c_S_textSign (l : Launch) (D : va_G) (k : Nat → ClassId) (N : Nat) (AD : Int → Nat) (C : Int → va_E) (sz : Nat) (b : Int) (n : Int) (w : Int → Int) (e9 : Int → Int) (i : Int) (hb0 : 0 ≤ b ∧ b + 2 < (N : Int)) (hn : 0 ≤ n ∧ n ≤ 24) (hS : C b = .inr (2, [.ref (AD (b + 1)), .ref (AD (b + 2)), .int (zI n)])) (hSw : C (b + 1) = aI (k 0) 24 w) (hSe : C (b + 2) = aI (k 0) 24 e9) (hok : WOK w n) (hi : 0 ≤ i ∧ i < posR w n - 1) (hi2 : i < 1000) : MI l y_S_textSign (Cond.code y_S_textSign b_S_textSign 5 (Option.some Jvm.ClassFile.FieldType.int) :: WS) rm_S_textSign D clW (tyW k) N AD C sz [.ref (AD b), .int (zI i)] (fun r C' => ∃ x : Int, 0 ≤ x ∧ x < n ∧ (posR w x ≤ i ∧ i < posR w (x + 1)) ∧ r = zI (tsg w x i) ∧ C' = C) := by
  refine MI.start (cc := b_S_textSign) (maxL := 5) (rt := .int) (by decide) rfl (Nat.le_of_ble_eq_true rfl) ?_
  intro p e s m args below meth c Q ls hx hb hml hown hts hK hsz hw hl hret
  have hown : s.vm.findClass "RingMatches$Series" = some m.cls := hown
  have hl : lv_has ls 5 [(0, .ref (AD b)), (1, .int (zI i))] := hl
  have hA := wA_hi (N := N) (AD := AD) hsz
  obtain ⟨H, hH⟩ : ∃ H, H = s.heap := ⟨_, rfl⟩
  obtain ⟨locs, hlocs⟩ : ∃ z : List Loc, z = [] := ⟨_, rfl⟩
  have hw : WD D clW (wA N AD sz) s.heap H locs N AD C := by rw [hH, hlocs]; exact hw
  rw [← hlocs]
  suffices hgo : W p l e rm_S_textSign s m args below meth c H locs 0 0 Q (F0 m 0 ls []) by rw [hH] at hgo; exact hgo
  refine lv_iload_n hx hb d_S_textSign_0 rfl (lv_at hl 1 rfl) ?_
  refine lv_istore_n (lv' := [(2, .int (zI i)), (0, .ref (AD b)), (1, .int (zI i))]) hx hb d_S_textSign_1 rfl hl (by decide) rfl (fun ls hl => ?_)
  refine zr_iconst hx hb d_S_textSign_2 ?_
  refine lv_istore_n (lv' := [(3, .int (zI 0)), (2, .int (zI i)), (0, .ref (AD b)), (1, .int (zI i))]) hx hb d_S_textSign_3 rfl hl (by decide) rfl (fun ls hl => ?_)
  have lp : ∀ (n9 : Nat) (x : Int) (lf : Int) (H : Heap) (locs : List Loc) (ls : Array Slot), (0 ≤ x ∧ x ≤ n) → (lf = i - posR w x) → (0 ≤ lf ∧ lf ≤ i) → (n + 1 - x).toNat < n9 → WD D clW (wA N AD sz) s.heap H locs N AD C → lv_has ls 5 [(0, .ref (AD b)), (1, .int (zI i)), (2, .int (zI lf)), (3, .int (zI x))] → W p l e rm_S_textSign s m args below meth c H locs 0 0 Q (F0 m 4 ls []) := by
    intro n9
    induction n9 with
    | zero => intro x lf H locs ls hx1 hl1 hl2  hm hw hl; exact absurd hm (by omega)
    | succ n9 ihlp =>
      intro x lf H locs ls hx1 hl1 hl2  hm hw hl
      refine lv_iload_n hx hb d_S_textSign_4 rfl (lv_at hl 3 rfl) ?_
      refine lv_aload_n hx hb d_S_textSign_5 rfl (lv_at hl 0 rfl) ?_
      refine zr_get (v := .int (zI n)) hx hb hts iw_S hown hK hw b ⟨by omega, by omega⟩ hS rfl 2 (by decide) (hts _ wk_71) (fun _ h => h) rfl d_S_textSign_6 ?_
      refine zr_icmp_ge (tgt := 66) hx hb ⟨by omega, by omega⟩ ⟨by omega, by omega⟩ d_S_textSign_9 (by decide) (fun c1 => ?_) (fun c1 => ?_)
      · have hx9 : x = n := by omega
        rw [hx9] at hl1
        exact absurd hl2.1 (by omega)
      · refine lv_aload_n hx hb d_S_textSign_12 rfl (lv_at hl 0 rfl) ?_
        refine zr_get (v := .ref (AD (b + 1))) hx hb hts iw_S hown hK hw b ⟨by omega, by omega⟩ hS rfl 0 (by decide) (hts _ wk_69) (fun _ h => h) rfl d_S_textSign_13 ?_
        refine lv_iload_n hx hb d_S_textSign_16 rfl (lv_at hl 3 rfl) ?_
        refine zr_iald hx hb hK hw (b + 1) ⟨by omega, by omega⟩ 0 hSw rfl ⟨by omega, by omega⟩ (by decide) d_S_textSign_17 ?_
        have hwx := hok x (by omega) (by omega)
        have hdg := dg_in (w x)
        refine zr_callI (va_runS (As := [.int (zI (w x))]) (rest := []) ⟨hx, hb, hml, hown, hts⟩ (c_S_signsFor l D k N AD C H.size (w x) ⟨by omega, by omega⟩) (va_cwS 1 hts (good_S wk_332 wk_333 wk_29 wk_334) rfl rfl rfl (by decide +kernel) ⟨Nat.le_of_ble_eq_true rfl, Nat.le_of_ble_eq_true rfl⟩) (cPre_S hK hw) rfl rfl hl.1 rfl (lv_room (Nat.le_of_ble_eq_true rfl)) d_S_textSign_18 ⟨Nat.le_of_ble_eq_true rfl, Nat.le_of_ble_eq_true rfl⟩) hw hA (fun r9 C3 H locs hq2 hw => ?_)
        obtain ⟨hr9, hCe⟩ := hq2
        rw [hCe] at hw; subst hr9
        refine lv_istore (lv' := [(4, .int (zI (dg (w x)))), (0, .ref (AD b)), (1, .int (zI i)), (2, .int (zI lf)), (3, .int (zI x))]) hx hb d_S_textSign_21 hl (by decide) rfl (fun ls hl => ?_)
        refine lv_iload_n hx hb d_S_textSign_23 rfl (lv_at hl 3 rfl) ?_
        refine lv_iload hx hb d_S_textSign_24 (lv_at hl 0 rfl) ?_
        refine zr_icmp_ge (tgt := 45) hx hb ⟨by omega, by omega⟩ ⟨by omega, by omega⟩ d_S_textSign_26 (by decide) (fun c4 => ?_) (fun c4 => ?_)
        · refine lv_iload_n hx hb d_S_textSign_45 rfl (lv_at hl 3 rfl) ?_
          refine lv_iload hx hb d_S_textSign_46 (lv_at hl 0 rfl) ?_
          refine zr_isub hx hb d_S_textSign_48 ?_
          refine lv_istore_n (lv' := [(2, .int (zI (lf - (dg (w x))))), (4, .int (zI (dg (w x)))), (0, .ref (AD b)), (1, .int (zI i)), (3, .int (zI x))]) hx hb d_S_textSign_49 rfl hl (by decide) rfl (fun ls hl => ?_)
          refine lv_iload_n hx hb d_S_textSign_50 rfl (lv_at hl 0 rfl) ?_
          refine zr_if_ne (tgt := 57) hx hb ⟨by omega, by omega⟩ d_S_textSign_51 (by decide) (fun c5 => ?_) (fun c5 => ?_)
          · refine lv_iinc (v := zI ((lf - (dg (w x))) + (-1))) (lv' := [(2, .int (zI ((lf - (dg (w x))) + (-1)))), (4, .int (zI (dg (w x)))), (0, .ref (AD b)), (1, .int (zI i)), (3, .int (zI x))]) hx hb d_S_textSign_57 hl (k := 0) rfl (zI_add _ _) (by decide) rfl (fun ls hl => ?_)
            refine lv_iinc (v := zI (x + 1)) (lv' := [(3, .int (zI (x + 1))), (2, .int (zI ((lf - (dg (w x))) + (-1)))), (4, .int (zI (dg (w x)))), (0, .ref (AD b)), (1, .int (zI i))]) hx hb d_S_textSign_60 hl (k := 4) rfl (zI_add _ _) (by decide) rfl (fun ls hl => ?_)
            refine lv_goto (tgt := 4) hx hb d_S_textSign_63 (by decide) ?_
            exact ihlp (x + 1) ((lf - (dg (w x))) + (-1)) H locs ls (by omega) (by rw [posR_step w (by omega)]; omega) (by omega)  (by omega) hw (lv_sub hl [3, 4, 1, 0] rfl)
          · refine zr_bipush hx hb d_S_textSign_54 (by decide) ?_
            exact hret _ _ _ _ _ _ d_S_textSign_56 hw rfl ⟨x, by omega, by omega, by rw [posR_step w (by omega)]; omega, by unfold tsg; rw [if_pos (by omega)], rfl⟩
        · refine lv_aload_n hx hb d_S_textSign_29 rfl (lv_at hl 1 rfl) ?_
          refine zr_get (v := .ref (AD (b + 1))) hx hb hts iw_S hown hK hw b ⟨by omega, by omega⟩ hS rfl 0 (by decide) (hts _ wk_69) (fun _ h => h) rfl d_S_textSign_30 ?_
          refine lv_iload_n hx hb d_S_textSign_33 rfl (lv_at hl 4 rfl) ?_
          refine zr_iald hx hb hK hw (b + 1) ⟨by omega, by omega⟩ 0 hSw rfl ⟨by omega, by omega⟩ (by decide) d_S_textSign_34 ?_
          refine lv_iload hx hb d_S_textSign_35 (lv_at hl 0 rfl) ?_
          refine zr_iconst hx hb d_S_textSign_37 ?_
          refine zr_isub hx hb d_S_textSign_38 ?_
          refine lv_iload_n hx hb d_S_textSign_39 rfl (lv_at hl 3 rfl) ?_
          refine zr_isub hx hb d_S_textSign_40 ?_
          refine zr_callI (va_runS (As := [.int (zI (w x)), .int (zI (((dg (w x)) - 1) - lf))]) (rest := []) ⟨hx, hb, hml, hown, hts⟩ (c_S_signFor l D k N AD C H.size (w x) (((dg (w x)) - 1) - lf) (by omega) (by omega)) (va_cwS 2 hts (good_S wk_340 wk_341 wk_29 wk_342) rfl rfl rfl (by decide +kernel) ⟨Nat.le_of_ble_eq_true rfl, Nat.le_of_ble_eq_true rfl⟩) (cPre_S hK hw) rfl rfl hl.1 rfl (lv_room (Nat.le_of_ble_eq_true rfl)) d_S_textSign_41 ⟨Nat.le_of_ble_eq_true rfl, Nat.le_of_ble_eq_true rfl⟩) hw hA (fun r9 C7 H locs hq6 hw => ?_)
          obtain ⟨hr9, hCe⟩ := hq6
          rw [hCe] at hw; subst hr9
          exact hret _ _ _ _ _ _ d_S_textSign_44 hw rfl ⟨x, by omega, by omega, by rw [posR_step w (by omega)]; omega, by unfold tsg; rw [if_neg (by omega), hl1], rfl⟩
  exact lp ((n + 1 - 0).toNat + 1) 0 i H locs ls (by omega) (by rw [posR_0]; omega) (by omega)  (by omega) hw (lv_sub hl [2, 3, 1, 0] rfl)
