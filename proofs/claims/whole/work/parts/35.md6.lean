theorem gapM {mw m2 : Int → Int} {b n x : Int} (h : ∀ j : Int, 0 ≤ j → j < n + 1 → m2 (192 + j) = if j < x then mw (24 * b + j) else if j = x then 0 else mw (24 * b + (j - 1))) : ∀ j : Int, 0 ≤ j → j < n + 1 → WM m2 8 j = gapW (WM mw b) x j := by
  intro j h1 h2
  unfold WM gapW
  rw [show 24 * (8 : Int) + j = 192 + j by omega, h j h1 h2]
  by_cases e1 : j < x
  · rw [if_pos e1, if_pos e1]
  · rw [if_neg e1, if_neg e1]
    by_cases e2 : j = x
    · rw [if_pos e2, if_pos e2]; rfl
    · rw [if_neg e2, if_neg e2]
theorem gapK {mw m2 : Int → Int} {b n x : Int} (hk : MOK mw b n) (h : ∀ j : Int, 0 ≤ j → j < n + 1 → m2 (192 + j) = if j < x then mw (24 * b + j) else if j = x then 0 else mw (24 * b + (j - 1))) (hx : 0 ≤ x ∧ x ≤ n) : MOK m2 8 (n + 1) := by
  intro j h1 h2
  rw [show 24 * (8 : Int) + j = 192 + j by omega, h j h1 h2]
  by_cases e1 : j < x
  · rw [if_pos e1]; exact hk j h1 (by omega)
  · rw [if_neg e1]
    by_cases e2 : j = x
    · rw [if_pos e2]; omega
    · rw [if_neg e2]; exact hk (j - 1) (by omega) (by omega)
/-- the reference's width at a place, 0 where there is none -/
def atM (mw : Int → Int) (n s i : Int) : Int := if 0 ≤ i ∧ i < n then mw (24 * s + i) else 0
theorem atM_d {mw : Int → Int} {n s i : Int} : dcd (atM mw n s i) = wAt (WM mw s) n i := by
  unfold atM wAt
  split
  · rfl
  · rfl
theorem atM_in {mw : Int → Int} {n s : Int} (h : MOK mw s n) (i : Int) : 0 ≤ atM mw n s i ∧ atM mw n s i ≤ 500 := by
  unfold atM
  split
  · rename_i hi; exact h i hi.1 hi.2
  · omega
theorem mnM {x y v : Int} (hx : 0 ≤ x ∧ x ≤ 500) (hy : 0 ≤ y ∧ y ≤ 500) (hv : v = if x = 0 ∨ y = 0 then x + y else (x + y + 1) / 2) : dcd v = mnF (dcd x) (dcd y) ∧ 0 ≤ v ∧ v ≤ 500 := by
  subst hv
  unfold mnF dcd
  by_cases h1 : x = 0
  · rw [if_pos (Or.inl h1), h1, Int.zero_add, if_pos rfl, if_pos rfl]
    exact ⟨rfl, hy⟩
  · rw [if_neg h1]
    by_cases h2 : y = 0
    · rw [if_pos (Or.inr h2), h2, Int.add_zero, if_neg h1, if_pos rfl, if_neg (by omega), if_pos rfl]
      exact ⟨rfl, hx⟩
    · rw [if_neg (by omega), if_neg (by omega), if_neg h2, if_neg (by omega), if_neg (by omega)]
      exact ⟨rfl, by omega, by omega⟩
abbrev rm_M_absent : Room := { frames := 3, cells := 0, slots := 0, locals := 88 }
set_option maxHeartbeats 4000000 in
set_option maxRecDepth 100000 in
theorem c_M_absent (l : Launch) (D : va_G) (k : Nat → ClassId) (N : Nat) (AD : Int → Nat) (C : Int → va_E) (sz : Nat) (th : Int) (pn : Int) (kc : Int) (tr : Int) (lc : Int) (fa : Int) (fb : Int) (mn : Int) (mr : Int) (ma : Int) (ab : Int) (bl : Int) (mz : Int → Int) (mw : Int → Int) (a : Int) (b : Int) (s0 : Int) (hN : 90 ≤ (N : Int)) (hM : C 82 = .inr (4, [.int (zI th), .int (zI pn), .ref (AD 83), .int (zI kc), .ref (AD 84), .ref (AD 85), .int (zI tr), .int (zI lc), .int (zI fa), .int (zI fb), .ref (AD 86), .ref (AD 87), .ref (AD 88), .int (zI mn), .int (zI mr), .int (zI ma), .long (zL ab), .long (zL bl)])) (h84 : C 84 = aI (k 0) 9 mz) (h85 : C 85 = aI (k 0) 216 mw) (hmz : ∀ i : Int, 0 ≤ i → i < 9 → 0 ≤ mz i ∧ mz i ≤ 24) (hkc : 0 ≤ kc ∧ kc ≤ 8) (hok : ∀ i : Int, 0 ≤ i → i < kc → MOK mw i (mz i)) (ha : inI a) (hb9 : inI b) (hs9 : inI s0) : MI l y_M_absent (Cond.code y_M_absent b_M_absent 9 (Option.some Jvm.ClassFile.FieldType.int) :: WS) rm_M_absent D clW (tyW k) N AD C sz [.ref (AD 82), .int (zI a), .int (zI b), .int (zI s0)] (fun r C' => ((((0 ≤ a ∧ a < kc) ∧ (0 ≤ b ∧ b < kc)) ∧ (mz b < 24 ∧ -24 ≤ s0 ∧ s0 ≤ 24) ∧ r = zI (abS (WM mw a) (mz a) (WM mw b) (mz b) s0 (mz b + 1).toNat).1 ∧ ∃ (n1 r1 a1 : Int) (mz1 m1 : Int → Int), C' 82 = .inr (4, [.int (zI 0), .int (zI pn), .ref (AD 83), .int (zI kc), .ref (AD 84), .ref (AD 85), .int (zI tr), .int (zI lc), .int (zI fa), .int (zI fb), .ref (AD 86), .ref (AD 87), .ref (AD 88), .int (zI n1), .int (zI r1), .int (zI a1), .long (zL ab), .long (zL bl)]) ∧ C' 84 = aI (k 0) 9 mz1 ∧ C' 85 = aI (k 0) 216 m1 ∧ (∀ j : Int, j ≠ 8 → mz1 j = mz j) ∧ (0 ≤ mz1 8 ∧ mz1 8 ≤ 24) ∧ ∀ j : Int, j < 192 → m1 j = mw j) ∨ (¬ ((0 ≤ a ∧ a < kc) ∧ (0 ≤ b ∧ b < kc)) ∧ C' 82 = .inr (4, [.int (zI 1), .int (zI pn), .ref (AD 83), .int (zI kc), .ref (AD 84), .ref (AD 85), .int (zI tr), .int (zI lc), .int (zI fa), .int (zI fb), .ref (AD 86), .ref (AD 87), .ref (AD 88), .int (zI mn), .int (zI mr), .int (zI ma), .long (zL ab), .long (zL bl)]) ∧ C' 84 = aI (k 0) 9 mz ∧ C' 85 = aI (k 0) 216 mw) ∨ (((0 ≤ a ∧ a < kc) ∧ (0 ≤ b ∧ b < kc)) ∧ ¬ (mz b < 24 ∧ -24 ≤ s0 ∧ s0 ≤ 24) ∧ C' 82 = .inr (4, [.int (zI 2), .int (zI pn), .ref (AD 83), .int (zI kc), .ref (AD 84), .ref (AD 85), .int (zI tr), .int (zI lc), .int (zI fa), .int (zI fb), .ref (AD 86), .ref (AD 87), .ref (AD 88), .int (zI mn), .int (zI mr), .int (zI ma), .long (zL ab), .long (zL bl)]) ∧ C' 84 = aI (k 0) 9 mz ∧ C' 85 = aI (k 0) 216 mw)) ∧ ∀ j : Int, ¬ (j = 82 ∨ (84 ≤ j ∧ j ≤ 85)) → C' j = C j) := by
  refine MI.start (cc := b_M_absent) (maxL := 9) (rt := .int) (by decide) rfl (Nat.le_of_ble_eq_true rfl) ?_
  intro p e s m args below meth c Q ls hx hb hml hown hts hK hsz hw hl hret
  have hown : s.vm.findClass "RingMatchesModel" = some m.cls := hown
  have hl : lv_has ls 9 [(0, .ref (AD 82)), (1, .int (zI a)), (2, .int (zI b)), (3, .int (zI s0))] := hl
  have hA := wA_hi (N := N) (AD := AD) hsz
  obtain ⟨H, hH⟩ : ∃ H, H = s.heap := ⟨_, rfl⟩
  obtain ⟨locs, hlocs⟩ : ∃ z : List Loc, z = [] := ⟨_, rfl⟩
  have hw : WD D clW (wA N AD sz) s.heap H locs N AD C := by rw [hH, hlocs]; exact hw
  rw [← hlocs]
  suffices hgo : W p l e rm_M_absent s m args below meth c H locs 0 0 Q (F0 m 0 ls []) by rw [hH] at hgo; exact hgo
  obtain ⟨C0, hC0⟩ : ∃ z : Int → va_E, z = C := ⟨_, rfl⟩
  refine lv_aload_n hx hb d_M_absent_0 rfl (lv_at hl 0 rfl) ?_
  refine lv_aload_n hx hb d_M_absent_1 rfl (lv_at hl 0 rfl) ?_
  refine lv_iload_n hx hb d_M_absent_2 rfl (lv_at hl 1 rfl) ?_
  refine zr_callI (va_runV (As := [.int (zI a)]) (rest := [.ref (AD 82)]) ⟨hx, hb, hml, hown, hts⟩ (c_M_isSeries l D k N AD C H.size th pn kc tr lc fa fb mn mr ma ab bl a hN hM ⟨by omega, by omega⟩ (by omega)) (cwV 1 hts (good_V wk_598 wk_600 wk_14 wk_31 wk_601) rfl rfl rfl (by decide +kernel) ⟨Nat.le_of_ble_eq_true rfl, Nat.le_of_ble_eq_true rfl⟩) (cPre_V hK hw 82 ⟨by omega, by omega⟩ hM rfl) rfl rfl hl.1 rfl (lv_room (Nat.le_of_ble_eq_true rfl)) d_M_absent_3 ⟨Nat.le_of_ble_eq_true rfl, Nat.le_of_ble_eq_true rfl⟩) hw hA (fun r9 C2 H locs hq1 hw => ?_)
  obtain ⟨hq1, hCe⟩ := hq1
  rw [hCe] at hw
  rcases hq1 with ⟨hr9, hq1⟩ | ⟨hr9, hq1⟩ <;> subst hr9
  · refine zr_if_eq (tgt := 21) hx hb ⟨by omega, by omega⟩ d_M_absent_6 (by decide) (fun c9 => absurd c9 (by decide)) (fun c3 => ?_)
    refine lv_aload_n hx hb d_M_absent_9 rfl (lv_at hl 0 rfl) ?_
    refine lv_iload_n hx hb d_M_absent_10 rfl (lv_at hl 2 rfl) ?_
    refine zr_callI (va_runV (As := [.int (zI b)]) (rest := [.ref (AD 82)]) ⟨hx, hb, hml, hown, hts⟩ (c_M_isSeries l D k N AD C H.size th pn kc tr lc fa fb mn mr ma ab bl b hN hM ⟨by omega, by omega⟩ (by omega)) (cwV 1 hts (good_V wk_598 wk_600 wk_14 wk_31 wk_601) rfl rfl rfl (by decide +kernel) ⟨Nat.le_of_ble_eq_true rfl, Nat.le_of_ble_eq_true rfl⟩) (cPre_V hK hw 82 ⟨by omega, by omega⟩ hM rfl) rfl rfl hl.1 rfl (lv_room (Nat.le_of_ble_eq_true rfl)) d_M_absent_11 ⟨Nat.le_of_ble_eq_true rfl, Nat.le_of_ble_eq_true rfl⟩) hw hA (fun r9 C5 H locs hq4 hw => ?_)
    obtain ⟨hq4, hCe⟩ := hq4
    rw [hCe] at hw
    rcases hq4 with ⟨hr9, hq4⟩ | ⟨hr9, hq4⟩ <;> subst hr9
    · refine zr_if_eq (tgt := 21) hx hb ⟨by omega, by omega⟩ d_M_absent_14 (by decide) (fun c9 => absurd c9 (by decide)) (fun c6 => ?_)
      refine zr_iconst hx hb d_M_absent_17 ?_
      refine lv_goto (tgt := 22) hx hb d_M_absent_18 (by decide) ?_
      refine lv_aload_n hx hb d_M_absent_22 rfl (lv_at hl 0 rfl) ?_
      refine zr_get (v := .ref (AD 84)) hx hb hts iw_M hown hK hw 82 ⟨by omega, by omega⟩ hM rfl 4 (by decide) (hts _ wk_510) (fun _ h => h) rfl d_M_absent_23 ?_
      refine lv_aload_n hx hb d_M_absent_26 rfl (lv_at hl 0 rfl) ?_
      refine lv_iload_n hx hb d_M_absent_27 rfl (lv_at hl 2 rfl) ?_
      refine zr_callI (va_runV (As := [.int (zI b)]) (rest := [.ref (AD 84), .int (zI 1), .ref (AD 82)]) ⟨hx, hb, hml, hown, hts⟩ (c_M_isSeries l D k N AD C H.size th pn kc tr lc fa fb mn mr ma ab bl b hN hM ⟨by omega, by omega⟩ (by omega)) (cwV 1 hts (good_V wk_598 wk_600 wk_14 wk_31 wk_601) rfl rfl rfl (by decide +kernel) ⟨Nat.le_of_ble_eq_true rfl, Nat.le_of_ble_eq_true rfl⟩) (cPre_V hK hw 82 ⟨by omega, by omega⟩ hM rfl) rfl rfl hl.1 rfl (lv_room (Nat.le_of_ble_eq_true rfl)) d_M_absent_28 ⟨Nat.le_of_ble_eq_true rfl, Nat.le_of_ble_eq_true rfl⟩) hw hA (fun r9 C8 H locs hq7 hw => ?_)
      obtain ⟨hq7, hCe⟩ := hq7
      rw [hCe] at hw
      rcases hq7 with ⟨hr9, hq7⟩ | ⟨hr9, hq7⟩ <;> subst hr9
      · refine zr_if_eq (tgt := 38) hx hb ⟨by omega, by omega⟩ d_M_absent_31 (by decide) (fun c9 => absurd c9 (by decide)) (fun c9 => ?_)
        refine lv_iload_n hx hb d_M_absent_34 rfl (lv_at hl 2 rfl) ?_
        refine lv_goto (tgt := 39) hx hb d_M_absent_35 (by decide) ?_
        have hz9 := hmz b (by omega) (by omega)
        refine zr_iald hx hb hK hw 84 ⟨by omega, by omega⟩ 0 h84 rfl ⟨by omega, by omega⟩ (by decide) d_M_absent_39 ?_
        refine zr_bipush hx hb d_M_absent_40 (by decide) ?_
        refine zr_icmp_ge (tgt := 60) hx hb ⟨by omega, by omega⟩ ⟨by omega, by omega⟩ d_M_absent_42 (by decide) (fun c10 => ?_) (fun c10 => ?_)
        · refine zr_iconst hx hb d_M_absent_60 ?_
          refine zr_iconst hx hb d_M_absent_61 ?_
          refine zr_callI (va_runV (As := [.int (zI 1), .int (zI 0), .int (zI 1)]) (rest := []) ⟨hx, hb, hml, hown, hts⟩ (c_M_goes l D k N AD C H.size th pn kc tr lc fa fb mn mr ma ab bl 1 0 1 2 0 hN hM (by decide) (by decide) (by decide) (by decide) (by decide)) (cwV 3 hts (good_V wk_578 wk_580 wk_11 wk_31 wk_581) rfl rfl rfl (by decide +kernel) ⟨Nat.le_of_ble_eq_true rfl, Nat.le_of_ble_eq_true rfl⟩) (cPre_V hK hw 82 ⟨by omega, by omega⟩ hM rfl) rfl rfl hl.1 rfl (lv_room (Nat.le_of_ble_eq_true rfl)) d_M_absent_62 ⟨Nat.le_of_ble_eq_true rfl, Nat.le_of_ble_eq_true rfl⟩) hw hA (fun r9 C11 H locs hq12 hw => ?_)
          obtain ⟨hr9, hq12a, frC11⟩ := hq12
          subst hr9
          have hM : C11 82 = .inr (4, [.int (zI 2), .int (zI pn), .ref (AD 83), .int (zI kc), .ref (AD 84), .ref (AD 85), .int (zI tr), .int (zI lc), .int (zI fa), .int (zI fb), .ref (AD 86), .ref (AD 87), .ref (AD 88), .int (zI mn), .int (zI mr), .int (zI ma), .long (zL ab), .long (zL bl)]) := hq12a
          have h84 : C11 84 = aI (k 0) 9 mz := (frC11 _ (by omega)).trans h84
          have h85 : C11 85 = aI (k 0) 216 mw := (frC11 _ (by omega)).trans h85
          refine zr_if_ne (tgt := 70) hx hb ⟨by omega, by omega⟩ d_M_absent_65 (by decide) (fun c9 => absurd c9 (by decide)) (fun c13 => ?_)
          refine zr_iconst hx hb d_M_absent_68 ?_
          exact hret _ _ _ _ _ _ d_M_absent_69 hw rfl ⟨Or.inr (Or.inr ⟨by omega, by omega, hM, h84, h85⟩), fun j hj => by rw [frC11 _ (by omega)]⟩
        · refine lv_iload_n hx hb d_M_absent_45 rfl (lv_at hl 3 rfl) ?_
          refine zr_bipush hx hb d_M_absent_46 (by decide) ?_
          refine zr_bipush hx hb d_M_absent_48 (by decide) ?_
          refine zr_callI (va_runS (As := [.int (zI s0), .int (zI (-24)), .int (zI 24)]) (rest := [.int (zI 1), .ref (AD 82)]) ⟨hx, hb, hml, hown, hts⟩ (c_M_within l D k N AD C H.size s0 (-24) 24 ⟨by omega, by omega⟩ ⟨by omega, by omega⟩ ⟨by omega, by omega⟩) (va_cwS 3 hts (good_S wk_572 wk_573 wk_31 wk_574) rfl rfl rfl (by decide +kernel) ⟨Nat.le_of_ble_eq_true rfl, Nat.le_of_ble_eq_true rfl⟩) (cPre_S hK hw) rfl rfl hl.1 rfl (lv_room (Nat.le_of_ble_eq_true rfl)) d_M_absent_50 ⟨Nat.le_of_ble_eq_true rfl, Nat.le_of_ble_eq_true rfl⟩) hw hA (fun r9 C15 H locs hq14 hw => ?_)
          obtain ⟨hq14, hCe⟩ := hq14
          rw [hCe] at hw
          rcases hq14 with ⟨hr9, hq14⟩ | ⟨hr9, hq14⟩ <;> subst hr9
          · refine zr_if_eq (tgt := 60) hx hb ⟨by omega, by omega⟩ d_M_absent_53 (by decide) (fun c9 => absurd c9 (by decide)) (fun c16 => ?_)
            refine zr_iconst hx hb d_M_absent_56 ?_
            refine lv_goto (tgt := 61) hx hb d_M_absent_57 (by decide) ?_
            refine zr_iconst hx hb d_M_absent_61 ?_
            refine zr_callI (va_runV (As := [.int (zI 1), .int (zI 1), .int (zI 1)]) (rest := []) ⟨hx, hb, hml, hown, hts⟩ (c_M_goes l D k N AD C H.size th pn kc tr lc fa fb mn mr ma ab bl 1 1 1 0 1 hN hM (by decide) (by decide) (by decide) (by decide) (by decide)) (cwV 3 hts (good_V wk_578 wk_580 wk_11 wk_31 wk_581) rfl rfl rfl (by decide +kernel) ⟨Nat.le_of_ble_eq_true rfl, Nat.le_of_ble_eq_true rfl⟩) (cPre_V hK hw 82 ⟨by omega, by omega⟩ hM rfl) rfl rfl hl.1 rfl (lv_room (Nat.le_of_ble_eq_true rfl)) d_M_absent_62 ⟨Nat.le_of_ble_eq_true rfl, Nat.le_of_ble_eq_true rfl⟩) hw hA (fun r9 C17 H locs hq18 hw => ?_)
            obtain ⟨hr9, hq18a, frC17⟩ := hq18
            subst hr9
            have hM : C17 82 = .inr (4, [.int (zI 0), .int (zI pn), .ref (AD 83), .int (zI kc), .ref (AD 84), .ref (AD 85), .int (zI tr), .int (zI lc), .int (zI fa), .int (zI fb), .ref (AD 86), .ref (AD 87), .ref (AD 88), .int (zI mn), .int (zI mr), .int (zI ma), .long (zL ab), .long (zL bl)]) := hq18a
            have h84 : C17 84 = aI (k 0) 9 mz := (frC17 _ (by omega)).trans h84
            have h85 : C17 85 = aI (k 0) 216 mw := (frC17 _ (by omega)).trans h85
            refine zr_if_ne (tgt := 70) hx hb ⟨by omega, by omega⟩ d_M_absent_65 (by decide) (fun c19 => ?_) (fun c9 => absurd c9 (by decide))
            have hz1 := hmz a (by omega) (by omega)
            have hz2 := hmz b (by omega) (by omega)
            have hoka := hok a (by omega) (by omega)
            have hokb := hok b (by omega) (by omega)
            refine zr_iconst hx hb d_M_absent_70 ?_
            refine lv_istore (lv' := [(4, .int (zI (-1))), (0, .ref (AD 82)), (1, .int (zI a)), (2, .int (zI b)), (3, .int (zI s0))]) hx hb d_M_absent_71 hl (by decide) rfl (fun ls hl => ?_)
            refine zr_iconst hx hb d_M_absent_73 ?_
            refine lv_istore (lv' := [(5, .int (zI 0)), (4, .int (zI (-1))), (0, .ref (AD 82)), (1, .int (zI a)), (2, .int (zI b)), (3, .int (zI s0))]) hx hb d_M_absent_74 hl (by decide) rfl (fun ls hl => ?_)
            refine lv_aload_n hx hb d_M_absent_76 rfl (lv_at hl 2 rfl) ?_
            refine zr_get (v := .ref (AD 84)) hx hb hts iw_M hown hK hw 82 ⟨by omega, by omega⟩ hM rfl 4 (by decide) (hts _ wk_510) (fun _ h => h) rfl d_M_absent_77 ?_
            refine zr_bipush hx hb d_M_absent_80 (by decide) ?_
            refine lv_aload_n hx hb d_M_absent_82 rfl (lv_at hl 2 rfl) ?_
            refine zr_get (v := .ref (AD 84)) hx hb hts iw_M hown hK hw 82 ⟨by omega, by omega⟩ hM rfl 4 (by decide) (hts _ wk_510) (fun _ h => h) rfl d_M_absent_83 ?_
            refine lv_iload_n hx hb d_M_absent_86 rfl (lv_at hl 4 rfl) ?_
            refine zr_iald hx hb hK hw 84 ⟨by omega, by omega⟩ 0 h84 rfl ⟨by omega, by omega⟩ (by decide) d_M_absent_87 ?_
            refine zr_iconst hx hb d_M_absent_88 ?_
            refine zr_iadd hx hb d_M_absent_89 ?_
            refine zr_iast hx hb hK hw 84 ⟨by omega, by omega⟩ 0 h84 rfl ⟨by omega, by omega⟩ (by decide) d_M_absent_90 (fun H locs hw => ?_)
            obtain ⟨C20, hC20⟩ : ∃ z : Int → va_E, z = zup C17 84 (aI (k 0) 9 (zup mz 8 ((mz b) + 1))) := ⟨_, rfl⟩
            have hw : WD D clW (wA N AD sz) s.heap H locs N AD C20 := by rw [hC20]; exact hw
            have frC20 : ∀ j : Int, j ≠ 84 → C20 j = C17 j := fun j h => by rw [hC20]; exact zup_n h
            have hM : C20 82 = .inr (4, [.int (zI 0), .int (zI pn), .ref (AD 83), .int (zI kc), .ref (AD 84), .ref (AD 85), .int (zI tr), .int (zI lc), .int (zI fa), .int (zI fb), .ref (AD 86), .ref (AD 87), .ref (AD 88), .int (zI mn), .int (zI mr), .int (zI ma), .long (zL ab), .long (zL bl)]) := (frC20 _ (by omega)).trans hM
            have h84 : C20 84 = aI (k 0) 9 (zup mz 8 ((mz b) + 1)) := by rw [hC20]; exact zup_s
            have h85 : C20 85 = aI (k 0) 216 mw := (frC20 _ (by omega)).trans h85
            obtain ⟨mz1, hmz1⟩ : ∃ z : Int → Int, z = zup mz 8 (mz b + 1) := ⟨_, rfl⟩
            rw [← hmz1] at h84
            have ezn : ∀ j : Int, j ≠ 8 → mz1 j = mz j := fun j hj => by rw [hmz1]; exact zup_n hj
            have ez8 : mz1 8 = mz b + 1 := by rw [hmz1]; exact zup_s
            have eza := ezn a (by omega)
            have ezb := ezn b (by omega)
            have hmz0 := hmz
            have hmz : ∀ i : Int, 0 ≤ i → i < 9 → 0 ≤ mz1 i ∧ mz1 i ≤ 24 := fun i h1 h2 => by by_cases e : i = 8; rw [e, ez8]; omega; rw [ezn i e]; exact hmz0 i h1 h2
            refine zr_iconst hx hb d_M_absent_91 ?_
            refine lv_istore (lv' := [(6, .int (zI 0)), (5, .int (zI 0)), (4, .int (zI (-1))), (0, .ref (AD 82)), (1, .int (zI a)), (2, .int (zI b)), (3, .int (zI s0))]) hx hb d_M_absent_92 hl (by decide) rfl (fun ls hl => ?_)
            have lp : ∀ (n9 : Nat) (x : Int) (bs : Int) (gr : Int) (n1 : Int) (r1 : Int) (a1 : Int) (m1 : Int → Int) (C : Int → va_E) (H : Heap) (locs : List Loc) (ls : Array Slot), (0 ≤ x ∧ x ≤ mz b + 1) → (abS (WM mw a) (mz a) (WM mw b) (mz b) s0 x.toNat = (bs, gr)) → (-1 ≤ bs ∧ bs ≤ 24) → (-100 ≤ gr ∧ gr ≤ 100) → (∀ j : Int, j < 192 → m1 j = mw j) → (∀ j : Int, ¬ (j = 82 ∨ (84 ≤ j ∧ j ≤ 85)) → C j = C0 j) → (C 82 = .inr (4, [.int (zI 0), .int (zI pn), .ref (AD 83), .int (zI kc), .ref (AD 84), .ref (AD 85), .int (zI tr), .int (zI lc), .int (zI fa), .int (zI fb), .ref (AD 86), .ref (AD 87), .ref (AD 88), .int (zI n1), .int (zI r1), .int (zI a1), .long (zL ab), .long (zL bl)])) → (C 84 = aI (k 0) 9 mz1) → (C 85 = aI (k 0) 216 m1) → (mz b + 1 - x).toNat < n9 → WD D clW (wA N AD sz) s.heap H locs N AD C → lv_has ls 9 [(0, .ref (AD 82)), (1, .int (zI a)), (2, .int (zI b)), (3, .int (zI s0)), (4, .int (zI bs)), (5, .int (zI gr)), (6, .int (zI x))] → W p l e rm_M_absent s m args below meth c H locs 0 0 Q (F0 m 94 ls []) := by
              intro n9
              induction n9 with
              | zero => intro x bs gr n1 r1 a1 m1 C H locs ls hx1 hab hbs hgr hlo hfr hM h84 h85 hm hw hl; exact absurd hm (by omega)
              | succ n9 ihlp =>
                intro x bs gr n1 r1 a1 m1 C H locs ls hx1 hab hbs hgr hlo hfr hM h84 h85 hm hw hl
                refine lv_iload hx hb d_M_absent_94 (lv_at hl 6 rfl) ?_
                refine lv_aload_n hx hb d_M_absent_96 rfl (lv_at hl 0 rfl) ?_
                refine zr_get (v := .ref (AD 84)) hx hb hts iw_M hown hK hw 82 ⟨by omega, by omega⟩ hM rfl 4 (by decide) (hts _ wk_510) (fun _ h => h) rfl d_M_absent_97 ?_
                refine lv_iload_n hx hb d_M_absent_100 rfl (lv_at hl 2 rfl) ?_
                refine zr_iald hx hb hK hw 84 ⟨by omega, by omega⟩ 0 h84 rfl ⟨by omega, by omega⟩ (by decide) d_M_absent_101 ?_
                refine zr_icmp_gt (tgt := 245) hx hb ⟨by omega, by omega⟩ ⟨by omega, by omega⟩ d_M_absent_102 (by decide) (fun c21 => ?_) (fun c21 => ?_)
                · refine lv_iload hx hb d_M_absent_245 (lv_at hl 4 rfl) ?_
                  exact hret _ _ _ _ _ _ d_M_absent_247 hw rfl ⟨Or.inl ⟨by omega, by omega, by rw [← show x = mz b + 1 by omega, hab], n1, r1, a1, mz1, m1, hM, h84, h85, ezn, by omega, hlo⟩, fun j hj => (hfr j hj).trans (by rw [hC0])⟩
                · refine zr_iconst hx hb d_M_absent_105 ?_
                  refine lv_istore (lv' := [(7, .int (zI 0)), (0, .ref (AD 82)), (1, .int (zI a)), (2, .int (zI b)), (3, .int (zI s0)), (4, .int (zI bs)), (5, .int (zI gr)), (6, .int (zI x))]) hx hb d_M_absent_106 hl (by decide) rfl (fun ls hl => ?_)
                  have li : ∀ (n9 : Nat) (y : Int) (m2 : Int → Int) (C : Int → va_E) (H : Heap) (locs : List Loc) (ls : Array Slot), (0 ≤ y ∧ y ≤ mz b + 1) → (∀ j : Int, 0 ≤ j → j < y → m2 (192 + j) = if j < x then mw (24 * b + j) else if j = x then 0 else mw (24 * b + (j - 1))) → (∀ j : Int, j < 192 → m2 j = mw j) → (∀ j : Int, ¬ (j = 82 ∨ (84 ≤ j ∧ j ≤ 85)) → C j = C0 j) → (C 82 = .inr (4, [.int (zI 0), .int (zI pn), .ref (AD 83), .int (zI kc), .ref (AD 84), .ref (AD 85), .int (zI tr), .int (zI lc), .int (zI fa), .int (zI fb), .ref (AD 86), .ref (AD 87), .ref (AD 88), .int (zI n1), .int (zI r1), .int (zI a1), .long (zL ab), .long (zL bl)])) → (C 84 = aI (k 0) 9 mz1) → (C 85 = aI (k 0) 216 m2) → (mz b + 1 - y).toNat < n9 → WD D clW (wA N AD sz) s.heap H locs N AD C → lv_has ls 9 [(0, .ref (AD 82)), (1, .int (zI a)), (2, .int (zI b)), (3, .int (zI s0)), (4, .int (zI bs)), (5, .int (zI gr)), (6, .int (zI x)), (7, .int (zI y))] → W p l e rm_M_absent s m args below meth c H locs 0 0 Q (F0 m 108 ls []) := by
                    intro n9
                    induction n9 with
                    | zero => intro y m2 C H locs ls hy1 hgp hlo2 hfr2 hM h84 h85 hm hw hl; exact absurd hm (by omega)
                    | succ n9 ihli =>
                      intro y m2 C H locs ls hy1 hgp hlo2 hfr2 hM h84 h85 hm hw hl
                      refine lv_iload hx hb d_M_absent_108 (lv_at hl 7 rfl) ?_
                      refine lv_aload_n hx hb d_M_absent_110 rfl (lv_at hl 0 rfl) ?_
                      refine zr_get (v := .ref (AD 84)) hx hb hts iw_M hown hK hw 82 ⟨by omega, by omega⟩ hM rfl 4 (by decide) (hts _ wk_510) (fun _ h => h) rfl d_M_absent_111 ?_
                      refine lv_iload_n hx hb d_M_absent_114 rfl (lv_at hl 2 rfl) ?_
                      refine zr_iald hx hb hK hw 84 ⟨by omega, by omega⟩ 0 h84 rfl ⟨by omega, by omega⟩ (by decide) d_M_absent_115 ?_
                      refine zr_icmp_gt (tgt := 173) hx hb ⟨by omega, by omega⟩ ⟨by omega, by omega⟩ d_M_absent_116 (by decide) (fun c22 => ?_) (fun c22 => ?_)
                      · have hgp9 : ∀ j : Int, 0 ≤ j → j < mz b + 1 → m2 (192 + j) = if j < x then mw (24 * b + j) else if j = x then 0 else mw (24 * b + (j - 1)) := fun j h1 h2 => hgp j h1 (by omega)
                        have hok1 : MOK m2 a (mz1 a) := fun j h1 h2 => by rw [hlo2 _ (by omega)]; exact hoka j h1 (by omega)
                        have hok8 : MOK m2 8 (mz1 8) := by rw [ez8]; exact gapK hokb hgp9 (by omega)
                        have hE := ov_eq (w1 := WM m2 a) (v1 := WM mw a) (w2 := WM m2 8) (v2 := gapW (WM mw b) x) (n1 := mz a) (n2 := mz b + 1) (a := s0) (fun j h1 h2 => by unfold WM; rw [hlo2 _ (by omega)]) (gapM hgp9)
                        rw [← eza, ← ez8] at hE
                        refine lv_aload_n hx hb d_M_absent_173 rfl (lv_at hl 0 rfl) ?_
                        refine lv_iload_n hx hb d_M_absent_174 rfl (lv_at hl 1 rfl) ?_
                        refine zr_bipush hx hb d_M_absent_175 (by decide) ?_
                        refine lv_iload_n hx hb d_M_absent_177 rfl (lv_at hl 3 rfl) ?_
                        refine zr_callI (va_runV (As := [.int (zI a), .int (zI 8), .int (zI s0)]) (rest := []) ⟨hx, hb, hml, hown, hts⟩ (c_M_correlate l D k N AD C H.size 0 pn kc tr lc fa fb n1 r1 a1 ab bl mz1 m2 a 8 s0 hN hM h84 h85 hmz (by omega) ⟨by omega, by omega⟩ ⟨by omega, by omega⟩ ⟨by omega, by omega⟩ hok1 hok8) (cwV 3 hts (good_V wk_626 wk_628 wk_18 wk_31 wk_629) rfl rfl rfl (by decide +kernel) ⟨Nat.le_of_ble_eq_true rfl, Nat.le_of_ble_eq_true rfl⟩) (cPre_V hK hw 82 ⟨by omega, by omega⟩ hM rfl) rfl rfl hl.1 rfl (lv_room (Nat.le_of_ble_eq_true rfl)) d_M_absent_178 ⟨Nat.le_of_ble_eq_true rfl, Nat.le_of_ble_eq_true rfl⟩) hw hA (fun r9 C23 H locs hq24 hw => ?_)
                        obtain ⟨hr9, hq24a, frC23⟩ := hq24
                        subst hr9
                        have hM : C23 82 = .inr (4, [.int (zI 0), .int (zI pn), .ref (AD 83), .int (zI kc), .ref (AD 84), .ref (AD 85), .int (zI tr), .int (zI lc), .int (zI fa), .int (zI fb), .ref (AD 86), .ref (AD 87), .ref (AD 88), .int (zI (ovN (WM m2 a) (mz1 a) (WM m2 8) (mz1 8) s0)), .int (zI (ovR (WM m2 a) (mz1 a) (WM m2 8) (mz1 8) s0)), .int (zI (ovA (WM m2 a) (mz1 a) (WM m2 8) (mz1 8) s0)), .long (zL ab), .long (zL bl)]) := hq24a
                        have h84 : C23 84 = aI (k 0) 9 mz1 := (frC23 _ (by omega)).trans h84
                        have h85 : C23 85 = aI (k 0) 216 m2 := (frC23 _ (by omega)).trans h85
                        have eN : ovN (WM m2 a) (mz1 a) (WM m2 8) (mz1 8) s0 = abN (WM mw a) (mz a) (WM mw b) (mz b) s0 x := by unfold abN; rw [← eza, ← ez8]; exact hE.1
                        have eC : ovC (WM m2 a) (mz1 a) (WM m2 8) (mz1 8) s0 = abC (WM mw a) (mz a) (WM mw b) (mz b) s0 x := by unfold abC; rw [← eza, ← ez8]; exact hE.2.1
                        rw [eN] at hM
                        rw [eC]
                        have hNi : 0 ≤ abN (WM mw a) (mz a) (WM mw b) (mz b) s0 x ∧ abN (WM mw a) (mz a) (WM mw b) (mz b) s0 x ≤ 24 := ovN_in hz1 (by omega)
                        have hCi : -100 ≤ abC (WM mw a) (mz a) (WM mw b) (mz b) s0 x ∧ abC (WM mw a) (mz a) (WM mw b) (mz b) s0 x ≤ 100 := corrF_in _ _ _
                        have hfr := hfr2
                        refine lv_istore (lv' := [(7, .int (zI (abC (WM mw a) (mz a) (WM mw b) (mz b) s0 x))), (0, .ref (AD 82)), (1, .int (zI a)), (2, .int (zI b)), (3, .int (zI s0)), (4, .int (zI bs)), (5, .int (zI gr)), (6, .int (zI x))]) hx hb d_M_absent_181 hl (by decide) rfl (fun ls hl => ?_)
                        refine lv_aload_n hx hb d_M_absent_183 rfl (lv_at hl 1 rfl) ?_
                        refine zr_get (v := .int (zI (abN (WM mw a) (mz a) (WM mw b) (mz b) s0 x))) hx hb hts iw_M hown hK hw 82 ⟨by omega, by omega⟩ hM rfl 13 (by decide) (hts _ wk_519) (fun _ h => h) rfl d_M_absent_184 ?_
                        refine zr_iconst hx hb d_M_absent_187 ?_
                        refine zr_icmp_lt (tgt := 208) hx hb ⟨by omega, by omega⟩ ⟨by omega, by omega⟩ d_M_absent_188 (by decide) (fun c25 => ?_) (fun c25 => ?_)
                        · refine zr_iconst hx hb d_M_absent_208 ?_
                          have hab2 := abS_f hx1.1 hab (by omega)
                          refine lv_istore (lv' := [(8, .int (zI 0)), (7, .int (zI (abC (WM mw a) (mz a) (WM mw b) (mz b) s0 x))), (0, .ref (AD 82)), (1, .int (zI a)), (2, .int (zI b)), (3, .int (zI s0)), (4, .int (zI bs)), (5, .int (zI gr)), (6, .int (zI x))]) hx hb d_M_absent_209 hl (by decide) rfl (fun ls hl => ?_)
                          refine lv_iload hx hb d_M_absent_211 (lv_at hl 0 rfl) ?_
                          refine zr_if_eq (tgt := 221) hx hb ⟨by omega, by omega⟩ d_M_absent_213 (by decide) (fun c26 => ?_) (fun c9 => absurd c9 (by decide))
                          refine lv_iload hx hb d_M_absent_221 (lv_at hl 6 rfl) ?_
                          refine lv_istore (lv' := [(4, .int (zI bs)), (8, .int (zI 0)), (7, .int (zI (abC (WM mw a) (mz a) (WM mw b) (mz b) s0 x))), (0, .ref (AD 82)), (1, .int (zI a)), (2, .int (zI b)), (3, .int (zI s0)), (5, .int (zI gr)), (6, .int (zI x))]) hx hb d_M_absent_223 hl (by decide) rfl (fun ls hl => ?_)
                          refine lv_iload hx hb d_M_absent_225 (lv_at hl 1 rfl) ?_
                          refine zr_if_eq (tgt := 235) hx hb ⟨by omega, by omega⟩ d_M_absent_227 (by decide) (fun c27 => ?_) (fun c9 => absurd c9 (by decide))
                          refine lv_iload hx hb d_M_absent_235 (lv_at hl 7 rfl) ?_
                          refine lv_istore (lv' := [(5, .int (zI gr)), (4, .int (zI bs)), (8, .int (zI 0)), (7, .int (zI (abC (WM mw a) (mz a) (WM mw b) (mz b) s0 x))), (0, .ref (AD 82)), (1, .int (zI a)), (2, .int (zI b)), (3, .int (zI s0)), (6, .int (zI x))]) hx hb d_M_absent_237 hl (by decide) rfl (fun ls hl => ?_)
                          refine lv_iinc (v := zI (x + 1)) (lv' := [(6, .int (zI (x + 1))), (5, .int (zI gr)), (4, .int (zI bs)), (8, .int (zI 0)), (7, .int (zI (abC (WM mw a) (mz a) (WM mw b) (mz b) s0 x))), (0, .ref (AD 82)), (1, .int (zI a)), (2, .int (zI b)), (3, .int (zI s0))]) hx hb d_M_absent_239 hl (k := 8) rfl (zI_add _ _) (by decide) rfl (fun ls hl => ?_)
                          refine lv_goto (tgt := 94) hx hb d_M_absent_242 (by decide) ?_
                          exact ihlp (x + 1) bs gr (abN (WM mw a) (mz a) (WM mw b) (mz b) s0 x) (ovR (WM m2 a) (mz1 a) (WM m2 8) (mz1 8) s0) (ovA (WM m2 a) (mz1 a) (WM m2 8) (mz1 8) s0) m2 C23 H locs ls (by omega) hab2 (by omega) (by omega) hlo2 (fun j hj => by rw [frC23 _ (by omega)]; exact hfr j hj) hM h84 h85 (by omega) hw (lv_sub hl [5, 6, 7, 8, 2, 1, 0] rfl)
                        · refine lv_iload hx hb d_M_absent_191 (lv_at hl 5 rfl) ?_
                          refine zr_iconst hx hb d_M_absent_193 ?_
                          refine zr_icmp_eq (tgt := 204) hx hb ⟨by omega, by omega⟩ ⟨by omega, by omega⟩ d_M_absent_194 (by decide) (fun c28 => ?_) (fun c28 => ?_)
                          · refine zr_iconst hx hb d_M_absent_204 ?_
                            refine lv_goto (tgt := 209) hx hb d_M_absent_205 (by decide) ?_
                            have hab2 := abS_t hx1.1 hab (by omega)
                            refine lv_istore (lv' := [(8, .int (zI 1)), (7, .int (zI (abC (WM mw a) (mz a) (WM mw b) (mz b) s0 x))), (0, .ref (AD 82)), (1, .int (zI a)), (2, .int (zI b)), (3, .int (zI s0)), (4, .int (zI bs)), (5, .int (zI gr)), (6, .int (zI x))]) hx hb d_M_absent_209 hl (by decide) rfl (fun ls hl => ?_)
                            refine lv_iload hx hb d_M_absent_211 (lv_at hl 0 rfl) ?_
                            refine zr_if_eq (tgt := 221) hx hb ⟨by omega, by omega⟩ d_M_absent_213 (by decide) (fun c9 => absurd c9 (by decide)) (fun c29 => ?_)
                            refine lv_iload hx hb d_M_absent_216 (lv_at hl 8 rfl) ?_
                            refine lv_goto (tgt := 223) hx hb d_M_absent_218 (by decide) ?_
                            refine lv_istore (lv' := [(4, .int (zI x)), (8, .int (zI 1)), (7, .int (zI (abC (WM mw a) (mz a) (WM mw b) (mz b) s0 x))), (0, .ref (AD 82)), (1, .int (zI a)), (2, .int (zI b)), (3, .int (zI s0)), (5, .int (zI gr)), (6, .int (zI x))]) hx hb d_M_absent_223 hl (by decide) rfl (fun ls hl => ?_)
                            refine lv_iload hx hb d_M_absent_225 (lv_at hl 1 rfl) ?_
                            refine zr_if_eq (tgt := 235) hx hb ⟨by omega, by omega⟩ d_M_absent_227 (by decide) (fun c9 => absurd c9 (by decide)) (fun c30 => ?_)
                            refine lv_iload hx hb d_M_absent_230 (lv_at hl 2 rfl) ?_
                            refine lv_goto (tgt := 237) hx hb d_M_absent_232 (by decide) ?_
                            refine lv_istore (lv' := [(5, .int (zI (abC (WM mw a) (mz a) (WM mw b) (mz b) s0 x))), (4, .int (zI x)), (8, .int (zI 1)), (7, .int (zI (abC (WM mw a) (mz a) (WM mw b) (mz b) s0 x))), (0, .ref (AD 82)), (1, .int (zI a)), (2, .int (zI b)), (3, .int (zI s0)), (6, .int (zI x))]) hx hb d_M_absent_237 hl (by decide) rfl (fun ls hl => ?_)
                            refine lv_iinc (v := zI (x + 1)) (lv' := [(6, .int (zI (x + 1))), (5, .int (zI (abC (WM mw a) (mz a) (WM mw b) (mz b) s0 x))), (4, .int (zI x)), (8, .int (zI 1)), (7, .int (zI (abC (WM mw a) (mz a) (WM mw b) (mz b) s0 x))), (0, .ref (AD 82)), (1, .int (zI a)), (2, .int (zI b)), (3, .int (zI s0))]) hx hb d_M_absent_239 hl (k := 8) rfl (zI_add _ _) (by decide) rfl (fun ls hl => ?_)
                            refine lv_goto (tgt := 94) hx hb d_M_absent_242 (by decide) ?_
                            exact ihlp (x + 1) x (abC (WM mw a) (mz a) (WM mw b) (mz b) s0 x) (abN (WM mw a) (mz a) (WM mw b) (mz b) s0 x) (ovR (WM m2 a) (mz1 a) (WM m2 8) (mz1 8) s0) (ovA (WM m2 a) (mz1 a) (WM m2 8) (mz1 8) s0) m2 C23 H locs ls (by omega) hab2 (by omega) (by omega) hlo2 (fun j hj => by rw [frC23 _ (by omega)]; exact hfr j hj) hM h84 h85 (by omega) hw (lv_sub hl [5, 6, 7, 8, 2, 1, 0] rfl)
                          · refine lv_iload hx hb d_M_absent_197 (lv_at hl 0 rfl) ?_
                            refine lv_iload hx hb d_M_absent_199 (lv_at hl 6 rfl) ?_
                            refine zr_icmp_le (tgt := 208) hx hb ⟨by omega, by omega⟩ ⟨by omega, by omega⟩ d_M_absent_201 (by decide) (fun c31 => ?_) (fun c31 => ?_)
                            · refine zr_iconst hx hb d_M_absent_208 ?_
                              have hab2 := abS_f hx1.1 hab (by omega)
                              refine lv_istore (lv' := [(8, .int (zI 0)), (7, .int (zI (abC (WM mw a) (mz a) (WM mw b) (mz b) s0 x))), (0, .ref (AD 82)), (1, .int (zI a)), (2, .int (zI b)), (3, .int (zI s0)), (4, .int (zI bs)), (5, .int (zI gr)), (6, .int (zI x))]) hx hb d_M_absent_209 hl (by decide) rfl (fun ls hl => ?_)
                              refine lv_iload hx hb d_M_absent_211 (lv_at hl 0 rfl) ?_
                              refine zr_if_eq (tgt := 221) hx hb ⟨by omega, by omega⟩ d_M_absent_213 (by decide) (fun c32 => ?_) (fun c9 => absurd c9 (by decide))
                              refine lv_iload hx hb d_M_absent_221 (lv_at hl 6 rfl) ?_
                              refine lv_istore (lv' := [(4, .int (zI bs)), (8, .int (zI 0)), (7, .int (zI (abC (WM mw a) (mz a) (WM mw b) (mz b) s0 x))), (0, .ref (AD 82)), (1, .int (zI a)), (2, .int (zI b)), (3, .int (zI s0)), (5, .int (zI gr)), (6, .int (zI x))]) hx hb d_M_absent_223 hl (by decide) rfl (fun ls hl => ?_)
                              refine lv_iload hx hb d_M_absent_225 (lv_at hl 1 rfl) ?_
                              refine zr_if_eq (tgt := 235) hx hb ⟨by omega, by omega⟩ d_M_absent_227 (by decide) (fun c33 => ?_) (fun c9 => absurd c9 (by decide))
                              refine lv_iload hx hb d_M_absent_235 (lv_at hl 7 rfl) ?_
                              refine lv_istore (lv' := [(5, .int (zI gr)), (4, .int (zI bs)), (8, .int (zI 0)), (7, .int (zI (abC (WM mw a) (mz a) (WM mw b) (mz b) s0 x))), (0, .ref (AD 82)), (1, .int (zI a)), (2, .int (zI b)), (3, .int (zI s0)), (6, .int (zI x))]) hx hb d_M_absent_237 hl (by decide) rfl (fun ls hl => ?_)
                              refine lv_iinc (v := zI (x + 1)) (lv' := [(6, .int (zI (x + 1))), (5, .int (zI gr)), (4, .int (zI bs)), (8, .int (zI 0)), (7, .int (zI (abC (WM mw a) (mz a) (WM mw b) (mz b) s0 x))), (0, .ref (AD 82)), (1, .int (zI a)), (2, .int (zI b)), (3, .int (zI s0))]) hx hb d_M_absent_239 hl (k := 8) rfl (zI_add _ _) (by decide) rfl (fun ls hl => ?_)
                              refine lv_goto (tgt := 94) hx hb d_M_absent_242 (by decide) ?_
                              exact ihlp (x + 1) bs gr (abN (WM mw a) (mz a) (WM mw b) (mz b) s0 x) (ovR (WM m2 a) (mz1 a) (WM m2 8) (mz1 8) s0) (ovA (WM m2 a) (mz1 a) (WM m2 8) (mz1 8) s0) m2 C23 H locs ls (by omega) hab2 (by omega) (by omega) hlo2 (fun j hj => by rw [frC23 _ (by omega)]; exact hfr j hj) hM h84 h85 (by omega) hw (lv_sub hl [5, 6, 7, 8, 2, 1, 0] rfl)
                            · refine zr_iconst hx hb d_M_absent_204 ?_
                              refine lv_goto (tgt := 209) hx hb d_M_absent_205 (by decide) ?_
                              have hab2 := abS_t hx1.1 hab (by omega)
                              refine lv_istore (lv' := [(8, .int (zI 1)), (7, .int (zI (abC (WM mw a) (mz a) (WM mw b) (mz b) s0 x))), (0, .ref (AD 82)), (1, .int (zI a)), (2, .int (zI b)), (3, .int (zI s0)), (4, .int (zI bs)), (5, .int (zI gr)), (6, .int (zI x))]) hx hb d_M_absent_209 hl (by decide) rfl (fun ls hl => ?_)
                              refine lv_iload hx hb d_M_absent_211 (lv_at hl 0 rfl) ?_
                              refine zr_if_eq (tgt := 221) hx hb ⟨by omega, by omega⟩ d_M_absent_213 (by decide) (fun c9 => absurd c9 (by decide)) (fun c34 => ?_)
                              refine lv_iload hx hb d_M_absent_216 (lv_at hl 8 rfl) ?_
                              refine lv_goto (tgt := 223) hx hb d_M_absent_218 (by decide) ?_
                              refine lv_istore (lv' := [(4, .int (zI x)), (8, .int (zI 1)), (7, .int (zI (abC (WM mw a) (mz a) (WM mw b) (mz b) s0 x))), (0, .ref (AD 82)), (1, .int (zI a)), (2, .int (zI b)), (3, .int (zI s0)), (5, .int (zI gr)), (6, .int (zI x))]) hx hb d_M_absent_223 hl (by decide) rfl (fun ls hl => ?_)
                              refine lv_iload hx hb d_M_absent_225 (lv_at hl 1 rfl) ?_
                              refine zr_if_eq (tgt := 235) hx hb ⟨by omega, by omega⟩ d_M_absent_227 (by decide) (fun c9 => absurd c9 (by decide)) (fun c35 => ?_)
                              refine lv_iload hx hb d_M_absent_230 (lv_at hl 2 rfl) ?_
                              refine lv_goto (tgt := 237) hx hb d_M_absent_232 (by decide) ?_
                              refine lv_istore (lv' := [(5, .int (zI (abC (WM mw a) (mz a) (WM mw b) (mz b) s0 x))), (4, .int (zI x)), (8, .int (zI 1)), (7, .int (zI (abC (WM mw a) (mz a) (WM mw b) (mz b) s0 x))), (0, .ref (AD 82)), (1, .int (zI a)), (2, .int (zI b)), (3, .int (zI s0)), (6, .int (zI x))]) hx hb d_M_absent_237 hl (by decide) rfl (fun ls hl => ?_)
                              refine lv_iinc (v := zI (x + 1)) (lv' := [(6, .int (zI (x + 1))), (5, .int (zI (abC (WM mw a) (mz a) (WM mw b) (mz b) s0 x))), (4, .int (zI x)), (8, .int (zI 1)), (7, .int (zI (abC (WM mw a) (mz a) (WM mw b) (mz b) s0 x))), (0, .ref (AD 82)), (1, .int (zI a)), (2, .int (zI b)), (3, .int (zI s0))]) hx hb d_M_absent_239 hl (k := 8) rfl (zI_add _ _) (by decide) rfl (fun ls hl => ?_)
                              refine lv_goto (tgt := 94) hx hb d_M_absent_242 (by decide) ?_
                              exact ihlp (x + 1) x (abC (WM mw a) (mz a) (WM mw b) (mz b) s0 x) (abN (WM mw a) (mz a) (WM mw b) (mz b) s0 x) (ovR (WM m2 a) (mz1 a) (WM m2 8) (mz1 8) s0) (ovA (WM m2 a) (mz1 a) (WM m2 8) (mz1 8) s0) m2 C23 H locs ls (by omega) hab2 (by omega) (by omega) hlo2 (fun j hj => by rw [frC23 _ (by omega)]; exact hfr j hj) hM h84 h85 (by omega) hw (lv_sub hl [5, 6, 7, 8, 2, 1, 0] rfl)
                      · refine lv_aload_n hx hb d_M_absent_119 rfl (lv_at hl 0 rfl) ?_
                        refine zr_get (v := .ref (AD 85)) hx hb hts iw_M hown hK hw 82 ⟨by omega, by omega⟩ hM rfl 5 (by decide) (hts _ wk_511) (fun _ h => h) rfl d_M_absent_120 ?_
                        refine zr_sipush hx hb d_M_absent_123 (by decide) ?_
                        refine lv_iload hx hb d_M_absent_126 (lv_at hl 7 rfl) ?_
                        refine zr_iadd hx hb d_M_absent_128 ?_
                        refine lv_iload hx hb d_M_absent_129 (lv_at hl 7 rfl) ?_
                        refine lv_iload hx hb d_M_absent_131 (lv_at hl 6 rfl) ?_
                        refine zr_icmp_ge (tgt := 146) hx hb ⟨by omega, by omega⟩ ⟨by omega, by omega⟩ d_M_absent_133 (by decide) (fun c36 => ?_) (fun c36 => ?_)
                        · refine lv_iload hx hb d_M_absent_146 (lv_at hl 7 rfl) ?_
                          refine lv_iload hx hb d_M_absent_148 (lv_at hl 6 rfl) ?_
                          refine zr_icmp_ne (tgt := 157) hx hb ⟨by omega, by omega⟩ ⟨by omega, by omega⟩ d_M_absent_150 (by decide) (fun c37 => ?_) (fun c37 => ?_)
                          · refine lv_aload_n hx hb d_M_absent_157 rfl (lv_at hl 0 rfl) ?_
                            refine lv_iload_n hx hb d_M_absent_158 rfl (lv_at hl 2 rfl) ?_
                            refine lv_iload hx hb d_M_absent_159 (lv_at hl 7 rfl) ?_
                            refine zr_iconst hx hb d_M_absent_161 ?_
                            refine zr_isub hx hb d_M_absent_162 ?_
                            refine zr_callI (va_runV (As := [.int (zI b), .int (zI (y - 1))]) (rest := [.int (zI (192 + y)), .ref (AD 85)]) ⟨hx, hb, hml, hown, hts⟩ (c_M_widthOf l D k N AD C H.size 0 pn kc tr lc fa fb n1 r1 a1 ab bl m2 b (y - 1) hN hM h85 ⟨by omega, by omega⟩) (cwV 2 hts (good_V wk_602 wk_604 wk_15 wk_31 wk_605) rfl rfl rfl (by decide +kernel) ⟨Nat.le_of_ble_eq_true rfl, Nat.le_of_ble_eq_true rfl⟩) (cPre_V hK hw 82 ⟨by omega, by omega⟩ hM rfl) rfl rfl hl.1 rfl (lv_room (Nat.le_of_ble_eq_true rfl)) d_M_absent_163 ⟨Nat.le_of_ble_eq_true rfl, Nat.le_of_ble_eq_true rfl⟩) hw hA (fun r9 C39 H locs hq38 hw => ?_)
                            obtain ⟨hr9, hCe⟩ := hq38
                            rw [hCe] at hw; subst hr9
                            refine zr_iast hx hb hK hw 85 ⟨by omega, by omega⟩ 0 h85 rfl ⟨by omega, by omega⟩ (by decide) d_M_absent_166 (fun H locs hw => ?_)
                            obtain ⟨C40, hC40⟩ : ∃ z : Int → va_E, z = zup C 85 (aI (k 0) 216 (zup m2 (192 + y) (m2 (24 * b + (y - 1))))) := ⟨_, rfl⟩
                            have hw : WD D clW (wA N AD sz) s.heap H locs N AD C40 := by rw [hC40]; exact hw
                            have frC40 : ∀ j : Int, j ≠ 85 → C40 j = C j := fun j h => by rw [hC40]; exact zup_n h
                            have hM : C40 82 = .inr (4, [.int (zI 0), .int (zI pn), .ref (AD 83), .int (zI kc), .ref (AD 84), .ref (AD 85), .int (zI tr), .int (zI lc), .int (zI fa), .int (zI fb), .ref (AD 86), .ref (AD 87), .ref (AD 88), .int (zI n1), .int (zI r1), .int (zI a1), .long (zL ab), .long (zL bl)]) := (frC40 _ (by omega)).trans hM
                            have h84 : C40 84 = aI (k 0) 9 mz1 := (frC40 _ (by omega)).trans h84
                            have h85 : C40 85 = aI (k 0) 216 (zup m2 (192 + y) (m2 (24 * b + (y - 1)))) := by rw [hC40]; exact zup_s
                            have hgp2 : ∀ j : Int, 0 ≤ j → j < y + 1 → (zup m2 (192 + y) (m2 (24 * b + (y - 1)))) (192 + j) = if j < x then mw (24 * b + j) else if j = x then 0 else mw (24 * b + (j - 1)) := by
                              intro j h1 h2
                              by_cases e : j = y
                              · rw [e, zup_s]; rw [if_neg (by omega), if_neg (by omega)]; exact hlo2 _ (by omega)
                              · rw [zup_n (by omega)]; exact hgp j h1 (by omega)
                            refine lv_iinc (v := zI (y + 1)) (lv' := [(7, .int (zI (y + 1))), (0, .ref (AD 82)), (1, .int (zI a)), (2, .int (zI b)), (3, .int (zI s0)), (4, .int (zI bs)), (5, .int (zI gr)), (6, .int (zI x))]) hx hb d_M_absent_167 hl (k := 7) rfl (zI_add _ _) (by decide) rfl (fun ls hl => ?_)
                            refine lv_goto (tgt := 108) hx hb d_M_absent_170 (by decide) ?_
                            exact ihli (y + 1) (zup m2 (192 + y) (m2 (24 * b + (y - 1)))) C40 H locs ls (by omega) hgp2 (fun j hj => by rw [zup_n (by omega)]; exact hlo2 j hj) (fun j hj => by rw [frC40 _ (by omega)]; exact hfr2 j hj) hM h84 h85 (by omega) hw (lv_sub hl [1, 2, 3, 4, 5, 6, 7, 0] rfl)
                          · refine zr_iconst hx hb d_M_absent_153 ?_
                            refine lv_goto (tgt := 166) hx hb d_M_absent_154 (by decide) ?_
                            refine zr_iast hx hb hK hw 85 ⟨by omega, by omega⟩ 0 h85 rfl ⟨by omega, by omega⟩ (by decide) d_M_absent_166 (fun H locs hw => ?_)
                            obtain ⟨C41, hC41⟩ : ∃ z : Int → va_E, z = zup C 85 (aI (k 0) 216 (zup m2 (192 + y) 0)) := ⟨_, rfl⟩
                            have hw : WD D clW (wA N AD sz) s.heap H locs N AD C41 := by rw [hC41]; exact hw
                            have frC41 : ∀ j : Int, j ≠ 85 → C41 j = C j := fun j h => by rw [hC41]; exact zup_n h
                            have hM : C41 82 = .inr (4, [.int (zI 0), .int (zI pn), .ref (AD 83), .int (zI kc), .ref (AD 84), .ref (AD 85), .int (zI tr), .int (zI lc), .int (zI fa), .int (zI fb), .ref (AD 86), .ref (AD 87), .ref (AD 88), .int (zI n1), .int (zI r1), .int (zI a1), .long (zL ab), .long (zL bl)]) := (frC41 _ (by omega)).trans hM
                            have h84 : C41 84 = aI (k 0) 9 mz1 := (frC41 _ (by omega)).trans h84
                            have h85 : C41 85 = aI (k 0) 216 (zup m2 (192 + y) 0) := by rw [hC41]; exact zup_s
                            have hgp2 : ∀ j : Int, 0 ≤ j → j < y + 1 → (zup m2 (192 + y) 0) (192 + j) = if j < x then mw (24 * b + j) else if j = x then 0 else mw (24 * b + (j - 1)) := by
                              intro j h1 h2
                              by_cases e : j = y
                              · rw [e, zup_s]; rw [if_neg (by omega), if_pos (by omega)]
                              · rw [zup_n (by omega)]; exact hgp j h1 (by omega)
                            refine lv_iinc (v := zI (y + 1)) (lv' := [(7, .int (zI (y + 1))), (0, .ref (AD 82)), (1, .int (zI a)), (2, .int (zI b)), (3, .int (zI s0)), (4, .int (zI bs)), (5, .int (zI gr)), (6, .int (zI x))]) hx hb d_M_absent_167 hl (k := 7) rfl (zI_add _ _) (by decide) rfl (fun ls hl => ?_)
                            refine lv_goto (tgt := 108) hx hb d_M_absent_170 (by decide) ?_
                            exact ihli (y + 1) (zup m2 (192 + y) 0) C41 H locs ls (by omega) hgp2 (fun j hj => by rw [zup_n (by omega)]; exact hlo2 j hj) (fun j hj => by rw [frC41 _ (by omega)]; exact hfr2 j hj) hM h84 h85 (by omega) hw (lv_sub hl [1, 2, 3, 4, 5, 6, 7, 0] rfl)
                        · refine lv_aload_n hx hb d_M_absent_136 rfl (lv_at hl 0 rfl) ?_
                          refine lv_iload_n hx hb d_M_absent_137 rfl (lv_at hl 2 rfl) ?_
                          refine lv_iload hx hb d_M_absent_138 (lv_at hl 7 rfl) ?_
                          refine zr_callI (va_runV (As := [.int (zI b), .int (zI y)]) (rest := [.int (zI (192 + y)), .ref (AD 85)]) ⟨hx, hb, hml, hown, hts⟩ (c_M_widthOf l D k N AD C H.size 0 pn kc tr lc fa fb n1 r1 a1 ab bl m2 b y hN hM h85 ⟨by omega, by omega⟩) (cwV 2 hts (good_V wk_602 wk_604 wk_15 wk_31 wk_605) rfl rfl rfl (by decide +kernel) ⟨Nat.le_of_ble_eq_true rfl, Nat.le_of_ble_eq_true rfl⟩) (cPre_V hK hw 82 ⟨by omega, by omega⟩ hM rfl) rfl rfl hl.1 rfl (lv_room (Nat.le_of_ble_eq_true rfl)) d_M_absent_140 ⟨Nat.le_of_ble_eq_true rfl, Nat.le_of_ble_eq_true rfl⟩) hw hA (fun r9 C43 H locs hq42 hw => ?_)
                          obtain ⟨hr9, hCe⟩ := hq42
                          rw [hCe] at hw; subst hr9
                          refine lv_goto (tgt := 166) hx hb d_M_absent_143 (by decide) ?_
                          refine zr_iast hx hb hK hw 85 ⟨by omega, by omega⟩ 0 h85 rfl ⟨by omega, by omega⟩ (by decide) d_M_absent_166 (fun H locs hw => ?_)
                          obtain ⟨C44, hC44⟩ : ∃ z : Int → va_E, z = zup C 85 (aI (k 0) 216 (zup m2 (192 + y) (m2 (24 * b + y)))) := ⟨_, rfl⟩
                          have hw : WD D clW (wA N AD sz) s.heap H locs N AD C44 := by rw [hC44]; exact hw
                          have frC44 : ∀ j : Int, j ≠ 85 → C44 j = C j := fun j h => by rw [hC44]; exact zup_n h
                          have hM : C44 82 = .inr (4, [.int (zI 0), .int (zI pn), .ref (AD 83), .int (zI kc), .ref (AD 84), .ref (AD 85), .int (zI tr), .int (zI lc), .int (zI fa), .int (zI fb), .ref (AD 86), .ref (AD 87), .ref (AD 88), .int (zI n1), .int (zI r1), .int (zI a1), .long (zL ab), .long (zL bl)]) := (frC44 _ (by omega)).trans hM
                          have h84 : C44 84 = aI (k 0) 9 mz1 := (frC44 _ (by omega)).trans h84
                          have h85 : C44 85 = aI (k 0) 216 (zup m2 (192 + y) (m2 (24 * b + y))) := by rw [hC44]; exact zup_s
                          have hgp2 : ∀ j : Int, 0 ≤ j → j < y + 1 → (zup m2 (192 + y) (m2 (24 * b + y))) (192 + j) = if j < x then mw (24 * b + j) else if j = x then 0 else mw (24 * b + (j - 1)) := by
                            intro j h1 h2
                            by_cases e : j = y
                            · rw [e, zup_s]; rw [if_pos (by omega)]; exact hlo2 _ (by omega)
                            · rw [zup_n (by omega)]; exact hgp j h1 (by omega)
                          refine lv_iinc (v := zI (y + 1)) (lv' := [(7, .int (zI (y + 1))), (0, .ref (AD 82)), (1, .int (zI a)), (2, .int (zI b)), (3, .int (zI s0)), (4, .int (zI bs)), (5, .int (zI gr)), (6, .int (zI x))]) hx hb d_M_absent_167 hl (k := 7) rfl (zI_add _ _) (by decide) rfl (fun ls hl => ?_)
                          refine lv_goto (tgt := 108) hx hb d_M_absent_170 (by decide) ?_
                          exact ihli (y + 1) (zup m2 (192 + y) (m2 (24 * b + y))) C44 H locs ls (by omega) hgp2 (fun j hj => by rw [zup_n (by omega)]; exact hlo2 j hj) (fun j hj => by rw [frC44 _ (by omega)]; exact hfr2 j hj) hM h84 h85 (by omega) hw (lv_sub hl [1, 2, 3, 4, 5, 6, 7, 0] rfl)
                  exact li ((mz b + 1 - 0 : Int).toNat + 1) 0 m1 C H locs ls (by omega) (fun j h1 h2 => absurd h2 (by omega)) hlo hfr hM h84 h85 (by omega) hw (lv_sub hl [1, 2, 3, 4, 5, 6, 7, 0] rfl)
            exact lp ((mz b + 1 - 0 : Int).toNat + 1) 0 (-1) 0 mn mr ma mw C20 H locs ls (by omega) rfl (by omega) (by omega) (fun j _ => rfl) (fun j hj => by rw [frC20 _ (by omega), frC17 _ (by omega), hC0]) hM h84 h85 (by omega) hw (lv_sub hl [3, 4, 5, 6, 2, 1, 0] rfl)
          · refine zr_if_eq (tgt := 60) hx hb ⟨by omega, by omega⟩ d_M_absent_53 (by decide) (fun c45 => ?_) (fun c9 => absurd c9 (by decide))
            refine zr_iconst hx hb d_M_absent_60 ?_
            refine zr_iconst hx hb d_M_absent_61 ?_
            refine zr_callI (va_runV (As := [.int (zI 1), .int (zI 0), .int (zI 1)]) (rest := []) ⟨hx, hb, hml, hown, hts⟩ (c_M_goes l D k N AD C H.size th pn kc tr lc fa fb mn mr ma ab bl 1 0 1 2 0 hN hM (by decide) (by decide) (by decide) (by decide) (by decide)) (cwV 3 hts (good_V wk_578 wk_580 wk_11 wk_31 wk_581) rfl rfl rfl (by decide +kernel) ⟨Nat.le_of_ble_eq_true rfl, Nat.le_of_ble_eq_true rfl⟩) (cPre_V hK hw 82 ⟨by omega, by omega⟩ hM rfl) rfl rfl hl.1 rfl (lv_room (Nat.le_of_ble_eq_true rfl)) d_M_absent_62 ⟨Nat.le_of_ble_eq_true rfl, Nat.le_of_ble_eq_true rfl⟩) hw hA (fun r9 C46 H locs hq47 hw => ?_)
            obtain ⟨hr9, hq47a, frC46⟩ := hq47
            subst hr9
            have hM : C46 82 = .inr (4, [.int (zI 2), .int (zI pn), .ref (AD 83), .int (zI kc), .ref (AD 84), .ref (AD 85), .int (zI tr), .int (zI lc), .int (zI fa), .int (zI fb), .ref (AD 86), .ref (AD 87), .ref (AD 88), .int (zI mn), .int (zI mr), .int (zI ma), .long (zL ab), .long (zL bl)]) := hq47a
            have h84 : C46 84 = aI (k 0) 9 mz := (frC46 _ (by omega)).trans h84
            have h85 : C46 85 = aI (k 0) 216 mw := (frC46 _ (by omega)).trans h85
            refine zr_if_ne (tgt := 70) hx hb ⟨by omega, by omega⟩ d_M_absent_65 (by decide) (fun c9 => absurd c9 (by decide)) (fun c48 => ?_)
            refine zr_iconst hx hb d_M_absent_68 ?_
            exact hret _ _ _ _ _ _ d_M_absent_69 hw rfl ⟨Or.inr (Or.inr ⟨by omega, by omega, hM, h84, h85⟩), fun j hj => by rw [frC46 _ (by omega)]⟩
      · exact absurd hq7 (by omega)
    · refine zr_if_eq (tgt := 21) hx hb ⟨by omega, by omega⟩ d_M_absent_14 (by decide) (fun c49 => ?_) (fun c9 => absurd c9 (by decide))
      refine zr_iconst hx hb d_M_absent_21 ?_
      refine lv_aload_n hx hb d_M_absent_22 rfl (lv_at hl 0 rfl) ?_
      refine zr_get (v := .ref (AD 84)) hx hb hts iw_M hown hK hw 82 ⟨by omega, by omega⟩ hM rfl 4 (by decide) (hts _ wk_510) (fun _ h => h) rfl d_M_absent_23 ?_
      refine lv_aload_n hx hb d_M_absent_26 rfl (lv_at hl 0 rfl) ?_
      refine lv_iload_n hx hb d_M_absent_27 rfl (lv_at hl 2 rfl) ?_
      refine zr_callI (va_runV (As := [.int (zI b)]) (rest := [.ref (AD 84), .int (zI 0), .ref (AD 82)]) ⟨hx, hb, hml, hown, hts⟩ (c_M_isSeries l D k N AD C H.size th pn kc tr lc fa fb mn mr ma ab bl b hN hM ⟨by omega, by omega⟩ (by omega)) (cwV 1 hts (good_V wk_598 wk_600 wk_14 wk_31 wk_601) rfl rfl rfl (by decide +kernel) ⟨Nat.le_of_ble_eq_true rfl, Nat.le_of_ble_eq_true rfl⟩) (cPre_V hK hw 82 ⟨by omega, by omega⟩ hM rfl) rfl rfl hl.1 rfl (lv_room (Nat.le_of_ble_eq_true rfl)) d_M_absent_28 ⟨Nat.le_of_ble_eq_true rfl, Nat.le_of_ble_eq_true rfl⟩) hw hA (fun r9 C51 H locs hq50 hw => ?_)
      obtain ⟨hq50, hCe⟩ := hq50
      rw [hCe] at hw
      rcases hq50 with ⟨hr9, hq50⟩ | ⟨hr9, hq50⟩ <;> subst hr9
      · exact absurd hq50 (by omega)
      · refine zr_if_eq (tgt := 38) hx hb ⟨by omega, by omega⟩ d_M_absent_31 (by decide) (fun c52 => ?_) (fun c9 => absurd c9 (by decide))
        refine zr_iconst hx hb d_M_absent_38 ?_
        have hz9 := hmz 0 (by omega) (by omega)
        refine zr_iald hx hb hK hw 84 ⟨by omega, by omega⟩ 0 h84 rfl ⟨by omega, by omega⟩ (by decide) d_M_absent_39 ?_
        refine zr_bipush hx hb d_M_absent_40 (by decide) ?_
        refine zr_icmp_ge (tgt := 60) hx hb ⟨by omega, by omega⟩ ⟨by omega, by omega⟩ d_M_absent_42 (by decide) (fun c53 => ?_) (fun c53 => ?_)
        · refine zr_iconst hx hb d_M_absent_60 ?_
          refine zr_iconst hx hb d_M_absent_61 ?_
          refine zr_callI (va_runV (As := [.int (zI 0), .int (zI 0), .int (zI 1)]) (rest := []) ⟨hx, hb, hml, hown, hts⟩ (c_M_goes l D k N AD C H.size th pn kc tr lc fa fb mn mr ma ab bl 0 0 1 1 0 hN hM (by decide) (by decide) (by decide) (by decide) (by decide)) (cwV 3 hts (good_V wk_578 wk_580 wk_11 wk_31 wk_581) rfl rfl rfl (by decide +kernel) ⟨Nat.le_of_ble_eq_true rfl, Nat.le_of_ble_eq_true rfl⟩) (cPre_V hK hw 82 ⟨by omega, by omega⟩ hM rfl) rfl rfl hl.1 rfl (lv_room (Nat.le_of_ble_eq_true rfl)) d_M_absent_62 ⟨Nat.le_of_ble_eq_true rfl, Nat.le_of_ble_eq_true rfl⟩) hw hA (fun r9 C54 H locs hq55 hw => ?_)
          obtain ⟨hr9, hq55a, frC54⟩ := hq55
          subst hr9
          have hM : C54 82 = .inr (4, [.int (zI 1), .int (zI pn), .ref (AD 83), .int (zI kc), .ref (AD 84), .ref (AD 85), .int (zI tr), .int (zI lc), .int (zI fa), .int (zI fb), .ref (AD 86), .ref (AD 87), .ref (AD 88), .int (zI mn), .int (zI mr), .int (zI ma), .long (zL ab), .long (zL bl)]) := hq55a
          have h84 : C54 84 = aI (k 0) 9 mz := (frC54 _ (by omega)).trans h84
          have h85 : C54 85 = aI (k 0) 216 mw := (frC54 _ (by omega)).trans h85
          refine zr_if_ne (tgt := 70) hx hb ⟨by omega, by omega⟩ d_M_absent_65 (by decide) (fun c9 => absurd c9 (by decide)) (fun c56 => ?_)
          refine zr_iconst hx hb d_M_absent_68 ?_
          exact hret _ _ _ _ _ _ d_M_absent_69 hw rfl ⟨Or.inr (Or.inl ⟨by omega, hM, h84, h85⟩), fun j hj => by rw [frC54 _ (by omega)]⟩
        · refine lv_iload_n hx hb d_M_absent_45 rfl (lv_at hl 3 rfl) ?_
          refine zr_bipush hx hb d_M_absent_46 (by decide) ?_
          refine zr_bipush hx hb d_M_absent_48 (by decide) ?_
          refine zr_callI (va_runS (As := [.int (zI s0), .int (zI (-24)), .int (zI 24)]) (rest := [.int (zI 0), .ref (AD 82)]) ⟨hx, hb, hml, hown, hts⟩ (c_M_within l D k N AD C H.size s0 (-24) 24 ⟨by omega, by omega⟩ ⟨by omega, by omega⟩ ⟨by omega, by omega⟩) (va_cwS 3 hts (good_S wk_572 wk_573 wk_31 wk_574) rfl rfl rfl (by decide +kernel) ⟨Nat.le_of_ble_eq_true rfl, Nat.le_of_ble_eq_true rfl⟩) (cPre_S hK hw) rfl rfl hl.1 rfl (lv_room (Nat.le_of_ble_eq_true rfl)) d_M_absent_50 ⟨Nat.le_of_ble_eq_true rfl, Nat.le_of_ble_eq_true rfl⟩) hw hA (fun r9 C58 H locs hq57 hw => ?_)
          obtain ⟨hq57, hCe⟩ := hq57
          rw [hCe] at hw
          rcases hq57 with ⟨hr9, hq57⟩ | ⟨hr9, hq57⟩ <;> subst hr9
          · refine zr_if_eq (tgt := 60) hx hb ⟨by omega, by omega⟩ d_M_absent_53 (by decide) (fun c9 => absurd c9 (by decide)) (fun c59 => ?_)
            refine zr_iconst hx hb d_M_absent_56 ?_
            refine lv_goto (tgt := 61) hx hb d_M_absent_57 (by decide) ?_
            refine zr_iconst hx hb d_M_absent_61 ?_
            refine zr_callI (va_runV (As := [.int (zI 0), .int (zI 1), .int (zI 1)]) (rest := []) ⟨hx, hb, hml, hown, hts⟩ (c_M_goes l D k N AD C H.size th pn kc tr lc fa fb mn mr ma ab bl 0 1 1 1 0 hN hM (by decide) (by decide) (by decide) (by decide) (by decide)) (cwV 3 hts (good_V wk_578 wk_580 wk_11 wk_31 wk_581) rfl rfl rfl (by decide +kernel) ⟨Nat.le_of_ble_eq_true rfl, Nat.le_of_ble_eq_true rfl⟩) (cPre_V hK hw 82 ⟨by omega, by omega⟩ hM rfl) rfl rfl hl.1 rfl (lv_room (Nat.le_of_ble_eq_true rfl)) d_M_absent_62 ⟨Nat.le_of_ble_eq_true rfl, Nat.le_of_ble_eq_true rfl⟩) hw hA (fun r9 C60 H locs hq61 hw => ?_)
            obtain ⟨hr9, hq61a, frC60⟩ := hq61
            subst hr9
            have hM : C60 82 = .inr (4, [.int (zI 1), .int (zI pn), .ref (AD 83), .int (zI kc), .ref (AD 84), .ref (AD 85), .int (zI tr), .int (zI lc), .int (zI fa), .int (zI fb), .ref (AD 86), .ref (AD 87), .ref (AD 88), .int (zI mn), .int (zI mr), .int (zI ma), .long (zL ab), .long (zL bl)]) := hq61a
            have h84 : C60 84 = aI (k 0) 9 mz := (frC60 _ (by omega)).trans h84
            have h85 : C60 85 = aI (k 0) 216 mw := (frC60 _ (by omega)).trans h85
            refine zr_if_ne (tgt := 70) hx hb ⟨by omega, by omega⟩ d_M_absent_65 (by decide) (fun c9 => absurd c9 (by decide)) (fun c62 => ?_)
            refine zr_iconst hx hb d_M_absent_68 ?_
            exact hret _ _ _ _ _ _ d_M_absent_69 hw rfl ⟨Or.inr (Or.inl ⟨by omega, hM, h84, h85⟩), fun j hj => by rw [frC60 _ (by omega)]⟩
          · refine zr_if_eq (tgt := 60) hx hb ⟨by omega, by omega⟩ d_M_absent_53 (by decide) (fun c63 => ?_) (fun c9 => absurd c9 (by decide))
            refine zr_iconst hx hb d_M_absent_60 ?_
            refine zr_iconst hx hb d_M_absent_61 ?_
            refine zr_callI (va_runV (As := [.int (zI 0), .int (zI 0), .int (zI 1)]) (rest := []) ⟨hx, hb, hml, hown, hts⟩ (c_M_goes l D k N AD C H.size th pn kc tr lc fa fb mn mr ma ab bl 0 0 1 1 0 hN hM (by decide) (by decide) (by decide) (by decide) (by decide)) (cwV 3 hts (good_V wk_578 wk_580 wk_11 wk_31 wk_581) rfl rfl rfl (by decide +kernel) ⟨Nat.le_of_ble_eq_true rfl, Nat.le_of_ble_eq_true rfl⟩) (cPre_V hK hw 82 ⟨by omega, by omega⟩ hM rfl) rfl rfl hl.1 rfl (lv_room (Nat.le_of_ble_eq_true rfl)) d_M_absent_62 ⟨Nat.le_of_ble_eq_true rfl, Nat.le_of_ble_eq_true rfl⟩) hw hA (fun r9 C64 H locs hq65 hw => ?_)
            obtain ⟨hr9, hq65a, frC64⟩ := hq65
            subst hr9
            have hM : C64 82 = .inr (4, [.int (zI 1), .int (zI pn), .ref (AD 83), .int (zI kc), .ref (AD 84), .ref (AD 85), .int (zI tr), .int (zI lc), .int (zI fa), .int (zI fb), .ref (AD 86), .ref (AD 87), .ref (AD 88), .int (zI mn), .int (zI mr), .int (zI ma), .long (zL ab), .long (zL bl)]) := hq65a
            have h84 : C64 84 = aI (k 0) 9 mz := (frC64 _ (by omega)).trans h84
            have h85 : C64 85 = aI (k 0) 216 mw := (frC64 _ (by omega)).trans h85
            refine zr_if_ne (tgt := 70) hx hb ⟨by omega, by omega⟩ d_M_absent_65 (by decide) (fun c9 => absurd c9 (by decide)) (fun c66 => ?_)
            refine zr_iconst hx hb d_M_absent_68 ?_
            exact hret _ _ _ _ _ _ d_M_absent_69 hw rfl ⟨Or.inr (Or.inl ⟨by omega, hM, h84, h85⟩), fun j hj => by rw [frC64 _ (by omega)]⟩
  · refine zr_if_eq (tgt := 21) hx hb ⟨by omega, by omega⟩ d_M_absent_6 (by decide) (fun c67 => ?_) (fun c9 => absurd c9 (by decide))
    refine zr_iconst hx hb d_M_absent_21 ?_
    refine lv_aload_n hx hb d_M_absent_22 rfl (lv_at hl 0 rfl) ?_
    refine zr_get (v := .ref (AD 84)) hx hb hts iw_M hown hK hw 82 ⟨by omega, by omega⟩ hM rfl 4 (by decide) (hts _ wk_510) (fun _ h => h) rfl d_M_absent_23 ?_
    refine lv_aload_n hx hb d_M_absent_26 rfl (lv_at hl 0 rfl) ?_
    refine lv_iload_n hx hb d_M_absent_27 rfl (lv_at hl 2 rfl) ?_
    refine zr_callI (va_runV (As := [.int (zI b)]) (rest := [.ref (AD 84), .int (zI 0), .ref (AD 82)]) ⟨hx, hb, hml, hown, hts⟩ (c_M_isSeries l D k N AD C H.size th pn kc tr lc fa fb mn mr ma ab bl b hN hM ⟨by omega, by omega⟩ (by omega)) (cwV 1 hts (good_V wk_598 wk_600 wk_14 wk_31 wk_601) rfl rfl rfl (by decide +kernel) ⟨Nat.le_of_ble_eq_true rfl, Nat.le_of_ble_eq_true rfl⟩) (cPre_V hK hw 82 ⟨by omega, by omega⟩ hM rfl) rfl rfl hl.1 rfl (lv_room (Nat.le_of_ble_eq_true rfl)) d_M_absent_28 ⟨Nat.le_of_ble_eq_true rfl, Nat.le_of_ble_eq_true rfl⟩) hw hA (fun r9 C69 H locs hq68 hw => ?_)
    obtain ⟨hq68, hCe⟩ := hq68
    rw [hCe] at hw
    rcases hq68 with ⟨hr9, hq68⟩ | ⟨hr9, hq68⟩ <;> subst hr9
    · refine zr_if_eq (tgt := 38) hx hb ⟨by omega, by omega⟩ d_M_absent_31 (by decide) (fun c9 => absurd c9 (by decide)) (fun c70 => ?_)
      refine lv_iload_n hx hb d_M_absent_34 rfl (lv_at hl 2 rfl) ?_
      refine lv_goto (tgt := 39) hx hb d_M_absent_35 (by decide) ?_
      have hz9 := hmz b (by omega) (by omega)
      refine zr_iald hx hb hK hw 84 ⟨by omega, by omega⟩ 0 h84 rfl ⟨by omega, by omega⟩ (by decide) d_M_absent_39 ?_
      refine zr_bipush hx hb d_M_absent_40 (by decide) ?_
      refine zr_icmp_ge (tgt := 60) hx hb ⟨by omega, by omega⟩ ⟨by omega, by omega⟩ d_M_absent_42 (by decide) (fun c71 => ?_) (fun c71 => ?_)
      · refine zr_iconst hx hb d_M_absent_60 ?_
        refine zr_iconst hx hb d_M_absent_61 ?_
        refine zr_callI (va_runV (As := [.int (zI 0), .int (zI 0), .int (zI 1)]) (rest := []) ⟨hx, hb, hml, hown, hts⟩ (c_M_goes l D k N AD C H.size th pn kc tr lc fa fb mn mr ma ab bl 0 0 1 1 0 hN hM (by decide) (by decide) (by decide) (by decide) (by decide)) (cwV 3 hts (good_V wk_578 wk_580 wk_11 wk_31 wk_581) rfl rfl rfl (by decide +kernel) ⟨Nat.le_of_ble_eq_true rfl, Nat.le_of_ble_eq_true rfl⟩) (cPre_V hK hw 82 ⟨by omega, by omega⟩ hM rfl) rfl rfl hl.1 rfl (lv_room (Nat.le_of_ble_eq_true rfl)) d_M_absent_62 ⟨Nat.le_of_ble_eq_true rfl, Nat.le_of_ble_eq_true rfl⟩) hw hA (fun r9 C72 H locs hq73 hw => ?_)
        obtain ⟨hr9, hq73a, frC72⟩ := hq73
        subst hr9
        have hM : C72 82 = .inr (4, [.int (zI 1), .int (zI pn), .ref (AD 83), .int (zI kc), .ref (AD 84), .ref (AD 85), .int (zI tr), .int (zI lc), .int (zI fa), .int (zI fb), .ref (AD 86), .ref (AD 87), .ref (AD 88), .int (zI mn), .int (zI mr), .int (zI ma), .long (zL ab), .long (zL bl)]) := hq73a
        have h84 : C72 84 = aI (k 0) 9 mz := (frC72 _ (by omega)).trans h84
        have h85 : C72 85 = aI (k 0) 216 mw := (frC72 _ (by omega)).trans h85
        refine zr_if_ne (tgt := 70) hx hb ⟨by omega, by omega⟩ d_M_absent_65 (by decide) (fun c9 => absurd c9 (by decide)) (fun c74 => ?_)
        refine zr_iconst hx hb d_M_absent_68 ?_
        exact hret _ _ _ _ _ _ d_M_absent_69 hw rfl ⟨Or.inr (Or.inl ⟨by omega, hM, h84, h85⟩), fun j hj => by rw [frC72 _ (by omega)]⟩
      · refine lv_iload_n hx hb d_M_absent_45 rfl (lv_at hl 3 rfl) ?_
        refine zr_bipush hx hb d_M_absent_46 (by decide) ?_
        refine zr_bipush hx hb d_M_absent_48 (by decide) ?_
        refine zr_callI (va_runS (As := [.int (zI s0), .int (zI (-24)), .int (zI 24)]) (rest := [.int (zI 0), .ref (AD 82)]) ⟨hx, hb, hml, hown, hts⟩ (c_M_within l D k N AD C H.size s0 (-24) 24 ⟨by omega, by omega⟩ ⟨by omega, by omega⟩ ⟨by omega, by omega⟩) (va_cwS 3 hts (good_S wk_572 wk_573 wk_31 wk_574) rfl rfl rfl (by decide +kernel) ⟨Nat.le_of_ble_eq_true rfl, Nat.le_of_ble_eq_true rfl⟩) (cPre_S hK hw) rfl rfl hl.1 rfl (lv_room (Nat.le_of_ble_eq_true rfl)) d_M_absent_50 ⟨Nat.le_of_ble_eq_true rfl, Nat.le_of_ble_eq_true rfl⟩) hw hA (fun r9 C76 H locs hq75 hw => ?_)
        obtain ⟨hq75, hCe⟩ := hq75
        rw [hCe] at hw
        rcases hq75 with ⟨hr9, hq75⟩ | ⟨hr9, hq75⟩ <;> subst hr9
        · refine zr_if_eq (tgt := 60) hx hb ⟨by omega, by omega⟩ d_M_absent_53 (by decide) (fun c9 => absurd c9 (by decide)) (fun c77 => ?_)
          refine zr_iconst hx hb d_M_absent_56 ?_
          refine lv_goto (tgt := 61) hx hb d_M_absent_57 (by decide) ?_
          refine zr_iconst hx hb d_M_absent_61 ?_
          refine zr_callI (va_runV (As := [.int (zI 0), .int (zI 1), .int (zI 1)]) (rest := []) ⟨hx, hb, hml, hown, hts⟩ (c_M_goes l D k N AD C H.size th pn kc tr lc fa fb mn mr ma ab bl 0 1 1 1 0 hN hM (by decide) (by decide) (by decide) (by decide) (by decide)) (cwV 3 hts (good_V wk_578 wk_580 wk_11 wk_31 wk_581) rfl rfl rfl (by decide +kernel) ⟨Nat.le_of_ble_eq_true rfl, Nat.le_of_ble_eq_true rfl⟩) (cPre_V hK hw 82 ⟨by omega, by omega⟩ hM rfl) rfl rfl hl.1 rfl (lv_room (Nat.le_of_ble_eq_true rfl)) d_M_absent_62 ⟨Nat.le_of_ble_eq_true rfl, Nat.le_of_ble_eq_true rfl⟩) hw hA (fun r9 C78 H locs hq79 hw => ?_)
          obtain ⟨hr9, hq79a, frC78⟩ := hq79
          subst hr9
          have hM : C78 82 = .inr (4, [.int (zI 1), .int (zI pn), .ref (AD 83), .int (zI kc), .ref (AD 84), .ref (AD 85), .int (zI tr), .int (zI lc), .int (zI fa), .int (zI fb), .ref (AD 86), .ref (AD 87), .ref (AD 88), .int (zI mn), .int (zI mr), .int (zI ma), .long (zL ab), .long (zL bl)]) := hq79a
          have h84 : C78 84 = aI (k 0) 9 mz := (frC78 _ (by omega)).trans h84
          have h85 : C78 85 = aI (k 0) 216 mw := (frC78 _ (by omega)).trans h85
          refine zr_if_ne (tgt := 70) hx hb ⟨by omega, by omega⟩ d_M_absent_65 (by decide) (fun c9 => absurd c9 (by decide)) (fun c80 => ?_)
          refine zr_iconst hx hb d_M_absent_68 ?_
          exact hret _ _ _ _ _ _ d_M_absent_69 hw rfl ⟨Or.inr (Or.inl ⟨by omega, hM, h84, h85⟩), fun j hj => by rw [frC78 _ (by omega)]⟩
        · refine zr_if_eq (tgt := 60) hx hb ⟨by omega, by omega⟩ d_M_absent_53 (by decide) (fun c81 => ?_) (fun c9 => absurd c9 (by decide))
          refine zr_iconst hx hb d_M_absent_60 ?_
          refine zr_iconst hx hb d_M_absent_61 ?_
          refine zr_callI (va_runV (As := [.int (zI 0), .int (zI 0), .int (zI 1)]) (rest := []) ⟨hx, hb, hml, hown, hts⟩ (c_M_goes l D k N AD C H.size th pn kc tr lc fa fb mn mr ma ab bl 0 0 1 1 0 hN hM (by decide) (by decide) (by decide) (by decide) (by decide)) (cwV 3 hts (good_V wk_578 wk_580 wk_11 wk_31 wk_581) rfl rfl rfl (by decide +kernel) ⟨Nat.le_of_ble_eq_true rfl, Nat.le_of_ble_eq_true rfl⟩) (cPre_V hK hw 82 ⟨by omega, by omega⟩ hM rfl) rfl rfl hl.1 rfl (lv_room (Nat.le_of_ble_eq_true rfl)) d_M_absent_62 ⟨Nat.le_of_ble_eq_true rfl, Nat.le_of_ble_eq_true rfl⟩) hw hA (fun r9 C82 H locs hq83 hw => ?_)
          obtain ⟨hr9, hq83a, frC82⟩ := hq83
          subst hr9
          have hM : C82 82 = .inr (4, [.int (zI 1), .int (zI pn), .ref (AD 83), .int (zI kc), .ref (AD 84), .ref (AD 85), .int (zI tr), .int (zI lc), .int (zI fa), .int (zI fb), .ref (AD 86), .ref (AD 87), .ref (AD 88), .int (zI mn), .int (zI mr), .int (zI ma), .long (zL ab), .long (zL bl)]) := hq83a
          have h84 : C82 84 = aI (k 0) 9 mz := (frC82 _ (by omega)).trans h84
          have h85 : C82 85 = aI (k 0) 216 mw := (frC82 _ (by omega)).trans h85
          refine zr_if_ne (tgt := 70) hx hb ⟨by omega, by omega⟩ d_M_absent_65 (by decide) (fun c9 => absurd c9 (by decide)) (fun c84 => ?_)
          refine zr_iconst hx hb d_M_absent_68 ?_
          exact hret _ _ _ _ _ _ d_M_absent_69 hw rfl ⟨Or.inr (Or.inl ⟨by omega, hM, h84, h85⟩), fun j hj => by rw [frC82 _ (by omega)]⟩
    · refine zr_if_eq (tgt := 38) hx hb ⟨by omega, by omega⟩ d_M_absent_31 (by decide) (fun c85 => ?_) (fun c9 => absurd c9 (by decide))
      refine zr_iconst hx hb d_M_absent_38 ?_
      have hz9 := hmz 0 (by omega) (by omega)
      refine zr_iald hx hb hK hw 84 ⟨by omega, by omega⟩ 0 h84 rfl ⟨by omega, by omega⟩ (by decide) d_M_absent_39 ?_
      refine zr_bipush hx hb d_M_absent_40 (by decide) ?_
      refine zr_icmp_ge (tgt := 60) hx hb ⟨by omega, by omega⟩ ⟨by omega, by omega⟩ d_M_absent_42 (by decide) (fun c86 => ?_) (fun c86 => ?_)
      · refine zr_iconst hx hb d_M_absent_60 ?_
        refine zr_iconst hx hb d_M_absent_61 ?_
        refine zr_callI (va_runV (As := [.int (zI 0), .int (zI 0), .int (zI 1)]) (rest := []) ⟨hx, hb, hml, hown, hts⟩ (c_M_goes l D k N AD C H.size th pn kc tr lc fa fb mn mr ma ab bl 0 0 1 1 0 hN hM (by decide) (by decide) (by decide) (by decide) (by decide)) (cwV 3 hts (good_V wk_578 wk_580 wk_11 wk_31 wk_581) rfl rfl rfl (by decide +kernel) ⟨Nat.le_of_ble_eq_true rfl, Nat.le_of_ble_eq_true rfl⟩) (cPre_V hK hw 82 ⟨by omega, by omega⟩ hM rfl) rfl rfl hl.1 rfl (lv_room (Nat.le_of_ble_eq_true rfl)) d_M_absent_62 ⟨Nat.le_of_ble_eq_true rfl, Nat.le_of_ble_eq_true rfl⟩) hw hA (fun r9 C87 H locs hq88 hw => ?_)
        obtain ⟨hr9, hq88a, frC87⟩ := hq88
        subst hr9
        have hM : C87 82 = .inr (4, [.int (zI 1), .int (zI pn), .ref (AD 83), .int (zI kc), .ref (AD 84), .ref (AD 85), .int (zI tr), .int (zI lc), .int (zI fa), .int (zI fb), .ref (AD 86), .ref (AD 87), .ref (AD 88), .int (zI mn), .int (zI mr), .int (zI ma), .long (zL ab), .long (zL bl)]) := hq88a
        have h84 : C87 84 = aI (k 0) 9 mz := (frC87 _ (by omega)).trans h84
        have h85 : C87 85 = aI (k 0) 216 mw := (frC87 _ (by omega)).trans h85
        refine zr_if_ne (tgt := 70) hx hb ⟨by omega, by omega⟩ d_M_absent_65 (by decide) (fun c9 => absurd c9 (by decide)) (fun c89 => ?_)
        refine zr_iconst hx hb d_M_absent_68 ?_
        exact hret _ _ _ _ _ _ d_M_absent_69 hw rfl ⟨Or.inr (Or.inl ⟨by omega, hM, h84, h85⟩), fun j hj => by rw [frC87 _ (by omega)]⟩
      · refine lv_iload_n hx hb d_M_absent_45 rfl (lv_at hl 3 rfl) ?_
        refine zr_bipush hx hb d_M_absent_46 (by decide) ?_
        refine zr_bipush hx hb d_M_absent_48 (by decide) ?_
        refine zr_callI (va_runS (As := [.int (zI s0), .int (zI (-24)), .int (zI 24)]) (rest := [.int (zI 0), .ref (AD 82)]) ⟨hx, hb, hml, hown, hts⟩ (c_M_within l D k N AD C H.size s0 (-24) 24 ⟨by omega, by omega⟩ ⟨by omega, by omega⟩ ⟨by omega, by omega⟩) (va_cwS 3 hts (good_S wk_572 wk_573 wk_31 wk_574) rfl rfl rfl (by decide +kernel) ⟨Nat.le_of_ble_eq_true rfl, Nat.le_of_ble_eq_true rfl⟩) (cPre_S hK hw) rfl rfl hl.1 rfl (lv_room (Nat.le_of_ble_eq_true rfl)) d_M_absent_50 ⟨Nat.le_of_ble_eq_true rfl, Nat.le_of_ble_eq_true rfl⟩) hw hA (fun r9 C91 H locs hq90 hw => ?_)
        obtain ⟨hq90, hCe⟩ := hq90
        rw [hCe] at hw
        rcases hq90 with ⟨hr9, hq90⟩ | ⟨hr9, hq90⟩ <;> subst hr9
        · refine zr_if_eq (tgt := 60) hx hb ⟨by omega, by omega⟩ d_M_absent_53 (by decide) (fun c9 => absurd c9 (by decide)) (fun c92 => ?_)
          refine zr_iconst hx hb d_M_absent_56 ?_
          refine lv_goto (tgt := 61) hx hb d_M_absent_57 (by decide) ?_
          refine zr_iconst hx hb d_M_absent_61 ?_
          refine zr_callI (va_runV (As := [.int (zI 0), .int (zI 1), .int (zI 1)]) (rest := []) ⟨hx, hb, hml, hown, hts⟩ (c_M_goes l D k N AD C H.size th pn kc tr lc fa fb mn mr ma ab bl 0 1 1 1 0 hN hM (by decide) (by decide) (by decide) (by decide) (by decide)) (cwV 3 hts (good_V wk_578 wk_580 wk_11 wk_31 wk_581) rfl rfl rfl (by decide +kernel) ⟨Nat.le_of_ble_eq_true rfl, Nat.le_of_ble_eq_true rfl⟩) (cPre_V hK hw 82 ⟨by omega, by omega⟩ hM rfl) rfl rfl hl.1 rfl (lv_room (Nat.le_of_ble_eq_true rfl)) d_M_absent_62 ⟨Nat.le_of_ble_eq_true rfl, Nat.le_of_ble_eq_true rfl⟩) hw hA (fun r9 C93 H locs hq94 hw => ?_)
          obtain ⟨hr9, hq94a, frC93⟩ := hq94
          subst hr9
          have hM : C93 82 = .inr (4, [.int (zI 1), .int (zI pn), .ref (AD 83), .int (zI kc), .ref (AD 84), .ref (AD 85), .int (zI tr), .int (zI lc), .int (zI fa), .int (zI fb), .ref (AD 86), .ref (AD 87), .ref (AD 88), .int (zI mn), .int (zI mr), .int (zI ma), .long (zL ab), .long (zL bl)]) := hq94a
          have h84 : C93 84 = aI (k 0) 9 mz := (frC93 _ (by omega)).trans h84
          have h85 : C93 85 = aI (k 0) 216 mw := (frC93 _ (by omega)).trans h85
          refine zr_if_ne (tgt := 70) hx hb ⟨by omega, by omega⟩ d_M_absent_65 (by decide) (fun c9 => absurd c9 (by decide)) (fun c95 => ?_)
          refine zr_iconst hx hb d_M_absent_68 ?_
          exact hret _ _ _ _ _ _ d_M_absent_69 hw rfl ⟨Or.inr (Or.inl ⟨by omega, hM, h84, h85⟩), fun j hj => by rw [frC93 _ (by omega)]⟩
        · refine zr_if_eq (tgt := 60) hx hb ⟨by omega, by omega⟩ d_M_absent_53 (by decide) (fun c96 => ?_) (fun c9 => absurd c9 (by decide))
          refine zr_iconst hx hb d_M_absent_60 ?_
          refine zr_iconst hx hb d_M_absent_61 ?_
          refine zr_callI (va_runV (As := [.int (zI 0), .int (zI 0), .int (zI 1)]) (rest := []) ⟨hx, hb, hml, hown, hts⟩ (c_M_goes l D k N AD C H.size th pn kc tr lc fa fb mn mr ma ab bl 0 0 1 1 0 hN hM (by decide) (by decide) (by decide) (by decide) (by decide)) (cwV 3 hts (good_V wk_578 wk_580 wk_11 wk_31 wk_581) rfl rfl rfl (by decide +kernel) ⟨Nat.le_of_ble_eq_true rfl, Nat.le_of_ble_eq_true rfl⟩) (cPre_V hK hw 82 ⟨by omega, by omega⟩ hM rfl) rfl rfl hl.1 rfl (lv_room (Nat.le_of_ble_eq_true rfl)) d_M_absent_62 ⟨Nat.le_of_ble_eq_true rfl, Nat.le_of_ble_eq_true rfl⟩) hw hA (fun r9 C97 H locs hq98 hw => ?_)
          obtain ⟨hr9, hq98a, frC97⟩ := hq98
          subst hr9
          have hM : C97 82 = .inr (4, [.int (zI 1), .int (zI pn), .ref (AD 83), .int (zI kc), .ref (AD 84), .ref (AD 85), .int (zI tr), .int (zI lc), .int (zI fa), .int (zI fb), .ref (AD 86), .ref (AD 87), .ref (AD 88), .int (zI mn), .int (zI mr), .int (zI ma), .long (zL ab), .long (zL bl)]) := hq98a
          have h84 : C97 84 = aI (k 0) 9 mz := (frC97 _ (by omega)).trans h84
          have h85 : C97 85 = aI (k 0) 216 mw := (frC97 _ (by omega)).trans h85
          refine zr_if_ne (tgt := 70) hx hb ⟨by omega, by omega⟩ d_M_absent_65 (by decide) (fun c9 => absurd c9 (by decide)) (fun c99 => ?_)
          refine zr_iconst hx hb d_M_absent_68 ?_
          exact hret _ _ _ _ _ _ d_M_absent_69 hw rfl ⟨Or.inr (Or.inl ⟨by omega, hM, h84, h85⟩), fun j hj => by rw [frC97 _ (by omega)]⟩
abbrev rm_M_at : Room := { frames := 1, cells := 0, slots := 0, locals := 22 }
set_option maxHeartbeats 4000000 in
set_option maxRecDepth 100000 in
theorem c_M_at (l : Launch) (D : va_G) (k : Nat → ClassId) (N : Nat) (AD : Int → Nat) (C : Int → va_E) (sz : Nat) (th : Int) (pn : Int) (kc : Int) (tr : Int) (lc : Int) (fa : Int) (fb : Int) (mn : Int) (mr : Int) (ma : Int) (ab : Int) (bl : Int) (mz : Int → Int) (mw : Int → Int) (a : Int) (i : Int) (hN : 90 ≤ (N : Int)) (hM : C 82 = .inr (4, [.int (zI th), .int (zI pn), .ref (AD 83), .int (zI kc), .ref (AD 84), .ref (AD 85), .int (zI tr), .int (zI lc), .int (zI fa), .int (zI fb), .ref (AD 86), .ref (AD 87), .ref (AD 88), .int (zI mn), .int (zI mr), .int (zI ma), .long (zL ab), .long (zL bl)])) (h84 : C 84 = aI (k 0) 9 mz) (h85 : C 85 = aI (k 0) 216 mw) (hmz : ∀ i : Int, 0 ≤ i → i < 9 → 0 ≤ mz i ∧ mz i ≤ 24) (hkc : 0 ≤ kc ∧ kc ≤ 8) (ha : 0 ≤ a ∧ a < 9) (hi : -100 ≤ i ∧ i ≤ 100) : MI l y_M_at (Cond.code y_M_at b_M_at 3 (Option.some Jvm.ClassFile.FieldType.int) :: WS) rm_M_at D clW (tyW k) N AD C sz [.ref (AD 82), .int (zI a), .int (zI i)] (fun r C' => r = zI (atM mw (mz a) a i) ∧ C' = C) := by
  refine MI.start (cc := b_M_at) (maxL := 3) (rt := .int) (by decide) rfl (Nat.le_of_ble_eq_true rfl) ?_
  intro p e s m args below meth c Q ls hx hb hml hown hts hK hsz hw hl hret
  have hown : s.vm.findClass "RingMatchesModel" = some m.cls := hown
  have hl : lv_has ls 3 [(0, .ref (AD 82)), (1, .int (zI a)), (2, .int (zI i))] := hl
  have hA := wA_hi (N := N) (AD := AD) hsz
  obtain ⟨H, hH⟩ : ∃ H, H = s.heap := ⟨_, rfl⟩
  obtain ⟨locs, hlocs⟩ : ∃ z : List Loc, z = [] := ⟨_, rfl⟩
  have hw : WD D clW (wA N AD sz) s.heap H locs N AD C := by rw [hH, hlocs]; exact hw
  rw [← hlocs]
  suffices hgo : W p l e rm_M_at s m args below meth c H locs 0 0 Q (F0 m 0 ls []) by rw [hH] at hgo; exact hgo
  have hz1 := hmz a (by omega) (by omega)
  refine lv_iload_n hx hb d_M_at_0 rfl (lv_at hl 2 rfl) ?_
  refine zr_if_lt (tgt := 23) hx hb ⟨by omega, by omega⟩ d_M_at_1 (by decide) (fun c1 => ?_) (fun c1 => ?_)
  · refine zr_iconst hx hb d_M_at_23 ?_
    exact hret _ _ _ _ _ _ d_M_at_24 hw rfl ⟨by unfold atM; rw [if_neg (by omega)], rfl⟩
  · refine lv_iload_n hx hb d_M_at_4 rfl (lv_at hl 2 rfl) ?_
    refine lv_aload_n hx hb d_M_at_5 rfl (lv_at hl 0 rfl) ?_
    refine zr_get (v := .ref (AD 84)) hx hb hts iw_M hown hK hw 82 ⟨by omega, by omega⟩ hM rfl 4 (by decide) (hts _ wk_510) (fun _ h => h) rfl d_M_at_6 ?_
    refine lv_iload_n hx hb d_M_at_9 rfl (lv_at hl 1 rfl) ?_
    refine zr_iald hx hb hK hw 84 ⟨by omega, by omega⟩ 0 h84 rfl ⟨by omega, by omega⟩ (by decide) d_M_at_10 ?_
    refine zr_icmp_ge (tgt := 23) hx hb ⟨by omega, by omega⟩ ⟨by omega, by omega⟩ d_M_at_11 (by decide) (fun c2 => ?_) (fun c2 => ?_)
    · refine zr_iconst hx hb d_M_at_23 ?_
      exact hret _ _ _ _ _ _ d_M_at_24 hw rfl ⟨by unfold atM; rw [if_neg (by omega)], rfl⟩
    · refine lv_aload_n hx hb d_M_at_14 rfl (lv_at hl 0 rfl) ?_
      refine lv_iload_n hx hb d_M_at_15 rfl (lv_at hl 1 rfl) ?_
      refine lv_iload_n hx hb d_M_at_16 rfl (lv_at hl 2 rfl) ?_
      refine zr_callI (va_runV (As := [.int (zI a), .int (zI i)]) (rest := []) ⟨hx, hb, hml, hown, hts⟩ (c_M_widthOf l D k N AD C H.size th pn kc tr lc fa fb mn mr ma ab bl mw a i hN hM h85 ⟨by omega, by omega⟩) (cwV 2 hts (good_V wk_602 wk_604 wk_15 wk_31 wk_605) rfl rfl rfl (by decide +kernel) ⟨Nat.le_of_ble_eq_true rfl, Nat.le_of_ble_eq_true rfl⟩) (cPre_V hK hw 82 ⟨by omega, by omega⟩ hM rfl) rfl rfl hl.1 rfl (lv_room (Nat.le_of_ble_eq_true rfl)) d_M_at_17 ⟨Nat.le_of_ble_eq_true rfl, Nat.le_of_ble_eq_true rfl⟩) hw hA (fun r9 C4 H locs hq3 hw => ?_)
      obtain ⟨hr9, hCe⟩ := hq3
      rw [hCe] at hw; subst hr9
      refine lv_goto (tgt := 24) hx hb d_M_at_20 (by decide) ?_
      exact hret _ _ _ _ _ _ d_M_at_24 hw rfl ⟨by unfold atM; rw [if_pos (by omega)], rfl⟩
abbrev rm_M_core : Room := { frames := 2, cells := 0, slots := 0, locals := 44 }
set_option maxHeartbeats 4000000 in
set_option maxRecDepth 100000 in
theorem c_M_core (l : Launch) (D : va_G) (k : Nat → ClassId) (N : Nat) (AD : Int → Nat) (C : Int → va_E) (sz : Nat) (th : Int) (pn : Int) (kc : Int) (tr : Int) (lc : Int) (fa : Int) (fb : Int) (mn : Int) (mr : Int) (ma : Int) (ab : Int) (bl : Int) (mz : Int → Int) (mw : Int → Int) (a : Int) (b : Int) (s0 : Int) (hN : 90 ≤ (N : Int)) (hM : C 82 = .inr (4, [.int (zI th), .int (zI pn), .ref (AD 83), .int (zI kc), .ref (AD 84), .ref (AD 85), .int (zI tr), .int (zI lc), .int (zI fa), .int (zI fb), .ref (AD 86), .ref (AD 87), .ref (AD 88), .int (zI mn), .int (zI mr), .int (zI ma), .long (zL ab), .long (zL bl)])) (h84 : C 84 = aI (k 0) 9 mz) (h85 : C 85 = aI (k 0) 216 mw) (hmz : ∀ i : Int, 0 ≤ i → i < 9 → 0 ≤ mz i ∧ mz i ≤ 24) (hkc : 0 ≤ kc ∧ kc ≤ 8) (hok : ∀ i : Int, 0 ≤ i → i < kc → MOK mw i (mz i)) (ha : inI a) (hb9 : inI b) (hs9 : inI s0) : MI l y_M_core (Cond.code y_M_core b_M_core 9 (Option.some Jvm.ClassFile.FieldType.int) :: WS) rm_M_core D clW (tyW k) N AD C sz [.ref (AD 82), .int (zI a), .int (zI b), .int (zI s0)] (fun r C' => ((((0 ≤ a ∧ a < kc) ∧ (0 ≤ b ∧ b < kc)) ∧ kc < 8 ∧ ((¬ ((- mz b < s0 ∧ s0 < mz a) ∧ (max (mz a) (mz b + s0) - min 0 s0) ≤ 24) ∧ r = zI (-1) ∧ C' 82 = .inr (4, [.int (zI 0), .int (zI pn), .ref (AD 83), .int (zI kc), .ref (AD 84), .ref (AD 85), .int (zI tr), .int (zI lc), .int (zI fa), .int (zI fb), .ref (AD 86), .ref (AD 87), .ref (AD 88), .int (zI mn), .int (zI mr), .int (zI ma), .long (zL ab), .long (zL bl)]) ∧ C' 84 = aI (k 0) 9 mz ∧ C' 85 = aI (k 0) 216 mw) ∨ (((- mz b < s0 ∧ s0 < mz a) ∧ (max (mz a) (mz b + s0) - min 0 s0) ≤ 24) ∧ r = zI kc ∧ ∃ m1 : Int → Int, C' 82 = .inr (4, [.int (zI 0), .int (zI pn), .ref (AD 83), .int (zI (kc + 1)), .ref (AD 84), .ref (AD 85), .int (zI tr), .int (zI lc), .int (zI fa), .int (zI fb), .ref (AD 86), .ref (AD 87), .ref (AD 88), .int (zI mn), .int (zI mr), .int (zI ma), .long (zL ab), .long (zL bl)]) ∧ C' 84 = aI (k 0) 9 (zup mz kc (max (mz a) (mz b + s0) - min 0 s0)) ∧ C' 85 = aI (k 0) 216 m1 ∧ (∀ j : Int, 0 ≤ j → j < (max (mz a) (mz b + s0) - min 0 s0) → WM m1 kc j = corW (WM mw a) (mz a) (WM mw b) (mz b) s0 j) ∧ MOK m1 kc (max (mz a) (mz b + s0) - min 0 s0) ∧ ∀ j : Int, j < 24 * kc → m1 j = mw j))) ∨ (¬ ((0 ≤ a ∧ a < kc) ∧ (0 ≤ b ∧ b < kc)) ∧ C' 82 = .inr (4, [.int (zI 1), .int (zI pn), .ref (AD 83), .int (zI kc), .ref (AD 84), .ref (AD 85), .int (zI tr), .int (zI lc), .int (zI fa), .int (zI fb), .ref (AD 86), .ref (AD 87), .ref (AD 88), .int (zI mn), .int (zI mr), .int (zI ma), .long (zL ab), .long (zL bl)]) ∧ C' 84 = aI (k 0) 9 mz ∧ C' 85 = aI (k 0) 216 mw) ∨ (((0 ≤ a ∧ a < kc) ∧ (0 ≤ b ∧ b < kc)) ∧ ¬ kc < 8 ∧ C' 82 = .inr (4, [.int (zI 2), .int (zI pn), .ref (AD 83), .int (zI kc), .ref (AD 84), .ref (AD 85), .int (zI tr), .int (zI lc), .int (zI fa), .int (zI fb), .ref (AD 86), .ref (AD 87), .ref (AD 88), .int (zI mn), .int (zI mr), .int (zI ma), .long (zL ab), .long (zL bl)]) ∧ C' 84 = aI (k 0) 9 mz ∧ C' 85 = aI (k 0) 216 mw)) ∧ ∀ j : Int, ¬ (j = 82 ∨ (84 ≤ j ∧ j ≤ 85)) → C' j = C j) := by
  refine MI.start (cc := b_M_core) (maxL := 9) (rt := .int) (by decide) rfl (Nat.le_of_ble_eq_true rfl) ?_
  intro p e s m args below meth c Q ls hx hb hml hown hts hK hsz hw hl hret
  have hown : s.vm.findClass "RingMatchesModel" = some m.cls := hown
  have hl : lv_has ls 9 [(0, .ref (AD 82)), (1, .int (zI a)), (2, .int (zI b)), (3, .int (zI s0))] := hl
  have hA := wA_hi (N := N) (AD := AD) hsz
  obtain ⟨H, hH⟩ : ∃ H, H = s.heap := ⟨_, rfl⟩
  obtain ⟨locs, hlocs⟩ : ∃ z : List Loc, z = [] := ⟨_, rfl⟩
  have hw : WD D clW (wA N AD sz) s.heap H locs N AD C := by rw [hH, hlocs]; exact hw
  rw [← hlocs]
  suffices hgo : W p l e rm_M_core s m args below meth c H locs 0 0 Q (F0 m 0 ls []) by rw [hH] at hgo; exact hgo
  obtain ⟨C0, hC0⟩ : ∃ z : Int → va_E, z = C := ⟨_, rfl⟩
  refine lv_aload_n hx hb d_M_core_0 rfl (lv_at hl 0 rfl) ?_
  refine lv_aload_n hx hb d_M_core_1 rfl (lv_at hl 0 rfl) ?_
  refine lv_iload_n hx hb d_M_core_2 rfl (lv_at hl 1 rfl) ?_
  refine zr_callI (va_runV (As := [.int (zI a)]) (rest := [.ref (AD 82)]) ⟨hx, hb, hml, hown, hts⟩ (c_M_isSeries l D k N AD C H.size th pn kc tr lc fa fb mn mr ma ab bl a hN hM ⟨by omega, by omega⟩ (by omega)) (cwV 1 hts (good_V wk_598 wk_600 wk_14 wk_31 wk_601) rfl rfl rfl (by decide +kernel) ⟨Nat.le_of_ble_eq_true rfl, Nat.le_of_ble_eq_true rfl⟩) (cPre_V hK hw 82 ⟨by omega, by omega⟩ hM rfl) rfl rfl hl.1 rfl (lv_room (Nat.le_of_ble_eq_true rfl)) d_M_core_3 ⟨Nat.le_of_ble_eq_true rfl, Nat.le_of_ble_eq_true rfl⟩) hw hA (fun r9 C2 H locs hq1 hw => ?_)
  obtain ⟨hq1, hCe⟩ := hq1
  rw [hCe] at hw
  rcases hq1 with ⟨hr9, hq1⟩ | ⟨hr9, hq1⟩ <;> subst hr9
  · refine zr_if_eq (tgt := 21) hx hb ⟨by omega, by omega⟩ d_M_core_6 (by decide) (fun c9 => absurd c9 (by decide)) (fun c3 => ?_)
    refine lv_aload_n hx hb d_M_core_9 rfl (lv_at hl 0 rfl) ?_
    refine lv_iload_n hx hb d_M_core_10 rfl (lv_at hl 2 rfl) ?_
    refine zr_callI (va_runV (As := [.int (zI b)]) (rest := [.ref (AD 82)]) ⟨hx, hb, hml, hown, hts⟩ (c_M_isSeries l D k N AD C H.size th pn kc tr lc fa fb mn mr ma ab bl b hN hM ⟨by omega, by omega⟩ (by omega)) (cwV 1 hts (good_V wk_598 wk_600 wk_14 wk_31 wk_601) rfl rfl rfl (by decide +kernel) ⟨Nat.le_of_ble_eq_true rfl, Nat.le_of_ble_eq_true rfl⟩) (cPre_V hK hw 82 ⟨by omega, by omega⟩ hM rfl) rfl rfl hl.1 rfl (lv_room (Nat.le_of_ble_eq_true rfl)) d_M_core_11 ⟨Nat.le_of_ble_eq_true rfl, Nat.le_of_ble_eq_true rfl⟩) hw hA (fun r9 C5 H locs hq4 hw => ?_)
    obtain ⟨hq4, hCe⟩ := hq4
    rw [hCe] at hw
    rcases hq4 with ⟨hr9, hq4⟩ | ⟨hr9, hq4⟩ <;> subst hr9
    · refine zr_if_eq (tgt := 21) hx hb ⟨by omega, by omega⟩ d_M_core_14 (by decide) (fun c9 => absurd c9 (by decide)) (fun c6 => ?_)
      refine zr_iconst hx hb d_M_core_17 ?_
      refine lv_goto (tgt := 22) hx hb d_M_core_18 (by decide) ?_
      refine lv_aload_n hx hb d_M_core_22 rfl (lv_at hl 0 rfl) ?_
      refine zr_get (v := .int (zI kc)) hx hb hts iw_M hown hK hw 82 ⟨by omega, by omega⟩ hM rfl 3 (by decide) (hts _ wk_509) (fun _ h => h) rfl d_M_core_23 ?_
      refine zr_bipush hx hb d_M_core_26 (by decide) ?_
      refine zr_icmp_ge (tgt := 35) hx hb ⟨by omega, by omega⟩ ⟨by omega, by omega⟩ d_M_core_28 (by decide) (fun c7 => ?_) (fun c7 => ?_)
      · refine zr_iconst hx hb d_M_core_35 ?_
        refine zr_iconst hx hb d_M_core_36 ?_
        refine zr_callI (va_runV (As := [.int (zI 1), .int (zI 0), .int (zI 1)]) (rest := []) ⟨hx, hb, hml, hown, hts⟩ (c_M_goes l D k N AD C H.size th pn kc tr lc fa fb mn mr ma ab bl 1 0 1 2 0 hN hM (by decide) (by decide) (by decide) (by decide) (by decide)) (cwV 3 hts (good_V wk_578 wk_580 wk_11 wk_31 wk_581) rfl rfl rfl (by decide +kernel) ⟨Nat.le_of_ble_eq_true rfl, Nat.le_of_ble_eq_true rfl⟩) (cPre_V hK hw 82 ⟨by omega, by omega⟩ hM rfl) rfl rfl hl.1 rfl (lv_room (Nat.le_of_ble_eq_true rfl)) d_M_core_37 ⟨Nat.le_of_ble_eq_true rfl, Nat.le_of_ble_eq_true rfl⟩) hw hA (fun r9 C8 H locs hq9 hw => ?_)
        obtain ⟨hr9, hq9a, frC8⟩ := hq9
        subst hr9
        have hM : C8 82 = .inr (4, [.int (zI 2), .int (zI pn), .ref (AD 83), .int (zI kc), .ref (AD 84), .ref (AD 85), .int (zI tr), .int (zI lc), .int (zI fa), .int (zI fb), .ref (AD 86), .ref (AD 87), .ref (AD 88), .int (zI mn), .int (zI mr), .int (zI ma), .long (zL ab), .long (zL bl)]) := hq9a
        have h84 : C8 84 = aI (k 0) 9 mz := (frC8 _ (by omega)).trans h84
        have h85 : C8 85 = aI (k 0) 216 mw := (frC8 _ (by omega)).trans h85
        refine zr_if_ne (tgt := 45) hx hb ⟨by omega, by omega⟩ d_M_core_40 (by decide) (fun c9 => absurd c9 (by decide)) (fun c10 => ?_)
        refine zr_iconst hx hb d_M_core_43 ?_
        exact hret _ _ _ _ _ _ d_M_core_44 hw rfl ⟨Or.inr (Or.inr ⟨by omega, by omega, hM, h84, h85⟩), fun j hj => by rw [frC8 _ (by omega)]⟩
      · refine zr_iconst hx hb d_M_core_31 ?_
        refine lv_goto (tgt := 36) hx hb d_M_core_32 (by decide) ?_
        refine zr_iconst hx hb d_M_core_36 ?_
        refine zr_callI (va_runV (As := [.int (zI 1), .int (zI 1), .int (zI 1)]) (rest := []) ⟨hx, hb, hml, hown, hts⟩ (c_M_goes l D k N AD C H.size th pn kc tr lc fa fb mn mr ma ab bl 1 1 1 0 1 hN hM (by decide) (by decide) (by decide) (by decide) (by decide)) (cwV 3 hts (good_V wk_578 wk_580 wk_11 wk_31 wk_581) rfl rfl rfl (by decide +kernel) ⟨Nat.le_of_ble_eq_true rfl, Nat.le_of_ble_eq_true rfl⟩) (cPre_V hK hw 82 ⟨by omega, by omega⟩ hM rfl) rfl rfl hl.1 rfl (lv_room (Nat.le_of_ble_eq_true rfl)) d_M_core_37 ⟨Nat.le_of_ble_eq_true rfl, Nat.le_of_ble_eq_true rfl⟩) hw hA (fun r9 C11 H locs hq12 hw => ?_)
        obtain ⟨hr9, hq12a, frC11⟩ := hq12
        subst hr9
        have hM : C11 82 = .inr (4, [.int (zI 0), .int (zI pn), .ref (AD 83), .int (zI kc), .ref (AD 84), .ref (AD 85), .int (zI tr), .int (zI lc), .int (zI fa), .int (zI fb), .ref (AD 86), .ref (AD 87), .ref (AD 88), .int (zI mn), .int (zI mr), .int (zI ma), .long (zL ab), .long (zL bl)]) := hq12a
        have h84 : C11 84 = aI (k 0) 9 mz := (frC11 _ (by omega)).trans h84
        have h85 : C11 85 = aI (k 0) 216 mw := (frC11 _ (by omega)).trans h85
        refine zr_if_ne (tgt := 45) hx hb ⟨by omega, by omega⟩ d_M_core_40 (by decide) (fun c13 => ?_) (fun c9 => absurd c9 (by decide))
        have hz1 := hmz a (by omega) (by omega)
        have hz2 := hmz b (by omega) (by omega)
        have hoka := hok a (by omega) (by omega)
        have hokb := hok b (by omega) (by omega)
        refine lv_iload_n hx hb d_M_core_45 rfl (lv_at hl 3 rfl) ?_
        refine zr_iconst hx hb d_M_core_46 ?_
        refine lv_aload_n hx hb d_M_core_47 rfl (lv_at hl 0 rfl) ?_
        refine zr_get (v := .ref (AD 84)) hx hb hts iw_M hown hK hw 82 ⟨by omega, by omega⟩ hM rfl 4 (by decide) (hts _ wk_510) (fun _ h => h) rfl d_M_core_48 ?_
        refine lv_iload_n hx hb d_M_core_51 rfl (lv_at hl 2 rfl) ?_
        refine zr_iald hx hb hK hw 84 ⟨by omega, by omega⟩ 0 h84 rfl ⟨by omega, by omega⟩ (by decide) d_M_core_52 ?_
        refine zr_isub hx hb d_M_core_53 ?_
        refine zr_icmp_le (tgt := 67) hx hb ⟨by omega, by omega⟩ ⟨by omega, by omega⟩ d_M_core_54 (by decide) (fun c14 => ?_) (fun c14 => ?_)
        · refine zr_iconst hx hb d_M_core_67 ?_
          exact hret _ _ _ _ _ _ d_M_core_68 hw rfl ⟨Or.inl ⟨by omega, by omega, Or.inl ⟨by omega, rfl, hM, h84, h85⟩⟩, fun j hj => by rw [frC11 _ (by omega)]⟩
        · refine lv_iload_n hx hb d_M_core_57 rfl (lv_at hl 3 rfl) ?_
          refine lv_aload_n hx hb d_M_core_58 rfl (lv_at hl 0 rfl) ?_
          refine zr_get (v := .ref (AD 84)) hx hb hts iw_M hown hK hw 82 ⟨by omega, by omega⟩ hM rfl 4 (by decide) (hts _ wk_510) (fun _ h => h) rfl d_M_core_59 ?_
          refine lv_iload_n hx hb d_M_core_62 rfl (lv_at hl 1 rfl) ?_
          refine zr_iald hx hb hK hw 84 ⟨by omega, by omega⟩ 0 h84 rfl ⟨by omega, by omega⟩ (by decide) d_M_core_63 ?_
          refine zr_icmp_lt (tgt := 69) hx hb ⟨by omega, by omega⟩ ⟨by omega, by omega⟩ d_M_core_64 (by decide) (fun c15 => ?_) (fun c15 => ?_)
          · refine lv_iload_n hx hb d_M_core_69 rfl (lv_at hl 3 rfl) ?_
            refine zr_if_ge (tgt := 77) hx hb ⟨by omega, by omega⟩ d_M_core_70 (by decide) (fun c16 => ?_) (fun c16 => ?_)
            · refine zr_iconst hx hb d_M_core_77 ?_
              rw [show zI 0 = zI (min 0 s0) by rw [show min 0 s0 = 0 by omega]]
              refine lv_istore (lv' := [(4, .int (zI (min 0 s0))), (0, .ref (AD 82)), (1, .int (zI a)), (2, .int (zI b)), (3, .int (zI s0))]) hx hb d_M_core_78 hl (by decide) rfl (fun ls hl => ?_)
              refine lv_aload_n hx hb d_M_core_80 rfl (lv_at hl 1 rfl) ?_
              refine zr_get (v := .ref (AD 84)) hx hb hts iw_M hown hK hw 82 ⟨by omega, by omega⟩ hM rfl 4 (by decide) (hts _ wk_510) (fun _ h => h) rfl d_M_core_81 ?_
              refine lv_iload_n hx hb d_M_core_84 rfl (lv_at hl 3 rfl) ?_
              refine zr_iald hx hb hK hw 84 ⟨by omega, by omega⟩ 0 h84 rfl ⟨by omega, by omega⟩ (by decide) d_M_core_85 ?_
              refine lv_iload_n hx hb d_M_core_86 rfl (lv_at hl 4 rfl) ?_
              refine zr_iadd hx hb d_M_core_87 ?_
              refine lv_aload_n hx hb d_M_core_88 rfl (lv_at hl 1 rfl) ?_
              refine zr_get (v := .ref (AD 84)) hx hb hts iw_M hown hK hw 82 ⟨by omega, by omega⟩ hM rfl 4 (by decide) (hts _ wk_510) (fun _ h => h) rfl d_M_core_89 ?_
              refine lv_iload_n hx hb d_M_core_92 rfl (lv_at hl 2 rfl) ?_
              refine zr_iald hx hb hK hw 84 ⟨by omega, by omega⟩ 0 h84 rfl ⟨by omega, by omega⟩ (by decide) d_M_core_93 ?_
              refine zr_icmp_le (tgt := 108) hx hb ⟨by omega, by omega⟩ ⟨by omega, by omega⟩ d_M_core_94 (by decide) (fun c17 => ?_) (fun c17 => ?_)
              · refine lv_aload_n hx hb d_M_core_108 rfl (lv_at hl 1 rfl) ?_
                refine zr_get (v := .ref (AD 84)) hx hb hts iw_M hown hK hw 82 ⟨by omega, by omega⟩ hM rfl 4 (by decide) (hts _ wk_510) (fun _ h => h) rfl d_M_core_109 ?_
                refine lv_iload_n hx hb d_M_core_112 rfl (lv_at hl 2 rfl) ?_
                refine zr_iald hx hb hK hw 84 ⟨by omega, by omega⟩ 0 h84 rfl ⟨by omega, by omega⟩ (by decide) d_M_core_113 ?_
                rw [show zI (mz a) = zI (max (mz a) (mz b + s0)) by rw [show max (mz a) (mz b + s0) = (mz a) by omega]]
                refine lv_istore (lv' := [(5, .int (zI (max (mz a) (mz b + s0)))), (4, .int (zI (min 0 s0))), (0, .ref (AD 82)), (1, .int (zI a)), (2, .int (zI b)), (3, .int (zI s0))]) hx hb d_M_core_114 hl (by decide) rfl (fun ls hl => ?_)
                refine lv_iload hx hb d_M_core_116 (lv_at hl 0 rfl) ?_
                refine lv_iload hx hb d_M_core_118 (lv_at hl 1 rfl) ?_
                refine zr_isub hx hb d_M_core_120 ?_
                refine zr_bipush hx hb d_M_core_121 (by decide) ?_
                refine zr_icmp_le (tgt := 128) hx hb ⟨by omega, by omega⟩ ⟨by omega, by omega⟩ d_M_core_123 (by decide) (fun c18 => ?_) (fun c18 => ?_)
                · refine lv_aload_n hx hb d_M_core_128 rfl (lv_at hl 2 rfl) ?_
                  refine zr_get (v := .ref (AD 84)) hx hb hts iw_M hown hK hw 82 ⟨by omega, by omega⟩ hM rfl 4 (by decide) (hts _ wk_510) (fun _ h => h) rfl d_M_core_129 ?_
                  refine lv_aload_n hx hb d_M_core_132 rfl (lv_at hl 2 rfl) ?_
                  refine zr_get (v := .int (zI kc)) hx hb hts iw_M hown hK hw 82 ⟨by omega, by omega⟩ hM rfl 3 (by decide) (hts _ wk_509) (fun _ h => h) rfl d_M_core_133 ?_
                  refine lv_iload hx hb d_M_core_136 (lv_at hl 0 rfl) ?_
                  refine lv_iload hx hb d_M_core_138 (lv_at hl 1 rfl) ?_
                  refine zr_isub hx hb d_M_core_140 ?_
                  refine zr_iast hx hb hK hw 84 ⟨by omega, by omega⟩ 0 h84 rfl ⟨by omega, by omega⟩ (by decide) d_M_core_141 (fun H locs hw => ?_)
                  obtain ⟨C19, hC19⟩ : ∃ z : Int → va_E, z = zup C11 84 (aI (k 0) 9 (zup mz kc ((max (mz a) (mz b + s0)) - (min 0 s0)))) := ⟨_, rfl⟩
                  have hw : WD D clW (wA N AD sz) s.heap H locs N AD C19 := by rw [hC19]; exact hw
                  have frC19 : ∀ j : Int, j ≠ 84 → C19 j = C11 j := fun j h => by rw [hC19]; exact zup_n h
                  have hM : C19 82 = .inr (4, [.int (zI 0), .int (zI pn), .ref (AD 83), .int (zI kc), .ref (AD 84), .ref (AD 85), .int (zI tr), .int (zI lc), .int (zI fa), .int (zI fb), .ref (AD 86), .ref (AD 87), .ref (AD 88), .int (zI mn), .int (zI mr), .int (zI ma), .long (zL ab), .long (zL bl)]) := (frC19 _ (by omega)).trans hM
                  have h84 : C19 84 = aI (k 0) 9 (zup mz kc ((max (mz a) (mz b + s0)) - (min 0 s0))) := by rw [hC19]; exact zup_s
                  have h85 : C19 85 = aI (k 0) 216 mw := (frC19 _ (by omega)).trans h85
                  obtain ⟨mz1, hmz1⟩ : ∃ z : Int → Int, z = zup mz kc (max (mz a) (mz b + s0) - min 0 s0) := ⟨_, rfl⟩
                  rw [← hmz1] at h84
                  have ezn : ∀ j : Int, j ≠ kc → mz1 j = mz j := fun j hj => by rw [hmz1]; exact zup_n hj
                  have ez8 : mz1 kc = (max (mz a) (mz b + s0) - min 0 s0) := by rw [hmz1]; exact zup_s
                  have eza := ezn a (by omega)
                  have ezb := ezn b (by omega)
                  have hmz0 := hmz
                  have hmz : ∀ i : Int, 0 ≤ i → i < 9 → 0 ≤ mz1 i ∧ mz1 i ≤ 24 := fun i h1 h2 => by by_cases e : i = kc; rw [e, ez8]; omega; rw [ezn i e]; exact hmz0 i h1 h2
                  refine lv_iload hx hb d_M_core_142 (lv_at hl 1 rfl) ?_
                  refine lv_istore (lv' := [(6, .int (zI (min 0 s0))), (5, .int (zI (max (mz a) (mz b + s0)))), (4, .int (zI (min 0 s0))), (0, .ref (AD 82)), (1, .int (zI a)), (2, .int (zI b)), (3, .int (zI s0))]) hx hb d_M_core_144 hl (by decide) rfl (fun ls hl => ?_)
                  have lp : ∀ (n9 : Nat) (x : Int) (m1 : Int → Int) (C : Int → va_E) (H : Heap) (locs : List Loc) (ls : Array Slot), (min 0 s0 ≤ x ∧ x ≤ max (mz a) (mz b + s0)) → (∀ j : Int, 0 ≤ j → j < x - min 0 s0 → WM m1 kc j = corW (WM mw a) (mz a) (WM mw b) (mz b) s0 j ∧ (0 ≤ m1 (24 * kc + j) ∧ m1 (24 * kc + j) ≤ 500)) → (∀ j : Int, j < 24 * kc → m1 j = mw j) → (∀ j : Int, ¬ (j = 82 ∨ (84 ≤ j ∧ j ≤ 85)) → C j = C0 j) → (C 82 = .inr (4, [.int (zI 0), .int (zI pn), .ref (AD 83), .int (zI kc), .ref (AD 84), .ref (AD 85), .int (zI tr), .int (zI lc), .int (zI fa), .int (zI fb), .ref (AD 86), .ref (AD 87), .ref (AD 88), .int (zI mn), .int (zI mr), .int (zI ma), .long (zL ab), .long (zL bl)])) → (C 84 = aI (k 0) 9 mz1) → (C 85 = aI (k 0) 216 m1) → (max (mz a) (mz b + s0) - x).toNat < n9 → WD D clW (wA N AD sz) s.heap H locs N AD C → lv_has ls 9 [(0, .ref (AD 82)), (1, .int (zI a)), (2, .int (zI b)), (3, .int (zI s0)), (4, .int (zI (min 0 s0))), (5, .int (zI (max (mz a) (mz b + s0)))), (6, .int (zI x))] → W p l e rm_M_core s m args below meth c H locs 0 0 Q (F0 m 146 ls []) := by
                    intro n9
                    induction n9 with
                    | zero => intro x m1 C H locs ls hx1 hw1 hlo hfr hM h84 h85 hm hw hl; exact absurd hm (by omega)
                    | succ n9 ihlp =>
                      intro x m1 C H locs ls hx1 hw1 hlo hfr hM h84 h85 hm hw hl
                      have hoa1 : MOK m1 a (mz1 a) := fun j h1 h2 => by rw [hlo _ (by omega)]; exact hoka j h1 (by omega)
                      have hob1 : MOK m1 b (mz1 b) := fun j h1 h2 => by rw [hlo _ (by omega)]; exact hokb j h1 (by omega)
                      have eA : atM m1 (mz1 a) a x = atM mw (mz a) a x := by unfold atM; rw [eza]; split; rw [hlo _ (by omega)]; rfl
                      have eB : atM m1 (mz1 b) b (x - s0) = atM mw (mz b) b (x - s0) := by unfold atM; rw [ezb]; split; rw [hlo _ (by omega)]; rfl
                      have hA9 := atM_in hoka x
                      have hB9 := atM_in hokb (x - s0)
                      refine lv_iload hx hb d_M_core_146 (lv_at hl 6 rfl) ?_
                      refine lv_iload hx hb d_M_core_148 (lv_at hl 5 rfl) ?_
                      refine zr_icmp_ge (tgt := 224) hx hb ⟨by omega, by omega⟩ ⟨by omega, by omega⟩ d_M_core_150 (by decide) (fun c20 => ?_) (fun c20 => ?_)
                      · refine lv_aload_n hx hb d_M_core_224 rfl (lv_at hl 0 rfl) ?_
                        refine lv_dup hx hb d_M_core_225 rfl ?_
                        refine zr_get (v := .int (zI kc)) hx hb hts iw_M hown hK hw 82 ⟨by omega, by omega⟩ hM rfl 3 (by decide) (hts _ wk_509) (fun _ h => h) rfl d_M_core_226 ?_
                        refine zr_iconst hx hb d_M_core_229 ?_
                        refine zr_iadd hx hb d_M_core_230 ?_
                        refine zr_put (ty := .int) (v := .int (zI (kc + 1))) hx hb hts iw_M tyM tyM_ok nmM hown hK hw 82 ⟨by omega, by omega⟩ hM rfl 3 (by decide) (hts _ wk_509) (fun _ h => h) rfl (by decide +kernel) rfl rfl (Nat.le_of_ble_eq_true rfl) d_M_core_231 (fun H locs hw => ?_)
                        obtain ⟨C21, hC21⟩ : ∃ z : Int → va_E, z = zup C 82 (.inr (4, [.int (zI 0), .int (zI pn), .ref (AD 83), .int (zI (kc + 1)), .ref (AD 84), .ref (AD 85), .int (zI tr), .int (zI lc), .int (zI fa), .int (zI fb), .ref (AD 86), .ref (AD 87), .ref (AD 88), .int (zI mn), .int (zI mr), .int (zI ma), .long (zL ab), .long (zL bl)])) := ⟨_, rfl⟩
                        have hw : WD D clW (wA N AD sz) s.heap H locs N AD C21 := by rw [hC21]; exact hw
                        have frC21 : ∀ j : Int, j ≠ 82 → C21 j = C j := fun j h => by rw [hC21]; exact zup_n h
                        have hM : C21 82 = .inr (4, [.int (zI 0), .int (zI pn), .ref (AD 83), .int (zI (kc + 1)), .ref (AD 84), .ref (AD 85), .int (zI tr), .int (zI lc), .int (zI fa), .int (zI fb), .ref (AD 86), .ref (AD 87), .ref (AD 88), .int (zI mn), .int (zI mr), .int (zI ma), .long (zL ab), .long (zL bl)]) := by rw [hC21]; exact zup_s
                        have h84 : C21 84 = aI (k 0) 9 mz1 := (frC21 _ (by omega)).trans h84
                        have h85 : C21 85 = aI (k 0) 216 m1 := (frC21 _ (by omega)).trans h85
                        refine lv_aload_n hx hb d_M_core_234 rfl (lv_at hl 0 rfl) ?_
                        refine zr_get (v := .int (zI (kc + 1))) hx hb hts iw_M hown hK hw 82 ⟨by omega, by omega⟩ hM rfl 3 (by decide) (hts _ wk_509) (fun _ h => h) rfl d_M_core_235 ?_
                        refine zr_iconst hx hb d_M_core_238 ?_
                        refine zr_isub hx hb d_M_core_239 ?_
                        exact hret _ _ _ _ _ _ d_M_core_240 hw rfl ⟨Or.inl ⟨by omega, by omega, Or.inr ⟨by omega, by rw [show kc + 1 - 1 = kc by omega], m1, hM, by rw [h84, hmz1], h85, fun j h1 h2 => (hw1 j h1 (by omega)).1, fun j h1 h2 => (hw1 j h1 (by omega)).2, hlo⟩⟩, fun j hj => by rw [frC21 _ (by omega)]; exact (hfr j hj).trans (by rw [hC0])⟩
                      · refine lv_aload_n hx hb d_M_core_153 rfl (lv_at hl 0 rfl) ?_
                        refine lv_iload_n hx hb d_M_core_154 rfl (lv_at hl 1 rfl) ?_
                        refine lv_iload hx hb d_M_core_155 (lv_at hl 6 rfl) ?_
                        refine zr_callI (va_runV (As := [.int (zI a), .int (zI x)]) (rest := []) ⟨hx, hb, hml, hown, hts⟩ (c_M_at l D k N AD C H.size 0 pn kc tr lc fa fb mn mr ma ab bl mz1 m1 a x hN hM h84 h85 hmz (by omega) ⟨by omega, by omega⟩ ⟨by omega, by omega⟩) (cwV 2 hts (good_V wk_675 wk_677 wk_24 wk_31 wk_678) rfl rfl rfl (by decide +kernel) ⟨Nat.le_of_ble_eq_true rfl, Nat.le_of_ble_eq_true rfl⟩) (cPre_V hK hw 82 ⟨by omega, by omega⟩ hM rfl) rfl rfl hl.1 rfl (lv_room (Nat.le_of_ble_eq_true rfl)) d_M_core_157 ⟨Nat.le_of_ble_eq_true rfl, Nat.le_of_ble_eq_true rfl⟩) hw hA (fun r9 C23 H locs hq22 hw => ?_)
                        obtain ⟨hr9, hCe⟩ := hq22
                        rw [hCe] at hw; subst hr9
                        rw [eA]
                        refine lv_istore (lv' := [(7, .int (zI (atM mw (mz a) a x))), (0, .ref (AD 82)), (1, .int (zI a)), (2, .int (zI b)), (3, .int (zI s0)), (4, .int (zI (min 0 s0))), (5, .int (zI (max (mz a) (mz b + s0)))), (6, .int (zI x))]) hx hb d_M_core_160 hl (by decide) rfl (fun ls hl => ?_)
                        refine lv_aload_n hx hb d_M_core_162 rfl (lv_at hl 1 rfl) ?_
                        refine lv_iload_n hx hb d_M_core_163 rfl (lv_at hl 3 rfl) ?_
                        refine lv_iload hx hb d_M_core_164 (lv_at hl 7 rfl) ?_
                        refine lv_iload_n hx hb d_M_core_166 rfl (lv_at hl 4 rfl) ?_
                        refine zr_isub hx hb d_M_core_167 ?_
                        refine zr_callI (va_runV (As := [.int (zI b), .int (zI (x - s0))]) (rest := []) ⟨hx, hb, hml, hown, hts⟩ (c_M_at l D k N AD C H.size 0 pn kc tr lc fa fb mn mr ma ab bl mz1 m1 b (x - s0) hN hM h84 h85 hmz (by omega) ⟨by omega, by omega⟩ ⟨by omega, by omega⟩) (cwV 2 hts (good_V wk_675 wk_677 wk_24 wk_31 wk_678) rfl rfl rfl (by decide +kernel) ⟨Nat.le_of_ble_eq_true rfl, Nat.le_of_ble_eq_true rfl⟩) (cPre_V hK hw 82 ⟨by omega, by omega⟩ hM rfl) rfl rfl hl.1 rfl (lv_room (Nat.le_of_ble_eq_true rfl)) d_M_core_168 ⟨Nat.le_of_ble_eq_true rfl, Nat.le_of_ble_eq_true rfl⟩) hw hA (fun r9 C25 H locs hq24 hw => ?_)
                        obtain ⟨hr9, hCe⟩ := hq24
                        rw [hCe] at hw; subst hr9
                        rw [eB]
                        refine lv_istore (lv' := [(8, .int (zI (atM mw (mz b) b (x - s0)))), (7, .int (zI (atM mw (mz a) a x))), (0, .ref (AD 82)), (1, .int (zI a)), (2, .int (zI b)), (3, .int (zI s0)), (4, .int (zI (min 0 s0))), (5, .int (zI (max (mz a) (mz b + s0)))), (6, .int (zI x))]) hx hb d_M_core_171 hl (by decide) rfl (fun ls hl => ?_)
                        refine lv_aload_n hx hb d_M_core_173 rfl (lv_at hl 2 rfl) ?_
                        refine zr_get (v := .ref (AD 85)) hx hb hts iw_M hown hK hw 82 ⟨by omega, by omega⟩ hM rfl 5 (by decide) (hts _ wk_511) (fun _ h => h) rfl d_M_core_174 ?_
                        refine zr_bipush hx hb d_M_core_177 (by decide) ?_
                        refine lv_aload_n hx hb d_M_core_179 rfl (lv_at hl 2 rfl) ?_
                        refine zr_get (v := .int (zI kc)) hx hb hts iw_M hown hK hw 82 ⟨by omega, by omega⟩ hM rfl 3 (by decide) (hts _ wk_509) (fun _ h => h) rfl d_M_core_180 ?_
                        refine zr_imul hx hb d_M_core_183 ?_
                        refine lv_iload hx hb d_M_core_184 (lv_at hl 8 rfl) ?_
                        refine zr_iadd hx hb d_M_core_186 ?_
                        refine lv_iload hx hb d_M_core_187 (lv_at hl 6 rfl) ?_
                        refine zr_isub hx hb d_M_core_189 ?_
                        refine lv_iload hx hb d_M_core_190 (lv_at hl 1 rfl) ?_
                        refine zr_if_eq (tgt := 200) hx hb ⟨by omega, by omega⟩ d_M_core_192 (by decide) (fun c26 => ?_) (fun c26 => ?_)
                        · refine lv_iload hx hb d_M_core_200 (lv_at hl 1 rfl) ?_
                          refine lv_iload hx hb d_M_core_202 (lv_at hl 0 rfl) ?_
                          refine zr_iadd hx hb d_M_core_204 ?_
                          refine lv_goto (tgt := 217) hx hb d_M_core_205 (by decide) ?_
                          refine zr_iast hx hb hK hw 85 ⟨by omega, by omega⟩ 0 h85 rfl ⟨by omega, by omega⟩ (by decide) d_M_core_217 (fun H locs hw => ?_)
                          obtain ⟨C27, hC27⟩ : ∃ z : Int → va_E, z = zup C 85 (aI (k 0) 216 (zup m1 (((24 * kc) + x) - (min 0 s0)) ((atM mw (mz a) a x) + (atM mw (mz b) b (x - s0))))) := ⟨_, rfl⟩
                          have hw : WD D clW (wA N AD sz) s.heap H locs N AD C27 := by rw [hC27]; exact hw
                          have frC27 : ∀ j : Int, j ≠ 85 → C27 j = C j := fun j h => by rw [hC27]; exact zup_n h
                          have hM : C27 82 = .inr (4, [.int (zI 0), .int (zI pn), .ref (AD 83), .int (zI kc), .ref (AD 84), .ref (AD 85), .int (zI tr), .int (zI lc), .int (zI fa), .int (zI fb), .ref (AD 86), .ref (AD 87), .ref (AD 88), .int (zI mn), .int (zI mr), .int (zI ma), .long (zL ab), .long (zL bl)]) := (frC27 _ (by omega)).trans hM
                          have h84 : C27 84 = aI (k 0) 9 mz1 := (frC27 _ (by omega)).trans h84
                          have h85 : C27 85 = aI (k 0) 216 (zup m1 (((24 * kc) + x) - (min 0 s0)) ((atM mw (mz a) a x) + (atM mw (mz b) b (x - s0)))) := by rw [hC27]; exact zup_s
                          have hmn := mnM (v := ((atM mw (mz a) a x) + (atM mw (mz b) b (x - s0)))) hA9 hB9 (by rw [if_pos (by omega)])
                          have hw2 : ∀ j : Int, 0 ≤ j → j < x + 1 - min 0 s0 → WM (zup m1 (((24 * kc) + x) - (min 0 s0)) ((atM mw (mz a) a x) + (atM mw (mz b) b (x - s0)))) kc j = corW (WM mw a) (mz a) (WM mw b) (mz b) s0 j ∧ (0 ≤ (zup m1 (((24 * kc) + x) - (min 0 s0)) ((atM mw (mz a) a x) + (atM mw (mz b) b (x - s0)))) (24 * kc + j) ∧ (zup m1 (((24 * kc) + x) - (min 0 s0)) ((atM mw (mz a) a x) + (atM mw (mz b) b (x - s0)))) (24 * kc + j) ≤ 500) := by
                            intro j h1 h2
                            by_cases e : j = x - min 0 s0
                            · have e2 : 24 * kc + j = 24 * kc + x - min 0 s0 := by omega
                              unfold WM
                              rw [e2, zup_s]
                              refine ⟨?_, hmn.2⟩
                              rw [hmn.1, atM_d, atM_d]
                              unfold corW
                              rw [show min 0 s0 + j = x by omega]
                              rfl
                            · have e2 : 24 * kc + j ≠ 24 * kc + x - min 0 s0 := by omega
                              have h5 := hw1 j h1 (by omega)
                              unfold WM at *
                              rw [zup_n e2]; exact h5
                          refine lv_iinc (v := zI (x + 1)) (lv' := [(6, .int (zI (x + 1))), (8, .int (zI (atM mw (mz b) b (x - s0)))), (7, .int (zI (atM mw (mz a) a x))), (0, .ref (AD 82)), (1, .int (zI a)), (2, .int (zI b)), (3, .int (zI s0)), (4, .int (zI (min 0 s0))), (5, .int (zI (max (mz a) (mz b + s0))))]) hx hb d_M_core_218 hl (k := 8) rfl (zI_add _ _) (by decide) rfl (fun ls hl => ?_)
                          refine lv_goto (tgt := 146) hx hb d_M_core_221 (by decide) ?_
                          exact ihlp (x + 1) (zup m1 (((24 * kc) + x) - (min 0 s0)) ((atM mw (mz a) a x) + (atM mw (mz b) b (x - s0)))) C27 H locs ls (by omega) hw2 (fun j hj => by rw [zup_n (by omega)]; exact hlo j hj) (fun j hj => by rw [frC27 _ (by omega)]; exact hfr j hj) hM h84 h85 (by omega) hw (lv_sub hl [3, 4, 5, 6, 7, 8, 0] rfl)
                        · refine lv_iload hx hb d_M_core_195 (lv_at hl 0 rfl) ?_
                          refine zr_if_ne (tgt := 208) hx hb ⟨by omega, by omega⟩ d_M_core_197 (by decide) (fun c28 => ?_) (fun c28 => ?_)
                          · refine lv_iload hx hb d_M_core_208 (lv_at hl 1 rfl) ?_
                            refine lv_iload hx hb d_M_core_210 (lv_at hl 0 rfl) ?_
                            refine zr_iadd hx hb d_M_core_212 ?_
                            refine zr_iconst hx hb d_M_core_213 ?_
                            refine zr_iadd hx hb d_M_core_214 ?_
                            refine zr_iconst hx hb d_M_core_215 ?_
                            refine zr_idiv hx hb d_M_core_216 ⟨by omega, by omega⟩ ⟨by omega, by omega⟩ (by omega) (by omega) ?_
                            refine zr_iast hx hb hK hw 85 ⟨by omega, by omega⟩ 0 h85 rfl ⟨by omega, by omega⟩ (by decide) d_M_core_217 (fun H locs hw => ?_)
                            obtain ⟨C29, hC29⟩ : ∃ z : Int → va_E, z = zup C 85 (aI (k 0) 216 (zup m1 (((24 * kc) + x) - (min 0 s0)) ((((atM mw (mz a) a x) + (atM mw (mz b) b (x - s0))) + 1) / 2))) := ⟨_, rfl⟩
                            have hw : WD D clW (wA N AD sz) s.heap H locs N AD C29 := by rw [hC29]; exact hw
                            have frC29 : ∀ j : Int, j ≠ 85 → C29 j = C j := fun j h => by rw [hC29]; exact zup_n h
                            have hM : C29 82 = .inr (4, [.int (zI 0), .int (zI pn), .ref (AD 83), .int (zI kc), .ref (AD 84), .ref (AD 85), .int (zI tr), .int (zI lc), .int (zI fa), .int (zI fb), .ref (AD 86), .ref (AD 87), .ref (AD 88), .int (zI mn), .int (zI mr), .int (zI ma), .long (zL ab), .long (zL bl)]) := (frC29 _ (by omega)).trans hM
                            have h84 : C29 84 = aI (k 0) 9 mz1 := (frC29 _ (by omega)).trans h84
                            have h85 : C29 85 = aI (k 0) 216 (zup m1 (((24 * kc) + x) - (min 0 s0)) ((((atM mw (mz a) a x) + (atM mw (mz b) b (x - s0))) + 1) / 2)) := by rw [hC29]; exact zup_s
                            have hmn := mnM (v := ((((atM mw (mz a) a x) + (atM mw (mz b) b (x - s0))) + 1) / 2)) hA9 hB9 (by rw [if_neg (by omega)])
                            have hw2 : ∀ j : Int, 0 ≤ j → j < x + 1 - min 0 s0 → WM (zup m1 (((24 * kc) + x) - (min 0 s0)) ((((atM mw (mz a) a x) + (atM mw (mz b) b (x - s0))) + 1) / 2)) kc j = corW (WM mw a) (mz a) (WM mw b) (mz b) s0 j ∧ (0 ≤ (zup m1 (((24 * kc) + x) - (min 0 s0)) ((((atM mw (mz a) a x) + (atM mw (mz b) b (x - s0))) + 1) / 2)) (24 * kc + j) ∧ (zup m1 (((24 * kc) + x) - (min 0 s0)) ((((atM mw (mz a) a x) + (atM mw (mz b) b (x - s0))) + 1) / 2)) (24 * kc + j) ≤ 500) := by
                              intro j h1 h2
                              by_cases e : j = x - min 0 s0
                              · have e2 : 24 * kc + j = 24 * kc + x - min 0 s0 := by omega
                                unfold WM
                                rw [e2, zup_s]
                                refine ⟨?_, hmn.2⟩
                                rw [hmn.1, atM_d, atM_d]
                                unfold corW
                                rw [show min 0 s0 + j = x by omega]
                                rfl
                              · have e2 : 24 * kc + j ≠ 24 * kc + x - min 0 s0 := by omega
                                have h5 := hw1 j h1 (by omega)
                                unfold WM at *
                                rw [zup_n e2]; exact h5
                            refine lv_iinc (v := zI (x + 1)) (lv' := [(6, .int (zI (x + 1))), (8, .int (zI (atM mw (mz b) b (x - s0)))), (7, .int (zI (atM mw (mz a) a x))), (0, .ref (AD 82)), (1, .int (zI a)), (2, .int (zI b)), (3, .int (zI s0)), (4, .int (zI (min 0 s0))), (5, .int (zI (max (mz a) (mz b + s0))))]) hx hb d_M_core_218 hl (k := 8) rfl (zI_add _ _) (by decide) rfl (fun ls hl => ?_)
                            refine lv_goto (tgt := 146) hx hb d_M_core_221 (by decide) ?_
                            exact ihlp (x + 1) (zup m1 (((24 * kc) + x) - (min 0 s0)) ((((atM mw (mz a) a x) + (atM mw (mz b) b (x - s0))) + 1) / 2)) C29 H locs ls (by omega) hw2 (fun j hj => by rw [zup_n (by omega)]; exact hlo j hj) (fun j hj => by rw [frC29 _ (by omega)]; exact hfr j hj) hM h84 h85 (by omega) hw (lv_sub hl [3, 4, 5, 6, 7, 8, 0] rfl)
                          · refine lv_iload hx hb d_M_core_200 (lv_at hl 1 rfl) ?_
                            refine lv_iload hx hb d_M_core_202 (lv_at hl 0 rfl) ?_
                            refine zr_iadd hx hb d_M_core_204 ?_
                            refine lv_goto (tgt := 217) hx hb d_M_core_205 (by decide) ?_
                            refine zr_iast hx hb hK hw 85 ⟨by omega, by omega⟩ 0 h85 rfl ⟨by omega, by omega⟩ (by decide) d_M_core_217 (fun H locs hw => ?_)
                            obtain ⟨C30, hC30⟩ : ∃ z : Int → va_E, z = zup C 85 (aI (k 0) 216 (zup m1 (((24 * kc) + x) - (min 0 s0)) ((atM mw (mz a) a x) + (atM mw (mz b) b (x - s0))))) := ⟨_, rfl⟩
                            have hw : WD D clW (wA N AD sz) s.heap H locs N AD C30 := by rw [hC30]; exact hw
                            have frC30 : ∀ j : Int, j ≠ 85 → C30 j = C j := fun j h => by rw [hC30]; exact zup_n h
                            have hM : C30 82 = .inr (4, [.int (zI 0), .int (zI pn), .ref (AD 83), .int (zI kc), .ref (AD 84), .ref (AD 85), .int (zI tr), .int (zI lc), .int (zI fa), .int (zI fb), .ref (AD 86), .ref (AD 87), .ref (AD 88), .int (zI mn), .int (zI mr), .int (zI ma), .long (zL ab), .long (zL bl)]) := (frC30 _ (by omega)).trans hM
                            have h84 : C30 84 = aI (k 0) 9 mz1 := (frC30 _ (by omega)).trans h84
                            have h85 : C30 85 = aI (k 0) 216 (zup m1 (((24 * kc) + x) - (min 0 s0)) ((atM mw (mz a) a x) + (atM mw (mz b) b (x - s0)))) := by rw [hC30]; exact zup_s
                            have hmn := mnM (v := ((atM mw (mz a) a x) + (atM mw (mz b) b (x - s0)))) hA9 hB9 (by rw [if_pos (by omega)])
                            have hw2 : ∀ j : Int, 0 ≤ j → j < x + 1 - min 0 s0 → WM (zup m1 (((24 * kc) + x) - (min 0 s0)) ((atM mw (mz a) a x) + (atM mw (mz b) b (x - s0)))) kc j = corW (WM mw a) (mz a) (WM mw b) (mz b) s0 j ∧ (0 ≤ (zup m1 (((24 * kc) + x) - (min 0 s0)) ((atM mw (mz a) a x) + (atM mw (mz b) b (x - s0)))) (24 * kc + j) ∧ (zup m1 (((24 * kc) + x) - (min 0 s0)) ((atM mw (mz a) a x) + (atM mw (mz b) b (x - s0)))) (24 * kc + j) ≤ 500) := by
                              intro j h1 h2
                              by_cases e : j = x - min 0 s0
                              · have e2 : 24 * kc + j = 24 * kc + x - min 0 s0 := by omega
                                unfold WM
                                rw [e2, zup_s]
                                refine ⟨?_, hmn.2⟩
                                rw [hmn.1, atM_d, atM_d]
                                unfold corW
                                rw [show min 0 s0 + j = x by omega]
                                rfl
                              · have e2 : 24 * kc + j ≠ 24 * kc + x - min 0 s0 := by omega
                                have h5 := hw1 j h1 (by omega)
                                unfold WM at *
                                rw [zup_n e2]; exact h5
                            refine lv_iinc (v := zI (x + 1)) (lv' := [(6, .int (zI (x + 1))), (8, .int (zI (atM mw (mz b) b (x - s0)))), (7, .int (zI (atM mw (mz a) a x))), (0, .ref (AD 82)), (1, .int (zI a)), (2, .int (zI b)), (3, .int (zI s0)), (4, .int (zI (min 0 s0))), (5, .int (zI (max (mz a) (mz b + s0))))]) hx hb d_M_core_218 hl (k := 8) rfl (zI_add _ _) (by decide) rfl (fun ls hl => ?_)
                            refine lv_goto (tgt := 146) hx hb d_M_core_221 (by decide) ?_
                            exact ihlp (x + 1) (zup m1 (((24 * kc) + x) - (min 0 s0)) ((atM mw (mz a) a x) + (atM mw (mz b) b (x - s0)))) C30 H locs ls (by omega) hw2 (fun j hj => by rw [zup_n (by omega)]; exact hlo j hj) (fun j hj => by rw [frC30 _ (by omega)]; exact hfr j hj) hM h84 h85 (by omega) hw (lv_sub hl [3, 4, 5, 6, 7, 8, 0] rfl)
                  exact lp ((max (mz a) (mz b + s0) - (min 0 s0) : Int).toNat + 1) (min 0 s0) mw C19 H locs ls (by omega) (fun j h1 h2 => absurd h2 (by omega)) (fun j _ => rfl) (fun j hj => by rw [frC19 _ (by omega), frC11 _ (by omega), hC0]) hM h84 h85 (by omega) hw (lv_sub hl [3, 4, 5, 6, 2, 1, 0] rfl)
                · refine zr_iconst hx hb d_M_core_126 ?_
                  exact hret _ _ _ _ _ _ d_M_core_127 hw rfl ⟨Or.inl ⟨by omega, by omega, Or.inl ⟨by omega, rfl, hM, h84, h85⟩⟩, fun j hj => by rw [frC11 _ (by omega)]⟩
              · refine lv_aload_n hx hb d_M_core_97 rfl (lv_at hl 1 rfl) ?_
                refine zr_get (v := .ref (AD 84)) hx hb hts iw_M hown hK hw 82 ⟨by omega, by omega⟩ hM rfl 4 (by decide) (hts _ wk_510) (fun _ h => h) rfl d_M_core_98 ?_
                refine lv_iload_n hx hb d_M_core_101 rfl (lv_at hl 3 rfl) ?_
                refine zr_iald hx hb hK hw 84 ⟨by omega, by omega⟩ 0 h84 rfl ⟨by omega, by omega⟩ (by decide) d_M_core_102 ?_
                refine lv_iload_n hx hb d_M_core_103 rfl (lv_at hl 4 rfl) ?_
                refine zr_iadd hx hb d_M_core_104 ?_
                refine lv_goto (tgt := 114) hx hb d_M_core_105 (by decide) ?_
                rw [show zI ((mz b) + s0) = zI (max (mz a) (mz b + s0)) by rw [show max (mz a) (mz b + s0) = ((mz b) + s0) by omega]]
                refine lv_istore (lv' := [(5, .int (zI (max (mz a) (mz b + s0)))), (4, .int (zI (min 0 s0))), (0, .ref (AD 82)), (1, .int (zI a)), (2, .int (zI b)), (3, .int (zI s0))]) hx hb d_M_core_114 hl (by decide) rfl (fun ls hl => ?_)
                refine lv_iload hx hb d_M_core_116 (lv_at hl 0 rfl) ?_
                refine lv_iload hx hb d_M_core_118 (lv_at hl 1 rfl) ?_
                refine zr_isub hx hb d_M_core_120 ?_
                refine zr_bipush hx hb d_M_core_121 (by decide) ?_
                refine zr_icmp_le (tgt := 128) hx hb ⟨by omega, by omega⟩ ⟨by omega, by omega⟩ d_M_core_123 (by decide) (fun c31 => ?_) (fun c31 => ?_)
                · refine lv_aload_n hx hb d_M_core_128 rfl (lv_at hl 2 rfl) ?_
                  refine zr_get (v := .ref (AD 84)) hx hb hts iw_M hown hK hw 82 ⟨by omega, by omega⟩ hM rfl 4 (by decide) (hts _ wk_510) (fun _ h => h) rfl d_M_core_129 ?_
                  refine lv_aload_n hx hb d_M_core_132 rfl (lv_at hl 2 rfl) ?_
                  refine zr_get (v := .int (zI kc)) hx hb hts iw_M hown hK hw 82 ⟨by omega, by omega⟩ hM rfl 3 (by decide) (hts _ wk_509) (fun _ h => h) rfl d_M_core_133 ?_
                  refine lv_iload hx hb d_M_core_136 (lv_at hl 0 rfl) ?_
                  refine lv_iload hx hb d_M_core_138 (lv_at hl 1 rfl) ?_
                  refine zr_isub hx hb d_M_core_140 ?_
                  refine zr_iast hx hb hK hw 84 ⟨by omega, by omega⟩ 0 h84 rfl ⟨by omega, by omega⟩ (by decide) d_M_core_141 (fun H locs hw => ?_)
                  obtain ⟨C32, hC32⟩ : ∃ z : Int → va_E, z = zup C11 84 (aI (k 0) 9 (zup mz kc ((max (mz a) (mz b + s0)) - (min 0 s0)))) := ⟨_, rfl⟩
                  have hw : WD D clW (wA N AD sz) s.heap H locs N AD C32 := by rw [hC32]; exact hw
                  have frC32 : ∀ j : Int, j ≠ 84 → C32 j = C11 j := fun j h => by rw [hC32]; exact zup_n h
                  have hM : C32 82 = .inr (4, [.int (zI 0), .int (zI pn), .ref (AD 83), .int (zI kc), .ref (AD 84), .ref (AD 85), .int (zI tr), .int (zI lc), .int (zI fa), .int (zI fb), .ref (AD 86), .ref (AD 87), .ref (AD 88), .int (zI mn), .int (zI mr), .int (zI ma), .long (zL ab), .long (zL bl)]) := (frC32 _ (by omega)).trans hM
                  have h84 : C32 84 = aI (k 0) 9 (zup mz kc ((max (mz a) (mz b + s0)) - (min 0 s0))) := by rw [hC32]; exact zup_s
                  have h85 : C32 85 = aI (k 0) 216 mw := (frC32 _ (by omega)).trans h85
                  obtain ⟨mz1, hmz1⟩ : ∃ z : Int → Int, z = zup mz kc (max (mz a) (mz b + s0) - min 0 s0) := ⟨_, rfl⟩
                  rw [← hmz1] at h84
                  have ezn : ∀ j : Int, j ≠ kc → mz1 j = mz j := fun j hj => by rw [hmz1]; exact zup_n hj
                  have ez8 : mz1 kc = (max (mz a) (mz b + s0) - min 0 s0) := by rw [hmz1]; exact zup_s
                  have eza := ezn a (by omega)
                  have ezb := ezn b (by omega)
                  have hmz0 := hmz
                  have hmz : ∀ i : Int, 0 ≤ i → i < 9 → 0 ≤ mz1 i ∧ mz1 i ≤ 24 := fun i h1 h2 => by by_cases e : i = kc; rw [e, ez8]; omega; rw [ezn i e]; exact hmz0 i h1 h2
                  refine lv_iload hx hb d_M_core_142 (lv_at hl 1 rfl) ?_
                  refine lv_istore (lv' := [(6, .int (zI (min 0 s0))), (5, .int (zI (max (mz a) (mz b + s0)))), (4, .int (zI (min 0 s0))), (0, .ref (AD 82)), (1, .int (zI a)), (2, .int (zI b)), (3, .int (zI s0))]) hx hb d_M_core_144 hl (by decide) rfl (fun ls hl => ?_)
                  have lp : ∀ (n9 : Nat) (x : Int) (m1 : Int → Int) (C : Int → va_E) (H : Heap) (locs : List Loc) (ls : Array Slot), (min 0 s0 ≤ x ∧ x ≤ max (mz a) (mz b + s0)) → (∀ j : Int, 0 ≤ j → j < x - min 0 s0 → WM m1 kc j = corW (WM mw a) (mz a) (WM mw b) (mz b) s0 j ∧ (0 ≤ m1 (24 * kc + j) ∧ m1 (24 * kc + j) ≤ 500)) → (∀ j : Int, j < 24 * kc → m1 j = mw j) → (∀ j : Int, ¬ (j = 82 ∨ (84 ≤ j ∧ j ≤ 85)) → C j = C0 j) → (C 82 = .inr (4, [.int (zI 0), .int (zI pn), .ref (AD 83), .int (zI kc), .ref (AD 84), .ref (AD 85), .int (zI tr), .int (zI lc), .int (zI fa), .int (zI fb), .ref (AD 86), .ref (AD 87), .ref (AD 88), .int (zI mn), .int (zI mr), .int (zI ma), .long (zL ab), .long (zL bl)])) → (C 84 = aI (k 0) 9 mz1) → (C 85 = aI (k 0) 216 m1) → (max (mz a) (mz b + s0) - x).toNat < n9 → WD D clW (wA N AD sz) s.heap H locs N AD C → lv_has ls 9 [(0, .ref (AD 82)), (1, .int (zI a)), (2, .int (zI b)), (3, .int (zI s0)), (4, .int (zI (min 0 s0))), (5, .int (zI (max (mz a) (mz b + s0)))), (6, .int (zI x))] → W p l e rm_M_core s m args below meth c H locs 0 0 Q (F0 m 146 ls []) := by
                    intro n9
                    induction n9 with
                    | zero => intro x m1 C H locs ls hx1 hw1 hlo hfr hM h84 h85 hm hw hl; exact absurd hm (by omega)
                    | succ n9 ihlp =>
                      intro x m1 C H locs ls hx1 hw1 hlo hfr hM h84 h85 hm hw hl
                      have hoa1 : MOK m1 a (mz1 a) := fun j h1 h2 => by rw [hlo _ (by omega)]; exact hoka j h1 (by omega)
                      have hob1 : MOK m1 b (mz1 b) := fun j h1 h2 => by rw [hlo _ (by omega)]; exact hokb j h1 (by omega)
                      have eA : atM m1 (mz1 a) a x = atM mw (mz a) a x := by unfold atM; rw [eza]; split; rw [hlo _ (by omega)]; rfl
                      have eB : atM m1 (mz1 b) b (x - s0) = atM mw (mz b) b (x - s0) := by unfold atM; rw [ezb]; split; rw [hlo _ (by omega)]; rfl
                      have hA9 := atM_in hoka x
                      have hB9 := atM_in hokb (x - s0)
                      refine lv_iload hx hb d_M_core_146 (lv_at hl 6 rfl) ?_
                      refine lv_iload hx hb d_M_core_148 (lv_at hl 5 rfl) ?_
                      refine zr_icmp_ge (tgt := 224) hx hb ⟨by omega, by omega⟩ ⟨by omega, by omega⟩ d_M_core_150 (by decide) (fun c33 => ?_) (fun c33 => ?_)
                      · refine lv_aload_n hx hb d_M_core_224 rfl (lv_at hl 0 rfl) ?_
                        refine lv_dup hx hb d_M_core_225 rfl ?_
                        refine zr_get (v := .int (zI kc)) hx hb hts iw_M hown hK hw 82 ⟨by omega, by omega⟩ hM rfl 3 (by decide) (hts _ wk_509) (fun _ h => h) rfl d_M_core_226 ?_
                        refine zr_iconst hx hb d_M_core_229 ?_
                        refine zr_iadd hx hb d_M_core_230 ?_
                        refine zr_put (ty := .int) (v := .int (zI (kc + 1))) hx hb hts iw_M tyM tyM_ok nmM hown hK hw 82 ⟨by omega, by omega⟩ hM rfl 3 (by decide) (hts _ wk_509) (fun _ h => h) rfl (by decide +kernel) rfl rfl (Nat.le_of_ble_eq_true rfl) d_M_core_231 (fun H locs hw => ?_)
                        obtain ⟨C34, hC34⟩ : ∃ z : Int → va_E, z = zup C 82 (.inr (4, [.int (zI 0), .int (zI pn), .ref (AD 83), .int (zI (kc + 1)), .ref (AD 84), .ref (AD 85), .int (zI tr), .int (zI lc), .int (zI fa), .int (zI fb), .ref (AD 86), .ref (AD 87), .ref (AD 88), .int (zI mn), .int (zI mr), .int (zI ma), .long (zL ab), .long (zL bl)])) := ⟨_, rfl⟩
                        have hw : WD D clW (wA N AD sz) s.heap H locs N AD C34 := by rw [hC34]; exact hw
                        have frC34 : ∀ j : Int, j ≠ 82 → C34 j = C j := fun j h => by rw [hC34]; exact zup_n h
                        have hM : C34 82 = .inr (4, [.int (zI 0), .int (zI pn), .ref (AD 83), .int (zI (kc + 1)), .ref (AD 84), .ref (AD 85), .int (zI tr), .int (zI lc), .int (zI fa), .int (zI fb), .ref (AD 86), .ref (AD 87), .ref (AD 88), .int (zI mn), .int (zI mr), .int (zI ma), .long (zL ab), .long (zL bl)]) := by rw [hC34]; exact zup_s
                        have h84 : C34 84 = aI (k 0) 9 mz1 := (frC34 _ (by omega)).trans h84
                        have h85 : C34 85 = aI (k 0) 216 m1 := (frC34 _ (by omega)).trans h85
                        refine lv_aload_n hx hb d_M_core_234 rfl (lv_at hl 0 rfl) ?_
                        refine zr_get (v := .int (zI (kc + 1))) hx hb hts iw_M hown hK hw 82 ⟨by omega, by omega⟩ hM rfl 3 (by decide) (hts _ wk_509) (fun _ h => h) rfl d_M_core_235 ?_
                        refine zr_iconst hx hb d_M_core_238 ?_
                        refine zr_isub hx hb d_M_core_239 ?_
                        exact hret _ _ _ _ _ _ d_M_core_240 hw rfl ⟨Or.inl ⟨by omega, by omega, Or.inr ⟨by omega, by rw [show kc + 1 - 1 = kc by omega], m1, hM, by rw [h84, hmz1], h85, fun j h1 h2 => (hw1 j h1 (by omega)).1, fun j h1 h2 => (hw1 j h1 (by omega)).2, hlo⟩⟩, fun j hj => by rw [frC34 _ (by omega)]; exact (hfr j hj).trans (by rw [hC0])⟩
                      · refine lv_aload_n hx hb d_M_core_153 rfl (lv_at hl 0 rfl) ?_
                        refine lv_iload_n hx hb d_M_core_154 rfl (lv_at hl 1 rfl) ?_
                        refine lv_iload hx hb d_M_core_155 (lv_at hl 6 rfl) ?_
                        refine zr_callI (va_runV (As := [.int (zI a), .int (zI x)]) (rest := []) ⟨hx, hb, hml, hown, hts⟩ (c_M_at l D k N AD C H.size 0 pn kc tr lc fa fb mn mr ma ab bl mz1 m1 a x hN hM h84 h85 hmz (by omega) ⟨by omega, by omega⟩ ⟨by omega, by omega⟩) (cwV 2 hts (good_V wk_675 wk_677 wk_24 wk_31 wk_678) rfl rfl rfl (by decide +kernel) ⟨Nat.le_of_ble_eq_true rfl, Nat.le_of_ble_eq_true rfl⟩) (cPre_V hK hw 82 ⟨by omega, by omega⟩ hM rfl) rfl rfl hl.1 rfl (lv_room (Nat.le_of_ble_eq_true rfl)) d_M_core_157 ⟨Nat.le_of_ble_eq_true rfl, Nat.le_of_ble_eq_true rfl⟩) hw hA (fun r9 C36 H locs hq35 hw => ?_)
                        obtain ⟨hr9, hCe⟩ := hq35
                        rw [hCe] at hw; subst hr9
                        rw [eA]
                        refine lv_istore (lv' := [(7, .int (zI (atM mw (mz a) a x))), (0, .ref (AD 82)), (1, .int (zI a)), (2, .int (zI b)), (3, .int (zI s0)), (4, .int (zI (min 0 s0))), (5, .int (zI (max (mz a) (mz b + s0)))), (6, .int (zI x))]) hx hb d_M_core_160 hl (by decide) rfl (fun ls hl => ?_)
                        refine lv_aload_n hx hb d_M_core_162 rfl (lv_at hl 1 rfl) ?_
                        refine lv_iload_n hx hb d_M_core_163 rfl (lv_at hl 3 rfl) ?_
                        refine lv_iload hx hb d_M_core_164 (lv_at hl 7 rfl) ?_
                        refine lv_iload_n hx hb d_M_core_166 rfl (lv_at hl 4 rfl) ?_
                        refine zr_isub hx hb d_M_core_167 ?_
                        refine zr_callI (va_runV (As := [.int (zI b), .int (zI (x - s0))]) (rest := []) ⟨hx, hb, hml, hown, hts⟩ (c_M_at l D k N AD C H.size 0 pn kc tr lc fa fb mn mr ma ab bl mz1 m1 b (x - s0) hN hM h84 h85 hmz (by omega) ⟨by omega, by omega⟩ ⟨by omega, by omega⟩) (cwV 2 hts (good_V wk_675 wk_677 wk_24 wk_31 wk_678) rfl rfl rfl (by decide +kernel) ⟨Nat.le_of_ble_eq_true rfl, Nat.le_of_ble_eq_true rfl⟩) (cPre_V hK hw 82 ⟨by omega, by omega⟩ hM rfl) rfl rfl hl.1 rfl (lv_room (Nat.le_of_ble_eq_true rfl)) d_M_core_168 ⟨Nat.le_of_ble_eq_true rfl, Nat.le_of_ble_eq_true rfl⟩) hw hA (fun r9 C38 H locs hq37 hw => ?_)
                        obtain ⟨hr9, hCe⟩ := hq37
                        rw [hCe] at hw; subst hr9
                        rw [eB]
                        refine lv_istore (lv' := [(8, .int (zI (atM mw (mz b) b (x - s0)))), (7, .int (zI (atM mw (mz a) a x))), (0, .ref (AD 82)), (1, .int (zI a)), (2, .int (zI b)), (3, .int (zI s0)), (4, .int (zI (min 0 s0))), (5, .int (zI (max (mz a) (mz b + s0)))), (6, .int (zI x))]) hx hb d_M_core_171 hl (by decide) rfl (fun ls hl => ?_)
                        refine lv_aload_n hx hb d_M_core_173 rfl (lv_at hl 2 rfl) ?_
                        refine zr_get (v := .ref (AD 85)) hx hb hts iw_M hown hK hw 82 ⟨by omega, by omega⟩ hM rfl 5 (by decide) (hts _ wk_511) (fun _ h => h) rfl d_M_core_174 ?_
                        refine zr_bipush hx hb d_M_core_177 (by decide) ?_
                        refine lv_aload_n hx hb d_M_core_179 rfl (lv_at hl 2 rfl) ?_
                        refine zr_get (v := .int (zI kc)) hx hb hts iw_M hown hK hw 82 ⟨by omega, by omega⟩ hM rfl 3 (by decide) (hts _ wk_509) (fun _ h => h) rfl d_M_core_180 ?_
                        refine zr_imul hx hb d_M_core_183 ?_
                        refine lv_iload hx hb d_M_core_184 (lv_at hl 8 rfl) ?_
                        refine zr_iadd hx hb d_M_core_186 ?_
                        refine lv_iload hx hb d_M_core_187 (lv_at hl 6 rfl) ?_
                        refine zr_isub hx hb d_M_core_189 ?_
                        refine lv_iload hx hb d_M_core_190 (lv_at hl 1 rfl) ?_
                        refine zr_if_eq (tgt := 200) hx hb ⟨by omega, by omega⟩ d_M_core_192 (by decide) (fun c39 => ?_) (fun c39 => ?_)
                        · refine lv_iload hx hb d_M_core_200 (lv_at hl 1 rfl) ?_
                          refine lv_iload hx hb d_M_core_202 (lv_at hl 0 rfl) ?_
                          refine zr_iadd hx hb d_M_core_204 ?_
                          refine lv_goto (tgt := 217) hx hb d_M_core_205 (by decide) ?_
                          refine zr_iast hx hb hK hw 85 ⟨by omega, by omega⟩ 0 h85 rfl ⟨by omega, by omega⟩ (by decide) d_M_core_217 (fun H locs hw => ?_)
                          obtain ⟨C40, hC40⟩ : ∃ z : Int → va_E, z = zup C 85 (aI (k 0) 216 (zup m1 (((24 * kc) + x) - (min 0 s0)) ((atM mw (mz a) a x) + (atM mw (mz b) b (x - s0))))) := ⟨_, rfl⟩
                          have hw : WD D clW (wA N AD sz) s.heap H locs N AD C40 := by rw [hC40]; exact hw
                          have frC40 : ∀ j : Int, j ≠ 85 → C40 j = C j := fun j h => by rw [hC40]; exact zup_n h
                          have hM : C40 82 = .inr (4, [.int (zI 0), .int (zI pn), .ref (AD 83), .int (zI kc), .ref (AD 84), .ref (AD 85), .int (zI tr), .int (zI lc), .int (zI fa), .int (zI fb), .ref (AD 86), .ref (AD 87), .ref (AD 88), .int (zI mn), .int (zI mr), .int (zI ma), .long (zL ab), .long (zL bl)]) := (frC40 _ (by omega)).trans hM
                          have h84 : C40 84 = aI (k 0) 9 mz1 := (frC40 _ (by omega)).trans h84
                          have h85 : C40 85 = aI (k 0) 216 (zup m1 (((24 * kc) + x) - (min 0 s0)) ((atM mw (mz a) a x) + (atM mw (mz b) b (x - s0)))) := by rw [hC40]; exact zup_s
                          have hmn := mnM (v := ((atM mw (mz a) a x) + (atM mw (mz b) b (x - s0)))) hA9 hB9 (by rw [if_pos (by omega)])
                          have hw2 : ∀ j : Int, 0 ≤ j → j < x + 1 - min 0 s0 → WM (zup m1 (((24 * kc) + x) - (min 0 s0)) ((atM mw (mz a) a x) + (atM mw (mz b) b (x - s0)))) kc j = corW (WM mw a) (mz a) (WM mw b) (mz b) s0 j ∧ (0 ≤ (zup m1 (((24 * kc) + x) - (min 0 s0)) ((atM mw (mz a) a x) + (atM mw (mz b) b (x - s0)))) (24 * kc + j) ∧ (zup m1 (((24 * kc) + x) - (min 0 s0)) ((atM mw (mz a) a x) + (atM mw (mz b) b (x - s0)))) (24 * kc + j) ≤ 500) := by
                            intro j h1 h2
                            by_cases e : j = x - min 0 s0
                            · have e2 : 24 * kc + j = 24 * kc + x - min 0 s0 := by omega
                              unfold WM
                              rw [e2, zup_s]
                              refine ⟨?_, hmn.2⟩
                              rw [hmn.1, atM_d, atM_d]
                              unfold corW
                              rw [show min 0 s0 + j = x by omega]
                              rfl
                            · have e2 : 24 * kc + j ≠ 24 * kc + x - min 0 s0 := by omega
                              have h5 := hw1 j h1 (by omega)
                              unfold WM at *
                              rw [zup_n e2]; exact h5
                          refine lv_iinc (v := zI (x + 1)) (lv' := [(6, .int (zI (x + 1))), (8, .int (zI (atM mw (mz b) b (x - s0)))), (7, .int (zI (atM mw (mz a) a x))), (0, .ref (AD 82)), (1, .int (zI a)), (2, .int (zI b)), (3, .int (zI s0)), (4, .int (zI (min 0 s0))), (5, .int (zI (max (mz a) (mz b + s0))))]) hx hb d_M_core_218 hl (k := 8) rfl (zI_add _ _) (by decide) rfl (fun ls hl => ?_)
                          refine lv_goto (tgt := 146) hx hb d_M_core_221 (by decide) ?_
                          exact ihlp (x + 1) (zup m1 (((24 * kc) + x) - (min 0 s0)) ((atM mw (mz a) a x) + (atM mw (mz b) b (x - s0)))) C40 H locs ls (by omega) hw2 (fun j hj => by rw [zup_n (by omega)]; exact hlo j hj) (fun j hj => by rw [frC40 _ (by omega)]; exact hfr j hj) hM h84 h85 (by omega) hw (lv_sub hl [3, 4, 5, 6, 7, 8, 0] rfl)
                        · refine lv_iload hx hb d_M_core_195 (lv_at hl 0 rfl) ?_
                          refine zr_if_ne (tgt := 208) hx hb ⟨by omega, by omega⟩ d_M_core_197 (by decide) (fun c41 => ?_) (fun c41 => ?_)
                          · refine lv_iload hx hb d_M_core_208 (lv_at hl 1 rfl) ?_
                            refine lv_iload hx hb d_M_core_210 (lv_at hl 0 rfl) ?_
                            refine zr_iadd hx hb d_M_core_212 ?_
                            refine zr_iconst hx hb d_M_core_213 ?_
                            refine zr_iadd hx hb d_M_core_214 ?_
                            refine zr_iconst hx hb d_M_core_215 ?_
                            refine zr_idiv hx hb d_M_core_216 ⟨by omega, by omega⟩ ⟨by omega, by omega⟩ (by omega) (by omega) ?_
                            refine zr_iast hx hb hK hw 85 ⟨by omega, by omega⟩ 0 h85 rfl ⟨by omega, by omega⟩ (by decide) d_M_core_217 (fun H locs hw => ?_)
                            obtain ⟨C42, hC42⟩ : ∃ z : Int → va_E, z = zup C 85 (aI (k 0) 216 (zup m1 (((24 * kc) + x) - (min 0 s0)) ((((atM mw (mz a) a x) + (atM mw (mz b) b (x - s0))) + 1) / 2))) := ⟨_, rfl⟩
                            have hw : WD D clW (wA N AD sz) s.heap H locs N AD C42 := by rw [hC42]; exact hw
                            have frC42 : ∀ j : Int, j ≠ 85 → C42 j = C j := fun j h => by rw [hC42]; exact zup_n h
                            have hM : C42 82 = .inr (4, [.int (zI 0), .int (zI pn), .ref (AD 83), .int (zI kc), .ref (AD 84), .ref (AD 85), .int (zI tr), .int (zI lc), .int (zI fa), .int (zI fb), .ref (AD 86), .ref (AD 87), .ref (AD 88), .int (zI mn), .int (zI mr), .int (zI ma), .long (zL ab), .long (zL bl)]) := (frC42 _ (by omega)).trans hM
                            have h84 : C42 84 = aI (k 0) 9 mz1 := (frC42 _ (by omega)).trans h84
                            have h85 : C42 85 = aI (k 0) 216 (zup m1 (((24 * kc) + x) - (min 0 s0)) ((((atM mw (mz a) a x) + (atM mw (mz b) b (x - s0))) + 1) / 2)) := by rw [hC42]; exact zup_s
                            have hmn := mnM (v := ((((atM mw (mz a) a x) + (atM mw (mz b) b (x - s0))) + 1) / 2)) hA9 hB9 (by rw [if_neg (by omega)])
                            have hw2 : ∀ j : Int, 0 ≤ j → j < x + 1 - min 0 s0 → WM (zup m1 (((24 * kc) + x) - (min 0 s0)) ((((atM mw (mz a) a x) + (atM mw (mz b) b (x - s0))) + 1) / 2)) kc j = corW (WM mw a) (mz a) (WM mw b) (mz b) s0 j ∧ (0 ≤ (zup m1 (((24 * kc) + x) - (min 0 s0)) ((((atM mw (mz a) a x) + (atM mw (mz b) b (x - s0))) + 1) / 2)) (24 * kc + j) ∧ (zup m1 (((24 * kc) + x) - (min 0 s0)) ((((atM mw (mz a) a x) + (atM mw (mz b) b (x - s0))) + 1) / 2)) (24 * kc + j) ≤ 500) := by
                              intro j h1 h2
                              by_cases e : j = x - min 0 s0
                              · have e2 : 24 * kc + j = 24 * kc + x - min 0 s0 := by omega
                                unfold WM
                                rw [e2, zup_s]
                                refine ⟨?_, hmn.2⟩
                                rw [hmn.1, atM_d, atM_d]
                                unfold corW
                                rw [show min 0 s0 + j = x by omega]
                                rfl
                              · have e2 : 24 * kc + j ≠ 24 * kc + x - min 0 s0 := by omega
                                have h5 := hw1 j h1 (by omega)
                                unfold WM at *
                                rw [zup_n e2]; exact h5
                            refine lv_iinc (v := zI (x + 1)) (lv' := [(6, .int (zI (x + 1))), (8, .int (zI (atM mw (mz b) b (x - s0)))), (7, .int (zI (atM mw (mz a) a x))), (0, .ref (AD 82)), (1, .int (zI a)), (2, .int (zI b)), (3, .int (zI s0)), (4, .int (zI (min 0 s0))), (5, .int (zI (max (mz a) (mz b + s0))))]) hx hb d_M_core_218 hl (k := 8) rfl (zI_add _ _) (by decide) rfl (fun ls hl => ?_)
                            refine lv_goto (tgt := 146) hx hb d_M_core_221 (by decide) ?_
                            exact ihlp (x + 1) (zup m1 (((24 * kc) + x) - (min 0 s0)) ((((atM mw (mz a) a x) + (atM mw (mz b) b (x - s0))) + 1) / 2)) C42 H locs ls (by omega) hw2 (fun j hj => by rw [zup_n (by omega)]; exact hlo j hj) (fun j hj => by rw [frC42 _ (by omega)]; exact hfr j hj) hM h84 h85 (by omega) hw (lv_sub hl [3, 4, 5, 6, 7, 8, 0] rfl)
                          · refine lv_iload hx hb d_M_core_200 (lv_at hl 1 rfl) ?_
                            refine lv_iload hx hb d_M_core_202 (lv_at hl 0 rfl) ?_
                            refine zr_iadd hx hb d_M_core_204 ?_
                            refine lv_goto (tgt := 217) hx hb d_M_core_205 (by decide) ?_
                            refine zr_iast hx hb hK hw 85 ⟨by omega, by omega⟩ 0 h85 rfl ⟨by omega, by omega⟩ (by decide) d_M_core_217 (fun H locs hw => ?_)
                            obtain ⟨C43, hC43⟩ : ∃ z : Int → va_E, z = zup C 85 (aI (k 0) 216 (zup m1 (((24 * kc) + x) - (min 0 s0)) ((atM mw (mz a) a x) + (atM mw (mz b) b (x - s0))))) := ⟨_, rfl⟩
                            have hw : WD D clW (wA N AD sz) s.heap H locs N AD C43 := by rw [hC43]; exact hw
                            have frC43 : ∀ j : Int, j ≠ 85 → C43 j = C j := fun j h => by rw [hC43]; exact zup_n h
                            have hM : C43 82 = .inr (4, [.int (zI 0), .int (zI pn), .ref (AD 83), .int (zI kc), .ref (AD 84), .ref (AD 85), .int (zI tr), .int (zI lc), .int (zI fa), .int (zI fb), .ref (AD 86), .ref (AD 87), .ref (AD 88), .int (zI mn), .int (zI mr), .int (zI ma), .long (zL ab), .long (zL bl)]) := (frC43 _ (by omega)).trans hM
                            have h84 : C43 84 = aI (k 0) 9 mz1 := (frC43 _ (by omega)).trans h84
                            have h85 : C43 85 = aI (k 0) 216 (zup m1 (((24 * kc) + x) - (min 0 s0)) ((atM mw (mz a) a x) + (atM mw (mz b) b (x - s0)))) := by rw [hC43]; exact zup_s
                            have hmn := mnM (v := ((atM mw (mz a) a x) + (atM mw (mz b) b (x - s0)))) hA9 hB9 (by rw [if_pos (by omega)])
                            have hw2 : ∀ j : Int, 0 ≤ j → j < x + 1 - min 0 s0 → WM (zup m1 (((24 * kc) + x) - (min 0 s0)) ((atM mw (mz a) a x) + (atM mw (mz b) b (x - s0)))) kc j = corW (WM mw a) (mz a) (WM mw b) (mz b) s0 j ∧ (0 ≤ (zup m1 (((24 * kc) + x) - (min 0 s0)) ((atM mw (mz a) a x) + (atM mw (mz b) b (x - s0)))) (24 * kc + j) ∧ (zup m1 (((24 * kc) + x) - (min 0 s0)) ((atM mw (mz a) a x) + (atM mw (mz b) b (x - s0)))) (24 * kc + j) ≤ 500) := by
                              intro j h1 h2
                              by_cases e : j = x - min 0 s0
                              · have e2 : 24 * kc + j = 24 * kc + x - min 0 s0 := by omega
                                unfold WM
                                rw [e2, zup_s]
                                refine ⟨?_, hmn.2⟩
                                rw [hmn.1, atM_d, atM_d]
                                unfold corW
                                rw [show min 0 s0 + j = x by omega]
                                rfl
                              · have e2 : 24 * kc + j ≠ 24 * kc + x - min 0 s0 := by omega
                                have h5 := hw1 j h1 (by omega)
                                unfold WM at *
                                rw [zup_n e2]; exact h5
                            refine lv_iinc (v := zI (x + 1)) (lv' := [(6, .int (zI (x + 1))), (8, .int (zI (atM mw (mz b) b (x - s0)))), (7, .int (zI (atM mw (mz a) a x))), (0, .ref (AD 82)), (1, .int (zI a)), (2, .int (zI b)), (3, .int (zI s0)), (4, .int (zI (min 0 s0))), (5, .int (zI (max (mz a) (mz b + s0))))]) hx hb d_M_core_218 hl (k := 8) rfl (zI_add _ _) (by decide) rfl (fun ls hl => ?_)
                            refine lv_goto (tgt := 146) hx hb d_M_core_221 (by decide) ?_
                            exact ihlp (x + 1) (zup m1 (((24 * kc) + x) - (min 0 s0)) ((atM mw (mz a) a x) + (atM mw (mz b) b (x - s0)))) C43 H locs ls (by omega) hw2 (fun j hj => by rw [zup_n (by omega)]; exact hlo j hj) (fun j hj => by rw [frC43 _ (by omega)]; exact hfr j hj) hM h84 h85 (by omega) hw (lv_sub hl [3, 4, 5, 6, 7, 8, 0] rfl)
                  exact lp ((max (mz a) (mz b + s0) - (min 0 s0) : Int).toNat + 1) (min 0 s0) mw C32 H locs ls (by omega) (fun j h1 h2 => absurd h2 (by omega)) (fun j _ => rfl) (fun j hj => by rw [frC32 _ (by omega), frC11 _ (by omega), hC0]) hM h84 h85 (by omega) hw (lv_sub hl [3, 4, 5, 6, 2, 1, 0] rfl)
                · refine zr_iconst hx hb d_M_core_126 ?_
                  exact hret _ _ _ _ _ _ d_M_core_127 hw rfl ⟨Or.inl ⟨by omega, by omega, Or.inl ⟨by omega, rfl, hM, h84, h85⟩⟩, fun j hj => by rw [frC11 _ (by omega)]⟩
            · refine lv_iload_n hx hb d_M_core_73 rfl (lv_at hl 3 rfl) ?_
              refine lv_goto (tgt := 78) hx hb d_M_core_74 (by decide) ?_
              rw [show zI s0 = zI (min 0 s0) by rw [show min 0 s0 = s0 by omega]]
              refine lv_istore (lv' := [(4, .int (zI (min 0 s0))), (0, .ref (AD 82)), (1, .int (zI a)), (2, .int (zI b)), (3, .int (zI s0))]) hx hb d_M_core_78 hl (by decide) rfl (fun ls hl => ?_)
              refine lv_aload_n hx hb d_M_core_80 rfl (lv_at hl 1 rfl) ?_
              refine zr_get (v := .ref (AD 84)) hx hb hts iw_M hown hK hw 82 ⟨by omega, by omega⟩ hM rfl 4 (by decide) (hts _ wk_510) (fun _ h => h) rfl d_M_core_81 ?_
              refine lv_iload_n hx hb d_M_core_84 rfl (lv_at hl 3 rfl) ?_
              refine zr_iald hx hb hK hw 84 ⟨by omega, by omega⟩ 0 h84 rfl ⟨by omega, by omega⟩ (by decide) d_M_core_85 ?_
              refine lv_iload_n hx hb d_M_core_86 rfl (lv_at hl 4 rfl) ?_
              refine zr_iadd hx hb d_M_core_87 ?_
              refine lv_aload_n hx hb d_M_core_88 rfl (lv_at hl 1 rfl) ?_
              refine zr_get (v := .ref (AD 84)) hx hb hts iw_M hown hK hw 82 ⟨by omega, by omega⟩ hM rfl 4 (by decide) (hts _ wk_510) (fun _ h => h) rfl d_M_core_89 ?_
              refine lv_iload_n hx hb d_M_core_92 rfl (lv_at hl 2 rfl) ?_
              refine zr_iald hx hb hK hw 84 ⟨by omega, by omega⟩ 0 h84 rfl ⟨by omega, by omega⟩ (by decide) d_M_core_93 ?_
              refine zr_icmp_le (tgt := 108) hx hb ⟨by omega, by omega⟩ ⟨by omega, by omega⟩ d_M_core_94 (by decide) (fun c44 => ?_) (fun c44 => ?_)
              · refine lv_aload_n hx hb d_M_core_108 rfl (lv_at hl 1 rfl) ?_
                refine zr_get (v := .ref (AD 84)) hx hb hts iw_M hown hK hw 82 ⟨by omega, by omega⟩ hM rfl 4 (by decide) (hts _ wk_510) (fun _ h => h) rfl d_M_core_109 ?_
                refine lv_iload_n hx hb d_M_core_112 rfl (lv_at hl 2 rfl) ?_
                refine zr_iald hx hb hK hw 84 ⟨by omega, by omega⟩ 0 h84 rfl ⟨by omega, by omega⟩ (by decide) d_M_core_113 ?_
                rw [show zI (mz a) = zI (max (mz a) (mz b + s0)) by rw [show max (mz a) (mz b + s0) = (mz a) by omega]]
                refine lv_istore (lv' := [(5, .int (zI (max (mz a) (mz b + s0)))), (4, .int (zI (min 0 s0))), (0, .ref (AD 82)), (1, .int (zI a)), (2, .int (zI b)), (3, .int (zI s0))]) hx hb d_M_core_114 hl (by decide) rfl (fun ls hl => ?_)
                refine lv_iload hx hb d_M_core_116 (lv_at hl 0 rfl) ?_
                refine lv_iload hx hb d_M_core_118 (lv_at hl 1 rfl) ?_
                refine zr_isub hx hb d_M_core_120 ?_
                refine zr_bipush hx hb d_M_core_121 (by decide) ?_
                refine zr_icmp_le (tgt := 128) hx hb ⟨by omega, by omega⟩ ⟨by omega, by omega⟩ d_M_core_123 (by decide) (fun c45 => ?_) (fun c45 => ?_)
                · refine lv_aload_n hx hb d_M_core_128 rfl (lv_at hl 2 rfl) ?_
                  refine zr_get (v := .ref (AD 84)) hx hb hts iw_M hown hK hw 82 ⟨by omega, by omega⟩ hM rfl 4 (by decide) (hts _ wk_510) (fun _ h => h) rfl d_M_core_129 ?_
                  refine lv_aload_n hx hb d_M_core_132 rfl (lv_at hl 2 rfl) ?_
                  refine zr_get (v := .int (zI kc)) hx hb hts iw_M hown hK hw 82 ⟨by omega, by omega⟩ hM rfl 3 (by decide) (hts _ wk_509) (fun _ h => h) rfl d_M_core_133 ?_
                  refine lv_iload hx hb d_M_core_136 (lv_at hl 0 rfl) ?_
                  refine lv_iload hx hb d_M_core_138 (lv_at hl 1 rfl) ?_
                  refine zr_isub hx hb d_M_core_140 ?_
                  refine zr_iast hx hb hK hw 84 ⟨by omega, by omega⟩ 0 h84 rfl ⟨by omega, by omega⟩ (by decide) d_M_core_141 (fun H locs hw => ?_)
                  obtain ⟨C46, hC46⟩ : ∃ z : Int → va_E, z = zup C11 84 (aI (k 0) 9 (zup mz kc ((max (mz a) (mz b + s0)) - (min 0 s0)))) := ⟨_, rfl⟩
                  have hw : WD D clW (wA N AD sz) s.heap H locs N AD C46 := by rw [hC46]; exact hw
                  have frC46 : ∀ j : Int, j ≠ 84 → C46 j = C11 j := fun j h => by rw [hC46]; exact zup_n h
                  have hM : C46 82 = .inr (4, [.int (zI 0), .int (zI pn), .ref (AD 83), .int (zI kc), .ref (AD 84), .ref (AD 85), .int (zI tr), .int (zI lc), .int (zI fa), .int (zI fb), .ref (AD 86), .ref (AD 87), .ref (AD 88), .int (zI mn), .int (zI mr), .int (zI ma), .long (zL ab), .long (zL bl)]) := (frC46 _ (by omega)).trans hM
                  have h84 : C46 84 = aI (k 0) 9 (zup mz kc ((max (mz a) (mz b + s0)) - (min 0 s0))) := by rw [hC46]; exact zup_s
                  have h85 : C46 85 = aI (k 0) 216 mw := (frC46 _ (by omega)).trans h85
                  obtain ⟨mz1, hmz1⟩ : ∃ z : Int → Int, z = zup mz kc (max (mz a) (mz b + s0) - min 0 s0) := ⟨_, rfl⟩
                  rw [← hmz1] at h84
                  have ezn : ∀ j : Int, j ≠ kc → mz1 j = mz j := fun j hj => by rw [hmz1]; exact zup_n hj
                  have ez8 : mz1 kc = (max (mz a) (mz b + s0) - min 0 s0) := by rw [hmz1]; exact zup_s
                  have eza := ezn a (by omega)
                  have ezb := ezn b (by omega)
                  have hmz0 := hmz
                  have hmz : ∀ i : Int, 0 ≤ i → i < 9 → 0 ≤ mz1 i ∧ mz1 i ≤ 24 := fun i h1 h2 => by by_cases e : i = kc; rw [e, ez8]; omega; rw [ezn i e]; exact hmz0 i h1 h2
                  refine lv_iload hx hb d_M_core_142 (lv_at hl 1 rfl) ?_
                  refine lv_istore (lv' := [(6, .int (zI (min 0 s0))), (5, .int (zI (max (mz a) (mz b + s0)))), (4, .int (zI (min 0 s0))), (0, .ref (AD 82)), (1, .int (zI a)), (2, .int (zI b)), (3, .int (zI s0))]) hx hb d_M_core_144 hl (by decide) rfl (fun ls hl => ?_)
                  have lp : ∀ (n9 : Nat) (x : Int) (m1 : Int → Int) (C : Int → va_E) (H : Heap) (locs : List Loc) (ls : Array Slot), (min 0 s0 ≤ x ∧ x ≤ max (mz a) (mz b + s0)) → (∀ j : Int, 0 ≤ j → j < x - min 0 s0 → WM m1 kc j = corW (WM mw a) (mz a) (WM mw b) (mz b) s0 j ∧ (0 ≤ m1 (24 * kc + j) ∧ m1 (24 * kc + j) ≤ 500)) → (∀ j : Int, j < 24 * kc → m1 j = mw j) → (∀ j : Int, ¬ (j = 82 ∨ (84 ≤ j ∧ j ≤ 85)) → C j = C0 j) → (C 82 = .inr (4, [.int (zI 0), .int (zI pn), .ref (AD 83), .int (zI kc), .ref (AD 84), .ref (AD 85), .int (zI tr), .int (zI lc), .int (zI fa), .int (zI fb), .ref (AD 86), .ref (AD 87), .ref (AD 88), .int (zI mn), .int (zI mr), .int (zI ma), .long (zL ab), .long (zL bl)])) → (C 84 = aI (k 0) 9 mz1) → (C 85 = aI (k 0) 216 m1) → (max (mz a) (mz b + s0) - x).toNat < n9 → WD D clW (wA N AD sz) s.heap H locs N AD C → lv_has ls 9 [(0, .ref (AD 82)), (1, .int (zI a)), (2, .int (zI b)), (3, .int (zI s0)), (4, .int (zI (min 0 s0))), (5, .int (zI (max (mz a) (mz b + s0)))), (6, .int (zI x))] → W p l e rm_M_core s m args below meth c H locs 0 0 Q (F0 m 146 ls []) := by
                    intro n9
                    induction n9 with
                    | zero => intro x m1 C H locs ls hx1 hw1 hlo hfr hM h84 h85 hm hw hl; exact absurd hm (by omega)
                    | succ n9 ihlp =>
                      intro x m1 C H locs ls hx1 hw1 hlo hfr hM h84 h85 hm hw hl
                      have hoa1 : MOK m1 a (mz1 a) := fun j h1 h2 => by rw [hlo _ (by omega)]; exact hoka j h1 (by omega)
                      have hob1 : MOK m1 b (mz1 b) := fun j h1 h2 => by rw [hlo _ (by omega)]; exact hokb j h1 (by omega)
                      have eA : atM m1 (mz1 a) a x = atM mw (mz a) a x := by unfold atM; rw [eza]; split; rw [hlo _ (by omega)]; rfl
                      have eB : atM m1 (mz1 b) b (x - s0) = atM mw (mz b) b (x - s0) := by unfold atM; rw [ezb]; split; rw [hlo _ (by omega)]; rfl
                      have hA9 := atM_in hoka x
                      have hB9 := atM_in hokb (x - s0)
                      refine lv_iload hx hb d_M_core_146 (lv_at hl 6 rfl) ?_
                      refine lv_iload hx hb d_M_core_148 (lv_at hl 5 rfl) ?_
                      refine zr_icmp_ge (tgt := 224) hx hb ⟨by omega, by omega⟩ ⟨by omega, by omega⟩ d_M_core_150 (by decide) (fun c47 => ?_) (fun c47 => ?_)
                      · refine lv_aload_n hx hb d_M_core_224 rfl (lv_at hl 0 rfl) ?_
                        refine lv_dup hx hb d_M_core_225 rfl ?_
                        refine zr_get (v := .int (zI kc)) hx hb hts iw_M hown hK hw 82 ⟨by omega, by omega⟩ hM rfl 3 (by decide) (hts _ wk_509) (fun _ h => h) rfl d_M_core_226 ?_
                        refine zr_iconst hx hb d_M_core_229 ?_
                        refine zr_iadd hx hb d_M_core_230 ?_
                        refine zr_put (ty := .int) (v := .int (zI (kc + 1))) hx hb hts iw_M tyM tyM_ok nmM hown hK hw 82 ⟨by omega, by omega⟩ hM rfl 3 (by decide) (hts _ wk_509) (fun _ h => h) rfl (by decide +kernel) rfl rfl (Nat.le_of_ble_eq_true rfl) d_M_core_231 (fun H locs hw => ?_)
                        obtain ⟨C48, hC48⟩ : ∃ z : Int → va_E, z = zup C 82 (.inr (4, [.int (zI 0), .int (zI pn), .ref (AD 83), .int (zI (kc + 1)), .ref (AD 84), .ref (AD 85), .int (zI tr), .int (zI lc), .int (zI fa), .int (zI fb), .ref (AD 86), .ref (AD 87), .ref (AD 88), .int (zI mn), .int (zI mr), .int (zI ma), .long (zL ab), .long (zL bl)])) := ⟨_, rfl⟩
                        have hw : WD D clW (wA N AD sz) s.heap H locs N AD C48 := by rw [hC48]; exact hw
                        have frC48 : ∀ j : Int, j ≠ 82 → C48 j = C j := fun j h => by rw [hC48]; exact zup_n h
                        have hM : C48 82 = .inr (4, [.int (zI 0), .int (zI pn), .ref (AD 83), .int (zI (kc + 1)), .ref (AD 84), .ref (AD 85), .int (zI tr), .int (zI lc), .int (zI fa), .int (zI fb), .ref (AD 86), .ref (AD 87), .ref (AD 88), .int (zI mn), .int (zI mr), .int (zI ma), .long (zL ab), .long (zL bl)]) := by rw [hC48]; exact zup_s
                        have h84 : C48 84 = aI (k 0) 9 mz1 := (frC48 _ (by omega)).trans h84
                        have h85 : C48 85 = aI (k 0) 216 m1 := (frC48 _ (by omega)).trans h85
                        refine lv_aload_n hx hb d_M_core_234 rfl (lv_at hl 0 rfl) ?_
                        refine zr_get (v := .int (zI (kc + 1))) hx hb hts iw_M hown hK hw 82 ⟨by omega, by omega⟩ hM rfl 3 (by decide) (hts _ wk_509) (fun _ h => h) rfl d_M_core_235 ?_
                        refine zr_iconst hx hb d_M_core_238 ?_
                        refine zr_isub hx hb d_M_core_239 ?_
                        exact hret _ _ _ _ _ _ d_M_core_240 hw rfl ⟨Or.inl ⟨by omega, by omega, Or.inr ⟨by omega, by rw [show kc + 1 - 1 = kc by omega], m1, hM, by rw [h84, hmz1], h85, fun j h1 h2 => (hw1 j h1 (by omega)).1, fun j h1 h2 => (hw1 j h1 (by omega)).2, hlo⟩⟩, fun j hj => by rw [frC48 _ (by omega)]; exact (hfr j hj).trans (by rw [hC0])⟩
                      · refine lv_aload_n hx hb d_M_core_153 rfl (lv_at hl 0 rfl) ?_
                        refine lv_iload_n hx hb d_M_core_154 rfl (lv_at hl 1 rfl) ?_
                        refine lv_iload hx hb d_M_core_155 (lv_at hl 6 rfl) ?_
                        refine zr_callI (va_runV (As := [.int (zI a), .int (zI x)]) (rest := []) ⟨hx, hb, hml, hown, hts⟩ (c_M_at l D k N AD C H.size 0 pn kc tr lc fa fb mn mr ma ab bl mz1 m1 a x hN hM h84 h85 hmz (by omega) ⟨by omega, by omega⟩ ⟨by omega, by omega⟩) (cwV 2 hts (good_V wk_675 wk_677 wk_24 wk_31 wk_678) rfl rfl rfl (by decide +kernel) ⟨Nat.le_of_ble_eq_true rfl, Nat.le_of_ble_eq_true rfl⟩) (cPre_V hK hw 82 ⟨by omega, by omega⟩ hM rfl) rfl rfl hl.1 rfl (lv_room (Nat.le_of_ble_eq_true rfl)) d_M_core_157 ⟨Nat.le_of_ble_eq_true rfl, Nat.le_of_ble_eq_true rfl⟩) hw hA (fun r9 C50 H locs hq49 hw => ?_)
                        obtain ⟨hr9, hCe⟩ := hq49
                        rw [hCe] at hw; subst hr9
                        rw [eA]
                        refine lv_istore (lv' := [(7, .int (zI (atM mw (mz a) a x))), (0, .ref (AD 82)), (1, .int (zI a)), (2, .int (zI b)), (3, .int (zI s0)), (4, .int (zI (min 0 s0))), (5, .int (zI (max (mz a) (mz b + s0)))), (6, .int (zI x))]) hx hb d_M_core_160 hl (by decide) rfl (fun ls hl => ?_)
                        refine lv_aload_n hx hb d_M_core_162 rfl (lv_at hl 1 rfl) ?_
                        refine lv_iload_n hx hb d_M_core_163 rfl (lv_at hl 3 rfl) ?_
                        refine lv_iload hx hb d_M_core_164 (lv_at hl 7 rfl) ?_
                        refine lv_iload_n hx hb d_M_core_166 rfl (lv_at hl 4 rfl) ?_
                        refine zr_isub hx hb d_M_core_167 ?_
                        refine zr_callI (va_runV (As := [.int (zI b), .int (zI (x - s0))]) (rest := []) ⟨hx, hb, hml, hown, hts⟩ (c_M_at l D k N AD C H.size 0 pn kc tr lc fa fb mn mr ma ab bl mz1 m1 b (x - s0) hN hM h84 h85 hmz (by omega) ⟨by omega, by omega⟩ ⟨by omega, by omega⟩) (cwV 2 hts (good_V wk_675 wk_677 wk_24 wk_31 wk_678) rfl rfl rfl (by decide +kernel) ⟨Nat.le_of_ble_eq_true rfl, Nat.le_of_ble_eq_true rfl⟩) (cPre_V hK hw 82 ⟨by omega, by omega⟩ hM rfl) rfl rfl hl.1 rfl (lv_room (Nat.le_of_ble_eq_true rfl)) d_M_core_168 ⟨Nat.le_of_ble_eq_true rfl, Nat.le_of_ble_eq_true rfl⟩) hw hA (fun r9 C52 H locs hq51 hw => ?_)
                        obtain ⟨hr9, hCe⟩ := hq51
                        rw [hCe] at hw; subst hr9
                        rw [eB]
                        refine lv_istore (lv' := [(8, .int (zI (atM mw (mz b) b (x - s0)))), (7, .int (zI (atM mw (mz a) a x))), (0, .ref (AD 82)), (1, .int (zI a)), (2, .int (zI b)), (3, .int (zI s0)), (4, .int (zI (min 0 s0))), (5, .int (zI (max (mz a) (mz b + s0)))), (6, .int (zI x))]) hx hb d_M_core_171 hl (by decide) rfl (fun ls hl => ?_)
                        refine lv_aload_n hx hb d_M_core_173 rfl (lv_at hl 2 rfl) ?_
                        refine zr_get (v := .ref (AD 85)) hx hb hts iw_M hown hK hw 82 ⟨by omega, by omega⟩ hM rfl 5 (by decide) (hts _ wk_511) (fun _ h => h) rfl d_M_core_174 ?_
                        refine zr_bipush hx hb d_M_core_177 (by decide) ?_
                        refine lv_aload_n hx hb d_M_core_179 rfl (lv_at hl 2 rfl) ?_
                        refine zr_get (v := .int (zI kc)) hx hb hts iw_M hown hK hw 82 ⟨by omega, by omega⟩ hM rfl 3 (by decide) (hts _ wk_509) (fun _ h => h) rfl d_M_core_180 ?_
                        refine zr_imul hx hb d_M_core_183 ?_
                        refine lv_iload hx hb d_M_core_184 (lv_at hl 8 rfl) ?_
                        refine zr_iadd hx hb d_M_core_186 ?_
                        refine lv_iload hx hb d_M_core_187 (lv_at hl 6 rfl) ?_
                        refine zr_isub hx hb d_M_core_189 ?_
                        refine lv_iload hx hb d_M_core_190 (lv_at hl 1 rfl) ?_
                        refine zr_if_eq (tgt := 200) hx hb ⟨by omega, by omega⟩ d_M_core_192 (by decide) (fun c53 => ?_) (fun c53 => ?_)
                        · refine lv_iload hx hb d_M_core_200 (lv_at hl 1 rfl) ?_
                          refine lv_iload hx hb d_M_core_202 (lv_at hl 0 rfl) ?_
                          refine zr_iadd hx hb d_M_core_204 ?_
                          refine lv_goto (tgt := 217) hx hb d_M_core_205 (by decide) ?_
                          refine zr_iast hx hb hK hw 85 ⟨by omega, by omega⟩ 0 h85 rfl ⟨by omega, by omega⟩ (by decide) d_M_core_217 (fun H locs hw => ?_)
                          obtain ⟨C54, hC54⟩ : ∃ z : Int → va_E, z = zup C 85 (aI (k 0) 216 (zup m1 (((24 * kc) + x) - (min 0 s0)) ((atM mw (mz a) a x) + (atM mw (mz b) b (x - s0))))) := ⟨_, rfl⟩
                          have hw : WD D clW (wA N AD sz) s.heap H locs N AD C54 := by rw [hC54]; exact hw
                          have frC54 : ∀ j : Int, j ≠ 85 → C54 j = C j := fun j h => by rw [hC54]; exact zup_n h
                          have hM : C54 82 = .inr (4, [.int (zI 0), .int (zI pn), .ref (AD 83), .int (zI kc), .ref (AD 84), .ref (AD 85), .int (zI tr), .int (zI lc), .int (zI fa), .int (zI fb), .ref (AD 86), .ref (AD 87), .ref (AD 88), .int (zI mn), .int (zI mr), .int (zI ma), .long (zL ab), .long (zL bl)]) := (frC54 _ (by omega)).trans hM
                          have h84 : C54 84 = aI (k 0) 9 mz1 := (frC54 _ (by omega)).trans h84
                          have h85 : C54 85 = aI (k 0) 216 (zup m1 (((24 * kc) + x) - (min 0 s0)) ((atM mw (mz a) a x) + (atM mw (mz b) b (x - s0)))) := by rw [hC54]; exact zup_s
                          have hmn := mnM (v := ((atM mw (mz a) a x) + (atM mw (mz b) b (x - s0)))) hA9 hB9 (by rw [if_pos (by omega)])
                          have hw2 : ∀ j : Int, 0 ≤ j → j < x + 1 - min 0 s0 → WM (zup m1 (((24 * kc) + x) - (min 0 s0)) ((atM mw (mz a) a x) + (atM mw (mz b) b (x - s0)))) kc j = corW (WM mw a) (mz a) (WM mw b) (mz b) s0 j ∧ (0 ≤ (zup m1 (((24 * kc) + x) - (min 0 s0)) ((atM mw (mz a) a x) + (atM mw (mz b) b (x - s0)))) (24 * kc + j) ∧ (zup m1 (((24 * kc) + x) - (min 0 s0)) ((atM mw (mz a) a x) + (atM mw (mz b) b (x - s0)))) (24 * kc + j) ≤ 500) := by
                            intro j h1 h2
                            by_cases e : j = x - min 0 s0
                            · have e2 : 24 * kc + j = 24 * kc + x - min 0 s0 := by omega
                              unfold WM
                              rw [e2, zup_s]
                              refine ⟨?_, hmn.2⟩
                              rw [hmn.1, atM_d, atM_d]
                              unfold corW
                              rw [show min 0 s0 + j = x by omega]
                              rfl
                            · have e2 : 24 * kc + j ≠ 24 * kc + x - min 0 s0 := by omega
                              have h5 := hw1 j h1 (by omega)
                              unfold WM at *
                              rw [zup_n e2]; exact h5
                          refine lv_iinc (v := zI (x + 1)) (lv' := [(6, .int (zI (x + 1))), (8, .int (zI (atM mw (mz b) b (x - s0)))), (7, .int (zI (atM mw (mz a) a x))), (0, .ref (AD 82)), (1, .int (zI a)), (2, .int (zI b)), (3, .int (zI s0)), (4, .int (zI (min 0 s0))), (5, .int (zI (max (mz a) (mz b + s0))))]) hx hb d_M_core_218 hl (k := 8) rfl (zI_add _ _) (by decide) rfl (fun ls hl => ?_)
                          refine lv_goto (tgt := 146) hx hb d_M_core_221 (by decide) ?_
                          exact ihlp (x + 1) (zup m1 (((24 * kc) + x) - (min 0 s0)) ((atM mw (mz a) a x) + (atM mw (mz b) b (x - s0)))) C54 H locs ls (by omega) hw2 (fun j hj => by rw [zup_n (by omega)]; exact hlo j hj) (fun j hj => by rw [frC54 _ (by omega)]; exact hfr j hj) hM h84 h85 (by omega) hw (lv_sub hl [3, 4, 5, 6, 7, 8, 0] rfl)
                        · refine lv_iload hx hb d_M_core_195 (lv_at hl 0 rfl) ?_
                          refine zr_if_ne (tgt := 208) hx hb ⟨by omega, by omega⟩ d_M_core_197 (by decide) (fun c55 => ?_) (fun c55 => ?_)
                          · refine lv_iload hx hb d_M_core_208 (lv_at hl 1 rfl) ?_
                            refine lv_iload hx hb d_M_core_210 (lv_at hl 0 rfl) ?_
                            refine zr_iadd hx hb d_M_core_212 ?_
                            refine zr_iconst hx hb d_M_core_213 ?_
                            refine zr_iadd hx hb d_M_core_214 ?_
                            refine zr_iconst hx hb d_M_core_215 ?_
                            refine zr_idiv hx hb d_M_core_216 ⟨by omega, by omega⟩ ⟨by omega, by omega⟩ (by omega) (by omega) ?_
                            refine zr_iast hx hb hK hw 85 ⟨by omega, by omega⟩ 0 h85 rfl ⟨by omega, by omega⟩ (by decide) d_M_core_217 (fun H locs hw => ?_)
                            obtain ⟨C56, hC56⟩ : ∃ z : Int → va_E, z = zup C 85 (aI (k 0) 216 (zup m1 (((24 * kc) + x) - (min 0 s0)) ((((atM mw (mz a) a x) + (atM mw (mz b) b (x - s0))) + 1) / 2))) := ⟨_, rfl⟩
                            have hw : WD D clW (wA N AD sz) s.heap H locs N AD C56 := by rw [hC56]; exact hw
                            have frC56 : ∀ j : Int, j ≠ 85 → C56 j = C j := fun j h => by rw [hC56]; exact zup_n h
                            have hM : C56 82 = .inr (4, [.int (zI 0), .int (zI pn), .ref (AD 83), .int (zI kc), .ref (AD 84), .ref (AD 85), .int (zI tr), .int (zI lc), .int (zI fa), .int (zI fb), .ref (AD 86), .ref (AD 87), .ref (AD 88), .int (zI mn), .int (zI mr), .int (zI ma), .long (zL ab), .long (zL bl)]) := (frC56 _ (by omega)).trans hM
                            have h84 : C56 84 = aI (k 0) 9 mz1 := (frC56 _ (by omega)).trans h84
                            have h85 : C56 85 = aI (k 0) 216 (zup m1 (((24 * kc) + x) - (min 0 s0)) ((((atM mw (mz a) a x) + (atM mw (mz b) b (x - s0))) + 1) / 2)) := by rw [hC56]; exact zup_s
                            have hmn := mnM (v := ((((atM mw (mz a) a x) + (atM mw (mz b) b (x - s0))) + 1) / 2)) hA9 hB9 (by rw [if_neg (by omega)])
                            have hw2 : ∀ j : Int, 0 ≤ j → j < x + 1 - min 0 s0 → WM (zup m1 (((24 * kc) + x) - (min 0 s0)) ((((atM mw (mz a) a x) + (atM mw (mz b) b (x - s0))) + 1) / 2)) kc j = corW (WM mw a) (mz a) (WM mw b) (mz b) s0 j ∧ (0 ≤ (zup m1 (((24 * kc) + x) - (min 0 s0)) ((((atM mw (mz a) a x) + (atM mw (mz b) b (x - s0))) + 1) / 2)) (24 * kc + j) ∧ (zup m1 (((24 * kc) + x) - (min 0 s0)) ((((atM mw (mz a) a x) + (atM mw (mz b) b (x - s0))) + 1) / 2)) (24 * kc + j) ≤ 500) := by
                              intro j h1 h2
                              by_cases e : j = x - min 0 s0
                              · have e2 : 24 * kc + j = 24 * kc + x - min 0 s0 := by omega
                                unfold WM
                                rw [e2, zup_s]
                                refine ⟨?_, hmn.2⟩
                                rw [hmn.1, atM_d, atM_d]
                                unfold corW
                                rw [show min 0 s0 + j = x by omega]
                                rfl
                              · have e2 : 24 * kc + j ≠ 24 * kc + x - min 0 s0 := by omega
                                have h5 := hw1 j h1 (by omega)
                                unfold WM at *
                                rw [zup_n e2]; exact h5
                            refine lv_iinc (v := zI (x + 1)) (lv' := [(6, .int (zI (x + 1))), (8, .int (zI (atM mw (mz b) b (x - s0)))), (7, .int (zI (atM mw (mz a) a x))), (0, .ref (AD 82)), (1, .int (zI a)), (2, .int (zI b)), (3, .int (zI s0)), (4, .int (zI (min 0 s0))), (5, .int (zI (max (mz a) (mz b + s0))))]) hx hb d_M_core_218 hl (k := 8) rfl (zI_add _ _) (by decide) rfl (fun ls hl => ?_)
                            refine lv_goto (tgt := 146) hx hb d_M_core_221 (by decide) ?_
                            exact ihlp (x + 1) (zup m1 (((24 * kc) + x) - (min 0 s0)) ((((atM mw (mz a) a x) + (atM mw (mz b) b (x - s0))) + 1) / 2)) C56 H locs ls (by omega) hw2 (fun j hj => by rw [zup_n (by omega)]; exact hlo j hj) (fun j hj => by rw [frC56 _ (by omega)]; exact hfr j hj) hM h84 h85 (by omega) hw (lv_sub hl [3, 4, 5, 6, 7, 8, 0] rfl)
                          · refine lv_iload hx hb d_M_core_200 (lv_at hl 1 rfl) ?_
                            refine lv_iload hx hb d_M_core_202 (lv_at hl 0 rfl) ?_
                            refine zr_iadd hx hb d_M_core_204 ?_
                            refine lv_goto (tgt := 217) hx hb d_M_core_205 (by decide) ?_
                            refine zr_iast hx hb hK hw 85 ⟨by omega, by omega⟩ 0 h85 rfl ⟨by omega, by omega⟩ (by decide) d_M_core_217 (fun H locs hw => ?_)
                            obtain ⟨C57, hC57⟩ : ∃ z : Int → va_E, z = zup C 85 (aI (k 0) 216 (zup m1 (((24 * kc) + x) - (min 0 s0)) ((atM mw (mz a) a x) + (atM mw (mz b) b (x - s0))))) := ⟨_, rfl⟩
                            have hw : WD D clW (wA N AD sz) s.heap H locs N AD C57 := by rw [hC57]; exact hw
                            have frC57 : ∀ j : Int, j ≠ 85 → C57 j = C j := fun j h => by rw [hC57]; exact zup_n h
                            have hM : C57 82 = .inr (4, [.int (zI 0), .int (zI pn), .ref (AD 83), .int (zI kc), .ref (AD 84), .ref (AD 85), .int (zI tr), .int (zI lc), .int (zI fa), .int (zI fb), .ref (AD 86), .ref (AD 87), .ref (AD 88), .int (zI mn), .int (zI mr), .int (zI ma), .long (zL ab), .long (zL bl)]) := (frC57 _ (by omega)).trans hM
                            have h84 : C57 84 = aI (k 0) 9 mz1 := (frC57 _ (by omega)).trans h84
                            have h85 : C57 85 = aI (k 0) 216 (zup m1 (((24 * kc) + x) - (min 0 s0)) ((atM mw (mz a) a x) + (atM mw (mz b) b (x - s0)))) := by rw [hC57]; exact zup_s
                            have hmn := mnM (v := ((atM mw (mz a) a x) + (atM mw (mz b) b (x - s0)))) hA9 hB9 (by rw [if_pos (by omega)])
                            have hw2 : ∀ j : Int, 0 ≤ j → j < x + 1 - min 0 s0 → WM (zup m1 (((24 * kc) + x) - (min 0 s0)) ((atM mw (mz a) a x) + (atM mw (mz b) b (x - s0)))) kc j = corW (WM mw a) (mz a) (WM mw b) (mz b) s0 j ∧ (0 ≤ (zup m1 (((24 * kc) + x) - (min 0 s0)) ((atM mw (mz a) a x) + (atM mw (mz b) b (x - s0)))) (24 * kc + j) ∧ (zup m1 (((24 * kc) + x) - (min 0 s0)) ((atM mw (mz a) a x) + (atM mw (mz b) b (x - s0)))) (24 * kc + j) ≤ 500) := by
                              intro j h1 h2
                              by_cases e : j = x - min 0 s0
                              · have e2 : 24 * kc + j = 24 * kc + x - min 0 s0 := by omega
                                unfold WM
                                rw [e2, zup_s]
                                refine ⟨?_, hmn.2⟩
                                rw [hmn.1, atM_d, atM_d]
                                unfold corW
                                rw [show min 0 s0 + j = x by omega]
                                rfl
                              · have e2 : 24 * kc + j ≠ 24 * kc + x - min 0 s0 := by omega
                                have h5 := hw1 j h1 (by omega)
                                unfold WM at *
                                rw [zup_n e2]; exact h5
                            refine lv_iinc (v := zI (x + 1)) (lv' := [(6, .int (zI (x + 1))), (8, .int (zI (atM mw (mz b) b (x - s0)))), (7, .int (zI (atM mw (mz a) a x))), (0, .ref (AD 82)), (1, .int (zI a)), (2, .int (zI b)), (3, .int (zI s0)), (4, .int (zI (min 0 s0))), (5, .int (zI (max (mz a) (mz b + s0))))]) hx hb d_M_core_218 hl (k := 8) rfl (zI_add _ _) (by decide) rfl (fun ls hl => ?_)
                            refine lv_goto (tgt := 146) hx hb d_M_core_221 (by decide) ?_
                            exact ihlp (x + 1) (zup m1 (((24 * kc) + x) - (min 0 s0)) ((atM mw (mz a) a x) + (atM mw (mz b) b (x - s0)))) C57 H locs ls (by omega) hw2 (fun j hj => by rw [zup_n (by omega)]; exact hlo j hj) (fun j hj => by rw [frC57 _ (by omega)]; exact hfr j hj) hM h84 h85 (by omega) hw (lv_sub hl [3, 4, 5, 6, 7, 8, 0] rfl)
                  exact lp ((max (mz a) (mz b + s0) - (min 0 s0) : Int).toNat + 1) (min 0 s0) mw C46 H locs ls (by omega) (fun j h1 h2 => absurd h2 (by omega)) (fun j _ => rfl) (fun j hj => by rw [frC46 _ (by omega), frC11 _ (by omega), hC0]) hM h84 h85 (by omega) hw (lv_sub hl [3, 4, 5, 6, 2, 1, 0] rfl)
                · refine zr_iconst hx hb d_M_core_126 ?_
                  exact hret _ _ _ _ _ _ d_M_core_127 hw rfl ⟨Or.inl ⟨by omega, by omega, Or.inl ⟨by omega, rfl, hM, h84, h85⟩⟩, fun j hj => by rw [frC11 _ (by omega)]⟩
              · refine lv_aload_n hx hb d_M_core_97 rfl (lv_at hl 1 rfl) ?_
                refine zr_get (v := .ref (AD 84)) hx hb hts iw_M hown hK hw 82 ⟨by omega, by omega⟩ hM rfl 4 (by decide) (hts _ wk_510) (fun _ h => h) rfl d_M_core_98 ?_
                refine lv_iload_n hx hb d_M_core_101 rfl (lv_at hl 3 rfl) ?_
                refine zr_iald hx hb hK hw 84 ⟨by omega, by omega⟩ 0 h84 rfl ⟨by omega, by omega⟩ (by decide) d_M_core_102 ?_
                refine lv_iload_n hx hb d_M_core_103 rfl (lv_at hl 4 rfl) ?_
                refine zr_iadd hx hb d_M_core_104 ?_
                refine lv_goto (tgt := 114) hx hb d_M_core_105 (by decide) ?_
                rw [show zI ((mz b) + s0) = zI (max (mz a) (mz b + s0)) by rw [show max (mz a) (mz b + s0) = ((mz b) + s0) by omega]]
                refine lv_istore (lv' := [(5, .int (zI (max (mz a) (mz b + s0)))), (4, .int (zI (min 0 s0))), (0, .ref (AD 82)), (1, .int (zI a)), (2, .int (zI b)), (3, .int (zI s0))]) hx hb d_M_core_114 hl (by decide) rfl (fun ls hl => ?_)
                refine lv_iload hx hb d_M_core_116 (lv_at hl 0 rfl) ?_
                refine lv_iload hx hb d_M_core_118 (lv_at hl 1 rfl) ?_
                refine zr_isub hx hb d_M_core_120 ?_
                refine zr_bipush hx hb d_M_core_121 (by decide) ?_
                refine zr_icmp_le (tgt := 128) hx hb ⟨by omega, by omega⟩ ⟨by omega, by omega⟩ d_M_core_123 (by decide) (fun c58 => ?_) (fun c58 => ?_)
                · refine lv_aload_n hx hb d_M_core_128 rfl (lv_at hl 2 rfl) ?_
                  refine zr_get (v := .ref (AD 84)) hx hb hts iw_M hown hK hw 82 ⟨by omega, by omega⟩ hM rfl 4 (by decide) (hts _ wk_510) (fun _ h => h) rfl d_M_core_129 ?_
                  refine lv_aload_n hx hb d_M_core_132 rfl (lv_at hl 2 rfl) ?_
                  refine zr_get (v := .int (zI kc)) hx hb hts iw_M hown hK hw 82 ⟨by omega, by omega⟩ hM rfl 3 (by decide) (hts _ wk_509) (fun _ h => h) rfl d_M_core_133 ?_
                  refine lv_iload hx hb d_M_core_136 (lv_at hl 0 rfl) ?_
                  refine lv_iload hx hb d_M_core_138 (lv_at hl 1 rfl) ?_
                  refine zr_isub hx hb d_M_core_140 ?_
                  refine zr_iast hx hb hK hw 84 ⟨by omega, by omega⟩ 0 h84 rfl ⟨by omega, by omega⟩ (by decide) d_M_core_141 (fun H locs hw => ?_)
                  obtain ⟨C59, hC59⟩ : ∃ z : Int → va_E, z = zup C11 84 (aI (k 0) 9 (zup mz kc ((max (mz a) (mz b + s0)) - (min 0 s0)))) := ⟨_, rfl⟩
                  have hw : WD D clW (wA N AD sz) s.heap H locs N AD C59 := by rw [hC59]; exact hw
                  have frC59 : ∀ j : Int, j ≠ 84 → C59 j = C11 j := fun j h => by rw [hC59]; exact zup_n h
                  have hM : C59 82 = .inr (4, [.int (zI 0), .int (zI pn), .ref (AD 83), .int (zI kc), .ref (AD 84), .ref (AD 85), .int (zI tr), .int (zI lc), .int (zI fa), .int (zI fb), .ref (AD 86), .ref (AD 87), .ref (AD 88), .int (zI mn), .int (zI mr), .int (zI ma), .long (zL ab), .long (zL bl)]) := (frC59 _ (by omega)).trans hM
                  have h84 : C59 84 = aI (k 0) 9 (zup mz kc ((max (mz a) (mz b + s0)) - (min 0 s0))) := by rw [hC59]; exact zup_s
                  have h85 : C59 85 = aI (k 0) 216 mw := (frC59 _ (by omega)).trans h85
                  obtain ⟨mz1, hmz1⟩ : ∃ z : Int → Int, z = zup mz kc (max (mz a) (mz b + s0) - min 0 s0) := ⟨_, rfl⟩
                  rw [← hmz1] at h84
                  have ezn : ∀ j : Int, j ≠ kc → mz1 j = mz j := fun j hj => by rw [hmz1]; exact zup_n hj
                  have ez8 : mz1 kc = (max (mz a) (mz b + s0) - min 0 s0) := by rw [hmz1]; exact zup_s
                  have eza := ezn a (by omega)
                  have ezb := ezn b (by omega)
                  have hmz0 := hmz
                  have hmz : ∀ i : Int, 0 ≤ i → i < 9 → 0 ≤ mz1 i ∧ mz1 i ≤ 24 := fun i h1 h2 => by by_cases e : i = kc; rw [e, ez8]; omega; rw [ezn i e]; exact hmz0 i h1 h2
                  refine lv_iload hx hb d_M_core_142 (lv_at hl 1 rfl) ?_
                  refine lv_istore (lv' := [(6, .int (zI (min 0 s0))), (5, .int (zI (max (mz a) (mz b + s0)))), (4, .int (zI (min 0 s0))), (0, .ref (AD 82)), (1, .int (zI a)), (2, .int (zI b)), (3, .int (zI s0))]) hx hb d_M_core_144 hl (by decide) rfl (fun ls hl => ?_)
                  have lp : ∀ (n9 : Nat) (x : Int) (m1 : Int → Int) (C : Int → va_E) (H : Heap) (locs : List Loc) (ls : Array Slot), (min 0 s0 ≤ x ∧ x ≤ max (mz a) (mz b + s0)) → (∀ j : Int, 0 ≤ j → j < x - min 0 s0 → WM m1 kc j = corW (WM mw a) (mz a) (WM mw b) (mz b) s0 j ∧ (0 ≤ m1 (24 * kc + j) ∧ m1 (24 * kc + j) ≤ 500)) → (∀ j : Int, j < 24 * kc → m1 j = mw j) → (∀ j : Int, ¬ (j = 82 ∨ (84 ≤ j ∧ j ≤ 85)) → C j = C0 j) → (C 82 = .inr (4, [.int (zI 0), .int (zI pn), .ref (AD 83), .int (zI kc), .ref (AD 84), .ref (AD 85), .int (zI tr), .int (zI lc), .int (zI fa), .int (zI fb), .ref (AD 86), .ref (AD 87), .ref (AD 88), .int (zI mn), .int (zI mr), .int (zI ma), .long (zL ab), .long (zL bl)])) → (C 84 = aI (k 0) 9 mz1) → (C 85 = aI (k 0) 216 m1) → (max (mz a) (mz b + s0) - x).toNat < n9 → WD D clW (wA N AD sz) s.heap H locs N AD C → lv_has ls 9 [(0, .ref (AD 82)), (1, .int (zI a)), (2, .int (zI b)), (3, .int (zI s0)), (4, .int (zI (min 0 s0))), (5, .int (zI (max (mz a) (mz b + s0)))), (6, .int (zI x))] → W p l e rm_M_core s m args below meth c H locs 0 0 Q (F0 m 146 ls []) := by
                    intro n9
                    induction n9 with
                    | zero => intro x m1 C H locs ls hx1 hw1 hlo hfr hM h84 h85 hm hw hl; exact absurd hm (by omega)
                    | succ n9 ihlp =>
                      intro x m1 C H locs ls hx1 hw1 hlo hfr hM h84 h85 hm hw hl
                      have hoa1 : MOK m1 a (mz1 a) := fun j h1 h2 => by rw [hlo _ (by omega)]; exact hoka j h1 (by omega)
                      have hob1 : MOK m1 b (mz1 b) := fun j h1 h2 => by rw [hlo _ (by omega)]; exact hokb j h1 (by omega)
                      have eA : atM m1 (mz1 a) a x = atM mw (mz a) a x := by unfold atM; rw [eza]; split; rw [hlo _ (by omega)]; rfl
                      have eB : atM m1 (mz1 b) b (x - s0) = atM mw (mz b) b (x - s0) := by unfold atM; rw [ezb]; split; rw [hlo _ (by omega)]; rfl
                      have hA9 := atM_in hoka x
                      have hB9 := atM_in hokb (x - s0)
                      refine lv_iload hx hb d_M_core_146 (lv_at hl 6 rfl) ?_
                      refine lv_iload hx hb d_M_core_148 (lv_at hl 5 rfl) ?_
                      refine zr_icmp_ge (tgt := 224) hx hb ⟨by omega, by omega⟩ ⟨by omega, by omega⟩ d_M_core_150 (by decide) (fun c60 => ?_) (fun c60 => ?_)
                      · refine lv_aload_n hx hb d_M_core_224 rfl (lv_at hl 0 rfl) ?_
                        refine lv_dup hx hb d_M_core_225 rfl ?_
                        refine zr_get (v := .int (zI kc)) hx hb hts iw_M hown hK hw 82 ⟨by omega, by omega⟩ hM rfl 3 (by decide) (hts _ wk_509) (fun _ h => h) rfl d_M_core_226 ?_
                        refine zr_iconst hx hb d_M_core_229 ?_
                        refine zr_iadd hx hb d_M_core_230 ?_
                        refine zr_put (ty := .int) (v := .int (zI (kc + 1))) hx hb hts iw_M tyM tyM_ok nmM hown hK hw 82 ⟨by omega, by omega⟩ hM rfl 3 (by decide) (hts _ wk_509) (fun _ h => h) rfl (by decide +kernel) rfl rfl (Nat.le_of_ble_eq_true rfl) d_M_core_231 (fun H locs hw => ?_)
                        obtain ⟨C61, hC61⟩ : ∃ z : Int → va_E, z = zup C 82 (.inr (4, [.int (zI 0), .int (zI pn), .ref (AD 83), .int (zI (kc + 1)), .ref (AD 84), .ref (AD 85), .int (zI tr), .int (zI lc), .int (zI fa), .int (zI fb), .ref (AD 86), .ref (AD 87), .ref (AD 88), .int (zI mn), .int (zI mr), .int (zI ma), .long (zL ab), .long (zL bl)])) := ⟨_, rfl⟩
                        have hw : WD D clW (wA N AD sz) s.heap H locs N AD C61 := by rw [hC61]; exact hw
                        have frC61 : ∀ j : Int, j ≠ 82 → C61 j = C j := fun j h => by rw [hC61]; exact zup_n h
                        have hM : C61 82 = .inr (4, [.int (zI 0), .int (zI pn), .ref (AD 83), .int (zI (kc + 1)), .ref (AD 84), .ref (AD 85), .int (zI tr), .int (zI lc), .int (zI fa), .int (zI fb), .ref (AD 86), .ref (AD 87), .ref (AD 88), .int (zI mn), .int (zI mr), .int (zI ma), .long (zL ab), .long (zL bl)]) := by rw [hC61]; exact zup_s
                        have h84 : C61 84 = aI (k 0) 9 mz1 := (frC61 _ (by omega)).trans h84
                        have h85 : C61 85 = aI (k 0) 216 m1 := (frC61 _ (by omega)).trans h85
                        refine lv_aload_n hx hb d_M_core_234 rfl (lv_at hl 0 rfl) ?_
                        refine zr_get (v := .int (zI (kc + 1))) hx hb hts iw_M hown hK hw 82 ⟨by omega, by omega⟩ hM rfl 3 (by decide) (hts _ wk_509) (fun _ h => h) rfl d_M_core_235 ?_
                        refine zr_iconst hx hb d_M_core_238 ?_
                        refine zr_isub hx hb d_M_core_239 ?_
                        exact hret _ _ _ _ _ _ d_M_core_240 hw rfl ⟨Or.inl ⟨by omega, by omega, Or.inr ⟨by omega, by rw [show kc + 1 - 1 = kc by omega], m1, hM, by rw [h84, hmz1], h85, fun j h1 h2 => (hw1 j h1 (by omega)).1, fun j h1 h2 => (hw1 j h1 (by omega)).2, hlo⟩⟩, fun j hj => by rw [frC61 _ (by omega)]; exact (hfr j hj).trans (by rw [hC0])⟩
                      · refine lv_aload_n hx hb d_M_core_153 rfl (lv_at hl 0 rfl) ?_
                        refine lv_iload_n hx hb d_M_core_154 rfl (lv_at hl 1 rfl) ?_
                        refine lv_iload hx hb d_M_core_155 (lv_at hl 6 rfl) ?_
                        refine zr_callI (va_runV (As := [.int (zI a), .int (zI x)]) (rest := []) ⟨hx, hb, hml, hown, hts⟩ (c_M_at l D k N AD C H.size 0 pn kc tr lc fa fb mn mr ma ab bl mz1 m1 a x hN hM h84 h85 hmz (by omega) ⟨by omega, by omega⟩ ⟨by omega, by omega⟩) (cwV 2 hts (good_V wk_675 wk_677 wk_24 wk_31 wk_678) rfl rfl rfl (by decide +kernel) ⟨Nat.le_of_ble_eq_true rfl, Nat.le_of_ble_eq_true rfl⟩) (cPre_V hK hw 82 ⟨by omega, by omega⟩ hM rfl) rfl rfl hl.1 rfl (lv_room (Nat.le_of_ble_eq_true rfl)) d_M_core_157 ⟨Nat.le_of_ble_eq_true rfl, Nat.le_of_ble_eq_true rfl⟩) hw hA (fun r9 C63 H locs hq62 hw => ?_)
                        obtain ⟨hr9, hCe⟩ := hq62
                        rw [hCe] at hw; subst hr9
                        rw [eA]
                        refine lv_istore (lv' := [(7, .int (zI (atM mw (mz a) a x))), (0, .ref (AD 82)), (1, .int (zI a)), (2, .int (zI b)), (3, .int (zI s0)), (4, .int (zI (min 0 s0))), (5, .int (zI (max (mz a) (mz b + s0)))), (6, .int (zI x))]) hx hb d_M_core_160 hl (by decide) rfl (fun ls hl => ?_)
                        refine lv_aload_n hx hb d_M_core_162 rfl (lv_at hl 1 rfl) ?_
                        refine lv_iload_n hx hb d_M_core_163 rfl (lv_at hl 3 rfl) ?_
                        refine lv_iload hx hb d_M_core_164 (lv_at hl 7 rfl) ?_
                        refine lv_iload_n hx hb d_M_core_166 rfl (lv_at hl 4 rfl) ?_
                        refine zr_isub hx hb d_M_core_167 ?_
                        refine zr_callI (va_runV (As := [.int (zI b), .int (zI (x - s0))]) (rest := []) ⟨hx, hb, hml, hown, hts⟩ (c_M_at l D k N AD C H.size 0 pn kc tr lc fa fb mn mr ma ab bl mz1 m1 b (x - s0) hN hM h84 h85 hmz (by omega) ⟨by omega, by omega⟩ ⟨by omega, by omega⟩) (cwV 2 hts (good_V wk_675 wk_677 wk_24 wk_31 wk_678) rfl rfl rfl (by decide +kernel) ⟨Nat.le_of_ble_eq_true rfl, Nat.le_of_ble_eq_true rfl⟩) (cPre_V hK hw 82 ⟨by omega, by omega⟩ hM rfl) rfl rfl hl.1 rfl (lv_room (Nat.le_of_ble_eq_true rfl)) d_M_core_168 ⟨Nat.le_of_ble_eq_true rfl, Nat.le_of_ble_eq_true rfl⟩) hw hA (fun r9 C65 H locs hq64 hw => ?_)
                        obtain ⟨hr9, hCe⟩ := hq64
                        rw [hCe] at hw; subst hr9
                        rw [eB]
                        refine lv_istore (lv' := [(8, .int (zI (atM mw (mz b) b (x - s0)))), (7, .int (zI (atM mw (mz a) a x))), (0, .ref (AD 82)), (1, .int (zI a)), (2, .int (zI b)), (3, .int (zI s0)), (4, .int (zI (min 0 s0))), (5, .int (zI (max (mz a) (mz b + s0)))), (6, .int (zI x))]) hx hb d_M_core_171 hl (by decide) rfl (fun ls hl => ?_)
                        refine lv_aload_n hx hb d_M_core_173 rfl (lv_at hl 2 rfl) ?_
                        refine zr_get (v := .ref (AD 85)) hx hb hts iw_M hown hK hw 82 ⟨by omega, by omega⟩ hM rfl 5 (by decide) (hts _ wk_511) (fun _ h => h) rfl d_M_core_174 ?_
                        refine zr_bipush hx hb d_M_core_177 (by decide) ?_
                        refine lv_aload_n hx hb d_M_core_179 rfl (lv_at hl 2 rfl) ?_
                        refine zr_get (v := .int (zI kc)) hx hb hts iw_M hown hK hw 82 ⟨by omega, by omega⟩ hM rfl 3 (by decide) (hts _ wk_509) (fun _ h => h) rfl d_M_core_180 ?_
                        refine zr_imul hx hb d_M_core_183 ?_
                        refine lv_iload hx hb d_M_core_184 (lv_at hl 8 rfl) ?_
                        refine zr_iadd hx hb d_M_core_186 ?_
                        refine lv_iload hx hb d_M_core_187 (lv_at hl 6 rfl) ?_
                        refine zr_isub hx hb d_M_core_189 ?_
                        refine lv_iload hx hb d_M_core_190 (lv_at hl 1 rfl) ?_
                        refine zr_if_eq (tgt := 200) hx hb ⟨by omega, by omega⟩ d_M_core_192 (by decide) (fun c66 => ?_) (fun c66 => ?_)
                        · refine lv_iload hx hb d_M_core_200 (lv_at hl 1 rfl) ?_
                          refine lv_iload hx hb d_M_core_202 (lv_at hl 0 rfl) ?_
                          refine zr_iadd hx hb d_M_core_204 ?_
                          refine lv_goto (tgt := 217) hx hb d_M_core_205 (by decide) ?_
                          refine zr_iast hx hb hK hw 85 ⟨by omega, by omega⟩ 0 h85 rfl ⟨by omega, by omega⟩ (by decide) d_M_core_217 (fun H locs hw => ?_)
                          obtain ⟨C67, hC67⟩ : ∃ z : Int → va_E, z = zup C 85 (aI (k 0) 216 (zup m1 (((24 * kc) + x) - (min 0 s0)) ((atM mw (mz a) a x) + (atM mw (mz b) b (x - s0))))) := ⟨_, rfl⟩
                          have hw : WD D clW (wA N AD sz) s.heap H locs N AD C67 := by rw [hC67]; exact hw
                          have frC67 : ∀ j : Int, j ≠ 85 → C67 j = C j := fun j h => by rw [hC67]; exact zup_n h
                          have hM : C67 82 = .inr (4, [.int (zI 0), .int (zI pn), .ref (AD 83), .int (zI kc), .ref (AD 84), .ref (AD 85), .int (zI tr), .int (zI lc), .int (zI fa), .int (zI fb), .ref (AD 86), .ref (AD 87), .ref (AD 88), .int (zI mn), .int (zI mr), .int (zI ma), .long (zL ab), .long (zL bl)]) := (frC67 _ (by omega)).trans hM
                          have h84 : C67 84 = aI (k 0) 9 mz1 := (frC67 _ (by omega)).trans h84
                          have h85 : C67 85 = aI (k 0) 216 (zup m1 (((24 * kc) + x) - (min 0 s0)) ((atM mw (mz a) a x) + (atM mw (mz b) b (x - s0)))) := by rw [hC67]; exact zup_s
                          have hmn := mnM (v := ((atM mw (mz a) a x) + (atM mw (mz b) b (x - s0)))) hA9 hB9 (by rw [if_pos (by omega)])
                          have hw2 : ∀ j : Int, 0 ≤ j → j < x + 1 - min 0 s0 → WM (zup m1 (((24 * kc) + x) - (min 0 s0)) ((atM mw (mz a) a x) + (atM mw (mz b) b (x - s0)))) kc j = corW (WM mw a) (mz a) (WM mw b) (mz b) s0 j ∧ (0 ≤ (zup m1 (((24 * kc) + x) - (min 0 s0)) ((atM mw (mz a) a x) + (atM mw (mz b) b (x - s0)))) (24 * kc + j) ∧ (zup m1 (((24 * kc) + x) - (min 0 s0)) ((atM mw (mz a) a x) + (atM mw (mz b) b (x - s0)))) (24 * kc + j) ≤ 500) := by
                            intro j h1 h2
                            by_cases e : j = x - min 0 s0
                            · have e2 : 24 * kc + j = 24 * kc + x - min 0 s0 := by omega
                              unfold WM
                              rw [e2, zup_s]
                              refine ⟨?_, hmn.2⟩
                              rw [hmn.1, atM_d, atM_d]
                              unfold corW
                              rw [show min 0 s0 + j = x by omega]
                              rfl
                            · have e2 : 24 * kc + j ≠ 24 * kc + x - min 0 s0 := by omega
                              have h5 := hw1 j h1 (by omega)
                              unfold WM at *
                              rw [zup_n e2]; exact h5
                          refine lv_iinc (v := zI (x + 1)) (lv' := [(6, .int (zI (x + 1))), (8, .int (zI (atM mw (mz b) b (x - s0)))), (7, .int (zI (atM mw (mz a) a x))), (0, .ref (AD 82)), (1, .int (zI a)), (2, .int (zI b)), (3, .int (zI s0)), (4, .int (zI (min 0 s0))), (5, .int (zI (max (mz a) (mz b + s0))))]) hx hb d_M_core_218 hl (k := 8) rfl (zI_add _ _) (by decide) rfl (fun ls hl => ?_)
                          refine lv_goto (tgt := 146) hx hb d_M_core_221 (by decide) ?_
                          exact ihlp (x + 1) (zup m1 (((24 * kc) + x) - (min 0 s0)) ((atM mw (mz a) a x) + (atM mw (mz b) b (x - s0)))) C67 H locs ls (by omega) hw2 (fun j hj => by rw [zup_n (by omega)]; exact hlo j hj) (fun j hj => by rw [frC67 _ (by omega)]; exact hfr j hj) hM h84 h85 (by omega) hw (lv_sub hl [3, 4, 5, 6, 7, 8, 0] rfl)
                        · refine lv_iload hx hb d_M_core_195 (lv_at hl 0 rfl) ?_
                          refine zr_if_ne (tgt := 208) hx hb ⟨by omega, by omega⟩ d_M_core_197 (by decide) (fun c68 => ?_) (fun c68 => ?_)
                          · refine lv_iload hx hb d_M_core_208 (lv_at hl 1 rfl) ?_
                            refine lv_iload hx hb d_M_core_210 (lv_at hl 0 rfl) ?_
                            refine zr_iadd hx hb d_M_core_212 ?_
                            refine zr_iconst hx hb d_M_core_213 ?_
                            refine zr_iadd hx hb d_M_core_214 ?_
                            refine zr_iconst hx hb d_M_core_215 ?_
                            refine zr_idiv hx hb d_M_core_216 ⟨by omega, by omega⟩ ⟨by omega, by omega⟩ (by omega) (by omega) ?_
                            refine zr_iast hx hb hK hw 85 ⟨by omega, by omega⟩ 0 h85 rfl ⟨by omega, by omega⟩ (by decide) d_M_core_217 (fun H locs hw => ?_)
                            obtain ⟨C69, hC69⟩ : ∃ z : Int → va_E, z = zup C 85 (aI (k 0) 216 (zup m1 (((24 * kc) + x) - (min 0 s0)) ((((atM mw (mz a) a x) + (atM mw (mz b) b (x - s0))) + 1) / 2))) := ⟨_, rfl⟩
                            have hw : WD D clW (wA N AD sz) s.heap H locs N AD C69 := by rw [hC69]; exact hw
                            have frC69 : ∀ j : Int, j ≠ 85 → C69 j = C j := fun j h => by rw [hC69]; exact zup_n h
                            have hM : C69 82 = .inr (4, [.int (zI 0), .int (zI pn), .ref (AD 83), .int (zI kc), .ref (AD 84), .ref (AD 85), .int (zI tr), .int (zI lc), .int (zI fa), .int (zI fb), .ref (AD 86), .ref (AD 87), .ref (AD 88), .int (zI mn), .int (zI mr), .int (zI ma), .long (zL ab), .long (zL bl)]) := (frC69 _ (by omega)).trans hM
                            have h84 : C69 84 = aI (k 0) 9 mz1 := (frC69 _ (by omega)).trans h84
                            have h85 : C69 85 = aI (k 0) 216 (zup m1 (((24 * kc) + x) - (min 0 s0)) ((((atM mw (mz a) a x) + (atM mw (mz b) b (x - s0))) + 1) / 2)) := by rw [hC69]; exact zup_s
                            have hmn := mnM (v := ((((atM mw (mz a) a x) + (atM mw (mz b) b (x - s0))) + 1) / 2)) hA9 hB9 (by rw [if_neg (by omega)])
                            have hw2 : ∀ j : Int, 0 ≤ j → j < x + 1 - min 0 s0 → WM (zup m1 (((24 * kc) + x) - (min 0 s0)) ((((atM mw (mz a) a x) + (atM mw (mz b) b (x - s0))) + 1) / 2)) kc j = corW (WM mw a) (mz a) (WM mw b) (mz b) s0 j ∧ (0 ≤ (zup m1 (((24 * kc) + x) - (min 0 s0)) ((((atM mw (mz a) a x) + (atM mw (mz b) b (x - s0))) + 1) / 2)) (24 * kc + j) ∧ (zup m1 (((24 * kc) + x) - (min 0 s0)) ((((atM mw (mz a) a x) + (atM mw (mz b) b (x - s0))) + 1) / 2)) (24 * kc + j) ≤ 500) := by
                              intro j h1 h2
                              by_cases e : j = x - min 0 s0
                              · have e2 : 24 * kc + j = 24 * kc + x - min 0 s0 := by omega
                                unfold WM
                                rw [e2, zup_s]
                                refine ⟨?_, hmn.2⟩
                                rw [hmn.1, atM_d, atM_d]
                                unfold corW
                                rw [show min 0 s0 + j = x by omega]
                                rfl
                              · have e2 : 24 * kc + j ≠ 24 * kc + x - min 0 s0 := by omega
                                have h5 := hw1 j h1 (by omega)
                                unfold WM at *
                                rw [zup_n e2]; exact h5
                            refine lv_iinc (v := zI (x + 1)) (lv' := [(6, .int (zI (x + 1))), (8, .int (zI (atM mw (mz b) b (x - s0)))), (7, .int (zI (atM mw (mz a) a x))), (0, .ref (AD 82)), (1, .int (zI a)), (2, .int (zI b)), (3, .int (zI s0)), (4, .int (zI (min 0 s0))), (5, .int (zI (max (mz a) (mz b + s0))))]) hx hb d_M_core_218 hl (k := 8) rfl (zI_add _ _) (by decide) rfl (fun ls hl => ?_)
                            refine lv_goto (tgt := 146) hx hb d_M_core_221 (by decide) ?_
                            exact ihlp (x + 1) (zup m1 (((24 * kc) + x) - (min 0 s0)) ((((atM mw (mz a) a x) + (atM mw (mz b) b (x - s0))) + 1) / 2)) C69 H locs ls (by omega) hw2 (fun j hj => by rw [zup_n (by omega)]; exact hlo j hj) (fun j hj => by rw [frC69 _ (by omega)]; exact hfr j hj) hM h84 h85 (by omega) hw (lv_sub hl [3, 4, 5, 6, 7, 8, 0] rfl)
                          · refine lv_iload hx hb d_M_core_200 (lv_at hl 1 rfl) ?_
                            refine lv_iload hx hb d_M_core_202 (lv_at hl 0 rfl) ?_
                            refine zr_iadd hx hb d_M_core_204 ?_
                            refine lv_goto (tgt := 217) hx hb d_M_core_205 (by decide) ?_
                            refine zr_iast hx hb hK hw 85 ⟨by omega, by omega⟩ 0 h85 rfl ⟨by omega, by omega⟩ (by decide) d_M_core_217 (fun H locs hw => ?_)
                            obtain ⟨C70, hC70⟩ : ∃ z : Int → va_E, z = zup C 85 (aI (k 0) 216 (zup m1 (((24 * kc) + x) - (min 0 s0)) ((atM mw (mz a) a x) + (atM mw (mz b) b (x - s0))))) := ⟨_, rfl⟩
                            have hw : WD D clW (wA N AD sz) s.heap H locs N AD C70 := by rw [hC70]; exact hw
                            have frC70 : ∀ j : Int, j ≠ 85 → C70 j = C j := fun j h => by rw [hC70]; exact zup_n h
                            have hM : C70 82 = .inr (4, [.int (zI 0), .int (zI pn), .ref (AD 83), .int (zI kc), .ref (AD 84), .ref (AD 85), .int (zI tr), .int (zI lc), .int (zI fa), .int (zI fb), .ref (AD 86), .ref (AD 87), .ref (AD 88), .int (zI mn), .int (zI mr), .int (zI ma), .long (zL ab), .long (zL bl)]) := (frC70 _ (by omega)).trans hM
                            have h84 : C70 84 = aI (k 0) 9 mz1 := (frC70 _ (by omega)).trans h84
                            have h85 : C70 85 = aI (k 0) 216 (zup m1 (((24 * kc) + x) - (min 0 s0)) ((atM mw (mz a) a x) + (atM mw (mz b) b (x - s0)))) := by rw [hC70]; exact zup_s
                            have hmn := mnM (v := ((atM mw (mz a) a x) + (atM mw (mz b) b (x - s0)))) hA9 hB9 (by rw [if_pos (by omega)])
                            have hw2 : ∀ j : Int, 0 ≤ j → j < x + 1 - min 0 s0 → WM (zup m1 (((24 * kc) + x) - (min 0 s0)) ((atM mw (mz a) a x) + (atM mw (mz b) b (x - s0)))) kc j = corW (WM mw a) (mz a) (WM mw b) (mz b) s0 j ∧ (0 ≤ (zup m1 (((24 * kc) + x) - (min 0 s0)) ((atM mw (mz a) a x) + (atM mw (mz b) b (x - s0)))) (24 * kc + j) ∧ (zup m1 (((24 * kc) + x) - (min 0 s0)) ((atM mw (mz a) a x) + (atM mw (mz b) b (x - s0)))) (24 * kc + j) ≤ 500) := by
                              intro j h1 h2
                              by_cases e : j = x - min 0 s0
                              · have e2 : 24 * kc + j = 24 * kc + x - min 0 s0 := by omega
                                unfold WM
                                rw [e2, zup_s]
                                refine ⟨?_, hmn.2⟩
                                rw [hmn.1, atM_d, atM_d]
                                unfold corW
                                rw [show min 0 s0 + j = x by omega]
                                rfl
                              · have e2 : 24 * kc + j ≠ 24 * kc + x - min 0 s0 := by omega
                                have h5 := hw1 j h1 (by omega)
                                unfold WM at *
                                rw [zup_n e2]; exact h5
                            refine lv_iinc (v := zI (x + 1)) (lv' := [(6, .int (zI (x + 1))), (8, .int (zI (atM mw (mz b) b (x - s0)))), (7, .int (zI (atM mw (mz a) a x))), (0, .ref (AD 82)), (1, .int (zI a)), (2, .int (zI b)), (3, .int (zI s0)), (4, .int (zI (min 0 s0))), (5, .int (zI (max (mz a) (mz b + s0))))]) hx hb d_M_core_218 hl (k := 8) rfl (zI_add _ _) (by decide) rfl (fun ls hl => ?_)
                            refine lv_goto (tgt := 146) hx hb d_M_core_221 (by decide) ?_
                            exact ihlp (x + 1) (zup m1 (((24 * kc) + x) - (min 0 s0)) ((atM mw (mz a) a x) + (atM mw (mz b) b (x - s0)))) C70 H locs ls (by omega) hw2 (fun j hj => by rw [zup_n (by omega)]; exact hlo j hj) (fun j hj => by rw [frC70 _ (by omega)]; exact hfr j hj) hM h84 h85 (by omega) hw (lv_sub hl [3, 4, 5, 6, 7, 8, 0] rfl)
                  exact lp ((max (mz a) (mz b + s0) - (min 0 s0) : Int).toNat + 1) (min 0 s0) mw C59 H locs ls (by omega) (fun j h1 h2 => absurd h2 (by omega)) (fun j _ => rfl) (fun j hj => by rw [frC59 _ (by omega), frC11 _ (by omega), hC0]) hM h84 h85 (by omega) hw (lv_sub hl [3, 4, 5, 6, 2, 1, 0] rfl)
                · refine zr_iconst hx hb d_M_core_126 ?_
                  exact hret _ _ _ _ _ _ d_M_core_127 hw rfl ⟨Or.inl ⟨by omega, by omega, Or.inl ⟨by omega, rfl, hM, h84, h85⟩⟩, fun j hj => by rw [frC11 _ (by omega)]⟩
          · refine zr_iconst hx hb d_M_core_67 ?_
            exact hret _ _ _ _ _ _ d_M_core_68 hw rfl ⟨Or.inl ⟨by omega, by omega, Or.inl ⟨by omega, rfl, hM, h84, h85⟩⟩, fun j hj => by rw [frC11 _ (by omega)]⟩
    · refine zr_if_eq (tgt := 21) hx hb ⟨by omega, by omega⟩ d_M_core_14 (by decide) (fun c71 => ?_) (fun c9 => absurd c9 (by decide))
      refine zr_iconst hx hb d_M_core_21 ?_
      refine lv_aload_n hx hb d_M_core_22 rfl (lv_at hl 0 rfl) ?_
      refine zr_get (v := .int (zI kc)) hx hb hts iw_M hown hK hw 82 ⟨by omega, by omega⟩ hM rfl 3 (by decide) (hts _ wk_509) (fun _ h => h) rfl d_M_core_23 ?_
      refine zr_bipush hx hb d_M_core_26 (by decide) ?_
      refine zr_icmp_ge (tgt := 35) hx hb ⟨by omega, by omega⟩ ⟨by omega, by omega⟩ d_M_core_28 (by decide) (fun c72 => ?_) (fun c72 => ?_)
      · refine zr_iconst hx hb d_M_core_35 ?_
        refine zr_iconst hx hb d_M_core_36 ?_
        refine zr_callI (va_runV (As := [.int (zI 0), .int (zI 0), .int (zI 1)]) (rest := []) ⟨hx, hb, hml, hown, hts⟩ (c_M_goes l D k N AD C H.size th pn kc tr lc fa fb mn mr ma ab bl 0 0 1 1 0 hN hM (by decide) (by decide) (by decide) (by decide) (by decide)) (cwV 3 hts (good_V wk_578 wk_580 wk_11 wk_31 wk_581) rfl rfl rfl (by decide +kernel) ⟨Nat.le_of_ble_eq_true rfl, Nat.le_of_ble_eq_true rfl⟩) (cPre_V hK hw 82 ⟨by omega, by omega⟩ hM rfl) rfl rfl hl.1 rfl (lv_room (Nat.le_of_ble_eq_true rfl)) d_M_core_37 ⟨Nat.le_of_ble_eq_true rfl, Nat.le_of_ble_eq_true rfl⟩) hw hA (fun r9 C73 H locs hq74 hw => ?_)
        obtain ⟨hr9, hq74a, frC73⟩ := hq74
        subst hr9
        have hM : C73 82 = .inr (4, [.int (zI 1), .int (zI pn), .ref (AD 83), .int (zI kc), .ref (AD 84), .ref (AD 85), .int (zI tr), .int (zI lc), .int (zI fa), .int (zI fb), .ref (AD 86), .ref (AD 87), .ref (AD 88), .int (zI mn), .int (zI mr), .int (zI ma), .long (zL ab), .long (zL bl)]) := hq74a
        have h84 : C73 84 = aI (k 0) 9 mz := (frC73 _ (by omega)).trans h84
        have h85 : C73 85 = aI (k 0) 216 mw := (frC73 _ (by omega)).trans h85
        refine zr_if_ne (tgt := 45) hx hb ⟨by omega, by omega⟩ d_M_core_40 (by decide) (fun c9 => absurd c9 (by decide)) (fun c75 => ?_)
        refine zr_iconst hx hb d_M_core_43 ?_
        exact hret _ _ _ _ _ _ d_M_core_44 hw rfl ⟨Or.inr (Or.inl ⟨by omega, hM, h84, h85⟩), fun j hj => by rw [frC73 _ (by omega)]⟩
      · refine zr_iconst hx hb d_M_core_31 ?_
        refine lv_goto (tgt := 36) hx hb d_M_core_32 (by decide) ?_
        refine zr_iconst hx hb d_M_core_36 ?_
        refine zr_callI (va_runV (As := [.int (zI 0), .int (zI 1), .int (zI 1)]) (rest := []) ⟨hx, hb, hml, hown, hts⟩ (c_M_goes l D k N AD C H.size th pn kc tr lc fa fb mn mr ma ab bl 0 1 1 1 0 hN hM (by decide) (by decide) (by decide) (by decide) (by decide)) (cwV 3 hts (good_V wk_578 wk_580 wk_11 wk_31 wk_581) rfl rfl rfl (by decide +kernel) ⟨Nat.le_of_ble_eq_true rfl, Nat.le_of_ble_eq_true rfl⟩) (cPre_V hK hw 82 ⟨by omega, by omega⟩ hM rfl) rfl rfl hl.1 rfl (lv_room (Nat.le_of_ble_eq_true rfl)) d_M_core_37 ⟨Nat.le_of_ble_eq_true rfl, Nat.le_of_ble_eq_true rfl⟩) hw hA (fun r9 C76 H locs hq77 hw => ?_)
        obtain ⟨hr9, hq77a, frC76⟩ := hq77
        subst hr9
        have hM : C76 82 = .inr (4, [.int (zI 1), .int (zI pn), .ref (AD 83), .int (zI kc), .ref (AD 84), .ref (AD 85), .int (zI tr), .int (zI lc), .int (zI fa), .int (zI fb), .ref (AD 86), .ref (AD 87), .ref (AD 88), .int (zI mn), .int (zI mr), .int (zI ma), .long (zL ab), .long (zL bl)]) := hq77a
        have h84 : C76 84 = aI (k 0) 9 mz := (frC76 _ (by omega)).trans h84
        have h85 : C76 85 = aI (k 0) 216 mw := (frC76 _ (by omega)).trans h85
        refine zr_if_ne (tgt := 45) hx hb ⟨by omega, by omega⟩ d_M_core_40 (by decide) (fun c9 => absurd c9 (by decide)) (fun c78 => ?_)
        refine zr_iconst hx hb d_M_core_43 ?_
        exact hret _ _ _ _ _ _ d_M_core_44 hw rfl ⟨Or.inr (Or.inl ⟨by omega, hM, h84, h85⟩), fun j hj => by rw [frC76 _ (by omega)]⟩
  · refine zr_if_eq (tgt := 21) hx hb ⟨by omega, by omega⟩ d_M_core_6 (by decide) (fun c79 => ?_) (fun c9 => absurd c9 (by decide))
    refine zr_iconst hx hb d_M_core_21 ?_
    refine lv_aload_n hx hb d_M_core_22 rfl (lv_at hl 0 rfl) ?_
    refine zr_get (v := .int (zI kc)) hx hb hts iw_M hown hK hw 82 ⟨by omega, by omega⟩ hM rfl 3 (by decide) (hts _ wk_509) (fun _ h => h) rfl d_M_core_23 ?_
    refine zr_bipush hx hb d_M_core_26 (by decide) ?_
    refine zr_icmp_ge (tgt := 35) hx hb ⟨by omega, by omega⟩ ⟨by omega, by omega⟩ d_M_core_28 (by decide) (fun c80 => ?_) (fun c80 => ?_)
    · refine zr_iconst hx hb d_M_core_35 ?_
      refine zr_iconst hx hb d_M_core_36 ?_
      refine zr_callI (va_runV (As := [.int (zI 0), .int (zI 0), .int (zI 1)]) (rest := []) ⟨hx, hb, hml, hown, hts⟩ (c_M_goes l D k N AD C H.size th pn kc tr lc fa fb mn mr ma ab bl 0 0 1 1 0 hN hM (by decide) (by decide) (by decide) (by decide) (by decide)) (cwV 3 hts (good_V wk_578 wk_580 wk_11 wk_31 wk_581) rfl rfl rfl (by decide +kernel) ⟨Nat.le_of_ble_eq_true rfl, Nat.le_of_ble_eq_true rfl⟩) (cPre_V hK hw 82 ⟨by omega, by omega⟩ hM rfl) rfl rfl hl.1 rfl (lv_room (Nat.le_of_ble_eq_true rfl)) d_M_core_37 ⟨Nat.le_of_ble_eq_true rfl, Nat.le_of_ble_eq_true rfl⟩) hw hA (fun r9 C81 H locs hq82 hw => ?_)
      obtain ⟨hr9, hq82a, frC81⟩ := hq82
      subst hr9
      have hM : C81 82 = .inr (4, [.int (zI 1), .int (zI pn), .ref (AD 83), .int (zI kc), .ref (AD 84), .ref (AD 85), .int (zI tr), .int (zI lc), .int (zI fa), .int (zI fb), .ref (AD 86), .ref (AD 87), .ref (AD 88), .int (zI mn), .int (zI mr), .int (zI ma), .long (zL ab), .long (zL bl)]) := hq82a
      have h84 : C81 84 = aI (k 0) 9 mz := (frC81 _ (by omega)).trans h84
      have h85 : C81 85 = aI (k 0) 216 mw := (frC81 _ (by omega)).trans h85
      refine zr_if_ne (tgt := 45) hx hb ⟨by omega, by omega⟩ d_M_core_40 (by decide) (fun c9 => absurd c9 (by decide)) (fun c83 => ?_)
      refine zr_iconst hx hb d_M_core_43 ?_
      exact hret _ _ _ _ _ _ d_M_core_44 hw rfl ⟨Or.inr (Or.inl ⟨by omega, hM, h84, h85⟩), fun j hj => by rw [frC81 _ (by omega)]⟩
    · refine zr_iconst hx hb d_M_core_31 ?_
      refine lv_goto (tgt := 36) hx hb d_M_core_32 (by decide) ?_
      refine zr_iconst hx hb d_M_core_36 ?_
      refine zr_callI (va_runV (As := [.int (zI 0), .int (zI 1), .int (zI 1)]) (rest := []) ⟨hx, hb, hml, hown, hts⟩ (c_M_goes l D k N AD C H.size th pn kc tr lc fa fb mn mr ma ab bl 0 1 1 1 0 hN hM (by decide) (by decide) (by decide) (by decide) (by decide)) (cwV 3 hts (good_V wk_578 wk_580 wk_11 wk_31 wk_581) rfl rfl rfl (by decide +kernel) ⟨Nat.le_of_ble_eq_true rfl, Nat.le_of_ble_eq_true rfl⟩) (cPre_V hK hw 82 ⟨by omega, by omega⟩ hM rfl) rfl rfl hl.1 rfl (lv_room (Nat.le_of_ble_eq_true rfl)) d_M_core_37 ⟨Nat.le_of_ble_eq_true rfl, Nat.le_of_ble_eq_true rfl⟩) hw hA (fun r9 C84 H locs hq85 hw => ?_)
      obtain ⟨hr9, hq85a, frC84⟩ := hq85
      subst hr9
      have hM : C84 82 = .inr (4, [.int (zI 1), .int (zI pn), .ref (AD 83), .int (zI kc), .ref (AD 84), .ref (AD 85), .int (zI tr), .int (zI lc), .int (zI fa), .int (zI fb), .ref (AD 86), .ref (AD 87), .ref (AD 88), .int (zI mn), .int (zI mr), .int (zI ma), .long (zL ab), .long (zL bl)]) := hq85a
      have h84 : C84 84 = aI (k 0) 9 mz := (frC84 _ (by omega)).trans h84
      have h85 : C84 85 = aI (k 0) 216 mw := (frC84 _ (by omega)).trans h85
      refine zr_if_ne (tgt := 45) hx hb ⟨by omega, by omega⟩ d_M_core_40 (by decide) (fun c9 => absurd c9 (by decide)) (fun c86 => ?_)
      refine zr_iconst hx hb d_M_core_43 ?_
      exact hret _ _ _ _ _ _ d_M_core_44 hw rfl ⟨Or.inr (Or.inl ⟨by omega, hM, h84, h85⟩), fun j hj => by rw [frC84 _ (by omega)]⟩
