abbrev rm_M_isAhead : Room := { frames := 0, cells := 0, slots := 0, locals := 0 }
set_option maxHeartbeats 4000000 in
set_option maxRecDepth 100000 in
theorem c_M_isAhead (l : Launch) (D : va_G) (k : Nat → ClassId) (N : Nat) (AD : Int → Nat) (C : Int → va_E) (sz : Nat) (th : Int) (pn : Int) (kc : Int) (tr : Int) (lc : Int) (fa : Int) (fb : Int) (mn : Int) (mr : Int) (ma : Int) (ab : Int) (bl : Int) (mS : Int → Int) (mN : Int → Int) (mR : Int → Int) (t0 : Int) (n0 : Int) (s0 : Int) (i : Int) (hN : 90 ≤ (N : Int)) (hM : C 82 = .inr (4, [.int (zI th), .int (zI pn), .ref (AD 83), .int (zI kc), .ref (AD 84), .ref (AD 85), .int (zI tr), .int (zI lc), .int (zI fa), .int (zI fb), .ref (AD 86), .ref (AD 87), .ref (AD 88), .int (zI mn), .int (zI mr), .int (zI ma), .long (zL ab), .long (zL bl)])) (h86 : C 86 = aI (k 0) 48 mS) (h87 : C 87 = aI (k 0) 48 mN) (h88 : C 88 = aI (k 0) 48 mR) (hi : 0 ≤ i ∧ i < 48) (ht0 : inI t0 ∧ inI (mR i)) (hn0 : inI n0 ∧ inI (mN i)) (hs0 : inI s0 ∧ inI (mS i)) (hsh : mS i ≤ s0) : MI l y_M_isAhead (Cond.code y_M_isAhead b_M_isAhead 5 (Option.some Jvm.ClassFile.FieldType.boolean) :: WS) rm_M_isAhead D clW (tyW k) N AD C sz [.ref (AD 82), .int (zI t0), .int (zI n0), .int (zI s0), .int (zI i)] (fun r C' => (r = zI 1 ∧ (mR i < t0 ∨ (t0 = mR i ∧ mN i < n0)) ∨ r = zI 0 ∧ ¬ (mR i < t0 ∨ (t0 = mR i ∧ mN i < n0))) ∧ C' = C) := by
  refine MI.start (cc := b_M_isAhead) (maxL := 5) (rt := .boolean) (by decide) rfl (Nat.le_of_ble_eq_true rfl) ?_
  intro p e s m args below meth c Q ls hx hb hml hown hts hK hsz hw hl hret
  have hown : s.vm.findClass "RingMatchesModel" = some m.cls := hown
  have hl : lv_has ls 5 [(0, .ref (AD 82)), (1, .int (zI t0)), (2, .int (zI n0)), (3, .int (zI s0)), (4, .int (zI i))] := hl
  have hA := wA_hi (N := N) (AD := AD) hsz
  obtain ⟨H, hH⟩ : ∃ H, H = s.heap := ⟨_, rfl⟩
  obtain ⟨locs, hlocs⟩ : ∃ z : List Loc, z = [] := ⟨_, rfl⟩
  have hw : WD D clW (wA N AD sz) s.heap H locs N AD C := by rw [hH, hlocs]; exact hw
  rw [← hlocs]
  suffices hgo : W p l e rm_M_isAhead s m args below meth c H locs 0 0 Q (F0 m 0 ls []) by rw [hH] at hgo; exact hgo
  refine lv_iload_n hx hb d_M_isAhead_0 rfl (lv_at hl 1 rfl) ?_
  refine lv_aload_n hx hb d_M_isAhead_1 rfl (lv_at hl 0 rfl) ?_
  refine zr_get (v := .ref (AD 88)) hx hb hts iw_M hown hK hw 82 ⟨by omega, by omega⟩ hM rfl 12 (by decide) (hts _ wk_518) (fun _ h => h) rfl d_M_isAhead_2 ?_
  refine lv_iload hx hb d_M_isAhead_5 (lv_at hl 4 rfl) ?_
  refine zr_iald hx hb hK hw 88 ⟨by omega, by omega⟩ 0 h88 rfl ⟨by omega, by omega⟩ (by decide) d_M_isAhead_7 ?_
  refine zr_icmp_eq (tgt := 30) hx hb ⟨by omega, by omega⟩ ⟨by omega, by omega⟩ d_M_isAhead_8 (by decide) (fun c1 => ?_) (fun c1 => ?_)
  · refine lv_iload_n hx hb d_M_isAhead_30 rfl (lv_at hl 2 rfl) ?_
    refine lv_aload_n hx hb d_M_isAhead_31 rfl (lv_at hl 0 rfl) ?_
    refine zr_get (v := .ref (AD 87)) hx hb hts iw_M hown hK hw 82 ⟨by omega, by omega⟩ hM rfl 11 (by decide) (hts _ wk_517) (fun _ h => h) rfl d_M_isAhead_32 ?_
    refine lv_iload hx hb d_M_isAhead_35 (lv_at hl 4 rfl) ?_
    refine zr_iald hx hb hK hw 87 ⟨by omega, by omega⟩ 0 h87 rfl ⟨by omega, by omega⟩ (by decide) d_M_isAhead_37 ?_
    refine zr_icmp_eq (tgt := 60) hx hb ⟨by omega, by omega⟩ ⟨by omega, by omega⟩ d_M_isAhead_38 (by decide) (fun c2 => ?_) (fun c2 => ?_)
    · refine lv_iload_n hx hb d_M_isAhead_60 rfl (lv_at hl 3 rfl) ?_
      refine lv_aload_n hx hb d_M_isAhead_61 rfl (lv_at hl 0 rfl) ?_
      refine zr_get (v := .ref (AD 86)) hx hb hts iw_M hown hK hw 82 ⟨by omega, by omega⟩ hM rfl 10 (by decide) (hts _ wk_516) (fun _ h => h) rfl d_M_isAhead_62 ?_
      refine lv_iload hx hb d_M_isAhead_65 (lv_at hl 4 rfl) ?_
      refine zr_iald hx hb hK hw 86 ⟨by omega, by omega⟩ 0 h86 rfl ⟨by omega, by omega⟩ (by decide) d_M_isAhead_67 ?_
      refine zr_icmp_ge (tgt := 75) hx hb ⟨by omega, by omega⟩ ⟨by omega, by omega⟩ d_M_isAhead_68 (by decide) (fun c3 => ?_) (fun c3 => ?_)
      · refine zr_iconst hx hb d_M_isAhead_75 ?_
        exact hret _ _ _ _ _ _ d_M_isAhead_76 hw (by decide +kernel) ⟨Or.inr ⟨rfl, by omega⟩, rfl⟩
      · exact absurd c3 (by omega)
    · refine lv_iload_n hx hb d_M_isAhead_41 rfl (lv_at hl 2 rfl) ?_
      refine lv_aload_n hx hb d_M_isAhead_42 rfl (lv_at hl 0 rfl) ?_
      refine zr_get (v := .ref (AD 87)) hx hb hts iw_M hown hK hw 82 ⟨by omega, by omega⟩ hM rfl 11 (by decide) (hts _ wk_517) (fun _ h => h) rfl d_M_isAhead_43 ?_
      refine lv_iload hx hb d_M_isAhead_46 (lv_at hl 4 rfl) ?_
      refine zr_iald hx hb hK hw 87 ⟨by omega, by omega⟩ 0 h87 rfl ⟨by omega, by omega⟩ (by decide) d_M_isAhead_48 ?_
      refine zr_icmp_le (tgt := 56) hx hb ⟨by omega, by omega⟩ ⟨by omega, by omega⟩ d_M_isAhead_49 (by decide) (fun c4 => ?_) (fun c4 => ?_)
      · refine zr_iconst hx hb d_M_isAhead_56 ?_
        refine lv_goto (tgt := 76) hx hb d_M_isAhead_57 (by decide) ?_
        exact hret _ _ _ _ _ _ d_M_isAhead_76 hw (by decide +kernel) ⟨Or.inr ⟨rfl, by omega⟩, rfl⟩
      · refine zr_iconst hx hb d_M_isAhead_52 ?_
        refine lv_goto (tgt := 76) hx hb d_M_isAhead_53 (by decide) ?_
        exact hret _ _ _ _ _ _ d_M_isAhead_76 hw (by decide +kernel) ⟨Or.inl ⟨rfl, by omega⟩, rfl⟩
  · refine lv_iload_n hx hb d_M_isAhead_11 rfl (lv_at hl 1 rfl) ?_
    refine lv_aload_n hx hb d_M_isAhead_12 rfl (lv_at hl 0 rfl) ?_
    refine zr_get (v := .ref (AD 88)) hx hb hts iw_M hown hK hw 82 ⟨by omega, by omega⟩ hM rfl 12 (by decide) (hts _ wk_518) (fun _ h => h) rfl d_M_isAhead_13 ?_
    refine lv_iload hx hb d_M_isAhead_16 (lv_at hl 4 rfl) ?_
    refine zr_iald hx hb hK hw 88 ⟨by omega, by omega⟩ 0 h88 rfl ⟨by omega, by omega⟩ (by decide) d_M_isAhead_18 ?_
    refine zr_icmp_le (tgt := 26) hx hb ⟨by omega, by omega⟩ ⟨by omega, by omega⟩ d_M_isAhead_19 (by decide) (fun c5 => ?_) (fun c5 => ?_)
    · refine zr_iconst hx hb d_M_isAhead_26 ?_
      refine lv_goto (tgt := 76) hx hb d_M_isAhead_27 (by decide) ?_
      exact hret _ _ _ _ _ _ d_M_isAhead_76 hw (by decide +kernel) ⟨Or.inr ⟨rfl, by omega⟩, rfl⟩
    · refine zr_iconst hx hb d_M_isAhead_22 ?_
      refine lv_goto (tgt := 76) hx hb d_M_isAhead_23 (by decide) ?_
      exact hret _ _ _ _ _ _ d_M_isAhead_76 hw (by decide +kernel) ⟨Or.inl ⟨rfl, by omega⟩, rfl⟩
theorem shA {m b : Int → Int} {y lx : Int} (hy : 0 < y ∧ y ≤ lx) (hb : ∀ r : Int, b r = if y < r ∧ r ≤ lx then m (r - 1) else m r) : ∀ r : Int, zup b y (b (y - 1)) r = if y + (-1) < r ∧ r ≤ lx then m (r - 1) else m r := by
  intro r
  by_cases hr : r = y
  · rw [hr, zup_s, hb, if_neg (by omega), if_pos (by omega)]
  · rw [zup_n hr, hb]
    by_cases h1 : y < r ∧ r ≤ lx
    · rw [if_pos h1, if_pos (by omega)]
    · rw [if_neg h1, if_neg (by omega)]
theorem insA {m b a : Int → Int} {K lx v : Int} (hK : 0 ≤ K ∧ K ≤ lx) (hb : ∀ r : Int, b r = if K < r ∧ r ≤ lx then m (r - 1) else m r) (hm : ∀ r : Int, 0 ≤ r → r < lx → m r = a r) : ∀ r : Int, 0 ≤ r → r < lx + 1 → zup b K v r = insF a K v r := by
  intro r h1 h2
  unfold insF
  by_cases hr : r = K
  · rw [hr, zup_s, if_neg (by omega), if_pos rfl]
  · rw [zup_n hr, hb]
    by_cases h3 : r < K
    · rw [if_pos h3, if_neg (by omega)]; exact hm r h1 (by omega)
    · rw [if_neg h3, if_neg hr, if_pos (by omega)]; exact hm (r - 1) (by omega) (by omega)
/-- rises and agreement of a listed one are those of its shift -/
theorem mAll_ra (w1 : Int → Int) (n1 : Int) (w2 : Int → Int) (n2 least : Int) : ∀ m : Nat, 0 ≤ (mAll w1 n1 w2 n2 least m).1 ∧ ∀ r : Int, 0 ≤ r → r < (mAll w1 n1 w2 n2 least m).1 → (mAll w1 n1 w2 n2 least m).2.2.2.2.1 r = ovR w1 n1 w2 n2 ((mAll w1 n1 w2 n2 least m).2.1 r) ∧ (mAll w1 n1 w2 n2 least m).2.2.2.2.2 r = ovA w1 n1 w2 n2 ((mAll w1 n1 w2 n2 least m).2.1 r) := by
  intro m
  induction m with
  | zero => exact ⟨Int.le_refl 0, fun r h1 h2 => absurd h2 (by show ¬ r < 0; omega)⟩
  | succ m ih =>
    show 0 ≤ (mStp w1 n1 w2 n2 least (1 - n2 + (m : Int)) (mAll w1 n1 w2 n2 least m)).1 ∧ ∀ r : Int, 0 ≤ r → r < (mStp w1 n1 w2 n2 least (1 - n2 + (m : Int)) (mAll w1 n1 w2 n2 least m)).1 → (mStp w1 n1 w2 n2 least (1 - n2 + (m : Int)) (mAll w1 n1 w2 n2 least m)).2.2.2.2.1 r = ovR w1 n1 w2 n2 ((mStp w1 n1 w2 n2 least (1 - n2 + (m : Int)) (mAll w1 n1 w2 n2 least m)).2.1 r) ∧ (mStp w1 n1 w2 n2 least (1 - n2 + (m : Int)) (mAll w1 n1 w2 n2 least m)).2.2.2.2.2 r = ovA w1 n1 w2 n2 ((mStp w1 n1 w2 n2 least (1 - n2 + (m : Int)) (mAll w1 n1 w2 n2 least m)).2.1 r)
    generalize mAll w1 n1 w2 n2 least m = q at ih
    generalize 1 - n2 + (m : Int) = s
    by_cases h : least ≤ ovN w1 n1 w2 n2 s
    · unfold mStp
      rw [if_pos h]
      have hk := insK_in (oN := q.2.2.1) (oR := q.2.2.2.1) (n := ovN w1 n1 w2 n2 s) (c := ovC w1 n1 w2 n2 s) q.1.toNat
      refine ⟨by show 0 ≤ q.1 + 1; have := ih.1; omega, fun r h1 h2 => ?_⟩
      have h2' : r < q.1 + 1 := h2
      have hK : 0 ≤ mKq w1 n1 w2 n2 s q ∧ mKq w1 n1 w2 n2 s q ≤ q.1 := by unfold mKq; have := ih.1; omega
      exact ⟨insF_R2 (R := fun z y => z = ovR w1 n1 w2 n2 y) hK (fun r a b => (ih.2 r a b).1) rfl r h1 h2', insF_R2 (R := fun z y => z = ovA w1 n1 w2 n2 y) hK (fun r a b => (ih.2 r a b).2) rfl r h1 h2'⟩
    · unfold mStp
      rw [if_neg h]
      exact ih
theorem mAll_ra2 {w1 w2 : Int → Int} {n1 n2 least : Int} {m : Nat} {lx : Int} {aS aN aR aT aA : Int → Int} (h : mAll w1 n1 w2 n2 least m = (lx, aS, aN, aR, aT, aA)) : ∀ r : Int, 0 ≤ r → r < lx → aT r = ovR w1 n1 w2 n2 (aS r) ∧ aA r = ovA w1 n1 w2 n2 (aS r) := by
  have h2 := (mAll_ra w1 n1 w2 n2 least m).2
  rw [h] at h2
  exact h2
abbrev rm_M_match : Room := { frames := 3, cells := 0, slots := 0, locals := 88 }
set_option maxHeartbeats 4000000 in
set_option maxRecDepth 100000 in
theorem c_M_match (l : Launch) (D : va_G) (k : Nat → ClassId) (N : Nat) (AD : Int → Nat) (C : Int → va_E) (sz : Nat) (th : Int) (pn : Int) (kc : Int) (tr : Int) (lc : Int) (fa : Int) (fb : Int) (mn : Int) (mr : Int) (ma : Int) (ab : Int) (bl : Int) (mz : Int → Int) (mw : Int → Int) (mS : Int → Int) (mN : Int → Int) (mR : Int → Int) (a : Int) (b : Int) (least : Int) (hN : 90 ≤ (N : Int)) (hM : C 82 = .inr (4, [.int (zI th), .int (zI pn), .ref (AD 83), .int (zI kc), .ref (AD 84), .ref (AD 85), .int (zI tr), .int (zI lc), .int (zI fa), .int (zI fb), .ref (AD 86), .ref (AD 87), .ref (AD 88), .int (zI mn), .int (zI mr), .int (zI ma), .long (zL ab), .long (zL bl)])) (h84 : C 84 = aI (k 0) 9 mz) (h85 : C 85 = aI (k 0) 216 mw) (hmz : ∀ i : Int, 0 ≤ i → i < 9 → 0 ≤ mz i ∧ mz i ≤ 24) (hkc : 0 ≤ kc ∧ kc ≤ 8) (h86 : C 86 = aI (k 0) 48 mS) (h87 : C 87 = aI (k 0) 48 mN) (h88 : C 88 = aI (k 0) 48 mR) (hok : ∀ i : Int, 0 ≤ i → i < kc → MOK mw i (mz i)) (hm1 : ∀ i : Int, 0 ≤ i → i < kc → 1 ≤ mz i) (ha : inI a) (hb9 : inI b) (hle : inI least) (htr : 0 ≤ tr ∧ tr ≤ 100000) : MI l y_M_match (Cond.code y_M_match b_M_match 7 (Option.some Jvm.ClassFile.FieldType.int) :: WS) rm_M_match D clW (tyW k) N AD C sz [.ref (AD 82), .int (zI a), .int (zI b), .int (zI least)] (fun r C' => ((((0 ≤ a ∧ a < kc) ∧ (0 ≤ b ∧ b < kc)) ∧ (3 ≤ least ∧ least ≤ 24)) ∧ (∃ (lx n1 r1 a1 : Int) (mS1 mN1 mR1 aS aN aR aT aA : Int → Int), mAll (WM mw a) (mz a) (WM mw b) (mz b) least (mz a + mz b - 1).toNat = (lx, aS, aN, aR, aT, aA) ∧ r = zI lx ∧ C' 82 = .inr (4, [.int (zI 0), .int (zI pn), .ref (AD 83), .int (zI kc), .ref (AD 84), .ref (AD 85), .int (zI (tr + (mz a + mz b - 1))), .int (zI lx), .int (zI a), .int (zI b), .ref (AD 86), .ref (AD 87), .ref (AD 88), .int (zI n1), .int (zI r1), .int (zI a1), .long (zL ab), .long (zL bl)]) ∧ C' 86 = aI (k 0) 48 mS1 ∧ C' 87 = aI (k 0) 48 mN1 ∧ C' 88 = aI (k 0) 48 mR1 ∧ ∀ r : Int, 0 ≤ r → r < lx → mS1 r = aS r ∧ mN1 r = aN r ∧ mR1 r = aR r) ∨ (¬ ((0 ≤ a ∧ a < kc) ∧ (0 ≤ b ∧ b < kc)) ∧ C' 82 = .inr (4, [.int (zI 1), .int (zI pn), .ref (AD 83), .int (zI kc), .ref (AD 84), .ref (AD 85), .int (zI tr), .int (zI lc), .int (zI fa), .int (zI fb), .ref (AD 86), .ref (AD 87), .ref (AD 88), .int (zI mn), .int (zI mr), .int (zI ma), .long (zL ab), .long (zL bl)]) ∧ C' 86 = aI (k 0) 48 mS ∧ C' 87 = aI (k 0) 48 mN ∧ C' 88 = aI (k 0) 48 mR) ∨ ((((0 ≤ a ∧ a < kc) ∧ (0 ≤ b ∧ b < kc)) ∧ ¬ (3 ≤ least ∧ least ≤ 24)) ∧ C' 82 = .inr (4, [.int (zI 2), .int (zI pn), .ref (AD 83), .int (zI kc), .ref (AD 84), .ref (AD 85), .int (zI tr), .int (zI lc), .int (zI fa), .int (zI fb), .ref (AD 86), .ref (AD 87), .ref (AD 88), .int (zI mn), .int (zI mr), .int (zI ma), .long (zL ab), .long (zL bl)]) ∧ C' 86 = aI (k 0) 48 mS ∧ C' 87 = aI (k 0) 48 mN ∧ C' 88 = aI (k 0) 48 mR)) ∧ ∀ j : Int, ¬ (j = 82 ∨ (86 ≤ j ∧ j ≤ 88)) → C' j = C j) := by
  refine MI.start (cc := b_M_match) (maxL := 7) (rt := .int) (by decide) rfl (Nat.le_of_ble_eq_true rfl) ?_
  intro p e s m args below meth c Q ls hx hb hml hown hts hK hsz hw hl hret
  have hown : s.vm.findClass "RingMatchesModel" = some m.cls := hown
  have hl : lv_has ls 7 [(0, .ref (AD 82)), (1, .int (zI a)), (2, .int (zI b)), (3, .int (zI least))] := hl
  have hA := wA_hi (N := N) (AD := AD) hsz
  obtain ⟨H, hH⟩ : ∃ H, H = s.heap := ⟨_, rfl⟩
  obtain ⟨locs, hlocs⟩ : ∃ z : List Loc, z = [] := ⟨_, rfl⟩
  have hw : WD D clW (wA N AD sz) s.heap H locs N AD C := by rw [hH, hlocs]; exact hw
  rw [← hlocs]
  suffices hgo : W p l e rm_M_match s m args below meth c H locs 0 0 Q (F0 m 0 ls []) by rw [hH] at hgo; exact hgo
  obtain ⟨C0, hC0⟩ : ∃ z : Int → va_E, z = C := ⟨_, rfl⟩
  refine lv_aload_n hx hb d_M_match_0 rfl (lv_at hl 0 rfl) ?_
  refine lv_aload_n hx hb d_M_match_1 rfl (lv_at hl 0 rfl) ?_
  refine lv_iload_n hx hb d_M_match_2 rfl (lv_at hl 1 rfl) ?_
  refine zr_callI (va_runV (As := [.int (zI a)]) (rest := [.ref (AD 82)]) ⟨hx, hb, hml, hown, hts⟩ (c_M_isSeries l D k N AD C H.size th pn kc tr lc fa fb mn mr ma ab bl a hN hM ⟨by omega, by omega⟩ (by omega)) (cwV 1 hts (good_V wk_598 wk_600 wk_14 wk_31 wk_601) rfl rfl rfl (by decide +kernel) ⟨Nat.le_of_ble_eq_true rfl, Nat.le_of_ble_eq_true rfl⟩) (cPre_V hK hw 82 ⟨by omega, by omega⟩ hM rfl) rfl rfl hl.1 rfl (lv_room (Nat.le_of_ble_eq_true rfl)) d_M_match_3 ⟨Nat.le_of_ble_eq_true rfl, Nat.le_of_ble_eq_true rfl⟩) hw hA (fun r9 C2 H locs hq1 hw => ?_)
  obtain ⟨hq1, hCe⟩ := hq1
  rw [hCe] at hw
  rcases hq1 with ⟨hr9, hq1⟩ | ⟨hr9, hq1⟩ <;> subst hr9
  · refine zr_if_eq (tgt := 21) hx hb ⟨by omega, by omega⟩ d_M_match_6 (by decide) (fun c9 => absurd c9 (by decide)) (fun c3 => ?_)
    refine lv_aload_n hx hb d_M_match_9 rfl (lv_at hl 0 rfl) ?_
    refine lv_iload_n hx hb d_M_match_10 rfl (lv_at hl 2 rfl) ?_
    refine zr_callI (va_runV (As := [.int (zI b)]) (rest := [.ref (AD 82)]) ⟨hx, hb, hml, hown, hts⟩ (c_M_isSeries l D k N AD C H.size th pn kc tr lc fa fb mn mr ma ab bl b hN hM ⟨by omega, by omega⟩ (by omega)) (cwV 1 hts (good_V wk_598 wk_600 wk_14 wk_31 wk_601) rfl rfl rfl (by decide +kernel) ⟨Nat.le_of_ble_eq_true rfl, Nat.le_of_ble_eq_true rfl⟩) (cPre_V hK hw 82 ⟨by omega, by omega⟩ hM rfl) rfl rfl hl.1 rfl (lv_room (Nat.le_of_ble_eq_true rfl)) d_M_match_11 ⟨Nat.le_of_ble_eq_true rfl, Nat.le_of_ble_eq_true rfl⟩) hw hA (fun r9 C5 H locs hq4 hw => ?_)
    obtain ⟨hq4, hCe⟩ := hq4
    rw [hCe] at hw
    rcases hq4 with ⟨hr9, hq4⟩ | ⟨hr9, hq4⟩ <;> subst hr9
    · refine zr_if_eq (tgt := 21) hx hb ⟨by omega, by omega⟩ d_M_match_14 (by decide) (fun c9 => absurd c9 (by decide)) (fun c6 => ?_)
      refine zr_iconst hx hb d_M_match_17 ?_
      refine lv_goto (tgt := 22) hx hb d_M_match_18 (by decide) ?_
      refine lv_iload_n hx hb d_M_match_22 rfl (lv_at hl 3 rfl) ?_
      refine zr_iconst hx hb d_M_match_23 ?_
      refine zr_bipush hx hb d_M_match_24 (by decide) ?_
      refine zr_callI (va_runS (As := [.int (zI least), .int (zI 3), .int (zI 24)]) (rest := [.int (zI 1), .ref (AD 82)]) ⟨hx, hb, hml, hown, hts⟩ (c_M_within l D k N AD C H.size least 3 24 ⟨by omega, by omega⟩ ⟨by omega, by omega⟩ ⟨by omega, by omega⟩) (va_cwS 3 hts (good_S wk_572 wk_573 wk_31 wk_574) rfl rfl rfl (by decide +kernel) ⟨Nat.le_of_ble_eq_true rfl, Nat.le_of_ble_eq_true rfl⟩) (cPre_S hK hw) rfl rfl hl.1 rfl (lv_room (Nat.le_of_ble_eq_true rfl)) d_M_match_26 ⟨Nat.le_of_ble_eq_true rfl, Nat.le_of_ble_eq_true rfl⟩) hw hA (fun r9 C8 H locs hq7 hw => ?_)
      obtain ⟨hq7, hCe⟩ := hq7
      rw [hCe] at hw
      rcases hq7 with ⟨hr9, hq7⟩ | ⟨hr9, hq7⟩ <;> subst hr9
      · refine zr_iconst hx hb d_M_match_29 ?_
        refine zr_callI (va_runV (As := [.int (zI 1), .int (zI 1), .int (zI 1)]) (rest := []) ⟨hx, hb, hml, hown, hts⟩ (c_M_goes l D k N AD C H.size th pn kc tr lc fa fb mn mr ma ab bl 1 1 1 0 1 hN hM (by decide) (by decide) (by decide) (by decide) (by decide)) (cwV 3 hts (good_V wk_578 wk_580 wk_11 wk_31 wk_581) rfl rfl rfl (by decide +kernel) ⟨Nat.le_of_ble_eq_true rfl, Nat.le_of_ble_eq_true rfl⟩) (cPre_V hK hw 82 ⟨by omega, by omega⟩ hM rfl) rfl rfl hl.1 rfl (lv_room (Nat.le_of_ble_eq_true rfl)) d_M_match_30 ⟨Nat.le_of_ble_eq_true rfl, Nat.le_of_ble_eq_true rfl⟩) hw hA (fun r9 C9 H locs hq10 hw => ?_)
        obtain ⟨hr9, hq10a, frC9⟩ := hq10
        subst hr9
        have hM : C9 82 = .inr (4, [.int (zI 0), .int (zI pn), .ref (AD 83), .int (zI kc), .ref (AD 84), .ref (AD 85), .int (zI tr), .int (zI lc), .int (zI fa), .int (zI fb), .ref (AD 86), .ref (AD 87), .ref (AD 88), .int (zI mn), .int (zI mr), .int (zI ma), .long (zL ab), .long (zL bl)]) := hq10a
        have h84 : C9 84 = aI (k 0) 9 mz := (frC9 _ (by omega)).trans h84
        have h85 : C9 85 = aI (k 0) 216 mw := (frC9 _ (by omega)).trans h85
        have h86 : C9 86 = aI (k 0) 48 mS := (frC9 _ (by omega)).trans h86
        have h87 : C9 87 = aI (k 0) 48 mN := (frC9 _ (by omega)).trans h87
        have h88 : C9 88 = aI (k 0) 48 mR := (frC9 _ (by omega)).trans h88
        refine zr_if_ne (tgt := 38) hx hb ⟨by omega, by omega⟩ d_M_match_33 (by decide) (fun c11 => ?_) (fun c9 => absurd c9 (by decide))
        have hz1 := hmz a (by omega) (by omega)
        have hz2 := hmz b (by omega) (by omega)
        have hok1 := hok a (by omega) (by omega)
        have hok2 := hok b (by omega) (by omega)
        have hn1 := hm1 a (by omega) (by omega)
        have hn2 := hm1 b (by omega) (by omega)
        refine lv_aload_n hx hb d_M_match_38 rfl (lv_at hl 0 rfl) ?_
        refine lv_iload_n hx hb d_M_match_39 rfl (lv_at hl 1 rfl) ?_
        refine zr_put (ty := .int) (v := .int (zI a)) hx hb hts iw_M tyM tyM_ok nmM hown hK hw 82 ⟨by omega, by omega⟩ hM rfl 8 (by decide) (hts _ wk_514) (fun _ h => h) rfl (by decide +kernel) rfl rfl (Nat.le_of_ble_eq_true rfl) d_M_match_40 (fun H locs hw => ?_)
        obtain ⟨C12, hC12⟩ : ∃ z : Int → va_E, z = zup C9 82 (.inr (4, [.int (zI 0), .int (zI pn), .ref (AD 83), .int (zI kc), .ref (AD 84), .ref (AD 85), .int (zI tr), .int (zI lc), .int (zI a), .int (zI fb), .ref (AD 86), .ref (AD 87), .ref (AD 88), .int (zI mn), .int (zI mr), .int (zI ma), .long (zL ab), .long (zL bl)])) := ⟨_, rfl⟩
        have hw : WD D clW (wA N AD sz) s.heap H locs N AD C12 := by rw [hC12]; exact hw
        have frC12 : ∀ j : Int, j ≠ 82 → C12 j = C9 j := fun j h => by rw [hC12]; exact zup_n h
        have hM : C12 82 = .inr (4, [.int (zI 0), .int (zI pn), .ref (AD 83), .int (zI kc), .ref (AD 84), .ref (AD 85), .int (zI tr), .int (zI lc), .int (zI a), .int (zI fb), .ref (AD 86), .ref (AD 87), .ref (AD 88), .int (zI mn), .int (zI mr), .int (zI ma), .long (zL ab), .long (zL bl)]) := by rw [hC12]; exact zup_s
        have h84 : C12 84 = aI (k 0) 9 mz := (frC12 _ (by omega)).trans h84
        have h85 : C12 85 = aI (k 0) 216 mw := (frC12 _ (by omega)).trans h85
        have h86 : C12 86 = aI (k 0) 48 mS := (frC12 _ (by omega)).trans h86
        have h87 : C12 87 = aI (k 0) 48 mN := (frC12 _ (by omega)).trans h87
        have h88 : C12 88 = aI (k 0) 48 mR := (frC12 _ (by omega)).trans h88
        refine lv_aload_n hx hb d_M_match_43 rfl (lv_at hl 0 rfl) ?_
        refine lv_iload_n hx hb d_M_match_44 rfl (lv_at hl 2 rfl) ?_
        refine zr_put (ty := .int) (v := .int (zI b)) hx hb hts iw_M tyM tyM_ok nmM hown hK hw 82 ⟨by omega, by omega⟩ hM rfl 9 (by decide) (hts _ wk_515) (fun _ h => h) rfl (by decide +kernel) rfl rfl (Nat.le_of_ble_eq_true rfl) d_M_match_45 (fun H locs hw => ?_)
        obtain ⟨C13, hC13⟩ : ∃ z : Int → va_E, z = zup C12 82 (.inr (4, [.int (zI 0), .int (zI pn), .ref (AD 83), .int (zI kc), .ref (AD 84), .ref (AD 85), .int (zI tr), .int (zI lc), .int (zI a), .int (zI b), .ref (AD 86), .ref (AD 87), .ref (AD 88), .int (zI mn), .int (zI mr), .int (zI ma), .long (zL ab), .long (zL bl)])) := ⟨_, rfl⟩
        have hw : WD D clW (wA N AD sz) s.heap H locs N AD C13 := by rw [hC13]; exact hw
        have frC13 : ∀ j : Int, j ≠ 82 → C13 j = C12 j := fun j h => by rw [hC13]; exact zup_n h
        have hM : C13 82 = .inr (4, [.int (zI 0), .int (zI pn), .ref (AD 83), .int (zI kc), .ref (AD 84), .ref (AD 85), .int (zI tr), .int (zI lc), .int (zI a), .int (zI b), .ref (AD 86), .ref (AD 87), .ref (AD 88), .int (zI mn), .int (zI mr), .int (zI ma), .long (zL ab), .long (zL bl)]) := by rw [hC13]; exact zup_s
        have h84 : C13 84 = aI (k 0) 9 mz := (frC13 _ (by omega)).trans h84
        have h85 : C13 85 = aI (k 0) 216 mw := (frC13 _ (by omega)).trans h85
        have h86 : C13 86 = aI (k 0) 48 mS := (frC13 _ (by omega)).trans h86
        have h87 : C13 87 = aI (k 0) 48 mN := (frC13 _ (by omega)).trans h87
        have h88 : C13 88 = aI (k 0) 48 mR := (frC13 _ (by omega)).trans h88
        refine lv_aload_n hx hb d_M_match_48 rfl (lv_at hl 0 rfl) ?_
        refine zr_iconst hx hb d_M_match_49 ?_
        refine zr_put (ty := .int) (v := .int (zI 0)) hx hb hts iw_M tyM tyM_ok nmM hown hK hw 82 ⟨by omega, by omega⟩ hM rfl 7 (by decide) (hts _ wk_513) (fun _ h => h) rfl (by decide +kernel) rfl rfl (Nat.le_of_ble_eq_true rfl) d_M_match_50 (fun H locs hw => ?_)
        obtain ⟨C14, hC14⟩ : ∃ z : Int → va_E, z = zup C13 82 (.inr (4, [.int (zI 0), .int (zI pn), .ref (AD 83), .int (zI kc), .ref (AD 84), .ref (AD 85), .int (zI tr), .int (zI 0), .int (zI a), .int (zI b), .ref (AD 86), .ref (AD 87), .ref (AD 88), .int (zI mn), .int (zI mr), .int (zI ma), .long (zL ab), .long (zL bl)])) := ⟨_, rfl⟩
        have hw : WD D clW (wA N AD sz) s.heap H locs N AD C14 := by rw [hC14]; exact hw
        have frC14 : ∀ j : Int, j ≠ 82 → C14 j = C13 j := fun j h => by rw [hC14]; exact zup_n h
        have hM : C14 82 = .inr (4, [.int (zI 0), .int (zI pn), .ref (AD 83), .int (zI kc), .ref (AD 84), .ref (AD 85), .int (zI tr), .int (zI 0), .int (zI a), .int (zI b), .ref (AD 86), .ref (AD 87), .ref (AD 88), .int (zI mn), .int (zI mr), .int (zI ma), .long (zL ab), .long (zL bl)]) := by rw [hC14]; exact zup_s
        have h84 : C14 84 = aI (k 0) 9 mz := (frC14 _ (by omega)).trans h84
        have h85 : C14 85 = aI (k 0) 216 mw := (frC14 _ (by omega)).trans h85
        have h86 : C14 86 = aI (k 0) 48 mS := (frC14 _ (by omega)).trans h86
        have h87 : C14 87 = aI (k 0) 48 mN := (frC14 _ (by omega)).trans h87
        have h88 : C14 88 = aI (k 0) 48 mR := (frC14 _ (by omega)).trans h88
        refine zr_iconst hx hb d_M_match_53 ?_
        refine lv_aload_n hx hb d_M_match_54 rfl (lv_at hl 0 rfl) ?_
        refine zr_get (v := .ref (AD 84)) hx hb hts iw_M hown hK hw 82 ⟨by omega, by omega⟩ hM rfl 4 (by decide) (hts _ wk_510) (fun _ h => h) rfl d_M_match_55 ?_
        refine lv_iload_n hx hb d_M_match_58 rfl (lv_at hl 2 rfl) ?_
        refine zr_iald hx hb hK hw 84 ⟨by omega, by omega⟩ 0 h84 rfl ⟨by omega, by omega⟩ (by decide) d_M_match_59 ?_
        refine zr_isub hx hb d_M_match_60 ?_
        have hM : C14 82 = .inr (4, [.int (zI 0), .int (zI pn), .ref (AD 83), .int (zI kc), .ref (AD 84), .ref (AD 85), .int (zI (tr + ((1 - mz b) - (1 - mz b)))), .int (zI 0), .int (zI a), .int (zI b), .ref (AD 86), .ref (AD 87), .ref (AD 88), .int (zI mn), .int (zI mr), .int (zI ma), .long (zL ab), .long (zL bl)]) := by rw [show tr + ((1 - mz b) - (1 - mz b)) = tr by omega]; exact hM
        refine lv_istore (lv' := [(4, .int (zI (1 - (mz b)))), (0, .ref (AD 82)), (1, .int (zI a)), (2, .int (zI b)), (3, .int (zI least))]) hx hb d_M_match_61 hl (by decide) rfl (fun ls hl => ?_)
        have lp : ∀ (n9 : Nat) (x : Int) (lx : Int) (n1 : Int) (r1 : Int) (a1 : Int) (mS1 : Int → Int) (mN1 : Int → Int) (mR1 : Int → Int) (aS : Int → Int) (aN : Int → Int) (aR : Int → Int) (aT : Int → Int) (aA : Int → Int) (C : Int → va_E) (H : Heap) (locs : List Loc) (ls : Array Slot), (1 - mz b ≤ x ∧ x ≤ mz a) → (0 ≤ lx ∧ lx ≤ x - (1 - mz b)) → (mAll (WM mw a) (mz a) (WM mw b) (mz b) least (x - (1 - mz b)).toNat = (lx, aS, aN, aR, aT, aA)) → (∀ r : Int, 0 ≤ r → r < lx → mS1 r = aS r ∧ mN1 r = aN r ∧ mR1 r = aR r) → (∀ r : Int, 0 ≤ r → r < lx → (-24 ≤ aS r ∧ aS r < x) ∧ (0 ≤ aN r ∧ aN r ≤ 24) ∧ (-100 ≤ aR r ∧ aR r ≤ 100)) → (∀ j : Int, ¬ (j = 82 ∨ (86 ≤ j ∧ j ≤ 88)) → C j = C0 j) → (C 82 = .inr (4, [.int (zI 0), .int (zI pn), .ref (AD 83), .int (zI kc), .ref (AD 84), .ref (AD 85), .int (zI (tr + (x - (1 - mz b)))), .int (zI lx), .int (zI a), .int (zI b), .ref (AD 86), .ref (AD 87), .ref (AD 88), .int (zI n1), .int (zI r1), .int (zI a1), .long (zL ab), .long (zL bl)])) → (C 84 = aI (k 0) 9 mz) → (C 85 = aI (k 0) 216 mw) → (C 86 = aI (k 0) 48 mS1) → (C 87 = aI (k 0) 48 mN1) → (C 88 = aI (k 0) 48 mR1) → (mz a - x).toNat < n9 → WD D clW (wA N AD sz) s.heap H locs N AD C → lv_has ls 7 [(0, .ref (AD 82)), (1, .int (zI a)), (2, .int (zI b)), (3, .int (zI least)), (4, .int (zI x))] → W p l e rm_M_match s m args below meth c H locs 0 0 Q (F0 m 63 ls []) := by
          intro n9
          induction n9 with
          | zero => intro x lx n1 r1 a1 mS1 mN1 mR1 aS aN aR aT aA C H locs ls hx1 hlx hma hls hlb hfr hM h84 h85 h86 h87 h88 hm hw hl; exact absurd hm (by omega)
          | succ n9 ihlp =>
            intro x lx n1 r1 a1 mS1 mN1 mR1 aS aN aR aT aA C H locs ls hx1 hlx hma hls hlb hfr hM h84 h85 h86 h87 h88 hm hw hl
            refine lv_iload hx hb d_M_match_63 (lv_at hl 4 rfl) ?_
            refine lv_aload_n hx hb d_M_match_65 rfl (lv_at hl 0 rfl) ?_
            refine zr_get (v := .ref (AD 84)) hx hb hts iw_M hown hK hw 82 ⟨by omega, by omega⟩ hM rfl 4 (by decide) (hts _ wk_510) (fun _ h => h) rfl d_M_match_66 ?_
            refine lv_iload_n hx hb d_M_match_69 rfl (lv_at hl 1 rfl) ?_
            refine zr_iald hx hb hK hw 84 ⟨by omega, by omega⟩ 0 h84 rfl ⟨by omega, by omega⟩ (by decide) d_M_match_70 ?_
            refine zr_icmp_ge (tgt := 231) hx hb ⟨by omega, by omega⟩ ⟨by omega, by omega⟩ d_M_match_71 (by decide) (fun c15 => ?_) (fun c15 => ?_)
            · have hxe : x = mz a := by omega
              have em : x - (1 - mz b) = mz a + mz b - 1 := by omega
              rw [em] at hma hM
              refine lv_aload_n hx hb d_M_match_231 rfl (lv_at hl 0 rfl) ?_
              refine zr_get (v := .int (zI lx)) hx hb hts iw_M hown hK hw 82 ⟨by omega, by omega⟩ hM rfl 7 (by decide) (hts _ wk_513) (fun _ h => h) rfl d_M_match_232 ?_
              exact hret _ _ _ _ _ _ d_M_match_235 hw rfl ⟨Or.inl ⟨by omega, lx, n1, r1, a1, mS1, mN1, mR1, aS, aN, aR, aT, aA, hma, rfl, hM, h86, h87, h88, hls⟩, fun j hj => (hfr j hj).trans (by rw [hC0])⟩
            · refine lv_aload_n hx hb d_M_match_74 rfl (lv_at hl 0 rfl) ?_
              refine lv_iload_n hx hb d_M_match_75 rfl (lv_at hl 1 rfl) ?_
              refine lv_iload_n hx hb d_M_match_76 rfl (lv_at hl 2 rfl) ?_
              refine lv_iload hx hb d_M_match_77 (lv_at hl 4 rfl) ?_
              refine zr_callI (va_runV (As := [.int (zI a), .int (zI b), .int (zI x)]) (rest := []) ⟨hx, hb, hml, hown, hts⟩ (c_M_correlate l D k N AD C H.size 0 pn kc (tr + (x - (1 - mz b))) lx a b n1 r1 a1 ab bl mz mw a b x hN hM h84 h85 hmz (by omega) ⟨by omega, by omega⟩ ⟨by omega, by omega⟩ ⟨by omega, by omega⟩ hok1 hok2) (cwV 3 hts (good_V wk_626 wk_628 wk_18 wk_31 wk_629) rfl rfl rfl (by decide +kernel) ⟨Nat.le_of_ble_eq_true rfl, Nat.le_of_ble_eq_true rfl⟩) (cPre_V hK hw 82 ⟨by omega, by omega⟩ hM rfl) rfl rfl hl.1 rfl (lv_room (Nat.le_of_ble_eq_true rfl)) d_M_match_79 ⟨Nat.le_of_ble_eq_true rfl, Nat.le_of_ble_eq_true rfl⟩) hw hA (fun r9 C16 H locs hq17 hw => ?_)
              obtain ⟨hr9, hq17a, frC16⟩ := hq17
              subst hr9
              have hM : C16 82 = .inr (4, [.int (zI 0), .int (zI pn), .ref (AD 83), .int (zI kc), .ref (AD 84), .ref (AD 85), .int (zI (tr + (x - (1 - mz b)))), .int (zI lx), .int (zI a), .int (zI b), .ref (AD 86), .ref (AD 87), .ref (AD 88), .int (zI (ovN (WM mw a) (mz a) (WM mw b) (mz b) x)), .int (zI (ovR (WM mw a) (mz a) (WM mw b) (mz b) x)), .int (zI (ovA (WM mw a) (mz a) (WM mw b) (mz b) x)), .long (zL ab), .long (zL bl)]) := hq17a
              have h84 : C16 84 = aI (k 0) 9 mz := (frC16 _ (by omega)).trans h84
              have h85 : C16 85 = aI (k 0) 216 mw := (frC16 _ (by omega)).trans h85
              have h86 : C16 86 = aI (k 0) 48 mS1 := (frC16 _ (by omega)).trans h86
              have h87 : C16 87 = aI (k 0) 48 mN1 := (frC16 _ (by omega)).trans h87
              have h88 : C16 88 = aI (k 0) 48 mR1 := (frC16 _ (by omega)).trans h88
              refine lv_istore (lv' := [(5, .int (zI (ovC (WM mw a) (mz a) (WM mw b) (mz b) x))), (0, .ref (AD 82)), (1, .int (zI a)), (2, .int (zI b)), (3, .int (zI least)), (4, .int (zI x))]) hx hb d_M_match_82 hl (by decide) rfl (fun ls hl => ?_)
              have hNi := ovN_in (w1 := WM mw a) (w2 := WM mw b) (a := x) hz1 hz2
              have hCi : -100 ≤ ovC (WM mw a) (mz a) (WM mw b) (mz b) x ∧ ovC (WM mw a) (mz a) (WM mw b) (mz b) x ≤ 100 := corrF_in _ _ _
              refine lv_aload_n hx hb d_M_match_84 rfl (lv_at hl 1 rfl) ?_
              refine lv_dup hx hb d_M_match_85 rfl ?_
              refine zr_get (v := .int (zI (tr + (x - (1 - mz b))))) hx hb hts iw_M hown hK hw 82 ⟨by omega, by omega⟩ hM rfl 6 (by decide) (hts _ wk_512) (fun _ h => h) rfl d_M_match_86 ?_
              refine zr_iconst hx hb d_M_match_89 ?_
              refine zr_iadd hx hb d_M_match_90 ?_
              refine zr_put (ty := .int) (v := .int (zI ((tr + (x - (1 - mz b))) + 1))) hx hb hts iw_M tyM tyM_ok nmM hown hK hw 82 ⟨by omega, by omega⟩ hM rfl 6 (by decide) (hts _ wk_512) (fun _ h => h) rfl (by decide +kernel) rfl rfl (Nat.le_of_ble_eq_true rfl) d_M_match_91 (fun H locs hw => ?_)
              obtain ⟨C18, hC18⟩ : ∃ z : Int → va_E, z = zup C16 82 (.inr (4, [.int (zI 0), .int (zI pn), .ref (AD 83), .int (zI kc), .ref (AD 84), .ref (AD 85), .int (zI ((tr + (x - (1 - mz b))) + 1)), .int (zI lx), .int (zI a), .int (zI b), .ref (AD 86), .ref (AD 87), .ref (AD 88), .int (zI (ovN (WM mw a) (mz a) (WM mw b) (mz b) x)), .int (zI (ovR (WM mw a) (mz a) (WM mw b) (mz b) x)), .int (zI (ovA (WM mw a) (mz a) (WM mw b) (mz b) x)), .long (zL ab), .long (zL bl)])) := ⟨_, rfl⟩
              have hw : WD D clW (wA N AD sz) s.heap H locs N AD C18 := by rw [hC18]; exact hw
              have frC18 : ∀ j : Int, j ≠ 82 → C18 j = C16 j := fun j h => by rw [hC18]; exact zup_n h
              have hM : C18 82 = .inr (4, [.int (zI 0), .int (zI pn), .ref (AD 83), .int (zI kc), .ref (AD 84), .ref (AD 85), .int (zI ((tr + (x - (1 - mz b))) + 1)), .int (zI lx), .int (zI a), .int (zI b), .ref (AD 86), .ref (AD 87), .ref (AD 88), .int (zI (ovN (WM mw a) (mz a) (WM mw b) (mz b) x)), .int (zI (ovR (WM mw a) (mz a) (WM mw b) (mz b) x)), .int (zI (ovA (WM mw a) (mz a) (WM mw b) (mz b) x)), .long (zL ab), .long (zL bl)]) := by rw [hC18]; exact zup_s
              have h84 : C18 84 = aI (k 0) 9 mz := (frC18 _ (by omega)).trans h84
              have h85 : C18 85 = aI (k 0) 216 mw := (frC18 _ (by omega)).trans h85
              have h86 : C18 86 = aI (k 0) 48 mS1 := (frC18 _ (by omega)).trans h86
              have h87 : C18 87 = aI (k 0) 48 mN1 := (frC18 _ (by omega)).trans h87
              have h88 : C18 88 = aI (k 0) 48 mR1 := (frC18 _ (by omega)).trans h88
              refine lv_aload_n hx hb d_M_match_94 rfl (lv_at hl 1 rfl) ?_
              refine zr_get (v := .int (zI (ovN (WM mw a) (mz a) (WM mw b) (mz b) x))) hx hb hts iw_M hown hK hw 82 ⟨by omega, by omega⟩ hM rfl 13 (by decide) (hts _ wk_519) (fun _ h => h) rfl d_M_match_95 ?_
              refine lv_iload_n hx hb d_M_match_98 rfl (lv_at hl 4 rfl) ?_
              refine zr_icmp_lt (tgt := 225) hx hb ⟨by omega, by omega⟩ ⟨by omega, by omega⟩ d_M_match_99 (by decide) (fun c19 => ?_) (fun c19 => ?_)
              · have hma2 : mAll (WM mw a) (mz a) (WM mw b) (mz b) least (x + 1 - (1 - mz b)).toNat = (lx, aS, aN, aR, aT, aA) := by rw [mAll_step _ _ _ _ _ hx1.1, hma]; exact if_neg (by omega)
                have hM : C18 82 = .inr (4, [.int (zI 0), .int (zI pn), .ref (AD 83), .int (zI kc), .ref (AD 84), .ref (AD 85), .int (zI (tr + (x + 1 - (1 - mz b)))), .int (zI lx), .int (zI a), .int (zI b), .ref (AD 86), .ref (AD 87), .ref (AD 88), .int (zI (ovN (WM mw a) (mz a) (WM mw b) (mz b) x)), .int (zI (ovR (WM mw a) (mz a) (WM mw b) (mz b) x)), .int (zI (ovA (WM mw a) (mz a) (WM mw b) (mz b) x)), .long (zL ab), .long (zL bl)]) := by rw [show tr + (x + 1 - (1 - mz b)) = tr + (x - (1 - mz b)) + 1 by omega]; exact hM
                refine lv_iinc (v := zI (x + 1)) (lv' := [(4, .int (zI (x + 1))), (5, .int (zI (ovC (WM mw a) (mz a) (WM mw b) (mz b) x))), (0, .ref (AD 82)), (1, .int (zI a)), (2, .int (zI b)), (3, .int (zI least))]) hx hb d_M_match_225 hl (k := 5) rfl (zI_add _ _) (by decide) rfl (fun ls hl => ?_)
                refine lv_goto (tgt := 63) hx hb d_M_match_228 (by decide) ?_
                exact ihlp (x + 1) lx (ovN (WM mw a) (mz a) (WM mw b) (mz b) x) (ovR (WM mw a) (mz a) (WM mw b) (mz b) x) (ovA (WM mw a) (mz a) (WM mw b) (mz b) x) mS1 mN1 mR1 aS aN aR aT aA C18 H locs ls (by omega) (by omega) hma2 hls (fun r h1 h2 => by have := hlb r h1 h2; omega) (fun j hj => by rw [frC18 _ (by omega), frC16 _ (by omega)]; exact hfr j hj) hM h84 h85 h86 h87 h88 (by omega) hw (lv_sub hl [2, 3, 4, 5, 0] rfl)
              · have hge : least ≤ ovN (WM mw a) (mz a) (WM mw b) (mz b) x := by omega
                refine lv_aload_n hx hb d_M_match_102 rfl (lv_at hl 1 rfl) ?_
                refine zr_get (v := .int (zI lx)) hx hb hts iw_M hown hK hw 82 ⟨by omega, by omega⟩ hM rfl 7 (by decide) (hts _ wk_513) (fun _ h => h) rfl d_M_match_103 ?_
                refine lv_istore (lv' := [(6, .int (zI lx)), (5, .int (zI (ovC (WM mw a) (mz a) (WM mw b) (mz b) x))), (0, .ref (AD 82)), (1, .int (zI a)), (2, .int (zI b)), (3, .int (zI least)), (4, .int (zI x))]) hx hb d_M_match_106 hl (by decide) rfl (fun ls hl => ?_)
                have li : ∀ (n9 : Nat) (y : Int) (bS : Int → Int) (bN : Int → Int) (bR : Int → Int) (C : Int → va_E) (H : Heap) (locs : List Loc) (ls : Array Slot), (0 ≤ y ∧ y ≤ lx) → (∀ r : Int, bS r = if y < r ∧ r ≤ lx then mS1 (r - 1) else mS1 r) → (∀ r : Int, bN r = if y < r ∧ r ≤ lx then mN1 (r - 1) else mN1 r) → (∀ r : Int, bR r = if y < r ∧ r ≤ lx then mR1 (r - 1) else mR1 r) → (insK mN1 mR1 (ovN (WM mw a) (mz a) (WM mw b) (mz b) x) (ovC (WM mw a) (mz a) (WM mw b) (mz b) x) lx.toNat = insK mN1 mR1 (ovN (WM mw a) (mz a) (WM mw b) (mz b) x) (ovC (WM mw a) (mz a) (WM mw b) (mz b) x) y.toNat) → (∀ j : Int, ¬ (j = 82 ∨ (86 ≤ j ∧ j ≤ 88)) → C j = C0 j) → (C 82 = .inr (4, [.int (zI 0), .int (zI pn), .ref (AD 83), .int (zI kc), .ref (AD 84), .ref (AD 85), .int (zI (tr + (x - (1 - mz b)) + 1)), .int (zI lx), .int (zI a), .int (zI b), .ref (AD 86), .ref (AD 87), .ref (AD 88), .int (zI (ovN (WM mw a) (mz a) (WM mw b) (mz b) x)), .int (zI (ovR (WM mw a) (mz a) (WM mw b) (mz b) x)), .int (zI (ovA (WM mw a) (mz a) (WM mw b) (mz b) x)), .long (zL ab), .long (zL bl)])) → (C 84 = aI (k 0) 9 mz) → (C 85 = aI (k 0) 216 mw) → (C 86 = aI (k 0) 48 bS) → (C 87 = aI (k 0) 48 bN) → (C 88 = aI (k 0) 48 bR) → (y).toNat < n9 → WD D clW (wA N AD sz) s.heap H locs N AD C → lv_has ls 7 [(0, .ref (AD 82)), (1, .int (zI a)), (2, .int (zI b)), (3, .int (zI least)), (4, .int (zI x)), (5, .int (zI (ovC (WM mw a) (mz a) (WM mw b) (mz b) x))), (6, .int (zI y))] → W p l e rm_M_match s m args below meth c H locs 0 0 Q (F0 m 108 ls []) := by
                  intro n9
                  induction n9 with
                  | zero => intro y bS bN bR C H locs ls hy1 hbS hbN hbR hik hfr2 hM h84 h85 h86 h87 h88 hm hw hl; exact absurd hm (by omega)
                  | succ n9 ihli =>
                    intro y bS bN bR C H locs ls hy1 hbS hbN hbR hik hfr2 hM h84 h85 h86 h87 h88 hm hw hl
                    refine lv_iload hx hb d_M_match_108 (lv_at hl 6 rfl) ?_
                    refine zr_if_le (tgt := 186) hx hb ⟨by omega, by omega⟩ d_M_match_110 (by decide) (fun c20 => ?_) (fun c20 => ?_)
                    · have hK9 : insK mN1 mR1 (ovN (WM mw a) (mz a) (WM mw b) (mz b) x) (ovC (WM mw a) (mz a) (WM mw b) (mz b) x) lx.toNat = y := by rw [hik, show y = 0 by omega]; rfl
                      have hfr := hfr2
                      refine lv_aload_n hx hb d_M_match_186 rfl (lv_at hl 0 rfl) ?_
                      refine zr_get (v := .ref (AD 86)) hx hb hts iw_M hown hK hw 82 ⟨by omega, by omega⟩ hM rfl 10 (by decide) (hts _ wk_516) (fun _ h => h) rfl d_M_match_187 ?_
                      refine lv_iload hx hb d_M_match_190 (lv_at hl 6 rfl) ?_
                      refine lv_iload hx hb d_M_match_192 (lv_at hl 4 rfl) ?_
                      refine zr_iast hx hb hK hw 86 ⟨by omega, by omega⟩ 0 h86 rfl ⟨by omega, by omega⟩ (by decide) d_M_match_194 (fun H locs hw => ?_)
                      obtain ⟨C21, hC21⟩ : ∃ z : Int → va_E, z = zup C 86 (aI (k 0) 48 (zup bS y x)) := ⟨_, rfl⟩
                      have hw : WD D clW (wA N AD sz) s.heap H locs N AD C21 := by rw [hC21]; exact hw
                      have frC21 : ∀ j : Int, j ≠ 86 → C21 j = C j := fun j h => by rw [hC21]; exact zup_n h
                      have hM : C21 82 = .inr (4, [.int (zI 0), .int (zI pn), .ref (AD 83), .int (zI kc), .ref (AD 84), .ref (AD 85), .int (zI (tr + (x - (1 - mz b)) + 1)), .int (zI lx), .int (zI a), .int (zI b), .ref (AD 86), .ref (AD 87), .ref (AD 88), .int (zI (ovN (WM mw a) (mz a) (WM mw b) (mz b) x)), .int (zI (ovR (WM mw a) (mz a) (WM mw b) (mz b) x)), .int (zI (ovA (WM mw a) (mz a) (WM mw b) (mz b) x)), .long (zL ab), .long (zL bl)]) := (frC21 _ (by omega)).trans hM
                      have h84 : C21 84 = aI (k 0) 9 mz := (frC21 _ (by omega)).trans h84
                      have h85 : C21 85 = aI (k 0) 216 mw := (frC21 _ (by omega)).trans h85
                      have h86 : C21 86 = aI (k 0) 48 (zup bS y x) := by rw [hC21]; exact zup_s
                      have h87 : C21 87 = aI (k 0) 48 bN := (frC21 _ (by omega)).trans h87
                      have h88 : C21 88 = aI (k 0) 48 bR := (frC21 _ (by omega)).trans h88
                      refine lv_aload_n hx hb d_M_match_195 rfl (lv_at hl 0 rfl) ?_
                      refine zr_get (v := .ref (AD 87)) hx hb hts iw_M hown hK hw 82 ⟨by omega, by omega⟩ hM rfl 11 (by decide) (hts _ wk_517) (fun _ h => h) rfl d_M_match_196 ?_
                      refine lv_iload hx hb d_M_match_199 (lv_at hl 6 rfl) ?_
                      refine lv_aload_n hx hb d_M_match_201 rfl (lv_at hl 0 rfl) ?_
                      refine zr_get (v := .int (zI (ovN (WM mw a) (mz a) (WM mw b) (mz b) x))) hx hb hts iw_M hown hK hw 82 ⟨by omega, by omega⟩ hM rfl 13 (by decide) (hts _ wk_519) (fun _ h => h) rfl d_M_match_202 ?_
                      refine zr_iast hx hb hK hw 87 ⟨by omega, by omega⟩ 0 h87 rfl ⟨by omega, by omega⟩ (by decide) d_M_match_205 (fun H locs hw => ?_)
                      obtain ⟨C22, hC22⟩ : ∃ z : Int → va_E, z = zup C21 87 (aI (k 0) 48 (zup bN y (ovN (WM mw a) (mz a) (WM mw b) (mz b) x))) := ⟨_, rfl⟩
                      have hw : WD D clW (wA N AD sz) s.heap H locs N AD C22 := by rw [hC22]; exact hw
                      have frC22 : ∀ j : Int, j ≠ 87 → C22 j = C21 j := fun j h => by rw [hC22]; exact zup_n h
                      have hM : C22 82 = .inr (4, [.int (zI 0), .int (zI pn), .ref (AD 83), .int (zI kc), .ref (AD 84), .ref (AD 85), .int (zI (tr + (x - (1 - mz b)) + 1)), .int (zI lx), .int (zI a), .int (zI b), .ref (AD 86), .ref (AD 87), .ref (AD 88), .int (zI (ovN (WM mw a) (mz a) (WM mw b) (mz b) x)), .int (zI (ovR (WM mw a) (mz a) (WM mw b) (mz b) x)), .int (zI (ovA (WM mw a) (mz a) (WM mw b) (mz b) x)), .long (zL ab), .long (zL bl)]) := (frC22 _ (by omega)).trans hM
                      have h84 : C22 84 = aI (k 0) 9 mz := (frC22 _ (by omega)).trans h84
                      have h85 : C22 85 = aI (k 0) 216 mw := (frC22 _ (by omega)).trans h85
                      have h86 : C22 86 = aI (k 0) 48 (zup bS y x) := (frC22 _ (by omega)).trans h86
                      have h87 : C22 87 = aI (k 0) 48 (zup bN y (ovN (WM mw a) (mz a) (WM mw b) (mz b) x)) := by rw [hC22]; exact zup_s
                      have h88 : C22 88 = aI (k 0) 48 bR := (frC22 _ (by omega)).trans h88
                      refine lv_aload_n hx hb d_M_match_206 rfl (lv_at hl 0 rfl) ?_
                      refine zr_get (v := .ref (AD 88)) hx hb hts iw_M hown hK hw 82 ⟨by omega, by omega⟩ hM rfl 12 (by decide) (hts _ wk_518) (fun _ h => h) rfl d_M_match_207 ?_
                      refine lv_iload hx hb d_M_match_210 (lv_at hl 6 rfl) ?_
                      refine lv_iload hx hb d_M_match_212 (lv_at hl 5 rfl) ?_
                      refine zr_iast hx hb hK hw 88 ⟨by omega, by omega⟩ 0 h88 rfl ⟨by omega, by omega⟩ (by decide) d_M_match_214 (fun H locs hw => ?_)
                      obtain ⟨C23, hC23⟩ : ∃ z : Int → va_E, z = zup C22 88 (aI (k 0) 48 (zup bR y (ovC (WM mw a) (mz a) (WM mw b) (mz b) x))) := ⟨_, rfl⟩
                      have hw : WD D clW (wA N AD sz) s.heap H locs N AD C23 := by rw [hC23]; exact hw
                      have frC23 : ∀ j : Int, j ≠ 88 → C23 j = C22 j := fun j h => by rw [hC23]; exact zup_n h
                      have hM : C23 82 = .inr (4, [.int (zI 0), .int (zI pn), .ref (AD 83), .int (zI kc), .ref (AD 84), .ref (AD 85), .int (zI (tr + (x - (1 - mz b)) + 1)), .int (zI lx), .int (zI a), .int (zI b), .ref (AD 86), .ref (AD 87), .ref (AD 88), .int (zI (ovN (WM mw a) (mz a) (WM mw b) (mz b) x)), .int (zI (ovR (WM mw a) (mz a) (WM mw b) (mz b) x)), .int (zI (ovA (WM mw a) (mz a) (WM mw b) (mz b) x)), .long (zL ab), .long (zL bl)]) := (frC23 _ (by omega)).trans hM
                      have h84 : C23 84 = aI (k 0) 9 mz := (frC23 _ (by omega)).trans h84
                      have h85 : C23 85 = aI (k 0) 216 mw := (frC23 _ (by omega)).trans h85
                      have h86 : C23 86 = aI (k 0) 48 (zup bS y x) := (frC23 _ (by omega)).trans h86
                      have h87 : C23 87 = aI (k 0) 48 (zup bN y (ovN (WM mw a) (mz a) (WM mw b) (mz b) x)) := (frC23 _ (by omega)).trans h87
                      have h88 : C23 88 = aI (k 0) 48 (zup bR y (ovC (WM mw a) (mz a) (WM mw b) (mz b) x)) := by rw [hC23]; exact zup_s
                      refine lv_aload_n hx hb d_M_match_215 rfl (lv_at hl 0 rfl) ?_
                      refine lv_dup hx hb d_M_match_216 rfl ?_
                      refine zr_get (v := .int (zI lx)) hx hb hts iw_M hown hK hw 82 ⟨by omega, by omega⟩ hM rfl 7 (by decide) (hts _ wk_513) (fun _ h => h) rfl d_M_match_217 ?_
                      refine zr_iconst hx hb d_M_match_220 ?_
                      refine zr_iadd hx hb d_M_match_221 ?_
                      refine zr_put (ty := .int) (v := .int (zI (lx + 1))) hx hb hts iw_M tyM tyM_ok nmM hown hK hw 82 ⟨by omega, by omega⟩ hM rfl 7 (by decide) (hts _ wk_513) (fun _ h => h) rfl (by decide +kernel) rfl rfl (Nat.le_of_ble_eq_true rfl) d_M_match_222 (fun H locs hw => ?_)
                      obtain ⟨C24, hC24⟩ : ∃ z : Int → va_E, z = zup C23 82 (.inr (4, [.int (zI 0), .int (zI pn), .ref (AD 83), .int (zI kc), .ref (AD 84), .ref (AD 85), .int (zI (tr + (x - (1 - mz b)) + 1)), .int (zI (lx + 1)), .int (zI a), .int (zI b), .ref (AD 86), .ref (AD 87), .ref (AD 88), .int (zI (ovN (WM mw a) (mz a) (WM mw b) (mz b) x)), .int (zI (ovR (WM mw a) (mz a) (WM mw b) (mz b) x)), .int (zI (ovA (WM mw a) (mz a) (WM mw b) (mz b) x)), .long (zL ab), .long (zL bl)])) := ⟨_, rfl⟩
                      have hw : WD D clW (wA N AD sz) s.heap H locs N AD C24 := by rw [hC24]; exact hw
                      have frC24 : ∀ j : Int, j ≠ 82 → C24 j = C23 j := fun j h => by rw [hC24]; exact zup_n h
                      have hM : C24 82 = .inr (4, [.int (zI 0), .int (zI pn), .ref (AD 83), .int (zI kc), .ref (AD 84), .ref (AD 85), .int (zI (tr + (x - (1 - mz b)) + 1)), .int (zI (lx + 1)), .int (zI a), .int (zI b), .ref (AD 86), .ref (AD 87), .ref (AD 88), .int (zI (ovN (WM mw a) (mz a) (WM mw b) (mz b) x)), .int (zI (ovR (WM mw a) (mz a) (WM mw b) (mz b) x)), .int (zI (ovA (WM mw a) (mz a) (WM mw b) (mz b) x)), .long (zL ab), .long (zL bl)]) := by rw [hC24]; exact zup_s
                      have h84 : C24 84 = aI (k 0) 9 mz := (frC24 _ (by omega)).trans h84
                      have h85 : C24 85 = aI (k 0) 216 mw := (frC24 _ (by omega)).trans h85
                      have h86 : C24 86 = aI (k 0) 48 (zup bS y x) := (frC24 _ (by omega)).trans h86
                      have h87 : C24 87 = aI (k 0) 48 (zup bN y (ovN (WM mw a) (mz a) (WM mw b) (mz b) x)) := (frC24 _ (by omega)).trans h87
                      have h88 : C24 88 = aI (k 0) 48 (zup bR y (ovC (WM mw a) (mz a) (WM mw b) (mz b) x)) := (frC24 _ (by omega)).trans h88
                      have hKa : insK aN aR (ovN (WM mw a) (mz a) (WM mw b) (mz b) x) (ovC (WM mw a) (mz a) (WM mw b) (mz b) x) lx.toNat = y := by rw [← hK9]; exact (insK_eq _ (fun r h1 h2 => ⟨(hls r h1 (by omega)).2.1, (hls r h1 (by omega)).2.2⟩)).symm
                      have hma2 : mAll (WM mw a) (mz a) (WM mw b) (mz b) least (x + 1 - (1 - mz b)).toNat = (lx + 1, insF aS y x, insF aN y (ovN (WM mw a) (mz a) (WM mw b) (mz b) x), insF aR y (ovC (WM mw a) (mz a) (WM mw b) (mz b) x), insF aT y (ovR (WM mw a) (mz a) (WM mw b) (mz b) x), insF aA y (ovA (WM mw a) (mz a) (WM mw b) (mz b) x)) := by
                        rw [mAll_step _ _ _ _ _ hx1.1, hma, ← hKa]; exact if_pos hge
                      have hls2 : ∀ r : Int, 0 ≤ r → r < lx + 1 → zup bS y x r = insF aS y x r ∧ zup bN y (ovN (WM mw a) (mz a) (WM mw b) (mz b) x) r = insF aN y (ovN (WM mw a) (mz a) (WM mw b) (mz b) x) r ∧ zup bR y (ovC (WM mw a) (mz a) (WM mw b) (mz b) x) r = insF aR y (ovC (WM mw a) (mz a) (WM mw b) (mz b) x) r := fun r h1 h2 => ⟨insA hy1 hbS (fun r p q => (hls r p q).1) r h1 h2, insA hy1 hbN (fun r p q => (hls r p q).2.1) r h1 h2, insA hy1 hbR (fun r p q => (hls r p q).2.2) r h1 h2⟩
                      have hlb2 : ∀ r : Int, 0 ≤ r → r < lx + 1 → (-24 ≤ insF aS y x r ∧ insF aS y x r < x + 1) ∧ (0 ≤ insF aN y (ovN (WM mw a) (mz a) (WM mw b) (mz b) x) r ∧ insF aN y (ovN (WM mw a) (mz a) (WM mw b) (mz b) x) r ≤ 24) ∧ (-100 ≤ insF aR y (ovC (WM mw a) (mz a) (WM mw b) (mz b) x) r ∧ insF aR y (ovC (WM mw a) (mz a) (WM mw b) (mz b) x) r ≤ 100) := fun r h1 h2 =>
                        ⟨insF_R (R := fun z => -24 ≤ z ∧ z < x + 1) hy1 (fun r p q => by have := hlb r p q; omega) (by omega) r h1 h2, insF_R (R := fun z => 0 ≤ z ∧ z ≤ 24) hy1 (fun r p q => (hlb r p q).2.1) hNi r h1 h2, insF_R (R := fun z => -100 ≤ z ∧ z ≤ 100) hy1 (fun r p q => (hlb r p q).2.2) hCi r h1 h2⟩
                      have hM : C24 82 = .inr (4, [.int (zI 0), .int (zI pn), .ref (AD 83), .int (zI kc), .ref (AD 84), .ref (AD 85), .int (zI (tr + (x + 1 - (1 - mz b)))), .int (zI (lx + 1)), .int (zI a), .int (zI b), .ref (AD 86), .ref (AD 87), .ref (AD 88), .int (zI (ovN (WM mw a) (mz a) (WM mw b) (mz b) x)), .int (zI (ovR (WM mw a) (mz a) (WM mw b) (mz b) x)), .int (zI (ovA (WM mw a) (mz a) (WM mw b) (mz b) x)), .long (zL ab), .long (zL bl)]) := by rw [show tr + (x + 1 - (1 - mz b)) = tr + (x - (1 - mz b)) + 1 by omega]; exact hM
                      refine lv_iinc (v := zI (x + 1)) (lv' := [(4, .int (zI (x + 1))), (0, .ref (AD 82)), (1, .int (zI a)), (2, .int (zI b)), (3, .int (zI least)), (5, .int (zI (ovC (WM mw a) (mz a) (WM mw b) (mz b) x))), (6, .int (zI y))]) hx hb d_M_match_225 hl (k := 4) rfl (zI_add _ _) (by decide) rfl (fun ls hl => ?_)
                      refine lv_goto (tgt := 63) hx hb d_M_match_228 (by decide) ?_
                      exact ihlp (x + 1) (lx + 1) (ovN (WM mw a) (mz a) (WM mw b) (mz b) x) (ovR (WM mw a) (mz a) (WM mw b) (mz b) x) (ovA (WM mw a) (mz a) (WM mw b) (mz b) x) (zup bS y x) (zup bN y (ovN (WM mw a) (mz a) (WM mw b) (mz b) x)) (zup bR y (ovC (WM mw a) (mz a) (WM mw b) (mz b) x)) (insF aS y x) (insF aN y (ovN (WM mw a) (mz a) (WM mw b) (mz b) x)) (insF aR y (ovC (WM mw a) (mz a) (WM mw b) (mz b) x)) (insF aT y (ovR (WM mw a) (mz a) (WM mw b) (mz b) x)) (insF aA y (ovA (WM mw a) (mz a) (WM mw b) (mz b) x)) C24 H locs ls (by omega) (by omega) hma2 hls2 hlb2 (fun j hj => by rw [frC24 _ (by omega), frC23 _ (by omega), frC22 _ (by omega), frC21 _ (by omega)]; exact hfr j hj) hM h84 h85 h86 h87 h88 (by omega) hw (lv_sub hl [1, 2, 3, 4, 0] rfl)
                    · have hy9 : 0 < y := c20
                      refine lv_aload_n hx hb d_M_match_113 rfl (lv_at hl 0 rfl) ?_
                      refine lv_iload hx hb d_M_match_114 (lv_at hl 5 rfl) ?_
                      refine lv_aload_n hx hb d_M_match_116 rfl (lv_at hl 0 rfl) ?_
                      refine zr_get (v := .int (zI (ovN (WM mw a) (mz a) (WM mw b) (mz b) x))) hx hb hts iw_M hown hK hw 82 ⟨by omega, by omega⟩ hM rfl 13 (by decide) (hts _ wk_519) (fun _ h => h) rfl d_M_match_117 ?_
                      refine lv_iload hx hb d_M_match_120 (lv_at hl 4 rfl) ?_
                      refine lv_iload hx hb d_M_match_122 (lv_at hl 6 rfl) ?_
                      refine zr_iconst hx hb d_M_match_124 ?_
                      refine zr_isub hx hb d_M_match_125 ?_
                      have ebS : bS (y - 1) = mS1 (y - 1) := by rw [hbS, if_neg (by omega)]
                      have ebN : bN (y - 1) = mN1 (y - 1) := by rw [hbN, if_neg (by omega)]
                      have ebR : bR (y - 1) = mR1 (y - 1) := by rw [hbR, if_neg (by omega)]
                      have hl9 := hls (y - 1) (by omega) (by omega)
                      have hl8 := hlb (y - 1) (by omega) (by omega)
                      refine zr_callI (va_runV (As := [.int (zI (ovC (WM mw a) (mz a) (WM mw b) (mz b) x)), .int (zI (ovN (WM mw a) (mz a) (WM mw b) (mz b) x)), .int (zI x), .int (zI (y - 1))]) (rest := []) ⟨hx, hb, hml, hown, hts⟩ (c_M_isAhead l D k N AD C H.size 0 pn kc (tr + (x - (1 - mz b)) + 1) lx a b (ovN (WM mw a) (mz a) (WM mw b) (mz b) x) (ovR (WM mw a) (mz a) (WM mw b) (mz b) x) (ovA (WM mw a) (mz a) (WM mw b) (mz b) x) ab bl bS bN bR (ovC (WM mw a) (mz a) (WM mw b) (mz b) x) (ovN (WM mw a) (mz a) (WM mw b) (mz b) x) x (y - 1) hN hM h86 h87 h88 (by omega) (by omega) (by omega) (by omega) (by omega)) (cwV 4 hts (good_V wk_642 wk_644 wk_21 wk_31 wk_645) rfl rfl rfl (by decide +kernel) ⟨Nat.le_of_ble_eq_true rfl, Nat.le_of_ble_eq_true rfl⟩) (cPre_V hK hw 82 ⟨by omega, by omega⟩ hM rfl) rfl rfl hl.1 rfl (lv_room (Nat.le_of_ble_eq_true rfl)) d_M_match_126 ⟨Nat.le_of_ble_eq_true rfl, Nat.le_of_ble_eq_true rfl⟩) hw hA (fun r9 C26 H locs hq25 hw => ?_)
                      obtain ⟨hq25, hCe⟩ := hq25
                      rw [hCe] at hw
                      rcases hq25 with ⟨hr9, hq25⟩ | ⟨hr9, hq25⟩ <;> subst hr9
                      · refine zr_if_eq (tgt := 186) hx hb ⟨by omega, by omega⟩ d_M_match_129 (by decide) (fun c9 => absurd c9 (by decide)) (fun c27 => ?_)
                        refine lv_aload_n hx hb d_M_match_132 rfl (lv_at hl 0 rfl) ?_
                        refine zr_get (v := .ref (AD 86)) hx hb hts iw_M hown hK hw 82 ⟨by omega, by omega⟩ hM rfl 10 (by decide) (hts _ wk_516) (fun _ h => h) rfl d_M_match_133 ?_
                        refine lv_iload hx hb d_M_match_136 (lv_at hl 6 rfl) ?_
                        refine lv_aload_n hx hb d_M_match_138 rfl (lv_at hl 0 rfl) ?_
                        refine zr_get (v := .ref (AD 86)) hx hb hts iw_M hown hK hw 82 ⟨by omega, by omega⟩ hM rfl 10 (by decide) (hts _ wk_516) (fun _ h => h) rfl d_M_match_139 ?_
                        refine lv_iload hx hb d_M_match_142 (lv_at hl 6 rfl) ?_
                        refine zr_iconst hx hb d_M_match_144 ?_
                        refine zr_isub hx hb d_M_match_145 ?_
                        refine zr_iald hx hb hK hw 86 ⟨by omega, by omega⟩ 0 h86 rfl ⟨by omega, by omega⟩ (by decide) d_M_match_146 ?_
                        refine zr_iast hx hb hK hw 86 ⟨by omega, by omega⟩ 0 h86 rfl ⟨by omega, by omega⟩ (by decide) d_M_match_147 (fun H locs hw => ?_)
                        obtain ⟨C28, hC28⟩ : ∃ z : Int → va_E, z = zup C 86 (aI (k 0) 48 (zup bS y (bS (y - 1)))) := ⟨_, rfl⟩
                        have hw : WD D clW (wA N AD sz) s.heap H locs N AD C28 := by rw [hC28]; exact hw
                        have frC28 : ∀ j : Int, j ≠ 86 → C28 j = C j := fun j h => by rw [hC28]; exact zup_n h
                        have hM : C28 82 = .inr (4, [.int (zI 0), .int (zI pn), .ref (AD 83), .int (zI kc), .ref (AD 84), .ref (AD 85), .int (zI (tr + (x - (1 - mz b)) + 1)), .int (zI lx), .int (zI a), .int (zI b), .ref (AD 86), .ref (AD 87), .ref (AD 88), .int (zI (ovN (WM mw a) (mz a) (WM mw b) (mz b) x)), .int (zI (ovR (WM mw a) (mz a) (WM mw b) (mz b) x)), .int (zI (ovA (WM mw a) (mz a) (WM mw b) (mz b) x)), .long (zL ab), .long (zL bl)]) := (frC28 _ (by omega)).trans hM
                        have h84 : C28 84 = aI (k 0) 9 mz := (frC28 _ (by omega)).trans h84
                        have h85 : C28 85 = aI (k 0) 216 mw := (frC28 _ (by omega)).trans h85
                        have h86 : C28 86 = aI (k 0) 48 (zup bS y (bS (y - 1))) := by rw [hC28]; exact zup_s
                        have h87 : C28 87 = aI (k 0) 48 bN := (frC28 _ (by omega)).trans h87
                        have h88 : C28 88 = aI (k 0) 48 bR := (frC28 _ (by omega)).trans h88
                        refine lv_aload_n hx hb d_M_match_148 rfl (lv_at hl 0 rfl) ?_
                        refine zr_get (v := .ref (AD 87)) hx hb hts iw_M hown hK hw 82 ⟨by omega, by omega⟩ hM rfl 11 (by decide) (hts _ wk_517) (fun _ h => h) rfl d_M_match_149 ?_
                        refine lv_iload hx hb d_M_match_152 (lv_at hl 6 rfl) ?_
                        refine lv_aload_n hx hb d_M_match_154 rfl (lv_at hl 0 rfl) ?_
                        refine zr_get (v := .ref (AD 87)) hx hb hts iw_M hown hK hw 82 ⟨by omega, by omega⟩ hM rfl 11 (by decide) (hts _ wk_517) (fun _ h => h) rfl d_M_match_155 ?_
                        refine lv_iload hx hb d_M_match_158 (lv_at hl 6 rfl) ?_
                        refine zr_iconst hx hb d_M_match_160 ?_
                        refine zr_isub hx hb d_M_match_161 ?_
                        refine zr_iald hx hb hK hw 87 ⟨by omega, by omega⟩ 0 h87 rfl ⟨by omega, by omega⟩ (by decide) d_M_match_162 ?_
                        refine zr_iast hx hb hK hw 87 ⟨by omega, by omega⟩ 0 h87 rfl ⟨by omega, by omega⟩ (by decide) d_M_match_163 (fun H locs hw => ?_)
                        obtain ⟨C29, hC29⟩ : ∃ z : Int → va_E, z = zup C28 87 (aI (k 0) 48 (zup bN y (bN (y - 1)))) := ⟨_, rfl⟩
                        have hw : WD D clW (wA N AD sz) s.heap H locs N AD C29 := by rw [hC29]; exact hw
                        have frC29 : ∀ j : Int, j ≠ 87 → C29 j = C28 j := fun j h => by rw [hC29]; exact zup_n h
                        have hM : C29 82 = .inr (4, [.int (zI 0), .int (zI pn), .ref (AD 83), .int (zI kc), .ref (AD 84), .ref (AD 85), .int (zI (tr + (x - (1 - mz b)) + 1)), .int (zI lx), .int (zI a), .int (zI b), .ref (AD 86), .ref (AD 87), .ref (AD 88), .int (zI (ovN (WM mw a) (mz a) (WM mw b) (mz b) x)), .int (zI (ovR (WM mw a) (mz a) (WM mw b) (mz b) x)), .int (zI (ovA (WM mw a) (mz a) (WM mw b) (mz b) x)), .long (zL ab), .long (zL bl)]) := (frC29 _ (by omega)).trans hM
                        have h84 : C29 84 = aI (k 0) 9 mz := (frC29 _ (by omega)).trans h84
                        have h85 : C29 85 = aI (k 0) 216 mw := (frC29 _ (by omega)).trans h85
                        have h86 : C29 86 = aI (k 0) 48 (zup bS y (bS (y - 1))) := (frC29 _ (by omega)).trans h86
                        have h87 : C29 87 = aI (k 0) 48 (zup bN y (bN (y - 1))) := by rw [hC29]; exact zup_s
                        have h88 : C29 88 = aI (k 0) 48 bR := (frC29 _ (by omega)).trans h88
                        refine lv_aload_n hx hb d_M_match_164 rfl (lv_at hl 0 rfl) ?_
                        refine zr_get (v := .ref (AD 88)) hx hb hts iw_M hown hK hw 82 ⟨by omega, by omega⟩ hM rfl 12 (by decide) (hts _ wk_518) (fun _ h => h) rfl d_M_match_165 ?_
                        refine lv_iload hx hb d_M_match_168 (lv_at hl 6 rfl) ?_
                        refine lv_aload_n hx hb d_M_match_170 rfl (lv_at hl 0 rfl) ?_
                        refine zr_get (v := .ref (AD 88)) hx hb hts iw_M hown hK hw 82 ⟨by omega, by omega⟩ hM rfl 12 (by decide) (hts _ wk_518) (fun _ h => h) rfl d_M_match_171 ?_
                        refine lv_iload hx hb d_M_match_174 (lv_at hl 6 rfl) ?_
                        refine zr_iconst hx hb d_M_match_176 ?_
                        refine zr_isub hx hb d_M_match_177 ?_
                        refine zr_iald hx hb hK hw 88 ⟨by omega, by omega⟩ 0 h88 rfl ⟨by omega, by omega⟩ (by decide) d_M_match_178 ?_
                        refine zr_iast hx hb hK hw 88 ⟨by omega, by omega⟩ 0 h88 rfl ⟨by omega, by omega⟩ (by decide) d_M_match_179 (fun H locs hw => ?_)
                        obtain ⟨C30, hC30⟩ : ∃ z : Int → va_E, z = zup C29 88 (aI (k 0) 48 (zup bR y (bR (y - 1)))) := ⟨_, rfl⟩
                        have hw : WD D clW (wA N AD sz) s.heap H locs N AD C30 := by rw [hC30]; exact hw
                        have frC30 : ∀ j : Int, j ≠ 88 → C30 j = C29 j := fun j h => by rw [hC30]; exact zup_n h
                        have hM : C30 82 = .inr (4, [.int (zI 0), .int (zI pn), .ref (AD 83), .int (zI kc), .ref (AD 84), .ref (AD 85), .int (zI (tr + (x - (1 - mz b)) + 1)), .int (zI lx), .int (zI a), .int (zI b), .ref (AD 86), .ref (AD 87), .ref (AD 88), .int (zI (ovN (WM mw a) (mz a) (WM mw b) (mz b) x)), .int (zI (ovR (WM mw a) (mz a) (WM mw b) (mz b) x)), .int (zI (ovA (WM mw a) (mz a) (WM mw b) (mz b) x)), .long (zL ab), .long (zL bl)]) := (frC30 _ (by omega)).trans hM
                        have h84 : C30 84 = aI (k 0) 9 mz := (frC30 _ (by omega)).trans h84
                        have h85 : C30 85 = aI (k 0) 216 mw := (frC30 _ (by omega)).trans h85
                        have h86 : C30 86 = aI (k 0) 48 (zup bS y (bS (y - 1))) := (frC30 _ (by omega)).trans h86
                        have h87 : C30 87 = aI (k 0) 48 (zup bN y (bN (y - 1))) := (frC30 _ (by omega)).trans h87
                        have h88 : C30 88 = aI (k 0) 48 (zup bR y (bR (y - 1))) := by rw [hC30]; exact zup_s
                        refine lv_iinc (v := zI (y + (-1))) (lv' := [(6, .int (zI (y + (-1)))), (0, .ref (AD 82)), (1, .int (zI a)), (2, .int (zI b)), (3, .int (zI least)), (4, .int (zI x)), (5, .int (zI (ovC (WM mw a) (mz a) (WM mw b) (mz b) x)))]) hx hb d_M_match_180 hl (k := 6) rfl (zI_add _ _) (by decide) rfl (fun ls hl => ?_)
                        refine lv_goto (tgt := 108) hx hb d_M_match_183 (by decide) ?_
                        exact ihli (y + (-1)) (zup bS y (bS (y - 1))) (zup bN y (bN (y - 1))) (zup bR y (bR (y - 1))) C30 H locs ls (by omega) (shA (by omega) hbS) (shA (by omega) hbN) (shA (by omega) hbR) (by rw [hik, insK_t hy9 (by omega), show y + -1 = y - 1 by omega]) (fun j hj => by rw [frC30 _ (by omega), frC29 _ (by omega), frC28 _ (by omega)]; exact hfr2 j hj) hM h84 h85 h86 h87 h88 (by omega) hw (lv_sub hl [1, 2, 3, 4, 5, 6, 0] rfl)
                      · have hK9 : insK mN1 mR1 (ovN (WM mw a) (mz a) (WM mw b) (mz b) x) (ovC (WM mw a) (mz a) (WM mw b) (mz b) x) lx.toNat = y := by rw [hik]; exact insK_f (by omega) (by omega)
                        refine zr_if_eq (tgt := 186) hx hb ⟨by omega, by omega⟩ d_M_match_129 (by decide) (fun c31 => ?_) (fun c9 => absurd c9 (by decide))
                        have hfr := hfr2
                        refine lv_aload_n hx hb d_M_match_186 rfl (lv_at hl 0 rfl) ?_
                        refine zr_get (v := .ref (AD 86)) hx hb hts iw_M hown hK hw 82 ⟨by omega, by omega⟩ hM rfl 10 (by decide) (hts _ wk_516) (fun _ h => h) rfl d_M_match_187 ?_
                        refine lv_iload hx hb d_M_match_190 (lv_at hl 6 rfl) ?_
                        refine lv_iload hx hb d_M_match_192 (lv_at hl 4 rfl) ?_
                        refine zr_iast hx hb hK hw 86 ⟨by omega, by omega⟩ 0 h86 rfl ⟨by omega, by omega⟩ (by decide) d_M_match_194 (fun H locs hw => ?_)
                        obtain ⟨C32, hC32⟩ : ∃ z : Int → va_E, z = zup C 86 (aI (k 0) 48 (zup bS y x)) := ⟨_, rfl⟩
                        have hw : WD D clW (wA N AD sz) s.heap H locs N AD C32 := by rw [hC32]; exact hw
                        have frC32 : ∀ j : Int, j ≠ 86 → C32 j = C j := fun j h => by rw [hC32]; exact zup_n h
                        have hM : C32 82 = .inr (4, [.int (zI 0), .int (zI pn), .ref (AD 83), .int (zI kc), .ref (AD 84), .ref (AD 85), .int (zI (tr + (x - (1 - mz b)) + 1)), .int (zI lx), .int (zI a), .int (zI b), .ref (AD 86), .ref (AD 87), .ref (AD 88), .int (zI (ovN (WM mw a) (mz a) (WM mw b) (mz b) x)), .int (zI (ovR (WM mw a) (mz a) (WM mw b) (mz b) x)), .int (zI (ovA (WM mw a) (mz a) (WM mw b) (mz b) x)), .long (zL ab), .long (zL bl)]) := (frC32 _ (by omega)).trans hM
                        have h84 : C32 84 = aI (k 0) 9 mz := (frC32 _ (by omega)).trans h84
                        have h85 : C32 85 = aI (k 0) 216 mw := (frC32 _ (by omega)).trans h85
                        have h86 : C32 86 = aI (k 0) 48 (zup bS y x) := by rw [hC32]; exact zup_s
                        have h87 : C32 87 = aI (k 0) 48 bN := (frC32 _ (by omega)).trans h87
                        have h88 : C32 88 = aI (k 0) 48 bR := (frC32 _ (by omega)).trans h88
                        refine lv_aload_n hx hb d_M_match_195 rfl (lv_at hl 0 rfl) ?_
                        refine zr_get (v := .ref (AD 87)) hx hb hts iw_M hown hK hw 82 ⟨by omega, by omega⟩ hM rfl 11 (by decide) (hts _ wk_517) (fun _ h => h) rfl d_M_match_196 ?_
                        refine lv_iload hx hb d_M_match_199 (lv_at hl 6 rfl) ?_
                        refine lv_aload_n hx hb d_M_match_201 rfl (lv_at hl 0 rfl) ?_
                        refine zr_get (v := .int (zI (ovN (WM mw a) (mz a) (WM mw b) (mz b) x))) hx hb hts iw_M hown hK hw 82 ⟨by omega, by omega⟩ hM rfl 13 (by decide) (hts _ wk_519) (fun _ h => h) rfl d_M_match_202 ?_
                        refine zr_iast hx hb hK hw 87 ⟨by omega, by omega⟩ 0 h87 rfl ⟨by omega, by omega⟩ (by decide) d_M_match_205 (fun H locs hw => ?_)
                        obtain ⟨C33, hC33⟩ : ∃ z : Int → va_E, z = zup C32 87 (aI (k 0) 48 (zup bN y (ovN (WM mw a) (mz a) (WM mw b) (mz b) x))) := ⟨_, rfl⟩
                        have hw : WD D clW (wA N AD sz) s.heap H locs N AD C33 := by rw [hC33]; exact hw
                        have frC33 : ∀ j : Int, j ≠ 87 → C33 j = C32 j := fun j h => by rw [hC33]; exact zup_n h
                        have hM : C33 82 = .inr (4, [.int (zI 0), .int (zI pn), .ref (AD 83), .int (zI kc), .ref (AD 84), .ref (AD 85), .int (zI (tr + (x - (1 - mz b)) + 1)), .int (zI lx), .int (zI a), .int (zI b), .ref (AD 86), .ref (AD 87), .ref (AD 88), .int (zI (ovN (WM mw a) (mz a) (WM mw b) (mz b) x)), .int (zI (ovR (WM mw a) (mz a) (WM mw b) (mz b) x)), .int (zI (ovA (WM mw a) (mz a) (WM mw b) (mz b) x)), .long (zL ab), .long (zL bl)]) := (frC33 _ (by omega)).trans hM
                        have h84 : C33 84 = aI (k 0) 9 mz := (frC33 _ (by omega)).trans h84
                        have h85 : C33 85 = aI (k 0) 216 mw := (frC33 _ (by omega)).trans h85
                        have h86 : C33 86 = aI (k 0) 48 (zup bS y x) := (frC33 _ (by omega)).trans h86
                        have h87 : C33 87 = aI (k 0) 48 (zup bN y (ovN (WM mw a) (mz a) (WM mw b) (mz b) x)) := by rw [hC33]; exact zup_s
                        have h88 : C33 88 = aI (k 0) 48 bR := (frC33 _ (by omega)).trans h88
                        refine lv_aload_n hx hb d_M_match_206 rfl (lv_at hl 0 rfl) ?_
                        refine zr_get (v := .ref (AD 88)) hx hb hts iw_M hown hK hw 82 ⟨by omega, by omega⟩ hM rfl 12 (by decide) (hts _ wk_518) (fun _ h => h) rfl d_M_match_207 ?_
                        refine lv_iload hx hb d_M_match_210 (lv_at hl 6 rfl) ?_
                        refine lv_iload hx hb d_M_match_212 (lv_at hl 5 rfl) ?_
                        refine zr_iast hx hb hK hw 88 ⟨by omega, by omega⟩ 0 h88 rfl ⟨by omega, by omega⟩ (by decide) d_M_match_214 (fun H locs hw => ?_)
                        obtain ⟨C34, hC34⟩ : ∃ z : Int → va_E, z = zup C33 88 (aI (k 0) 48 (zup bR y (ovC (WM mw a) (mz a) (WM mw b) (mz b) x))) := ⟨_, rfl⟩
                        have hw : WD D clW (wA N AD sz) s.heap H locs N AD C34 := by rw [hC34]; exact hw
                        have frC34 : ∀ j : Int, j ≠ 88 → C34 j = C33 j := fun j h => by rw [hC34]; exact zup_n h
                        have hM : C34 82 = .inr (4, [.int (zI 0), .int (zI pn), .ref (AD 83), .int (zI kc), .ref (AD 84), .ref (AD 85), .int (zI (tr + (x - (1 - mz b)) + 1)), .int (zI lx), .int (zI a), .int (zI b), .ref (AD 86), .ref (AD 87), .ref (AD 88), .int (zI (ovN (WM mw a) (mz a) (WM mw b) (mz b) x)), .int (zI (ovR (WM mw a) (mz a) (WM mw b) (mz b) x)), .int (zI (ovA (WM mw a) (mz a) (WM mw b) (mz b) x)), .long (zL ab), .long (zL bl)]) := (frC34 _ (by omega)).trans hM
                        have h84 : C34 84 = aI (k 0) 9 mz := (frC34 _ (by omega)).trans h84
                        have h85 : C34 85 = aI (k 0) 216 mw := (frC34 _ (by omega)).trans h85
                        have h86 : C34 86 = aI (k 0) 48 (zup bS y x) := (frC34 _ (by omega)).trans h86
                        have h87 : C34 87 = aI (k 0) 48 (zup bN y (ovN (WM mw a) (mz a) (WM mw b) (mz b) x)) := (frC34 _ (by omega)).trans h87
                        have h88 : C34 88 = aI (k 0) 48 (zup bR y (ovC (WM mw a) (mz a) (WM mw b) (mz b) x)) := by rw [hC34]; exact zup_s
                        refine lv_aload_n hx hb d_M_match_215 rfl (lv_at hl 0 rfl) ?_
                        refine lv_dup hx hb d_M_match_216 rfl ?_
                        refine zr_get (v := .int (zI lx)) hx hb hts iw_M hown hK hw 82 ⟨by omega, by omega⟩ hM rfl 7 (by decide) (hts _ wk_513) (fun _ h => h) rfl d_M_match_217 ?_
                        refine zr_iconst hx hb d_M_match_220 ?_
                        refine zr_iadd hx hb d_M_match_221 ?_
                        refine zr_put (ty := .int) (v := .int (zI (lx + 1))) hx hb hts iw_M tyM tyM_ok nmM hown hK hw 82 ⟨by omega, by omega⟩ hM rfl 7 (by decide) (hts _ wk_513) (fun _ h => h) rfl (by decide +kernel) rfl rfl (Nat.le_of_ble_eq_true rfl) d_M_match_222 (fun H locs hw => ?_)
                        obtain ⟨C35, hC35⟩ : ∃ z : Int → va_E, z = zup C34 82 (.inr (4, [.int (zI 0), .int (zI pn), .ref (AD 83), .int (zI kc), .ref (AD 84), .ref (AD 85), .int (zI (tr + (x - (1 - mz b)) + 1)), .int (zI (lx + 1)), .int (zI a), .int (zI b), .ref (AD 86), .ref (AD 87), .ref (AD 88), .int (zI (ovN (WM mw a) (mz a) (WM mw b) (mz b) x)), .int (zI (ovR (WM mw a) (mz a) (WM mw b) (mz b) x)), .int (zI (ovA (WM mw a) (mz a) (WM mw b) (mz b) x)), .long (zL ab), .long (zL bl)])) := ⟨_, rfl⟩
                        have hw : WD D clW (wA N AD sz) s.heap H locs N AD C35 := by rw [hC35]; exact hw
                        have frC35 : ∀ j : Int, j ≠ 82 → C35 j = C34 j := fun j h => by rw [hC35]; exact zup_n h
                        have hM : C35 82 = .inr (4, [.int (zI 0), .int (zI pn), .ref (AD 83), .int (zI kc), .ref (AD 84), .ref (AD 85), .int (zI (tr + (x - (1 - mz b)) + 1)), .int (zI (lx + 1)), .int (zI a), .int (zI b), .ref (AD 86), .ref (AD 87), .ref (AD 88), .int (zI (ovN (WM mw a) (mz a) (WM mw b) (mz b) x)), .int (zI (ovR (WM mw a) (mz a) (WM mw b) (mz b) x)), .int (zI (ovA (WM mw a) (mz a) (WM mw b) (mz b) x)), .long (zL ab), .long (zL bl)]) := by rw [hC35]; exact zup_s
                        have h84 : C35 84 = aI (k 0) 9 mz := (frC35 _ (by omega)).trans h84
                        have h85 : C35 85 = aI (k 0) 216 mw := (frC35 _ (by omega)).trans h85
                        have h86 : C35 86 = aI (k 0) 48 (zup bS y x) := (frC35 _ (by omega)).trans h86
                        have h87 : C35 87 = aI (k 0) 48 (zup bN y (ovN (WM mw a) (mz a) (WM mw b) (mz b) x)) := (frC35 _ (by omega)).trans h87
                        have h88 : C35 88 = aI (k 0) 48 (zup bR y (ovC (WM mw a) (mz a) (WM mw b) (mz b) x)) := (frC35 _ (by omega)).trans h88
                        have hKa : insK aN aR (ovN (WM mw a) (mz a) (WM mw b) (mz b) x) (ovC (WM mw a) (mz a) (WM mw b) (mz b) x) lx.toNat = y := by rw [← hK9]; exact (insK_eq _ (fun r h1 h2 => ⟨(hls r h1 (by omega)).2.1, (hls r h1 (by omega)).2.2⟩)).symm
                        have hma2 : mAll (WM mw a) (mz a) (WM mw b) (mz b) least (x + 1 - (1 - mz b)).toNat = (lx + 1, insF aS y x, insF aN y (ovN (WM mw a) (mz a) (WM mw b) (mz b) x), insF aR y (ovC (WM mw a) (mz a) (WM mw b) (mz b) x), insF aT y (ovR (WM mw a) (mz a) (WM mw b) (mz b) x), insF aA y (ovA (WM mw a) (mz a) (WM mw b) (mz b) x)) := by
                          rw [mAll_step _ _ _ _ _ hx1.1, hma, ← hKa]; exact if_pos hge
                        have hls2 : ∀ r : Int, 0 ≤ r → r < lx + 1 → zup bS y x r = insF aS y x r ∧ zup bN y (ovN (WM mw a) (mz a) (WM mw b) (mz b) x) r = insF aN y (ovN (WM mw a) (mz a) (WM mw b) (mz b) x) r ∧ zup bR y (ovC (WM mw a) (mz a) (WM mw b) (mz b) x) r = insF aR y (ovC (WM mw a) (mz a) (WM mw b) (mz b) x) r := fun r h1 h2 => ⟨insA hy1 hbS (fun r p q => (hls r p q).1) r h1 h2, insA hy1 hbN (fun r p q => (hls r p q).2.1) r h1 h2, insA hy1 hbR (fun r p q => (hls r p q).2.2) r h1 h2⟩
                        have hlb2 : ∀ r : Int, 0 ≤ r → r < lx + 1 → (-24 ≤ insF aS y x r ∧ insF aS y x r < x + 1) ∧ (0 ≤ insF aN y (ovN (WM mw a) (mz a) (WM mw b) (mz b) x) r ∧ insF aN y (ovN (WM mw a) (mz a) (WM mw b) (mz b) x) r ≤ 24) ∧ (-100 ≤ insF aR y (ovC (WM mw a) (mz a) (WM mw b) (mz b) x) r ∧ insF aR y (ovC (WM mw a) (mz a) (WM mw b) (mz b) x) r ≤ 100) := fun r h1 h2 =>
                          ⟨insF_R (R := fun z => -24 ≤ z ∧ z < x + 1) hy1 (fun r p q => by have := hlb r p q; omega) (by omega) r h1 h2, insF_R (R := fun z => 0 ≤ z ∧ z ≤ 24) hy1 (fun r p q => (hlb r p q).2.1) hNi r h1 h2, insF_R (R := fun z => -100 ≤ z ∧ z ≤ 100) hy1 (fun r p q => (hlb r p q).2.2) hCi r h1 h2⟩
                        have hM : C35 82 = .inr (4, [.int (zI 0), .int (zI pn), .ref (AD 83), .int (zI kc), .ref (AD 84), .ref (AD 85), .int (zI (tr + (x + 1 - (1 - mz b)))), .int (zI (lx + 1)), .int (zI a), .int (zI b), .ref (AD 86), .ref (AD 87), .ref (AD 88), .int (zI (ovN (WM mw a) (mz a) (WM mw b) (mz b) x)), .int (zI (ovR (WM mw a) (mz a) (WM mw b) (mz b) x)), .int (zI (ovA (WM mw a) (mz a) (WM mw b) (mz b) x)), .long (zL ab), .long (zL bl)]) := by rw [show tr + (x + 1 - (1 - mz b)) = tr + (x - (1 - mz b)) + 1 by omega]; exact hM
                        refine lv_iinc (v := zI (x + 1)) (lv' := [(4, .int (zI (x + 1))), (0, .ref (AD 82)), (1, .int (zI a)), (2, .int (zI b)), (3, .int (zI least)), (5, .int (zI (ovC (WM mw a) (mz a) (WM mw b) (mz b) x))), (6, .int (zI y))]) hx hb d_M_match_225 hl (k := 4) rfl (zI_add _ _) (by decide) rfl (fun ls hl => ?_)
                        refine lv_goto (tgt := 63) hx hb d_M_match_228 (by decide) ?_
                        exact ihlp (x + 1) (lx + 1) (ovN (WM mw a) (mz a) (WM mw b) (mz b) x) (ovR (WM mw a) (mz a) (WM mw b) (mz b) x) (ovA (WM mw a) (mz a) (WM mw b) (mz b) x) (zup bS y x) (zup bN y (ovN (WM mw a) (mz a) (WM mw b) (mz b) x)) (zup bR y (ovC (WM mw a) (mz a) (WM mw b) (mz b) x)) (insF aS y x) (insF aN y (ovN (WM mw a) (mz a) (WM mw b) (mz b) x)) (insF aR y (ovC (WM mw a) (mz a) (WM mw b) (mz b) x)) (insF aT y (ovR (WM mw a) (mz a) (WM mw b) (mz b) x)) (insF aA y (ovA (WM mw a) (mz a) (WM mw b) (mz b) x)) C35 H locs ls (by omega) (by omega) hma2 hls2 hlb2 (fun j hj => by rw [frC35 _ (by omega), frC34 _ (by omega), frC33 _ (by omega), frC32 _ (by omega)]; exact hfr j hj) hM h84 h85 h86 h87 h88 (by omega) hw (lv_sub hl [1, 2, 3, 4, 0] rfl)
                exact li ((lx : Int).toNat + 1) lx mS1 mN1 mR1 C18 H locs ls (by omega) (fun r => by rw [if_neg (by omega)]) (fun r => by rw [if_neg (by omega)]) (fun r => by rw [if_neg (by omega)]) rfl (fun j hj => by rw [frC18 _ (by omega), frC16 _ (by omega)]; exact hfr j hj) hM h84 h85 h86 h87 h88 (by omega) hw (lv_sub hl [2, 3, 4, 5, 6, 1, 0] rfl)
        exact lp ((mz a - (1 - mz b) : Int).toNat + 1) (1 - mz b) 0 mn mr ma mS mN mR (fun _ => 0) (fun _ => 0) (fun _ => 0) (fun _ => 0) (fun _ => 0) C14 H locs ls (by omega) (by omega) (by rw [Int.sub_self]; rfl) (fun r h1 h2 => absurd h2 (by omega)) (fun r h1 h2 => absurd h2 (by omega)) (fun j hj => by rw [frC14 _ (by omega), frC13 _ (by omega), frC12 _ (by omega), frC9 _ (by omega), hC0]) hM h84 h85 h86 h87 h88 (by omega) hw (lv_sub hl [1, 2, 3, 4, 0] rfl)
      · refine zr_iconst hx hb d_M_match_29 ?_
        refine zr_callI (va_runV (As := [.int (zI 1), .int (zI 0), .int (zI 1)]) (rest := []) ⟨hx, hb, hml, hown, hts⟩ (c_M_goes l D k N AD C H.size th pn kc tr lc fa fb mn mr ma ab bl 1 0 1 2 0 hN hM (by decide) (by decide) (by decide) (by decide) (by decide)) (cwV 3 hts (good_V wk_578 wk_580 wk_11 wk_31 wk_581) rfl rfl rfl (by decide +kernel) ⟨Nat.le_of_ble_eq_true rfl, Nat.le_of_ble_eq_true rfl⟩) (cPre_V hK hw 82 ⟨by omega, by omega⟩ hM rfl) rfl rfl hl.1 rfl (lv_room (Nat.le_of_ble_eq_true rfl)) d_M_match_30 ⟨Nat.le_of_ble_eq_true rfl, Nat.le_of_ble_eq_true rfl⟩) hw hA (fun r9 C36 H locs hq37 hw => ?_)
        obtain ⟨hr9, hq37a, frC36⟩ := hq37
        subst hr9
        have hM : C36 82 = .inr (4, [.int (zI 2), .int (zI pn), .ref (AD 83), .int (zI kc), .ref (AD 84), .ref (AD 85), .int (zI tr), .int (zI lc), .int (zI fa), .int (zI fb), .ref (AD 86), .ref (AD 87), .ref (AD 88), .int (zI mn), .int (zI mr), .int (zI ma), .long (zL ab), .long (zL bl)]) := hq37a
        have h84 : C36 84 = aI (k 0) 9 mz := (frC36 _ (by omega)).trans h84
        have h85 : C36 85 = aI (k 0) 216 mw := (frC36 _ (by omega)).trans h85
        have h86 : C36 86 = aI (k 0) 48 mS := (frC36 _ (by omega)).trans h86
        have h87 : C36 87 = aI (k 0) 48 mN := (frC36 _ (by omega)).trans h87
        have h88 : C36 88 = aI (k 0) 48 mR := (frC36 _ (by omega)).trans h88
        refine zr_if_ne (tgt := 38) hx hb ⟨by omega, by omega⟩ d_M_match_33 (by decide) (fun c9 => absurd c9 (by decide)) (fun c38 => ?_)
        refine zr_iconst hx hb d_M_match_36 ?_
        exact hret _ _ _ _ _ _ d_M_match_37 hw rfl ⟨Or.inr (Or.inr ⟨by omega, hM, h86, h87, h88⟩), fun j hj => by rw [frC36 _ (by omega)]⟩
    · refine zr_if_eq (tgt := 21) hx hb ⟨by omega, by omega⟩ d_M_match_14 (by decide) (fun c39 => ?_) (fun c9 => absurd c9 (by decide))
      refine zr_iconst hx hb d_M_match_21 ?_
      refine lv_iload_n hx hb d_M_match_22 rfl (lv_at hl 3 rfl) ?_
      refine zr_iconst hx hb d_M_match_23 ?_
      refine zr_bipush hx hb d_M_match_24 (by decide) ?_
      refine zr_callI (va_runS (As := [.int (zI least), .int (zI 3), .int (zI 24)]) (rest := [.int (zI 0), .ref (AD 82)]) ⟨hx, hb, hml, hown, hts⟩ (c_M_within l D k N AD C H.size least 3 24 ⟨by omega, by omega⟩ ⟨by omega, by omega⟩ ⟨by omega, by omega⟩) (va_cwS 3 hts (good_S wk_572 wk_573 wk_31 wk_574) rfl rfl rfl (by decide +kernel) ⟨Nat.le_of_ble_eq_true rfl, Nat.le_of_ble_eq_true rfl⟩) (cPre_S hK hw) rfl rfl hl.1 rfl (lv_room (Nat.le_of_ble_eq_true rfl)) d_M_match_26 ⟨Nat.le_of_ble_eq_true rfl, Nat.le_of_ble_eq_true rfl⟩) hw hA (fun r9 C41 H locs hq40 hw => ?_)
      obtain ⟨hq40, hCe⟩ := hq40
      rw [hCe] at hw
      rcases hq40 with ⟨hr9, hq40⟩ | ⟨hr9, hq40⟩ <;> subst hr9
      · refine zr_iconst hx hb d_M_match_29 ?_
        refine zr_callI (va_runV (As := [.int (zI 0), .int (zI 1), .int (zI 1)]) (rest := []) ⟨hx, hb, hml, hown, hts⟩ (c_M_goes l D k N AD C H.size th pn kc tr lc fa fb mn mr ma ab bl 0 1 1 1 0 hN hM (by decide) (by decide) (by decide) (by decide) (by decide)) (cwV 3 hts (good_V wk_578 wk_580 wk_11 wk_31 wk_581) rfl rfl rfl (by decide +kernel) ⟨Nat.le_of_ble_eq_true rfl, Nat.le_of_ble_eq_true rfl⟩) (cPre_V hK hw 82 ⟨by omega, by omega⟩ hM rfl) rfl rfl hl.1 rfl (lv_room (Nat.le_of_ble_eq_true rfl)) d_M_match_30 ⟨Nat.le_of_ble_eq_true rfl, Nat.le_of_ble_eq_true rfl⟩) hw hA (fun r9 C42 H locs hq43 hw => ?_)
        obtain ⟨hr9, hq43a, frC42⟩ := hq43
        subst hr9
        have hM : C42 82 = .inr (4, [.int (zI 1), .int (zI pn), .ref (AD 83), .int (zI kc), .ref (AD 84), .ref (AD 85), .int (zI tr), .int (zI lc), .int (zI fa), .int (zI fb), .ref (AD 86), .ref (AD 87), .ref (AD 88), .int (zI mn), .int (zI mr), .int (zI ma), .long (zL ab), .long (zL bl)]) := hq43a
        have h84 : C42 84 = aI (k 0) 9 mz := (frC42 _ (by omega)).trans h84
        have h85 : C42 85 = aI (k 0) 216 mw := (frC42 _ (by omega)).trans h85
        have h86 : C42 86 = aI (k 0) 48 mS := (frC42 _ (by omega)).trans h86
        have h87 : C42 87 = aI (k 0) 48 mN := (frC42 _ (by omega)).trans h87
        have h88 : C42 88 = aI (k 0) 48 mR := (frC42 _ (by omega)).trans h88
        refine zr_if_ne (tgt := 38) hx hb ⟨by omega, by omega⟩ d_M_match_33 (by decide) (fun c9 => absurd c9 (by decide)) (fun c44 => ?_)
        refine zr_iconst hx hb d_M_match_36 ?_
        exact hret _ _ _ _ _ _ d_M_match_37 hw rfl ⟨Or.inr (Or.inl ⟨by omega, hM, h86, h87, h88⟩), fun j hj => by rw [frC42 _ (by omega)]⟩
      · refine zr_iconst hx hb d_M_match_29 ?_
        refine zr_callI (va_runV (As := [.int (zI 0), .int (zI 0), .int (zI 1)]) (rest := []) ⟨hx, hb, hml, hown, hts⟩ (c_M_goes l D k N AD C H.size th pn kc tr lc fa fb mn mr ma ab bl 0 0 1 1 0 hN hM (by decide) (by decide) (by decide) (by decide) (by decide)) (cwV 3 hts (good_V wk_578 wk_580 wk_11 wk_31 wk_581) rfl rfl rfl (by decide +kernel) ⟨Nat.le_of_ble_eq_true rfl, Nat.le_of_ble_eq_true rfl⟩) (cPre_V hK hw 82 ⟨by omega, by omega⟩ hM rfl) rfl rfl hl.1 rfl (lv_room (Nat.le_of_ble_eq_true rfl)) d_M_match_30 ⟨Nat.le_of_ble_eq_true rfl, Nat.le_of_ble_eq_true rfl⟩) hw hA (fun r9 C45 H locs hq46 hw => ?_)
        obtain ⟨hr9, hq46a, frC45⟩ := hq46
        subst hr9
        have hM : C45 82 = .inr (4, [.int (zI 1), .int (zI pn), .ref (AD 83), .int (zI kc), .ref (AD 84), .ref (AD 85), .int (zI tr), .int (zI lc), .int (zI fa), .int (zI fb), .ref (AD 86), .ref (AD 87), .ref (AD 88), .int (zI mn), .int (zI mr), .int (zI ma), .long (zL ab), .long (zL bl)]) := hq46a
        have h84 : C45 84 = aI (k 0) 9 mz := (frC45 _ (by omega)).trans h84
        have h85 : C45 85 = aI (k 0) 216 mw := (frC45 _ (by omega)).trans h85
        have h86 : C45 86 = aI (k 0) 48 mS := (frC45 _ (by omega)).trans h86
        have h87 : C45 87 = aI (k 0) 48 mN := (frC45 _ (by omega)).trans h87
        have h88 : C45 88 = aI (k 0) 48 mR := (frC45 _ (by omega)).trans h88
        refine zr_if_ne (tgt := 38) hx hb ⟨by omega, by omega⟩ d_M_match_33 (by decide) (fun c9 => absurd c9 (by decide)) (fun c47 => ?_)
        refine zr_iconst hx hb d_M_match_36 ?_
        exact hret _ _ _ _ _ _ d_M_match_37 hw rfl ⟨Or.inr (Or.inl ⟨by omega, hM, h86, h87, h88⟩), fun j hj => by rw [frC45 _ (by omega)]⟩
  · refine zr_if_eq (tgt := 21) hx hb ⟨by omega, by omega⟩ d_M_match_6 (by decide) (fun c48 => ?_) (fun c9 => absurd c9 (by decide))
    refine zr_iconst hx hb d_M_match_21 ?_
    refine lv_iload_n hx hb d_M_match_22 rfl (lv_at hl 3 rfl) ?_
    refine zr_iconst hx hb d_M_match_23 ?_
    refine zr_bipush hx hb d_M_match_24 (by decide) ?_
    refine zr_callI (va_runS (As := [.int (zI least), .int (zI 3), .int (zI 24)]) (rest := [.int (zI 0), .ref (AD 82)]) ⟨hx, hb, hml, hown, hts⟩ (c_M_within l D k N AD C H.size least 3 24 ⟨by omega, by omega⟩ ⟨by omega, by omega⟩ ⟨by omega, by omega⟩) (va_cwS 3 hts (good_S wk_572 wk_573 wk_31 wk_574) rfl rfl rfl (by decide +kernel) ⟨Nat.le_of_ble_eq_true rfl, Nat.le_of_ble_eq_true rfl⟩) (cPre_S hK hw) rfl rfl hl.1 rfl (lv_room (Nat.le_of_ble_eq_true rfl)) d_M_match_26 ⟨Nat.le_of_ble_eq_true rfl, Nat.le_of_ble_eq_true rfl⟩) hw hA (fun r9 C50 H locs hq49 hw => ?_)
    obtain ⟨hq49, hCe⟩ := hq49
    rw [hCe] at hw
    rcases hq49 with ⟨hr9, hq49⟩ | ⟨hr9, hq49⟩ <;> subst hr9
    · refine zr_iconst hx hb d_M_match_29 ?_
      refine zr_callI (va_runV (As := [.int (zI 0), .int (zI 1), .int (zI 1)]) (rest := []) ⟨hx, hb, hml, hown, hts⟩ (c_M_goes l D k N AD C H.size th pn kc tr lc fa fb mn mr ma ab bl 0 1 1 1 0 hN hM (by decide) (by decide) (by decide) (by decide) (by decide)) (cwV 3 hts (good_V wk_578 wk_580 wk_11 wk_31 wk_581) rfl rfl rfl (by decide +kernel) ⟨Nat.le_of_ble_eq_true rfl, Nat.le_of_ble_eq_true rfl⟩) (cPre_V hK hw 82 ⟨by omega, by omega⟩ hM rfl) rfl rfl hl.1 rfl (lv_room (Nat.le_of_ble_eq_true rfl)) d_M_match_30 ⟨Nat.le_of_ble_eq_true rfl, Nat.le_of_ble_eq_true rfl⟩) hw hA (fun r9 C51 H locs hq52 hw => ?_)
      obtain ⟨hr9, hq52a, frC51⟩ := hq52
      subst hr9
      have hM : C51 82 = .inr (4, [.int (zI 1), .int (zI pn), .ref (AD 83), .int (zI kc), .ref (AD 84), .ref (AD 85), .int (zI tr), .int (zI lc), .int (zI fa), .int (zI fb), .ref (AD 86), .ref (AD 87), .ref (AD 88), .int (zI mn), .int (zI mr), .int (zI ma), .long (zL ab), .long (zL bl)]) := hq52a
      have h84 : C51 84 = aI (k 0) 9 mz := (frC51 _ (by omega)).trans h84
      have h85 : C51 85 = aI (k 0) 216 mw := (frC51 _ (by omega)).trans h85
      have h86 : C51 86 = aI (k 0) 48 mS := (frC51 _ (by omega)).trans h86
      have h87 : C51 87 = aI (k 0) 48 mN := (frC51 _ (by omega)).trans h87
      have h88 : C51 88 = aI (k 0) 48 mR := (frC51 _ (by omega)).trans h88
      refine zr_if_ne (tgt := 38) hx hb ⟨by omega, by omega⟩ d_M_match_33 (by decide) (fun c9 => absurd c9 (by decide)) (fun c53 => ?_)
      refine zr_iconst hx hb d_M_match_36 ?_
      exact hret _ _ _ _ _ _ d_M_match_37 hw rfl ⟨Or.inr (Or.inl ⟨by omega, hM, h86, h87, h88⟩), fun j hj => by rw [frC51 _ (by omega)]⟩
    · refine zr_iconst hx hb d_M_match_29 ?_
      refine zr_callI (va_runV (As := [.int (zI 0), .int (zI 0), .int (zI 1)]) (rest := []) ⟨hx, hb, hml, hown, hts⟩ (c_M_goes l D k N AD C H.size th pn kc tr lc fa fb mn mr ma ab bl 0 0 1 1 0 hN hM (by decide) (by decide) (by decide) (by decide) (by decide)) (cwV 3 hts (good_V wk_578 wk_580 wk_11 wk_31 wk_581) rfl rfl rfl (by decide +kernel) ⟨Nat.le_of_ble_eq_true rfl, Nat.le_of_ble_eq_true rfl⟩) (cPre_V hK hw 82 ⟨by omega, by omega⟩ hM rfl) rfl rfl hl.1 rfl (lv_room (Nat.le_of_ble_eq_true rfl)) d_M_match_30 ⟨Nat.le_of_ble_eq_true rfl, Nat.le_of_ble_eq_true rfl⟩) hw hA (fun r9 C54 H locs hq55 hw => ?_)
      obtain ⟨hr9, hq55a, frC54⟩ := hq55
      subst hr9
      have hM : C54 82 = .inr (4, [.int (zI 1), .int (zI pn), .ref (AD 83), .int (zI kc), .ref (AD 84), .ref (AD 85), .int (zI tr), .int (zI lc), .int (zI fa), .int (zI fb), .ref (AD 86), .ref (AD 87), .ref (AD 88), .int (zI mn), .int (zI mr), .int (zI ma), .long (zL ab), .long (zL bl)]) := hq55a
      have h84 : C54 84 = aI (k 0) 9 mz := (frC54 _ (by omega)).trans h84
      have h85 : C54 85 = aI (k 0) 216 mw := (frC54 _ (by omega)).trans h85
      have h86 : C54 86 = aI (k 0) 48 mS := (frC54 _ (by omega)).trans h86
      have h87 : C54 87 = aI (k 0) 48 mN := (frC54 _ (by omega)).trans h87
      have h88 : C54 88 = aI (k 0) 48 mR := (frC54 _ (by omega)).trans h88
      refine zr_if_ne (tgt := 38) hx hb ⟨by omega, by omega⟩ d_M_match_33 (by decide) (fun c9 => absurd c9 (by decide)) (fun c56 => ?_)
      refine zr_iconst hx hb d_M_match_36 ?_
      exact hret _ _ _ _ _ _ d_M_match_37 hw rfl ⟨Or.inr (Or.inl ⟨by omega, hM, h86, h87, h88⟩), fun j hj => by rw [frC54 _ (by omega)]⟩
