theorem padF_ok {R : Int → Prop} {f : Int → Int} {n a : Int} (h0 : 0 ≤ n) (hf : ∀ j : Int, 0 ≤ j → j < n → R (f j)) (hT : ∀ q : Int, 0 ≤ q → q < 4 → ¬ byt a q = 0 → R (byt a q)) : ∀ m : Nat, m ≤ 4 → ∀ j : Int, 0 ≤ j → j < n + sumR (nzT a) 0 m → R (padF f n a m j) := by
  intro m
  induction m with
  | zero => intro _ j h1 h2; exact hf j h1 (by have e : sumR (nzT a) 0 0 = 0 := rfl; omega)
  | succ m ih =>
    intro hm j h1 h2
    have e : sumR (nzT a) 0 (m + 1) = sumR (nzT a) 0 m + nzT a (0 + (m : Int)) := rfl
    rw [Int.zero_add] at e
    show R ((if byt a (m : Int) = 0 then padF f n a m else zup (padF f n a m) (n + sumR (nzT a) 0 m) (byt a (m : Int))) j)
    by_cases hz : byt a (m : Int) = 0
    · rw [if_pos hz]
      have e2 : nzT a (m : Int) = 0 := if_pos hz
      exact ih (by omega) j h1 (by omega)
    · rw [if_neg hz]
      have e2 : nzT a (m : Int) = 1 := if_neg hz
      by_cases hj : j = n + sumR (nzT a) 0 m
      · rw [hj, zup_s]; exact hT _ (by omega) (by omega) hz
      · rw [zup_n hj]; exact ih (by omega) j h1 (by omega)
theorem padF_ok4 {R : Int → Prop} {f : Int → Int} {n a : Int} (h0 : 0 ≤ n) (hf : ∀ j : Int, 0 ≤ j → j < n → R (f j)) (hT : ∀ q : Int, 0 ≤ q → q < 4 → ¬ byt a q = 0 → R (byt a q)) : ∀ j : Int, 0 ≤ j → j < n + nz a → R (padF f n a 4 j) := padF_ok h0 hf hT 4 (Nat.le_refl 4)
theorem TK_R {a : Int} (h : TK a) : ∀ q : Int, 0 ≤ q → q < 4 → ¬ byt a q = 0 → (32 ≤ byt a q ∧ byt a q ≤ 126) := fun q h1 h2 h3 => by
  have := h q h1 h2
  unfold okB at this
  omega
abbrev rm_R_unit : Room := { frames := 6, cells := 1, slots := 6, locals := 82 }
set_option maxHeartbeats 4000000 in
set_option maxRecDepth 100000 in
theorem c_R_unit (l : Launch) (D : va_G) (k : Nat → ClassId) (N : Nat) (AD : Int → Nat) (C : Int → va_E) (sz : Nat) (hlt : l.stackTraces = false) (pn : Int) (pf : Int → Int) (kc : Int) (nn : Int → Int) (ww : Int → Int → Int) (ee : Int → Int → Int) (lc : Int) (pm : Int → Int) (pS : Int → Int) (pN : Int → Int) (pR : Int → Int) (pT : Int → Int) (pA : Int → Int) (oS : Int → Int) (oN : Int → Int) (oR : Int → Int) (oT : Int → Int) (oA : Int → Int) (tr : Int) (sn : Int) (sw : Int → Int) (se : Int → Int) (q0 : Int) (q1 : Int) (q2 : Int) (q3 : Int) (q4 : Int) (mb : Int → Int) (ak : Int → Int) (a : Int) (b : Int) (hN : 82 ≤ (N : Int)) (hRI : RIx k AD C pn pf kc nn ww ee lc pm pS pN pR pT pA oS oN oR oT oA tr sn sw se q0 q1 q2 q3 q4 mb ak) (ha : inI a) (hb9 : inI b) : XI l y_R_unit (Cond.code y_R_unit b_R_unit 3 (Option.some Jvm.ClassFile.FieldType.int) :: WS) rm_R_unit 1 6 D clW (tyW k) N AD C sz [.ref (AD 0), .int (zI a), .int (zI b)] (fun r C' => r = zI (pn + nz a + nz b) ∧ (TK a ∧ TK b) ∧ pn + nz a + nz b ≤ 100 ∧ RIx k AD C' (pn + nz a + nz b) (padF (padF pf pn a 4) (pn + nz a) b 4) kc nn ww ee lc pm pS pN pR pT pA oS oN oR oT oA tr sn sw se q0 q1 q2 q3 q4 mb ak ∧ ∀ j : Int, ¬ (0 ≤ j ∧ j ≤ 81) → C' j = C j) (fun E => (E = "java/lang/IllegalArgumentException" ∧ ¬ (TK a ∧ TK b)) ∨ (E = "java/lang/IllegalStateException" ∧ (TK a ∧ TK b) ∧ 100 < pn + nz a + nz b)) := by
  refine XI.start (cc := b_R_unit) (maxL := 3) (rt := .int) (by decide) rfl (Nat.le_of_ble_eq_true rfl) ?_
  intro p e s m args below meth c Q ls hx hb hml hown hts hK hsz hw hl htb hlk hxc hQ hret
  obtain ⟨Qc9, hQ⟩ := hQ
  have hown : s.vm.findClass "RingMatches" = some m.cls := hown
  have hl : lv_has ls 3 [(0, .ref (AD 0)), (1, .int (zI a)), (2, .int (zI b))] := hl
  have hA := wA_hi (N := N) (AD := AD) hsz
  obtain ⟨H, hH⟩ : ∃ H, H = s.heap := ⟨_, rfl⟩
  obtain ⟨locs, hlocs⟩ : ∃ z : List Loc, z = [] := ⟨_, rfl⟩
  have hw : WD D clW (wA N AD sz) s.heap H locs N AD C := by rw [hH, hlocs]; exact hw
  rw [← hlocs]
  suffices hgo : W p l e rm_R_unit s m args below meth c H locs 0 0 Q (F0 m 0 ls []) by rw [hH] at hgo; exact hgo
  obtain ⟨hR, hP, hPs, h3, hser, h28, hov, hpm, hpi, hls, hst, hstw, hste, hsn, hpr, hmb, hak, hpn, hkc, hlc, htr, hpf, hok, hlb⟩ := hRI
  refine lv_iload_n hx hb d_R_unit_0 rfl (lv_at hl 1 rfl) ?_
  refine zr_callI (va_runS (As := [.int (zI a)]) (rest := []) ⟨hx, hb, hml, hown, hts⟩ (c_P_takes l D k N AD C H.size a) (va_cwS 1 hts (good_S wk_151 wk_152 wk_28 wk_153) rfl rfl rfl (by decide +kernel) ⟨Nat.le_of_ble_eq_true rfl, Nat.le_of_ble_eq_true rfl⟩) (cPre_S hK hw) rfl rfl hl.1 rfl (lv_room (Nat.le_of_ble_eq_true rfl)) d_R_unit_1 ⟨Nat.le_of_ble_eq_true rfl, Nat.le_of_ble_eq_true rfl⟩) hw hA (fun r9 C2 H locs hq1 hw => ?_)
  obtain ⟨hq1, hCe⟩ := hq1
  rw [hCe] at hw
  rcases hq1 with ⟨hr9, hq1⟩ | ⟨hr9, hq1⟩ <;> subst hr9
  · refine zr_if_eq (tgt := 14) hx hb ⟨by omega, by omega⟩ d_R_unit_4 (by decide) (fun c9 => absurd c9 (by decide)) (fun c3 => ?_)
    refine lv_iload_n hx hb d_R_unit_7 rfl (lv_at hl 2 rfl) ?_
    refine zr_callI (va_runS (As := [.int (zI b)]) (rest := []) ⟨hx, hb, hml, hown, hts⟩ (c_P_takes l D k N AD C H.size b) (va_cwS 1 hts (good_S wk_151 wk_152 wk_28 wk_153) rfl rfl rfl (by decide +kernel) ⟨Nat.le_of_ble_eq_true rfl, Nat.le_of_ble_eq_true rfl⟩) (cPre_S hK hw) rfl rfl hl.1 rfl (lv_room (Nat.le_of_ble_eq_true rfl)) d_R_unit_8 ⟨Nat.le_of_ble_eq_true rfl, Nat.le_of_ble_eq_true rfl⟩) hw hA (fun r9 C5 H locs hq4 hw => ?_)
    obtain ⟨hq4, hCe⟩ := hq4
    rw [hCe] at hw
    rcases hq4 with ⟨hr9, hq4⟩ | ⟨hr9, hq4⟩ <;> subst hr9
    · refine zr_if_ne (tgt := 24) hx hb ⟨by omega, by omega⟩ d_R_unit_11 (by decide) (fun c6 => ?_) (fun c9 => absurd c9 (by decide))
      refine lv_aload_n hx hb d_R_unit_24 rfl (lv_at hl 0 rfl) ?_
      refine zr_get (v := .ref (AD 1)) hx hb hts iw_R hown hK hw 0 ⟨by omega, by omega⟩ hR rfl 0 (by decide) (hts _ wk_110) (fun _ h => h) rfl d_R_unit_25 ?_
      refine zr_get (v := .int (zI pn)) hx hb hts iw_P hown hK hw 1 ⟨by omega, by omega⟩ hP rfl 1 (by decide) (hts _ wk_54) (fun _ h => h) rfl d_R_unit_28 ?_
      have hz1 := nz_in a
      have hz2 := nz_in b
      refine lv_iload_n hx hb d_R_unit_31 rfl (lv_at hl 1 rfl) ?_
      refine zr_callI (va_runS (As := [.int (zI a)]) (rest := [.int (zI pn)]) ⟨hx, hb, hml, hown, hts⟩ (c_P_signsIn l D k N AD C H.size a) (va_cwS 1 hts (good_S wk_225 wk_226 wk_28 wk_227) rfl rfl rfl (by decide +kernel) ⟨Nat.le_of_ble_eq_true rfl, Nat.le_of_ble_eq_true rfl⟩) (cPre_S hK hw) rfl rfl hl.1 rfl (lv_room (Nat.le_of_ble_eq_true rfl)) d_R_unit_32 ⟨Nat.le_of_ble_eq_true rfl, Nat.le_of_ble_eq_true rfl⟩) hw hA (fun r9 C8 H locs hq7 hw => ?_)
      obtain ⟨hr9, hCe⟩ := hq7
      rw [hCe] at hw; subst hr9
      refine zr_iadd hx hb d_R_unit_35 ?_
      refine lv_iload_n hx hb d_R_unit_36 rfl (lv_at hl 2 rfl) ?_
      refine zr_callI (va_runS (As := [.int (zI b)]) (rest := [.int (zI (pn + (nz a)))]) ⟨hx, hb, hml, hown, hts⟩ (c_P_signsIn l D k N AD C H.size b) (va_cwS 1 hts (good_S wk_225 wk_226 wk_28 wk_227) rfl rfl rfl (by decide +kernel) ⟨Nat.le_of_ble_eq_true rfl, Nat.le_of_ble_eq_true rfl⟩) (cPre_S hK hw) rfl rfl hl.1 rfl (lv_room (Nat.le_of_ble_eq_true rfl)) d_R_unit_37 ⟨Nat.le_of_ble_eq_true rfl, Nat.le_of_ble_eq_true rfl⟩) hw hA (fun r9 C10 H locs hq9 hw => ?_)
      obtain ⟨hr9, hCe⟩ := hq9
      rw [hCe] at hw; subst hr9
      refine zr_iadd hx hb d_R_unit_40 ?_
      refine zr_bipush hx hb d_R_unit_41 (by decide) ?_
      refine zr_icmp_le (tgt := 56) hx hb ⟨by omega, by omega⟩ ⟨by omega, by omega⟩ d_R_unit_43 (by decide) (fun c11 => ?_) (fun c11 => ?_)
      · refine lv_aload_n hx hb d_R_unit_56 rfl (lv_at hl 0 rfl) ?_
        refine zr_get (v := .ref (AD 1)) hx hb hts iw_R hown hK hw 0 ⟨by omega, by omega⟩ hR rfl 0 (by decide) (hts _ wk_110) (fun _ h => h) rfl d_R_unit_57 ?_
        refine lv_iload_n hx hb d_R_unit_60 rfl (lv_at hl 1 rfl) ?_
        refine zr_callV (va_runV (As := [.int (zI a)]) (rest := []) ⟨hx, hb, hml, hown, hts⟩ (c_P_put l D k N AD C H.size 1 pn pf a ⟨by omega, by omega⟩ ⟨by omega, by omega⟩ hP hPs (by omega)) (cwV 1 hts (good_V wk_244 wk_245 wk_246 wk_28 wk_247) rfl rfl rfl (by decide +kernel) ⟨Nat.le_of_ble_eq_true rfl, Nat.le_of_ble_eq_true rfl⟩) (cPre_V hK hw 1 ⟨by omega, by omega⟩ hP rfl) rfl rfl hl.1 rfl (lv_room (Nat.le_of_ble_eq_true rfl)) d_R_unit_61 ⟨Nat.le_of_ble_eq_true rfl, Nat.le_of_ble_eq_true rfl⟩) hw hA (fun C12 H locs hq13 hw => ?_)
        obtain ⟨hq13a, hq13b, frC120⟩ := hq13
        have frC12 : ∀ j : Int, ¬ (1 ≤ j ∧ j ≤ 1 + 1) → C12 j = C j := fun j hj => frC120 j (by omega) (by omega)
        have hR : C12 0 = .inr (3, [.ref (AD 1), .ref (AD 3), .int (zI kc), .ref (AD 28), .int (zI lc), .int (zI tr), .ref (AD 76), .ref (AD 79), .ref (AD 80), .ref (AD 81)]) := (frC12 _ (by omega)).trans hR
        have h3 : C12 3 = aQ (k 3) 8 (fun i => some (AD (4 + 3 * i))) := (frC12 _ (by omega)).trans h3
        have h28 : C12 28 = aQ (k 4) 47 (fun j => some (AD (29 + pm j))) := (frC12 _ (by omega)).trans h28
        have hP : C12 1 = .inr (1, [.ref (AD (1 + 1)), .int (zI (pn + nz a))]) := hq13a
        have hPs : C12 (1 + 1) = aI (k 0) 100 (padF pf pn a 4) := hq13b
        refine lv_aload_n hx hb d_R_unit_64 rfl (lv_at hl 0 rfl) ?_
        refine zr_get (v := .ref (AD 1)) hx hb hts iw_R hown hK hw 0 ⟨by omega, by omega⟩ hR rfl 0 (by decide) (hts _ wk_110) (fun _ h => h) rfl d_R_unit_65 ?_
        refine lv_iload_n hx hb d_R_unit_68 rfl (lv_at hl 2 rfl) ?_
        refine zr_callV (va_runV (As := [.int (zI b)]) (rest := []) ⟨hx, hb, hml, hown, hts⟩ (c_P_put l D k N AD C12 H.size 1 (pn + nz a) (padF pf pn a 4) b ⟨by omega, by omega⟩ ⟨by omega, by omega⟩ hP hPs (by omega)) (cwV 1 hts (good_V wk_244 wk_245 wk_246 wk_28 wk_247) rfl rfl rfl (by decide +kernel) ⟨Nat.le_of_ble_eq_true rfl, Nat.le_of_ble_eq_true rfl⟩) (cPre_V hK hw 1 ⟨by omega, by omega⟩ hP rfl) rfl rfl hl.1 rfl (lv_room (Nat.le_of_ble_eq_true rfl)) d_R_unit_69 ⟨Nat.le_of_ble_eq_true rfl, Nat.le_of_ble_eq_true rfl⟩) hw hA (fun C14 H locs hq15 hw => ?_)
        obtain ⟨hq15a, hq15b, frC140⟩ := hq15
        have frC14 : ∀ j : Int, ¬ (1 ≤ j ∧ j ≤ 1 + 1) → C14 j = C12 j := fun j hj => frC140 j (by omega) (by omega)
        have hR : C14 0 = .inr (3, [.ref (AD 1), .ref (AD 3), .int (zI kc), .ref (AD 28), .int (zI lc), .int (zI tr), .ref (AD 76), .ref (AD 79), .ref (AD 80), .ref (AD 81)]) := (frC14 _ (by omega)).trans hR
        have h3 : C14 3 = aQ (k 3) 8 (fun i => some (AD (4 + 3 * i))) := (frC14 _ (by omega)).trans h3
        have h28 : C14 28 = aQ (k 4) 47 (fun j => some (AD (29 + pm j))) := (frC14 _ (by omega)).trans h28
        have hP : C14 1 = .inr (1, [.ref (AD (1 + 1)), .int (zI ((pn + nz a) + nz b))]) := hq15a
        have hPs : C14 (1 + 1) = aI (k 0) 100 (padF (padF pf pn a 4) (pn + nz a) b 4) := hq15b
        refine lv_aload_n hx hb d_R_unit_72 rfl (lv_at hl 0 rfl) ?_
        refine zr_get (v := .ref (AD 1)) hx hb hts iw_R hown hK hw 0 ⟨by omega, by omega⟩ hR rfl 0 (by decide) (hts _ wk_110) (fun _ h => h) rfl d_R_unit_73 ?_
        refine zr_get (v := .int (zI ((pn + nz a) + nz b))) hx hb hts iw_P hown hK hw 1 ⟨by omega, by omega⟩ hP rfl 1 (by decide) (hts _ wk_54) (fun _ h => h) rfl d_R_unit_76 ?_
        exact hret _ _ _ _ _ _ 0 0 (by decide) (by decide) d_R_unit_79 hw rfl ⟨rfl, ⟨hq1, hq4⟩, by omega, ⟨hR, hP, hPs, h3, (fun i h1 h2 => by obtain ⟨a1, a2, a3, a4⟩ := hser i h1 h2; exact ⟨by rw [frC14 _ (by omega), frC12 _ (by omega)]; exact a1, by rw [frC14 _ (by omega), frC12 _ (by omega)]; exact a2, by rw [frC14 _ (by omega), frC12 _ (by omega)]; exact a3, a4⟩), h28, (fun j h1 h2 => by rw [frC14 _ (by omega), frC12 _ (by omega)]; exact hov j h1 h2), hpm, hpi, hls, (by rw [frC14 _ (by omega), frC12 _ (by omega)]; exact hst), (by rw [frC14 _ (by omega), frC12 _ (by omega)]; exact hstw), (by rw [frC14 _ (by omega), frC12 _ (by omega)]; exact hste), hsn, (by rw [frC14 _ (by omega), frC12 _ (by omega)]; exact hpr), (by rw [frC14 _ (by omega), frC12 _ (by omega)]; exact hmb), (by rw [frC14 _ (by omega), frC12 _ (by omega)]; exact hak), (by omega), hkc, hlc, htr, (padF_ok4 (R := fun z => 32 ≤ z ∧ z ≤ 126) (by omega) (padF_ok4 (R := fun z => 32 ≤ z ∧ z ≤ 126) (by omega) hpf (TK_R hq1)) (TK_R hq4)), hok, hlb⟩, fun j hj => by rw [frC14 _ (by omega), frC12 _ (by omega)]⟩
      · rw [hQ]
        exact xthrow (text := "the pad would have more than 100 signs") hx hb hlt hown hts hK hxc htb hlk xc_ISE (by decide +kernel) hw (Or.inr ⟨rfl, ⟨hq1, hq4⟩, by omega⟩) (hl.1.trans hml.symm) d_R_unit_46 d_R_unit_49 d_R_unit_50 d_R_unit_52 d_R_unit_55 (Nat.le_of_ble_eq_true rfl) (Nat.le_of_ble_eq_true rfl) (Nat.le_of_ble_eq_true rfl) (Nat.le_of_ble_eq_true rfl) (Nat.le_of_ble_eq_true rfl) (Nat.le_of_ble_eq_true rfl)
    · refine zr_if_ne (tgt := 24) hx hb ⟨by omega, by omega⟩ d_R_unit_11 (by decide) (fun c9 => absurd c9 (by decide)) (fun c16 => ?_)
      rw [hQ]
      exact xthrow (text := "a sign is not 32 .. 126") hx hb hlt hown hts hK hxc htb hlk xc_IAE (by decide +kernel) hw (Or.inl ⟨rfl, fun h => hq4 h.2⟩) (hl.1.trans hml.symm) d_R_unit_14 d_R_unit_17 d_R_unit_18 d_R_unit_20 d_R_unit_23 (Nat.le_of_ble_eq_true rfl) (Nat.le_of_ble_eq_true rfl) (Nat.le_of_ble_eq_true rfl) (Nat.le_of_ble_eq_true rfl) (Nat.le_of_ble_eq_true rfl) (Nat.le_of_ble_eq_true rfl)
  · refine zr_if_eq (tgt := 14) hx hb ⟨by omega, by omega⟩ d_R_unit_4 (by decide) (fun c17 => ?_) (fun c9 => absurd c9 (by decide))
    rw [hQ]
    exact xthrow (text := "a sign is not 32 .. 126") hx hb hlt hown hts hK hxc htb hlk xc_IAE (by decide +kernel) hw (Or.inl ⟨rfl, fun h => hq1 h.1⟩) (hl.1.trans hml.symm) d_R_unit_14 d_R_unit_17 d_R_unit_18 d_R_unit_20 d_R_unit_23 (Nat.le_of_ble_eq_true rfl) (Nat.le_of_ble_eq_true rfl) (Nat.le_of_ble_eq_true rfl) (Nat.le_of_ble_eq_true rfl) (Nat.le_of_ble_eq_true rfl) (Nat.le_of_ble_eq_true rfl)
abbrev rm_R_read : Room := { frames := 6, cells := 1, slots := 6, locals := 111 }
set_option maxHeartbeats 4000000 in
set_option maxRecDepth 100000 in
theorem c_R_read (l : Launch) (D : va_G) (k : Nat → ClassId) (N : Nat) (AD : Int → Nat) (C : Int → va_E) (sz : Nat) (hlt : l.stackTraces = false) (pn : Int) (pf : Int → Int) (kc : Int) (nn : Int → Int) (ww : Int → Int → Int) (ee : Int → Int → Int) (lc : Int) (pm : Int → Int) (pS : Int → Int) (pN : Int → Int) (pR : Int → Int) (pT : Int → Int) (pA : Int → Int) (oS : Int → Int) (oN : Int → Int) (oR : Int → Int) (oT : Int → Int) (oA : Int → Int) (tr : Int) (sn : Int) (sw : Int → Int) (se : Int → Int) (q0 : Int) (q1 : Int) (q2 : Int) (q3 : Int) (q4 : Int) (mb : Int → Int) (ak : Int → Int) (hN : 82 ≤ (N : Int)) (hRI : RIx k AD C pn pf kc nn ww ee lc pm pS pN pR pT pA oS oN oR oT oA tr sn sw se q0 q1 q2 q3 q4 mb ak) : XI l y_R_read (Cond.code y_R_read b_R_read 2 (Option.some Jvm.ClassFile.FieldType.int) :: WS) rm_R_read 1 6 D clW (tyW k) N AD C sz [.ref (AD 0)] (fun r C' => kc < 8 ∧ ((∃ x : Int, (0 ≤ x ∧ x < pn) ∧ okP pf x ∧ ¬ okS (pf x) (ps pf x.toNat) ∧ r = zI (-1 - x) ∧ ∃ (n9 : Int) (w9 e9 : Int → Int), RIx k AD C' 0 pf kc (zup nn kc n9) (zup ww kc w9) (zup ee kc e9) lc pm pS pN pR pT pA oS oN oR oT oA tr sn sw se q0 q1 q2 q3 q4 mb ak) ∨ (okP pf pn ∧ (ps pf pn.toNat).1 = 0 ∧ r = zI (-1 - pn) ∧ ∃ (n9 : Int) (w9 e9 : Int → Int), RIx k AD C' 0 pf kc (zup nn kc n9) (zup ww kc w9) (zup ee kc e9) lc pm pS pN pR pT pA oS oN oR oT oA tr sn sw se q0 q1 q2 q3 q4 mb ak) ∨ (∃ (rg cn : Int) (sw9 w9 e9 : Int → Int), okP pf pn ∧ ps pf pn.toNat = (rg, cn, sw9) ∧ ¬ rg = 0 ∧ r = zI kc ∧ (∀ j : Int, 0 ≤ j → j < cn + 1 → w9 j = zup sw9 cn rg j) ∧ RIx k AD C' 0 pf (kc + 1) (zup nn kc (cn + 1)) (zup ww kc w9) (zup ee kc e9) lc pm pS pN pR pT pA oS oN oR oT oA tr sn sw se q0 q1 q2 q3 q4 mb ak)) ∧ ∀ j : Int, ¬ (0 ≤ j ∧ j ≤ 81) → C' j = C j) (fun E => E = "java/lang/IllegalStateException" ∧ ¬ kc < 8) := by
  refine XI.start (cc := b_R_read) (maxL := 2) (rt := .int) (by decide) rfl (Nat.le_of_ble_eq_true rfl) ?_
  intro p e s m args below meth c Q ls hx hb hml hown hts hK hsz hw hl htb hlk hxc hQ hret
  obtain ⟨Qc9, hQ⟩ := hQ
  have hown : s.vm.findClass "RingMatches" = some m.cls := hown
  have hl : lv_has ls 2 [(0, .ref (AD 0))] := hl
  have hA := wA_hi (N := N) (AD := AD) hsz
  obtain ⟨H, hH⟩ : ∃ H, H = s.heap := ⟨_, rfl⟩
  obtain ⟨locs, hlocs⟩ : ∃ z : List Loc, z = [] := ⟨_, rfl⟩
  have hw : WD D clW (wA N AD sz) s.heap H locs N AD C := by rw [hH, hlocs]; exact hw
  rw [← hlocs]
  suffices hgo : W p l e rm_R_read s m args below meth c H locs 0 0 Q (F0 m 0 ls []) by rw [hH] at hgo; exact hgo
  obtain ⟨hR, hP, hPs, h3, hser, h28, hov, hpm, hpi, hls, hst, hstw, hste, hsn, hpr, hmb, hak, hpn, hkc, hlc, htr, hpf, hok, hlb⟩ := hRI
  refine lv_aload_n hx hb d_R_read_0 rfl (lv_at hl 0 rfl) ?_
  refine zr_get (v := .int (zI kc)) hx hb hts iw_R hown hK hw 0 ⟨by omega, by omega⟩ hR rfl 2 (by decide) (hts _ wk_112) (fun _ h => h) rfl d_R_read_1 ?_
  refine zr_bipush hx hb d_R_read_4 (by decide) ?_
  refine zr_icmp_lt (tgt := 19) hx hb ⟨by omega, by omega⟩ ⟨by omega, by omega⟩ d_R_read_6 (by decide) (fun c1 => ?_) (fun c1 => ?_)
  · refine lv_aload_n hx hb d_R_read_19 rfl (lv_at hl 0 rfl) ?_
    refine zr_get (v := .ref (AD 1)) hx hb hts iw_R hown hK hw 0 ⟨by omega, by omega⟩ hR rfl 0 (by decide) (hts _ wk_110) (fun _ h => h) rfl d_R_read_20 ?_
    refine lv_aload_n hx hb d_R_read_23 rfl (lv_at hl 0 rfl) ?_
    refine zr_get (v := .ref (AD 3)) hx hb hts iw_R hown hK hw 0 ⟨by omega, by omega⟩ hR rfl 1 (by decide) (hts _ wk_111) (fun _ h => h) rfl d_R_read_24 ?_
    refine lv_aload_n hx hb d_R_read_27 rfl (lv_at hl 0 rfl) ?_
    refine zr_get (v := .int (zI kc)) hx hb hts iw_R hown hK hw 0 ⟨by omega, by omega⟩ hR rfl 2 (by decide) (hts _ wk_112) (fun _ h => h) rfl d_R_read_28 ?_
    refine zr_aldq (v := AD (4 + 3 * kc)) hx hb hK hw 3 ⟨by omega, by omega⟩ 3 h3 rfl ⟨by omega, by omega⟩ (by decide) rfl d_R_read_31 ?_
    obtain ⟨hS, hSw, hSe, hSn⟩ := hser kc (by omega) (by omega)
    refine zr_callI (va_runV (As := [.ref (AD (4 + 3 * kc))]) (rest := []) ⟨hx, hb, hml, hown, hts⟩ (c_P_parseInto l D k N AD C H.size 1 pn pf (4 + 3 * kc) (nn kc) (ww kc) (ee kc) ⟨by omega, by omega⟩ ⟨by omega, by omega⟩ hP hPs ⟨by omega, by omega⟩ (by omega) ⟨by omega, by omega⟩ hS hSw hSe (fun j h1 h2 => by have := hpf j h1 h2; omega)) (cwV 1 hts (good_V wk_256 wk_257 wk_258 wk_28 wk_259) rfl rfl rfl (by decide +kernel) ⟨Nat.le_of_ble_eq_true rfl, Nat.le_of_ble_eq_true rfl⟩) (cPre_V hK hw 1 ⟨by omega, by omega⟩ hP rfl) rfl rfl hl.1 rfl (lv_room (Nat.le_of_ble_eq_true rfl)) d_R_read_32 ⟨Nat.le_of_ble_eq_true rfl, Nat.le_of_ble_eq_true rfl⟩) hw hA (fun r9 C2 H locs hq3 hw => ?_)
    obtain ⟨hq3, frC2⟩ := hq3
    rcases hq3 with ⟨x9, hx9, hok9, hbad, hr9, n9, w9, e9, hn9, hSa, hSb, hSc⟩ | ⟨hok9, hz9, hr9, n9, w9, e9, hn9, hSa, hSb, hSc⟩ | ⟨rg, cn, sw9, hok9, hps9, hrg, hr9, w9, e9, hSa, hSb, hSc, hww9, hEv9⟩ <;> subst hr9
    · have hR : C2 0 = .inr (3, [.ref (AD 1), .ref (AD 3), .int (zI kc), .ref (AD 28), .int (zI lc), .int (zI tr), .ref (AD 76), .ref (AD 79), .ref (AD 80), .ref (AD 81)]) := (frC2 _ (by omega)).trans hR
      have h3 : C2 3 = aQ (k 3) 8 (fun i => some (AD (4 + 3 * i))) := (frC2 _ (by omega)).trans h3
      have h28 : C2 28 = aQ (k 4) 47 (fun j => some (AD (29 + pm j))) := (frC2 _ (by omega)).trans h28
      have hP : C2 1 = .inr (1, [.ref (AD (1 + 1)), .int (zI pn)]) := (frC2 _ (by omega)).trans hP
      have hPs : C2 (1 + 1) = aI (k 0) 100 pf := (frC2 _ (by omega)).trans hPs
      have hS : C2 (4 + 3 * kc) = .inr (2, [.ref (AD ((4 + 3 * kc) + 1)), .ref (AD ((4 + 3 * kc) + 2)), .int (zI n9)]) := hSa
      have hSw : C2 ((4 + 3 * kc) + 1) = aI (k 0) 24 w9 := hSb
      have hSe : C2 ((4 + 3 * kc) + 2) = aI (k 0) 24 e9 := hSc
      refine lv_istore_n (lv' := [(1, .int (zI x9)), (0, .ref (AD 0))]) hx hb d_R_read_35 rfl hl (by decide) rfl (fun ls hl => ?_)
      refine lv_aload_n hx hb d_R_read_36 rfl (lv_at hl 1 rfl) ?_
      refine zr_get (v := .ref (AD 1)) hx hb hts iw_R hown hK hw 0 ⟨by omega, by omega⟩ hR rfl 0 (by decide) (hts _ wk_110) (fun _ h => h) rfl d_R_read_37 ?_
      refine zr_iconst hx hb d_R_read_40 ?_
      refine zr_put (ty := .int) (v := .int (zI 0)) hx hb hts iw_P tyP tyP_ok nmP hown hK hw 1 ⟨by omega, by omega⟩ hP rfl 1 (by decide) (hts _ wk_54) (fun _ h => h) rfl (by decide +kernel) rfl rfl (Nat.le_of_ble_eq_true rfl) d_R_read_41 (fun H locs hw => ?_)
      obtain ⟨C4, hC4⟩ : ∃ z : Int → va_E, z = zup C2 1 (.inr (1, [.ref (AD (1 + 1)), .int (zI 0)])) := ⟨_, rfl⟩
      have hw : WD D clW (wA N AD sz) s.heap H locs N AD C4 := by rw [hC4]; exact hw
      have frC4 : ∀ j : Int, j ≠ 1 → C4 j = C2 j := fun j h => by rw [hC4]; exact zup_n h
      have hR : C4 0 = .inr (3, [.ref (AD 1), .ref (AD 3), .int (zI kc), .ref (AD 28), .int (zI lc), .int (zI tr), .ref (AD 76), .ref (AD 79), .ref (AD 80), .ref (AD 81)]) := (frC4 _ (by omega)).trans hR
      have h3 : C4 3 = aQ (k 3) 8 (fun i => some (AD (4 + 3 * i))) := (frC4 _ (by omega)).trans h3
      have h28 : C4 28 = aQ (k 4) 47 (fun j => some (AD (29 + pm j))) := (frC4 _ (by omega)).trans h28
      have hP : C4 1 = .inr (1, [.ref (AD (1 + 1)), .int (zI 0)]) := by rw [hC4]; exact zup_s
      have hPs : C4 (1 + 1) = aI (k 0) 100 pf := (frC4 _ (by omega)).trans hPs
      have hS : C4 (4 + 3 * kc) = .inr (2, [.ref (AD ((4 + 3 * kc) + 1)), .ref (AD ((4 + 3 * kc) + 2)), .int (zI n9)]) := (frC4 _ (by omega)).trans hS
      have hSw : C4 ((4 + 3 * kc) + 1) = aI (k 0) 24 w9 := (frC4 _ (by omega)).trans hSw
      have hSe : C4 ((4 + 3 * kc) + 2) = aI (k 0) 24 e9 := (frC4 _ (by omega)).trans hSe
      refine lv_iload_n hx hb d_R_read_44 rfl (lv_at hl 0 rfl) ?_
      refine zr_iconst hx hb d_R_read_45 ?_
      refine zr_icmp_ne (tgt := 56) hx hb ⟨by omega, by omega⟩ ⟨by omega, by omega⟩ d_R_read_46 (by decide) (fun c5 => ?_) (fun c5 => ?_)
      · refine zr_iconst hx hb d_R_read_56 ?_
        refine lv_iload_n hx hb d_R_read_57 rfl (lv_at hl 0 rfl) ?_
        refine zr_isub hx hb d_R_read_58 ?_
        have hser9 : ∀ i : Int, 0 ≤ i → i < 8 → C4 (4 + 3 * i) = .inr (2, [.ref (AD ((4 + 3 * i) + 1)), .ref (AD ((4 + 3 * i) + 2)), .int (zI (zup nn kc n9 i))]) ∧ C4 ((4 + 3 * i) + 1) = aI (k 0) 24 (zup ww kc w9 i) ∧ C4 ((4 + 3 * i) + 2) = aI (k 0) 24 (zup ee kc e9 i) ∧ (0 ≤ zup nn kc n9 i ∧ zup nn kc n9 i ≤ 24) := by
          intro i h1 h2
          by_cases hi : i = kc
          · rw [hi, zup_s, zup_s, zup_s]; exact ⟨hS, hSw, hSe, by omega⟩
          · rw [zup_n hi, zup_n hi, zup_n hi]
            obtain ⟨a1, a2, a3, a4⟩ := hser i h1 h2
            exact ⟨by rw [frC4 _ (by omega), frC2 _ (by omega)]; exact a1, by rw [frC4 _ (by omega), frC2 _ (by omega)]; exact a2, by rw [frC4 _ (by omega), frC2 _ (by omega)]; exact a3, a4⟩
        exact hret _ _ _ _ _ _ 0 0 (by decide) (by decide) d_R_read_59 hw rfl ⟨by omega, Or.inl ⟨x9, hx9, hok9, hbad, rfl, n9, w9, e9, ⟨hR, hP, hPs, h3, hser9, h28, (fun j h1 h2 => by rw [frC4 _ (by omega), frC2 _ (by omega)]; exact hov j h1 h2), hpm, hpi, hls, (by rw [frC4 _ (by omega), frC2 _ (by omega)]; exact hst), (by rw [frC4 _ (by omega), frC2 _ (by omega)]; exact hstw), (by rw [frC4 _ (by omega), frC2 _ (by omega)]; exact hste), hsn, (by rw [frC4 _ (by omega), frC2 _ (by omega)]; exact hpr), (by rw [frC4 _ (by omega), frC2 _ (by omega)]; exact hmb), (by rw [frC4 _ (by omega), frC2 _ (by omega)]; exact hak), (by omega), hkc, hlc, htr, (fun j h1 h2 => absurd h2 (by omega)), (fun i h1 h2 => by rw [zup_n (by omega), zup_n (by omega), zup_n (by omega)]; exact hok i h1 h2), hlb⟩⟩, fun j hj => by rw [frC4 _ (by omega), frC2 _ (by omega)]⟩
      · exact absurd c5 (by omega)
    · have hR : C2 0 = .inr (3, [.ref (AD 1), .ref (AD 3), .int (zI kc), .ref (AD 28), .int (zI lc), .int (zI tr), .ref (AD 76), .ref (AD 79), .ref (AD 80), .ref (AD 81)]) := (frC2 _ (by omega)).trans hR
      have h3 : C2 3 = aQ (k 3) 8 (fun i => some (AD (4 + 3 * i))) := (frC2 _ (by omega)).trans h3
      have h28 : C2 28 = aQ (k 4) 47 (fun j => some (AD (29 + pm j))) := (frC2 _ (by omega)).trans h28
      have hP : C2 1 = .inr (1, [.ref (AD (1 + 1)), .int (zI pn)]) := (frC2 _ (by omega)).trans hP
      have hPs : C2 (1 + 1) = aI (k 0) 100 pf := (frC2 _ (by omega)).trans hPs
      have hS : C2 (4 + 3 * kc) = .inr (2, [.ref (AD ((4 + 3 * kc) + 1)), .ref (AD ((4 + 3 * kc) + 2)), .int (zI n9)]) := hSa
      have hSw : C2 ((4 + 3 * kc) + 1) = aI (k 0) 24 w9 := hSb
      have hSe : C2 ((4 + 3 * kc) + 2) = aI (k 0) 24 e9 := hSc
      refine lv_istore_n (lv' := [(1, .int (zI pn)), (0, .ref (AD 0))]) hx hb d_R_read_35 rfl hl (by decide) rfl (fun ls hl => ?_)
      refine lv_aload_n hx hb d_R_read_36 rfl (lv_at hl 1 rfl) ?_
      refine zr_get (v := .ref (AD 1)) hx hb hts iw_R hown hK hw 0 ⟨by omega, by omega⟩ hR rfl 0 (by decide) (hts _ wk_110) (fun _ h => h) rfl d_R_read_37 ?_
      refine zr_iconst hx hb d_R_read_40 ?_
      refine zr_put (ty := .int) (v := .int (zI 0)) hx hb hts iw_P tyP tyP_ok nmP hown hK hw 1 ⟨by omega, by omega⟩ hP rfl 1 (by decide) (hts _ wk_54) (fun _ h => h) rfl (by decide +kernel) rfl rfl (Nat.le_of_ble_eq_true rfl) d_R_read_41 (fun H locs hw => ?_)
      obtain ⟨C6, hC6⟩ : ∃ z : Int → va_E, z = zup C2 1 (.inr (1, [.ref (AD (1 + 1)), .int (zI 0)])) := ⟨_, rfl⟩
      have hw : WD D clW (wA N AD sz) s.heap H locs N AD C6 := by rw [hC6]; exact hw
      have frC6 : ∀ j : Int, j ≠ 1 → C6 j = C2 j := fun j h => by rw [hC6]; exact zup_n h
      have hR : C6 0 = .inr (3, [.ref (AD 1), .ref (AD 3), .int (zI kc), .ref (AD 28), .int (zI lc), .int (zI tr), .ref (AD 76), .ref (AD 79), .ref (AD 80), .ref (AD 81)]) := (frC6 _ (by omega)).trans hR
      have h3 : C6 3 = aQ (k 3) 8 (fun i => some (AD (4 + 3 * i))) := (frC6 _ (by omega)).trans h3
      have h28 : C6 28 = aQ (k 4) 47 (fun j => some (AD (29 + pm j))) := (frC6 _ (by omega)).trans h28
      have hP : C6 1 = .inr (1, [.ref (AD (1 + 1)), .int (zI 0)]) := by rw [hC6]; exact zup_s
      have hPs : C6 (1 + 1) = aI (k 0) 100 pf := (frC6 _ (by omega)).trans hPs
      have hS : C6 (4 + 3 * kc) = .inr (2, [.ref (AD ((4 + 3 * kc) + 1)), .ref (AD ((4 + 3 * kc) + 2)), .int (zI n9)]) := (frC6 _ (by omega)).trans hS
      have hSw : C6 ((4 + 3 * kc) + 1) = aI (k 0) 24 w9 := (frC6 _ (by omega)).trans hSw
      have hSe : C6 ((4 + 3 * kc) + 2) = aI (k 0) 24 e9 := (frC6 _ (by omega)).trans hSe
      refine lv_iload_n hx hb d_R_read_44 rfl (lv_at hl 0 rfl) ?_
      refine zr_iconst hx hb d_R_read_45 ?_
      refine zr_icmp_ne (tgt := 56) hx hb ⟨by omega, by omega⟩ ⟨by omega, by omega⟩ d_R_read_46 (by decide) (fun c7 => ?_) (fun c7 => ?_)
      · refine zr_iconst hx hb d_R_read_56 ?_
        refine lv_iload_n hx hb d_R_read_57 rfl (lv_at hl 0 rfl) ?_
        refine zr_isub hx hb d_R_read_58 ?_
        have hser9 : ∀ i : Int, 0 ≤ i → i < 8 → C6 (4 + 3 * i) = .inr (2, [.ref (AD ((4 + 3 * i) + 1)), .ref (AD ((4 + 3 * i) + 2)), .int (zI (zup nn kc n9 i))]) ∧ C6 ((4 + 3 * i) + 1) = aI (k 0) 24 (zup ww kc w9 i) ∧ C6 ((4 + 3 * i) + 2) = aI (k 0) 24 (zup ee kc e9 i) ∧ (0 ≤ zup nn kc n9 i ∧ zup nn kc n9 i ≤ 24) := by
          intro i h1 h2
          by_cases hi : i = kc
          · rw [hi, zup_s, zup_s, zup_s]; exact ⟨hS, hSw, hSe, by omega⟩
          · rw [zup_n hi, zup_n hi, zup_n hi]
            obtain ⟨a1, a2, a3, a4⟩ := hser i h1 h2
            exact ⟨by rw [frC6 _ (by omega), frC2 _ (by omega)]; exact a1, by rw [frC6 _ (by omega), frC2 _ (by omega)]; exact a2, by rw [frC6 _ (by omega), frC2 _ (by omega)]; exact a3, a4⟩
        exact hret _ _ _ _ _ _ 0 0 (by decide) (by decide) d_R_read_59 hw rfl ⟨by omega, Or.inr (Or.inl ⟨hok9, hz9, rfl, n9, w9, e9, ⟨hR, hP, hPs, h3, hser9, h28, (fun j h1 h2 => by rw [frC6 _ (by omega), frC2 _ (by omega)]; exact hov j h1 h2), hpm, hpi, hls, (by rw [frC6 _ (by omega), frC2 _ (by omega)]; exact hst), (by rw [frC6 _ (by omega), frC2 _ (by omega)]; exact hstw), (by rw [frC6 _ (by omega), frC2 _ (by omega)]; exact hste), hsn, (by rw [frC6 _ (by omega), frC2 _ (by omega)]; exact hpr), (by rw [frC6 _ (by omega), frC2 _ (by omega)]; exact hmb), (by rw [frC6 _ (by omega), frC2 _ (by omega)]; exact hak), (by omega), hkc, hlc, htr, (fun j h1 h2 => absurd h2 (by omega)), (fun i h1 h2 => by rw [zup_n (by omega), zup_n (by omega), zup_n (by omega)]; exact hok i h1 h2), hlb⟩⟩), fun j hj => by rw [frC6 _ (by omega), frC2 _ (by omega)]⟩
      · exact absurd c7 (by omega)
    · have hR : C2 0 = .inr (3, [.ref (AD 1), .ref (AD 3), .int (zI kc), .ref (AD 28), .int (zI lc), .int (zI tr), .ref (AD 76), .ref (AD 79), .ref (AD 80), .ref (AD 81)]) := (frC2 _ (by omega)).trans hR
      have h3 : C2 3 = aQ (k 3) 8 (fun i => some (AD (4 + 3 * i))) := (frC2 _ (by omega)).trans h3
      have h28 : C2 28 = aQ (k 4) 47 (fun j => some (AD (29 + pm j))) := (frC2 _ (by omega)).trans h28
      have hP : C2 1 = .inr (1, [.ref (AD (1 + 1)), .int (zI pn)]) := (frC2 _ (by omega)).trans hP
      have hPs : C2 (1 + 1) = aI (k 0) 100 pf := (frC2 _ (by omega)).trans hPs
      have hS : C2 (4 + 3 * kc) = .inr (2, [.ref (AD ((4 + 3 * kc) + 1)), .ref (AD ((4 + 3 * kc) + 2)), .int (zI (cn + 1))]) := hSa
      have hSw : C2 ((4 + 3 * kc) + 1) = aI (k 0) 24 w9 := hSb
      have hSe : C2 ((4 + 3 * kc) + 2) = aI (k 0) 24 e9 := hSc
      obtain ⟨hin1, hin2, hin3, hin4⟩ := ps_inI hpn.1 hok9 hps9
      refine lv_istore_n (lv' := [(1, .int (zI (-1))), (0, .ref (AD 0))]) hx hb d_R_read_35 rfl hl (by decide) rfl (fun ls hl => ?_)
      refine lv_aload_n hx hb d_R_read_36 rfl (lv_at hl 1 rfl) ?_
      refine zr_get (v := .ref (AD 1)) hx hb hts iw_R hown hK hw 0 ⟨by omega, by omega⟩ hR rfl 0 (by decide) (hts _ wk_110) (fun _ h => h) rfl d_R_read_37 ?_
      refine zr_iconst hx hb d_R_read_40 ?_
      refine zr_put (ty := .int) (v := .int (zI 0)) hx hb hts iw_P tyP tyP_ok nmP hown hK hw 1 ⟨by omega, by omega⟩ hP rfl 1 (by decide) (hts _ wk_54) (fun _ h => h) rfl (by decide +kernel) rfl rfl (Nat.le_of_ble_eq_true rfl) d_R_read_41 (fun H locs hw => ?_)
      obtain ⟨C8, hC8⟩ : ∃ z : Int → va_E, z = zup C2 1 (.inr (1, [.ref (AD (1 + 1)), .int (zI 0)])) := ⟨_, rfl⟩
      have hw : WD D clW (wA N AD sz) s.heap H locs N AD C8 := by rw [hC8]; exact hw
      have frC8 : ∀ j : Int, j ≠ 1 → C8 j = C2 j := fun j h => by rw [hC8]; exact zup_n h
      have hR : C8 0 = .inr (3, [.ref (AD 1), .ref (AD 3), .int (zI kc), .ref (AD 28), .int (zI lc), .int (zI tr), .ref (AD 76), .ref (AD 79), .ref (AD 80), .ref (AD 81)]) := (frC8 _ (by omega)).trans hR
      have h3 : C8 3 = aQ (k 3) 8 (fun i => some (AD (4 + 3 * i))) := (frC8 _ (by omega)).trans h3
      have h28 : C8 28 = aQ (k 4) 47 (fun j => some (AD (29 + pm j))) := (frC8 _ (by omega)).trans h28
      have hP : C8 1 = .inr (1, [.ref (AD (1 + 1)), .int (zI 0)]) := by rw [hC8]; exact zup_s
      have hPs : C8 (1 + 1) = aI (k 0) 100 pf := (frC8 _ (by omega)).trans hPs
      have hS : C8 (4 + 3 * kc) = .inr (2, [.ref (AD ((4 + 3 * kc) + 1)), .ref (AD ((4 + 3 * kc) + 2)), .int (zI (cn + 1))]) := (frC8 _ (by omega)).trans hS
      have hSw : C8 ((4 + 3 * kc) + 1) = aI (k 0) 24 w9 := (frC8 _ (by omega)).trans hSw
      have hSe : C8 ((4 + 3 * kc) + 2) = aI (k 0) 24 e9 := (frC8 _ (by omega)).trans hSe
      refine lv_iload_n hx hb d_R_read_44 rfl (lv_at hl 0 rfl) ?_
      refine zr_iconst hx hb d_R_read_45 ?_
      refine zr_icmp_ne (tgt := 56) hx hb ⟨by omega, by omega⟩ ⟨by omega, by omega⟩ d_R_read_46 (by decide) (fun c9 => ?_) (fun c9 => ?_)
      · exact absurd c9 (by omega)
      · refine lv_aload_n hx hb d_R_read_49 rfl (lv_at hl 1 rfl) ?_
        refine zr_callI (va_runV (As := []) (rest := []) ⟨hx, hb, hml, hown, hts⟩ (c_R_keepNext l D k N AD C8 H.size kc lc tr hN hR) (cwV 0 hts (good_V wk_286 wk_288 wk_2 wk_27 wk_289) rfl rfl rfl (by decide +kernel) ⟨Nat.le_of_ble_eq_true rfl, Nat.le_of_ble_eq_true rfl⟩) (cPre_V hK hw 0 ⟨by omega, by omega⟩ hR rfl) rfl rfl hl.1 rfl (lv_room (Nat.le_of_ble_eq_true rfl)) d_R_read_50 ⟨Nat.le_of_ble_eq_true rfl, Nat.le_of_ble_eq_true rfl⟩) hw hA (fun r9 C10 H locs hq11 hw => ?_)
        obtain ⟨hr9, hq11a, frC10⟩ := hq11
        subst hr9
        have hR : C10 0 = .inr (3, [.ref (AD 1), .ref (AD 3), .int (zI (kc + 1)), .ref (AD 28), .int (zI lc), .int (zI tr), .ref (AD 76), .ref (AD 79), .ref (AD 80), .ref (AD 81)]) := hq11a
        have h3 : C10 3 = aQ (k 3) 8 (fun i => some (AD (4 + 3 * i))) := (frC10 _ (by omega)).trans h3
        have h28 : C10 28 = aQ (k 4) 47 (fun j => some (AD (29 + pm j))) := (frC10 _ (by omega)).trans h28
        have hP : C10 1 = .inr (1, [.ref (AD (1 + 1)), .int (zI 0)]) := (frC10 _ (by omega)).trans hP
        have hPs : C10 (1 + 1) = aI (k 0) 100 pf := (frC10 _ (by omega)).trans hPs
        have hS : C10 (4 + 3 * kc) = .inr (2, [.ref (AD ((4 + 3 * kc) + 1)), .ref (AD ((4 + 3 * kc) + 2)), .int (zI (cn + 1))]) := (frC10 _ (by omega)).trans hS
        have hSw : C10 ((4 + 3 * kc) + 1) = aI (k 0) 24 w9 := (frC10 _ (by omega)).trans hSw
        have hSe : C10 ((4 + 3 * kc) + 2) = aI (k 0) 24 e9 := (frC10 _ (by omega)).trans hSe
        refine lv_goto (tgt := 59) hx hb d_R_read_53 (by decide) ?_
        have hser9 : ∀ i : Int, 0 ≤ i → i < 8 → C10 (4 + 3 * i) = .inr (2, [.ref (AD ((4 + 3 * i) + 1)), .ref (AD ((4 + 3 * i) + 2)), .int (zI (zup nn kc (cn + 1) i))]) ∧ C10 ((4 + 3 * i) + 1) = aI (k 0) 24 (zup ww kc w9 i) ∧ C10 ((4 + 3 * i) + 2) = aI (k 0) 24 (zup ee kc e9 i) ∧ (0 ≤ zup nn kc (cn + 1) i ∧ zup nn kc (cn + 1) i ≤ 24) := by
          intro i h1 h2
          by_cases hi : i = kc
          · rw [hi, zup_s, zup_s, zup_s]; exact ⟨hS, hSw, hSe, by omega⟩
          · rw [zup_n hi, zup_n hi, zup_n hi]
            obtain ⟨a1, a2, a3, a4⟩ := hser i h1 h2
            exact ⟨by rw [frC10 _ (by omega), frC8 _ (by omega), frC2 _ (by omega)]; exact a1, by rw [frC10 _ (by omega), frC8 _ (by omega), frC2 _ (by omega)]; exact a2, by rw [frC10 _ (by omega), frC8 _ (by omega), frC2 _ (by omega)]; exact a3, a4⟩
        have hw9o : WOK w9 (cn + 1) := by
          refine WOK.to (w := zup sw9 cn rg) ?_ hww9
          intro j h1 h2
          by_cases hj : j = cn
          · rw [hj, zup_s]; omega
          · rw [zup_n hj]; exact hin4 j h1 (by omega)
        have hok8 : ∀ i : Int, 0 ≤ i → i < kc + 1 → 1 ≤ zup nn kc (cn + 1) i ∧ WOK (zup ww kc w9 i) (zup nn kc (cn + 1) i) ∧ EvOK (zup ww kc w9 i) (zup ee kc e9 i) (zup nn kc (cn + 1) i) := by
          intro i h1 h2
          by_cases hi : i = kc
          · rw [hi, zup_s, zup_s, zup_s]; exact ⟨by omega, hw9o, hEv9⟩
          · rw [zup_n hi, zup_n hi, zup_n hi]; exact hok i h1 (by omega)
        exact hret _ _ _ _ _ _ 0 0 (by decide) (by decide) d_R_read_59 hw rfl ⟨by omega, Or.inr (Or.inr ⟨rg, cn, sw9, w9, e9, hok9, hps9, hrg, rfl, hww9, ⟨hR, hP, hPs, h3, hser9, h28, (fun j h1 h2 => by rw [frC10 _ (by omega), frC8 _ (by omega), frC2 _ (by omega)]; exact hov j h1 h2), hpm, hpi, hls, (by rw [frC10 _ (by omega), frC8 _ (by omega), frC2 _ (by omega)]; exact hst), (by rw [frC10 _ (by omega), frC8 _ (by omega), frC2 _ (by omega)]; exact hstw), (by rw [frC10 _ (by omega), frC8 _ (by omega), frC2 _ (by omega)]; exact hste), hsn, (by rw [frC10 _ (by omega), frC8 _ (by omega), frC2 _ (by omega)]; exact hpr), (by rw [frC10 _ (by omega), frC8 _ (by omega), frC2 _ (by omega)]; exact hmb), (by rw [frC10 _ (by omega), frC8 _ (by omega), frC2 _ (by omega)]; exact hak), (by omega), (by omega), hlc, htr, (fun j h1 h2 => absurd h2 (by omega)), hok8, hlb⟩⟩), fun j hj => by rw [frC10 _ (by omega), frC8 _ (by omega), frC2 _ (by omega)]⟩
  · rw [hQ]
    exact xthrow (text := "there are eight series") hx hb hlt hown hts hK hxc htb hlk xc_ISE (by decide +kernel) hw ⟨rfl, by omega⟩ (hl.1.trans hml.symm) d_R_read_9 d_R_read_12 d_R_read_13 d_R_read_15 d_R_read_18 (Nat.le_of_ble_eq_true rfl) (Nat.le_of_ble_eq_true rfl) (Nat.le_of_ble_eq_true rfl) (Nat.le_of_ble_eq_true rfl) (Nat.le_of_ble_eq_true rfl) (Nat.le_of_ble_eq_true rfl)
