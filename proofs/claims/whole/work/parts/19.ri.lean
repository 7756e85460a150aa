/-- the class's world, all of it told -/
def RIx (k : Nat → ClassId) (AD : Int → Nat) (C : Int → va_E) (pn : Int) (pf : Int → Int) (kc : Int) (nn : Int → Int) (ww : Int → Int → Int) (ee : Int → Int → Int) (lc : Int) (pm : Int → Int) (pS : Int → Int) (pN : Int → Int) (pR : Int → Int) (pT : Int → Int) (pA : Int → Int) (oS : Int → Int) (oN : Int → Int) (oR : Int → Int) (oT : Int → Int) (oA : Int → Int) (tr : Int) (sn : Int) (sw : Int → Int) (se : Int → Int) (q0 : Int) (q1 : Int) (q2 : Int) (q3 : Int) (q4 : Int) (mb : Int → Int) (ak : Int → Int) : Prop :=
  (C 0 = .inr (3, [.ref (AD 1), .ref (AD 3), .int (zI kc), .ref (AD 28), .int (zI lc), .int (zI tr), .ref (AD 76), .ref (AD 79), .ref (AD 80), .ref (AD 81)])) ∧
  (C 1 = .inr (1, [.ref (AD (1 + 1)), .int (zI pn)])) ∧
  (C (1 + 1) = aI (k 0) 100 pf) ∧
  (C 3 = aQ (k 3) 8 (fun i => some (AD (4 + 3 * i)))) ∧
  (∀ i : Int, 0 ≤ i → i < 8 → C (4 + 3 * i) = .inr (2, [.ref (AD ((4 + 3 * i) + 1)), .ref (AD ((4 + 3 * i) + 2)), .int (zI (nn i))]) ∧ C ((4 + 3 * i) + 1) = aI (k 0) 24 (ww i) ∧ C ((4 + 3 * i) + 2) = aI (k 0) 24 (ee i) ∧ (0 ≤ nn i ∧ nn i ≤ 24)) ∧
  (C 28 = aQ (k 4) 47 (fun j => some (AD (29 + pm j)))) ∧
  (∀ j : Int, 0 ≤ j → j < 47 → C (29 + j) = .inr (0, [.int (zI (pS j)), .int (zI (pN j)), .int (zI (pR j)), .int (zI (pT j)), .int (zI (pA j))])) ∧
  (∀ j : Int, 0 ≤ j → j < 47 → 0 ≤ pm j ∧ pm j < 47) ∧
  (∀ i j : Int, 0 ≤ i → i < 47 → 0 ≤ j → j < 47 → pm i = pm j → i = j) ∧
  (∀ r : Int, 0 ≤ r → r < lc → pS (pm r) = oS r ∧ pN (pm r) = oN r ∧ pR (pm r) = oR r ∧ pT (pm r) = oT r ∧ pA (pm r) = oA r) ∧
  (C 76 = .inr (2, [.ref (AD (76 + 1)), .ref (AD (76 + 2)), .int (zI sn)])) ∧
  (C (76 + 1) = aI (k 0) 24 sw) ∧
  (C (76 + 2) = aI (k 0) 24 se) ∧
  (0 ≤ sn ∧ sn ≤ 24) ∧
  (C 79 = .inr (0, [.int (zI q0), .int (zI q1), .int (zI q2), .int (zI q3), .int (zI q4)])) ∧
  (C 80 = aI (k 1) 8 mb) ∧
  (C 81 = aI (k 1) 8 ak) ∧
  (0 ≤ pn ∧ pn ≤ 100) ∧
  (0 ≤ kc ∧ kc ≤ 8) ∧
  (0 ≤ lc ∧ lc ≤ 47) ∧
  (0 ≤ tr) ∧
  (∀ j : Int, 0 ≤ j → j < pn → 32 ≤ pf j ∧ pf j ≤ 126) ∧
  (∀ i : Int, 0 ≤ i → i < kc → 1 ≤ nn i ∧ WOK (ww i) (nn i) ∧ EvOK (ww i) (ee i) (nn i)) ∧
  (∀ r : Int, 0 ≤ r → r < lc → (-24 ≤ oS r ∧ oS r ≤ 24) ∧ (0 ≤ oN r ∧ oN r ≤ 24) ∧ (-100 ≤ oR r ∧ oR r ≤ 100) ∧ (0 ≤ oT r ∧ oT r ≤ 23) ∧ (0 ≤ oA r ∧ oA r ≤ 2 * oT r))
def RI (k : Nat → ClassId) (AD : Int → Nat) (C : Int → va_E) (pn : Int) (pf : Int → Int) (kc : Int) (nn : Int → Int) (ww : Int → Int → Int) (lc : Int) (oS : Int → Int) (oN : Int → Int) (oR : Int → Int) (oT : Int → Int) (oA : Int → Int) (tr : Int) : Prop := ∃ (ee : Int → Int → Int) (pm : Int → Int) (pS : Int → Int) (pN : Int → Int) (pR : Int → Int) (pT : Int → Int) (pA : Int → Int) (sn : Int) (sw : Int → Int) (se : Int → Int) (q0 : Int) (q1 : Int) (q2 : Int) (q3 : Int) (q4 : Int) (mb : Int → Int) (ak : Int → Int), RIx k AD C pn pf kc nn ww ee lc pm pS pN pR pT pA oS oN oR oT oA tr sn sw se q0 q1 q2 q3 q4 mb ak
def cntF (pn kc lc tr i : Int) : Int := if i = 0 then pn else if i = 1 then kc else if i = 2 then lc else tr
abbrev rm_R_count : Room := { frames := 6, cells := 1, slots := 6, locals := 82 }
set_option maxHeartbeats 4000000 in
set_option maxRecDepth 100000 in
theorem c_R_count (l : Launch) (D : va_G) (k : Nat → ClassId) (N : Nat) (AD : Int → Nat) (C : Int → va_E) (sz : Nat) (hlt : l.stackTraces = false) (pn : Int) (pf : Int → Int) (kc : Int) (nn : Int → Int) (ww : Int → Int → Int) (ee : Int → Int → Int) (lc : Int) (pm : Int → Int) (pS : Int → Int) (pN : Int → Int) (pR : Int → Int) (pT : Int → Int) (pA : Int → Int) (oS : Int → Int) (oN : Int → Int) (oR : Int → Int) (oT : Int → Int) (oA : Int → Int) (tr : Int) (sn : Int) (sw : Int → Int) (se : Int → Int) (q0 : Int) (q1 : Int) (q2 : Int) (q3 : Int) (q4 : Int) (mb : Int → Int) (ak : Int → Int) (i : Int) (hN : 82 ≤ (N : Int)) (hRI : RIx k AD C pn pf kc nn ww ee lc pm pS pN pR pT pA oS oN oR oT oA tr sn sw se q0 q1 q2 q3 q4 mb ak) (hi : inI i) : XI l y_R_count (Cond.code y_R_count b_R_count 2 (Option.some Jvm.ClassFile.FieldType.int) :: WS) rm_R_count 1 6 D clW (tyW k) N AD C sz [.ref (AD 0), .int (zI i)] (fun r C' => r = zI (cntF pn kc lc tr i) ∧ (0 ≤ i ∧ i ≤ 3) ∧ C' = C) (fun E => E = "java/lang/IndexOutOfBoundsException" ∧ ¬ (0 ≤ i ∧ i ≤ 3)) := by
  refine XI.start (cc := b_R_count) (maxL := 2) (rt := .int) (by decide) rfl (Nat.le_of_ble_eq_true rfl) ?_
  intro p e s m args below meth c Q ls hx hb hml hown hts hK hsz hw hl htb hlk hxc hQ hret
  obtain ⟨Qc9, hQ⟩ := hQ
  have hown : s.vm.findClass "RingMatches" = some m.cls := hown
  have hl : lv_has ls 2 [(0, .ref (AD 0)), (1, .int (zI i))] := hl
  have hA := wA_hi (N := N) (AD := AD) hsz
  obtain ⟨H, hH⟩ : ∃ H, H = s.heap := ⟨_, rfl⟩
  obtain ⟨locs, hlocs⟩ : ∃ z : List Loc, z = [] := ⟨_, rfl⟩
  have hw : WD D clW (wA N AD sz) s.heap H locs N AD C := by rw [hH, hlocs]; exact hw
  rw [← hlocs]
  suffices hgo : W p l e rm_R_count s m args below meth c H locs 0 0 Q (F0 m 0 ls []) by rw [hH] at hgo; exact hgo
  obtain ⟨hR, hP, hPs, h3, hser, h28, hov, hpm, hpi, hls, hst, hstw, hste, hsn, hpr, hmb, hak, hpn, hkc, hlc, htr, hpf, hok, hlb⟩ := hRI
  refine lv_iload_n hx hb d_R_count_0 rfl (lv_at hl 1 rfl) ?_
  by_cases hsw : i < 0 ∨ 3 < i
  · refine lv_tableOut (tgt := 55) hx hb d_R_count_1 (by rw [zI_toInt ⟨by omega, by omega⟩]; exact hsw) (by decide) ?_
    rw [hQ]
    exact xthrow (text := "no such what") hx hb hlt hown hts hK hxc htb hlk xc_IOB (by decide +kernel) hw ⟨rfl, by omega⟩ (hl.1.trans hml.symm) d_R_count_55 d_R_count_58 d_R_count_59 d_R_count_61 d_R_count_64 (Nat.le_of_ble_eq_true rfl) (Nat.le_of_ble_eq_true rfl) (Nat.le_of_ble_eq_true rfl) (Nat.le_of_ble_eq_true rfl) (Nat.le_of_ble_eq_true rfl) (Nat.le_of_ble_eq_true rfl)
  · rcases (show i = 0 ∨ i = 1 ∨ i = 2 ∨ i = 3 by omega) with hv9 | hv9 | hv9 | hv9
    · refine lv_tableIn (tgt := 32) (off := 31) hx hb d_R_count_1 (by rw [zI_toInt ⟨by omega, by omega⟩]; omega) (by rw [zI_toInt ⟨by omega, by omega⟩]; omega) (by rw [zI_toInt ⟨by omega, by omega⟩, hv9]; rfl) (by decide) ?_
      refine lv_aload_n hx hb d_R_count_32 rfl (lv_at hl 0 rfl) ?_
      refine zr_get (v := .ref (AD 1)) hx hb hts iw_R hown hK hw 0 ⟨by omega, by omega⟩ hR rfl 0 (by decide) (hts _ wk_110) (fun _ h => h) rfl d_R_count_33 ?_
      refine zr_get (v := .int (zI pn)) hx hb hts iw_P hown hK hw 1 ⟨by omega, by omega⟩ hP rfl 1 (by decide) (hts _ wk_54) (fun _ h => h) rfl d_R_count_36 ?_
      exact hret _ _ _ _ _ _ 0 0 (by decide) (by decide) d_R_count_39 hw rfl ⟨by unfold cntF; rw [if_pos hv9], by omega, rfl⟩
    · refine lv_tableIn (tgt := 40) (off := 39) hx hb d_R_count_1 (by rw [zI_toInt ⟨by omega, by omega⟩]; omega) (by rw [zI_toInt ⟨by omega, by omega⟩]; omega) (by rw [zI_toInt ⟨by omega, by omega⟩, hv9]; rfl) (by decide) ?_
      refine lv_aload_n hx hb d_R_count_40 rfl (lv_at hl 0 rfl) ?_
      refine zr_get (v := .int (zI kc)) hx hb hts iw_R hown hK hw 0 ⟨by omega, by omega⟩ hR rfl 2 (by decide) (hts _ wk_112) (fun _ h => h) rfl d_R_count_41 ?_
      exact hret _ _ _ _ _ _ 0 0 (by decide) (by decide) d_R_count_44 hw rfl ⟨by unfold cntF; rw [if_neg (by omega), if_pos hv9], by omega, rfl⟩
    · refine lv_tableIn (tgt := 45) (off := 44) hx hb d_R_count_1 (by rw [zI_toInt ⟨by omega, by omega⟩]; omega) (by rw [zI_toInt ⟨by omega, by omega⟩]; omega) (by rw [zI_toInt ⟨by omega, by omega⟩, hv9]; rfl) (by decide) ?_
      refine lv_aload_n hx hb d_R_count_45 rfl (lv_at hl 0 rfl) ?_
      refine zr_get (v := .int (zI lc)) hx hb hts iw_R hown hK hw 0 ⟨by omega, by omega⟩ hR rfl 4 (by decide) (hts _ wk_114) (fun _ h => h) rfl d_R_count_46 ?_
      exact hret _ _ _ _ _ _ 0 0 (by decide) (by decide) d_R_count_49 hw rfl ⟨by unfold cntF; rw [if_neg (by omega), if_neg (by omega), if_pos hv9], by omega, rfl⟩
    · refine lv_tableIn (tgt := 50) (off := 49) hx hb d_R_count_1 (by rw [zI_toInt ⟨by omega, by omega⟩]; omega) (by rw [zI_toInt ⟨by omega, by omega⟩]; omega) (by rw [zI_toInt ⟨by omega, by omega⟩, hv9]; rfl) (by decide) ?_
      refine lv_aload_n hx hb d_R_count_50 rfl (lv_at hl 0 rfl) ?_
      refine zr_get (v := .int (zI tr)) hx hb hts iw_R hown hK hw 0 ⟨by omega, by omega⟩ hR rfl 5 (by decide) (hts _ wk_115) (fun _ h => h) rfl d_R_count_51 ?_
      exact hret _ _ _ _ _ _ 0 0 (by decide) (by decide) d_R_count_54 hw rfl ⟨by unfold cntF; rw [if_neg (by omega), if_neg (by omega), if_neg (by omega)], by omega, rfl⟩
/-- width's answer -/
def widF (nn : Int → Int) (ww : Int → Int → Int) (a i : Int) : Int := if i = -1 then nn a else wAt (ww a) (nn a) i
abbrev rm_R_width : Room := { frames := 7, cells := 2, slots := 12, locals := 103 }
set_option maxHeartbeats 4000000 in
set_option maxRecDepth 100000 in
theorem c_R_width (l : Launch) (D : va_G) (k : Nat → ClassId) (N : Nat) (AD : Int → Nat) (C : Int → va_E) (sz : Nat) (hlt : l.stackTraces = false) (pn : Int) (pf : Int → Int) (kc : Int) (nn : Int → Int) (ww : Int → Int → Int) (ee : Int → Int → Int) (lc : Int) (pm : Int → Int) (pS : Int → Int) (pN : Int → Int) (pR : Int → Int) (pT : Int → Int) (pA : Int → Int) (oS : Int → Int) (oN : Int → Int) (oR : Int → Int) (oT : Int → Int) (oA : Int → Int) (tr : Int) (sn : Int) (sw : Int → Int) (se : Int → Int) (q0 : Int) (q1 : Int) (q2 : Int) (q3 : Int) (q4 : Int) (mb : Int → Int) (ak : Int → Int) (a : Int) (i : Int) (hN : 82 ≤ (N : Int)) (hRI : RIx k AD C pn pf kc nn ww ee lc pm pS pN pR pT pA oS oN oR oT oA tr sn sw se q0 q1 q2 q3 q4 mb ak) (ha : inI a) (hi : inI i) : XI l y_R_width (Cond.code y_R_width b_R_width 4 (Option.some Jvm.ClassFile.FieldType.int) :: WS) rm_R_width 2 12 D clW (tyW k) N AD C sz [.ref (AD 0), .int (zI a), .int (zI i)] (fun r C' => r = zI (widF nn ww a i) ∧ ((0 ≤ a ∧ a < kc) ∧ (-1 ≤ i ∧ i < nn a)) ∧ C' = C) (fun E => E = "java/lang/IndexOutOfBoundsException" ∧ ¬ ((0 ≤ a ∧ a < kc) ∧ (-1 ≤ i ∧ i < nn a))) := by
  refine XI.start (cc := b_R_width) (maxL := 4) (rt := .int) (by decide) rfl (Nat.le_of_ble_eq_true rfl) ?_
  intro p e s m args below meth c Q ls hx hb hml hown hts hK hsz hw hl htb hlk hxc hQ hret
  obtain ⟨Qc9, hQ⟩ := hQ
  have hown : s.vm.findClass "RingMatches" = some m.cls := hown
  have hl : lv_has ls 4 [(0, .ref (AD 0)), (1, .int (zI a)), (2, .int (zI i))] := hl
  have hA := wA_hi (N := N) (AD := AD) hsz
  obtain ⟨H, hH⟩ : ∃ H, H = s.heap := ⟨_, rfl⟩
  obtain ⟨locs, hlocs⟩ : ∃ z : List Loc, z = [] := ⟨_, rfl⟩
  have hw : WD D clW (wA N AD sz) s.heap H locs N AD C := by rw [hH, hlocs]; exact hw
  rw [← hlocs]
  suffices hgo : W p l e rm_R_width s m args below meth c H locs 0 0 Q (F0 m 0 ls []) by rw [hH] at hgo; exact hgo
  obtain ⟨hR, hP, hPs, h3, hser, h28, hov, hpm, hpi, hls, hst, hstw, hste, hsn, hpr, hmb, hak, hpn, hkc, hlc, htr, hpf, hok, hlb⟩ := hRI
  refine lv_aload_n hx hb d_R_width_0 rfl (lv_at hl 0 rfl) ?_
  refine lv_iload_n hx hb d_R_width_1 rfl (lv_at hl 1 rfl) ?_
  refine zr_xcallR (vx_runV (As := [.int (zI a)]) (rest := []) ⟨hx, hb, hml, hown, hts⟩ (c_R_seriesAt l D k N AD C H.size hlt kc lc tr a hN (by omega) ⟨by omega, by omega⟩ hR h3) (cwV 1 hts (good_V wk_298 wk_300 wk_3 wk_27 wk_301) rfl rfl rfl (by decide +kernel) ⟨Nat.le_of_ble_eq_true rfl, Nat.le_of_ble_eq_true rfl⟩) (xPre_V hK hw hA hxc 0 ⟨by omega, by omega⟩ hR rfl) rfl rfl hl.1 rfl (lv_room (Nat.le_of_ble_eq_true rfl)) d_R_width_2 ⟨Nat.le_of_ble_eq_true rfl, Nat.le_of_ble_eq_true rfl⟩) hw hA (fun E9 ce9 q9 H locs hxp hw h91 h92 h93 => ?_) (fun H locs hrp1 hw => ?_)
  · rw [hQ]; exact xout hK htb hlk hw ⟨hxp.1, fun h => hxp.2 h.1⟩ h91 h92 h93 (Nat.le_of_ble_eq_true rfl) (Nat.le_of_ble_eq_true rfl)
  obtain ⟨hokhS1, hokhS2, hokhS3⟩ := hok a hrp1.1 hrp1.2
  obtain ⟨hS, hSw, hSe, hSn⟩ := hser a hrp1.1 (by omega)
  refine lv_astore_n (lv' := [(3, .ref (AD (4 + 3 * a))), (0, .ref (AD 0)), (1, .int (zI a)), (2, .int (zI i))]) hx hb d_R_width_5 rfl hl (by decide) rfl (fun ls hl => ?_)
  refine lv_iload_n hx hb d_R_width_6 rfl (lv_at hl 3 rfl) ?_
  refine zr_iconst hx hb d_R_width_7 ?_
  refine zr_icmp_ne (tgt := 16) hx hb ⟨by omega, by omega⟩ ⟨by omega, by omega⟩ d_R_width_8 (by decide) (fun c2 => ?_) (fun c2 => ?_)
  · refine lv_aload_n hx hb d_R_width_16 rfl (lv_at hl 0 rfl) ?_
    refine lv_iload_n hx hb d_R_width_17 rfl (lv_at hl 3 rfl) ?_
    refine zr_callI (va_runV (As := [.int (zI i)]) (rest := []) ⟨hx, hb, hml, hown, hts⟩ (c_S_has l D k N AD C H.size (4 + 3 * a) (nn a) (ww a) (ee a) i ⟨by omega, by omega⟩ ⟨by omega, by omega⟩ hS hSw hSe ⟨by omega, by omega⟩) (cwV 1 hts (good_V wk_318 wk_280 wk_281 wk_29 wk_282) rfl rfl rfl (by decide +kernel) ⟨Nat.le_of_ble_eq_true rfl, Nat.le_of_ble_eq_true rfl⟩) (cPre_V hK hw (4 + 3 * a) ⟨by omega, by omega⟩ hS rfl) rfl rfl hl.1 rfl (lv_room (Nat.le_of_ble_eq_true rfl)) d_R_width_18 ⟨Nat.le_of_ble_eq_true rfl, Nat.le_of_ble_eq_true rfl⟩) hw hA (fun r9 C4 H locs hq3 hw => ?_)
    obtain ⟨hq3, hCe⟩ := hq3
    rw [hCe] at hw
    rcases hq3 with ⟨hr9, hq3⟩ | ⟨hr9, hq3⟩ <;> subst hr9
    · refine zr_if_ne (tgt := 34) hx hb ⟨by omega, by omega⟩ d_R_width_21 (by decide) (fun c5 => ?_) (fun c9 => absurd c9 (by decide))
      refine lv_aload_n hx hb d_R_width_34 rfl (lv_at hl 0 rfl) ?_
      refine lv_iload_n hx hb d_R_width_35 rfl (lv_at hl 3 rfl) ?_
      refine zr_callI (va_runV (As := [.int (zI i)]) (rest := []) ⟨hx, hb, hml, hown, hts⟩ (c_S_widthAt l D k N AD C H.size (4 + 3 * a) (nn a) (ww a) (ee a) i ⟨by omega, by omega⟩ ⟨by omega, by omega⟩ hS hSw hSe ⟨by omega, by omega⟩) (cwV 1 hts (good_V wk_320 wk_276 wk_277 wk_29 wk_278) rfl rfl rfl (by decide +kernel) ⟨Nat.le_of_ble_eq_true rfl, Nat.le_of_ble_eq_true rfl⟩) (cPre_V hK hw (4 + 3 * a) ⟨by omega, by omega⟩ hS rfl) rfl rfl hl.1 rfl (lv_room (Nat.le_of_ble_eq_true rfl)) d_R_width_36 ⟨Nat.le_of_ble_eq_true rfl, Nat.le_of_ble_eq_true rfl⟩) hw hA (fun r9 C7 H locs hq6 hw => ?_)
      obtain ⟨hr9, hCe⟩ := hq6
      rw [hCe] at hw; subst hr9
      exact hret _ _ _ _ _ _ 1 6 (by decide) (by decide) d_R_width_39 hw rfl ⟨by unfold widF; rw [if_neg (by omega)], by omega, rfl⟩
    · refine zr_if_ne (tgt := 34) hx hb ⟨by omega, by omega⟩ d_R_width_21 (by decide) (fun c9 => absurd c9 (by decide)) (fun c8 => ?_)
      rw [hQ]
      exact xthrow (text := "no such ring") hx hb hlt hown hts hK hxc htb hlk xc_IOB (by decide +kernel) hw ⟨rfl, by omega⟩ (hl.1.trans hml.symm) d_R_width_24 d_R_width_27 d_R_width_28 d_R_width_30 d_R_width_33 (Nat.le_of_ble_eq_true rfl) (Nat.le_of_ble_eq_true rfl) (Nat.le_of_ble_eq_true rfl) (Nat.le_of_ble_eq_true rfl) (Nat.le_of_ble_eq_true rfl) (Nat.le_of_ble_eq_true rfl)
  · refine lv_aload_n hx hb d_R_width_11 rfl (lv_at hl 0 rfl) ?_
    refine zr_get (v := .int (zI (nn a))) hx hb hts iw_S hown hK hw (4 + 3 * a) ⟨by omega, by omega⟩ hS rfl 2 (by decide) (hts _ wk_73) (fun _ h => h) rfl d_R_width_12 ?_
    exact hret _ _ _ _ _ _ 1 6 (by decide) (by decide) d_R_width_15 hw rfl ⟨by unfold widF; rw [if_pos (by omega)], by omega, rfl⟩
abbrev rm_R_evened : Room := { frames := 7, cells := 2, slots := 12, locals := 103 }
set_option maxHeartbeats 4000000 in
set_option maxRecDepth 100000 in
theorem c_R_evened (l : Launch) (D : va_G) (k : Nat → ClassId) (N : Nat) (AD : Int → Nat) (C : Int → va_E) (sz : Nat) (hlt : l.stackTraces = false) (pn : Int) (pf : Int → Int) (kc : Int) (nn : Int → Int) (ww : Int → Int → Int) (ee : Int → Int → Int) (lc : Int) (pm : Int → Int) (pS : Int → Int) (pN : Int → Int) (pR : Int → Int) (pT : Int → Int) (pA : Int → Int) (oS : Int → Int) (oN : Int → Int) (oR : Int → Int) (oT : Int → Int) (oA : Int → Int) (tr : Int) (sn : Int) (sw : Int → Int) (se : Int → Int) (q0 : Int) (q1 : Int) (q2 : Int) (q3 : Int) (q4 : Int) (mb : Int → Int) (ak : Int → Int) (a : Int) (i : Int) (hN : 82 ≤ (N : Int)) (hRI : RIx k AD C pn pf kc nn ww ee lc pm pS pN pR pT pA oS oN oR oT oA tr sn sw se q0 q1 q2 q3 q4 mb ak) (ha : inI a) (hi : inI i) : XI l y_R_evened (Cond.code y_R_evened b_R_evened 4 (Option.some Jvm.ClassFile.FieldType.int) :: WS) rm_R_evened 2 12 D clW (tyW k) N AD C sz [.ref (AD 0), .int (zI a), .int (zI i)] (fun r C' => r = zI (xV (ww a) (nn a) i) ∧ ((0 ≤ a ∧ a < kc) ∧ (0 ≤ i ∧ i < nn a)) ∧ C' = C) (fun E => E = "java/lang/IndexOutOfBoundsException" ∧ ¬ ((0 ≤ a ∧ a < kc) ∧ (0 ≤ i ∧ i < nn a))) := by
  refine XI.start (cc := b_R_evened) (maxL := 4) (rt := .int) (by decide) rfl (Nat.le_of_ble_eq_true rfl) ?_
  intro p e s m args below meth c Q ls hx hb hml hown hts hK hsz hw hl htb hlk hxc hQ hret
  obtain ⟨Qc9, hQ⟩ := hQ
  have hown : s.vm.findClass "RingMatches" = some m.cls := hown
  have hl : lv_has ls 4 [(0, .ref (AD 0)), (1, .int (zI a)), (2, .int (zI i))] := hl
  have hA := wA_hi (N := N) (AD := AD) hsz
  obtain ⟨H, hH⟩ : ∃ H, H = s.heap := ⟨_, rfl⟩
  obtain ⟨locs, hlocs⟩ : ∃ z : List Loc, z = [] := ⟨_, rfl⟩
  have hw : WD D clW (wA N AD sz) s.heap H locs N AD C := by rw [hH, hlocs]; exact hw
  rw [← hlocs]
  suffices hgo : W p l e rm_R_evened s m args below meth c H locs 0 0 Q (F0 m 0 ls []) by rw [hH] at hgo; exact hgo
  obtain ⟨hR, hP, hPs, h3, hser, h28, hov, hpm, hpi, hls, hst, hstw, hste, hsn, hpr, hmb, hak, hpn, hkc, hlc, htr, hpf, hok, hlb⟩ := hRI
  refine lv_aload_n hx hb d_R_evened_0 rfl (lv_at hl 0 rfl) ?_
  refine lv_iload_n hx hb d_R_evened_1 rfl (lv_at hl 1 rfl) ?_
  refine zr_xcallR (vx_runV (As := [.int (zI a)]) (rest := []) ⟨hx, hb, hml, hown, hts⟩ (c_R_seriesAt l D k N AD C H.size hlt kc lc tr a hN (by omega) ⟨by omega, by omega⟩ hR h3) (cwV 1 hts (good_V wk_298 wk_300 wk_3 wk_27 wk_301) rfl rfl rfl (by decide +kernel) ⟨Nat.le_of_ble_eq_true rfl, Nat.le_of_ble_eq_true rfl⟩) (xPre_V hK hw hA hxc 0 ⟨by omega, by omega⟩ hR rfl) rfl rfl hl.1 rfl (lv_room (Nat.le_of_ble_eq_true rfl)) d_R_evened_2 ⟨Nat.le_of_ble_eq_true rfl, Nat.le_of_ble_eq_true rfl⟩) hw hA (fun E9 ce9 q9 H locs hxp hw h91 h92 h93 => ?_) (fun H locs hrp1 hw => ?_)
  · rw [hQ]; exact xout hK htb hlk hw ⟨hxp.1, fun h => hxp.2 h.1⟩ h91 h92 h93 (Nat.le_of_ble_eq_true rfl) (Nat.le_of_ble_eq_true rfl)
  obtain ⟨hokhS1, hokhS2, hokhS3⟩ := hok a hrp1.1 hrp1.2
  obtain ⟨hS, hSw, hSe, hSn⟩ := hser a hrp1.1 (by omega)
  refine lv_astore_n (lv' := [(3, .ref (AD (4 + 3 * a))), (0, .ref (AD 0)), (1, .int (zI a)), (2, .int (zI i))]) hx hb d_R_evened_5 rfl hl (by decide) rfl (fun ls hl => ?_)
  refine lv_aload_n hx hb d_R_evened_6 rfl (lv_at hl 0 rfl) ?_
  refine lv_iload_n hx hb d_R_evened_7 rfl (lv_at hl 3 rfl) ?_
  refine zr_callI (va_runV (As := [.int (zI i)]) (rest := []) ⟨hx, hb, hml, hown, hts⟩ (c_S_has l D k N AD C H.size (4 + 3 * a) (nn a) (ww a) (ee a) i ⟨by omega, by omega⟩ ⟨by omega, by omega⟩ hS hSw hSe ⟨by omega, by omega⟩) (cwV 1 hts (good_V wk_318 wk_280 wk_281 wk_29 wk_282) rfl rfl rfl (by decide +kernel) ⟨Nat.le_of_ble_eq_true rfl, Nat.le_of_ble_eq_true rfl⟩) (cPre_V hK hw (4 + 3 * a) ⟨by omega, by omega⟩ hS rfl) rfl rfl hl.1 rfl (lv_room (Nat.le_of_ble_eq_true rfl)) d_R_evened_8 ⟨Nat.le_of_ble_eq_true rfl, Nat.le_of_ble_eq_true rfl⟩) hw hA (fun r9 C3 H locs hq2 hw => ?_)
  obtain ⟨hq2, hCe⟩ := hq2
  rw [hCe] at hw
  rcases hq2 with ⟨hr9, hq2⟩ | ⟨hr9, hq2⟩ <;> subst hr9
  · refine zr_if_ne (tgt := 24) hx hb ⟨by omega, by omega⟩ d_R_evened_11 (by decide) (fun c4 => ?_) (fun c9 => absurd c9 (by decide))
    refine lv_aload_n hx hb d_R_evened_24 rfl (lv_at hl 0 rfl) ?_
    refine lv_iload_n hx hb d_R_evened_25 rfl (lv_at hl 3 rfl) ?_
    refine zr_callI (va_runV (As := [.int (zI i)]) (rest := []) ⟨hx, hb, hml, hown, hts⟩ (c_S_evenAt l D k N AD C H.size (4 + 3 * a) (nn a) (ww a) (ee a) i ⟨by omega, by omega⟩ ⟨by omega, by omega⟩ hS hSw hSe ⟨by omega, by omega⟩) (cwV 1 hts (good_V wk_350 wk_351 wk_352 wk_29 wk_353) rfl rfl rfl (by decide +kernel) ⟨Nat.le_of_ble_eq_true rfl, Nat.le_of_ble_eq_true rfl⟩) (cPre_V hK hw (4 + 3 * a) ⟨by omega, by omega⟩ hS rfl) rfl rfl hl.1 rfl (lv_room (Nat.le_of_ble_eq_true rfl)) d_R_evened_26 ⟨Nat.le_of_ble_eq_true rfl, Nat.le_of_ble_eq_true rfl⟩) hw hA (fun r9 C6 H locs hq5 hw => ?_)
    obtain ⟨hr9, hCe⟩ := hq5
    rw [hCe] at hw; subst hr9
    exact hret _ _ _ _ _ _ 1 6 (by decide) (by decide) d_R_evened_29 hw rfl ⟨by rw [xV_e hokhS3], by omega, rfl⟩
  · refine zr_if_ne (tgt := 24) hx hb ⟨by omega, by omega⟩ d_R_evened_11 (by decide) (fun c9 => absurd c9 (by decide)) (fun c7 => ?_)
    rw [hQ]
    exact xthrow (text := "no such ring") hx hb hlt hown hts hK hxc htb hlk xc_IOB (by decide +kernel) hw ⟨rfl, by omega⟩ (hl.1.trans hml.symm) d_R_evened_14 d_R_evened_17 d_R_evened_18 d_R_evened_20 d_R_evened_23 (Nat.le_of_ble_eq_true rfl) (Nat.le_of_ble_eq_true rfl) (Nat.le_of_ble_eq_true rfl) (Nat.le_of_ble_eq_true rfl) (Nat.le_of_ble_eq_true rfl) (Nat.le_of_ble_eq_true rfl)
theorem posR_in (w : Int → Int) : ∀ m : Nat, (m : Int) * 2 ≤ sumR (fun j => dg (w j) + 1) 0 m ∧ sumR (fun j => dg (w j) + 1) 0 m ≤ 4 * (m : Int) := by
  intro m
  induction m with
  | zero => exact ⟨Int.le_refl 0, Int.le_refl 0⟩
  | succ m ih =>
    have h := dg_in (w (0 + (m : Int)))
    have e : sumR (fun j => dg (w j) + 1) 0 (m + 1) = sumR (fun j => dg (w j) + 1) 0 m + (dg (w (0 + (m : Int))) + 1) := rfl
    omega
theorem posR_b (w : Int → Int) {n : Int} (h : 0 ≤ n) : 2 * n ≤ posR w n ∧ posR w n ≤ 4 * n := by
  have := posR_in w n.toNat
  unfold posR
  omega
abbrev rm_R_written : Room := { frames := 7, cells := 2, slots := 12, locals := 103 }
set_option maxHeartbeats 4000000 in
set_option maxRecDepth 100000 in
theorem c_R_written (l : Launch) (D : va_G) (k : Nat → ClassId) (N : Nat) (AD : Int → Nat) (C : Int → va_E) (sz : Nat) (hlt : l.stackTraces = false) (pn : Int) (pf : Int → Int) (kc : Int) (nn : Int → Int) (ww : Int → Int → Int) (ee : Int → Int → Int) (lc : Int) (pm : Int → Int) (pS : Int → Int) (pN : Int → Int) (pR : Int → Int) (pT : Int → Int) (pA : Int → Int) (oS : Int → Int) (oN : Int → Int) (oR : Int → Int) (oT : Int → Int) (oA : Int → Int) (tr : Int) (sn : Int) (sw : Int → Int) (se : Int → Int) (q0 : Int) (q1 : Int) (q2 : Int) (q3 : Int) (q4 : Int) (mb : Int → Int) (ak : Int → Int) (a : Int) (i : Int) (hN : 82 ≤ (N : Int)) (hRI : RIx k AD C pn pf kc nn ww ee lc pm pS pN pR pT pA oS oN oR oT oA tr sn sw se q0 q1 q2 q3 q4 mb ak) (ha : inI a) (hi : inI i) : XI l y_R_written (Cond.code y_R_written b_R_written 5 (Option.some Jvm.ClassFile.FieldType.int) :: WS) rm_R_written 2 12 D clW (tyW k) N AD C sz [.ref (AD 0), .int (zI a), .int (zI i)] (fun r C' => ((0 ≤ a ∧ a < kc) ∧ (-1 ≤ i ∧ i < posR (ww a) (nn a) - 1)) ∧ (i = -1 ∧ r = zI (posR (ww a) (nn a) - 1) ∨ 0 ≤ i ∧ ∃ x : Int, (0 ≤ x ∧ x < nn a) ∧ (posR (ww a) x ≤ i ∧ i < posR (ww a) (x + 1)) ∧ r = zI (tsg (ww a) x i)) ∧ C' = C) (fun E => E = "java/lang/IndexOutOfBoundsException" ∧ ¬ ((0 ≤ a ∧ a < kc) ∧ (-1 ≤ i ∧ i < posR (ww a) (nn a) - 1))) := by
  refine XI.start (cc := b_R_written) (maxL := 5) (rt := .int) (by decide) rfl (Nat.le_of_ble_eq_true rfl) ?_
  intro p e s m args below meth c Q ls hx hb hml hown hts hK hsz hw hl htb hlk hxc hQ hret
  obtain ⟨Qc9, hQ⟩ := hQ
  have hown : s.vm.findClass "RingMatches" = some m.cls := hown
  have hl : lv_has ls 5 [(0, .ref (AD 0)), (1, .int (zI a)), (2, .int (zI i))] := hl
  have hA := wA_hi (N := N) (AD := AD) hsz
  obtain ⟨H, hH⟩ : ∃ H, H = s.heap := ⟨_, rfl⟩
  obtain ⟨locs, hlocs⟩ : ∃ z : List Loc, z = [] := ⟨_, rfl⟩
  have hw : WD D clW (wA N AD sz) s.heap H locs N AD C := by rw [hH, hlocs]; exact hw
  rw [← hlocs]
  suffices hgo : W p l e rm_R_written s m args below meth c H locs 0 0 Q (F0 m 0 ls []) by rw [hH] at hgo; exact hgo
  obtain ⟨hR, hP, hPs, h3, hser, h28, hov, hpm, hpi, hls, hst, hstw, hste, hsn, hpr, hmb, hak, hpn, hkc, hlc, htr, hpf, hok, hlb⟩ := hRI
  refine lv_aload_n hx hb d_R_written_0 rfl (lv_at hl 0 rfl) ?_
  refine lv_iload_n hx hb d_R_written_1 rfl (lv_at hl 1 rfl) ?_
  refine zr_xcallR (vx_runV (As := [.int (zI a)]) (rest := []) ⟨hx, hb, hml, hown, hts⟩ (c_R_seriesAt l D k N AD C H.size hlt kc lc tr a hN (by omega) ⟨by omega, by omega⟩ hR h3) (cwV 1 hts (good_V wk_298 wk_300 wk_3 wk_27 wk_301) rfl rfl rfl (by decide +kernel) ⟨Nat.le_of_ble_eq_true rfl, Nat.le_of_ble_eq_true rfl⟩) (xPre_V hK hw hA hxc 0 ⟨by omega, by omega⟩ hR rfl) rfl rfl hl.1 rfl (lv_room (Nat.le_of_ble_eq_true rfl)) d_R_written_2 ⟨Nat.le_of_ble_eq_true rfl, Nat.le_of_ble_eq_true rfl⟩) hw hA (fun E9 ce9 q9 H locs hxp hw h91 h92 h93 => ?_) (fun H locs hrp1 hw => ?_)
  · rw [hQ]; exact xout hK htb hlk hw ⟨hxp.1, fun h => hxp.2 h.1⟩ h91 h92 h93 (Nat.le_of_ble_eq_true rfl) (Nat.le_of_ble_eq_true rfl)
  obtain ⟨hokhS1, hokhS2, hokhS3⟩ := hok a hrp1.1 hrp1.2
  obtain ⟨hS, hSw, hSe, hSn⟩ := hser a hrp1.1 (by omega)
  refine lv_astore_n (lv' := [(3, .ref (AD (4 + 3 * a))), (0, .ref (AD 0)), (1, .int (zI a)), (2, .int (zI i))]) hx hb d_R_written_5 rfl hl (by decide) rfl (fun ls hl => ?_)
  have hpb := posR_b (ww a) hSn.1
  refine lv_aload_n hx hb d_R_written_6 rfl (lv_at hl 0 rfl) ?_
  refine zr_callI (va_runV (As := []) (rest := []) ⟨hx, hb, hml, hown, hts⟩ (c_S_textLength l D k N AD C H.size (4 + 3 * a) (nn a) (ww a) (ee a) ⟨by omega, by omega⟩ ⟨by omega, by omega⟩ hS hSw hSe hokhS2) (cwV 0 hts (good_V wk_328 wk_329 wk_330 wk_29 wk_331) rfl rfl rfl (by decide +kernel) ⟨Nat.le_of_ble_eq_true rfl, Nat.le_of_ble_eq_true rfl⟩) (cPre_V hK hw (4 + 3 * a) ⟨by omega, by omega⟩ hS rfl) rfl rfl hl.1 rfl (lv_room (Nat.le_of_ble_eq_true rfl)) d_R_written_7 ⟨Nat.le_of_ble_eq_true rfl, Nat.le_of_ble_eq_true rfl⟩) hw hA (fun r9 C3 H locs hq2 hw => ?_)
  obtain ⟨hr9, hCe⟩ := hq2
  rw [hCe] at hw; subst hr9
  refine lv_istore (lv' := [(4, .int (zI (posR (ww a) (nn a) - 1))), (3, .ref (AD (4 + 3 * a))), (0, .ref (AD 0)), (1, .int (zI a)), (2, .int (zI i))]) hx hb d_R_written_10 hl (by decide) rfl (fun ls hl => ?_)
  refine lv_iload_n hx hb d_R_written_12 rfl (lv_at hl 4 rfl) ?_
  refine zr_iconst hx hb d_R_written_13 ?_
  refine zr_icmp_ne (tgt := 20) hx hb ⟨by omega, by omega⟩ ⟨by omega, by omega⟩ d_R_written_14 (by decide) (fun c4 => ?_) (fun c4 => ?_)
  · refine lv_iload_n hx hb d_R_written_20 rfl (lv_at hl 4 rfl) ?_
    refine zr_if_lt (tgt := 30) hx hb ⟨by omega, by omega⟩ d_R_written_21 (by decide) (fun c5 => ?_) (fun c5 => ?_)
    · rw [hQ]
      exact xthrow (text := "no such sign") hx hb hlt hown hts hK hxc htb hlk xc_IOB (by decide +kernel) hw ⟨rfl, by omega⟩ (hl.1.trans hml.symm) d_R_written_30 d_R_written_33 d_R_written_34 d_R_written_36 d_R_written_39 (Nat.le_of_ble_eq_true rfl) (Nat.le_of_ble_eq_true rfl) (Nat.le_of_ble_eq_true rfl) (Nat.le_of_ble_eq_true rfl) (Nat.le_of_ble_eq_true rfl) (Nat.le_of_ble_eq_true rfl)
    · refine lv_iload_n hx hb d_R_written_24 rfl (lv_at hl 4 rfl) ?_
      refine lv_iload hx hb d_R_written_25 (lv_at hl 0 rfl) ?_
      refine zr_icmp_lt (tgt := 40) hx hb ⟨by omega, by omega⟩ ⟨by omega, by omega⟩ d_R_written_27 (by decide) (fun c6 => ?_) (fun c6 => ?_)
      · refine lv_aload_n hx hb d_R_written_40 rfl (lv_at hl 1 rfl) ?_
        refine lv_iload_n hx hb d_R_written_41 rfl (lv_at hl 4 rfl) ?_
        refine zr_callI (va_runV (As := [.int (zI i)]) (rest := []) ⟨hx, hb, hml, hown, hts⟩ (c_S_textSign l D k N AD C H.size (4 + 3 * a) (nn a) (ww a) (ee a) i ⟨by omega, by omega⟩ ⟨by omega, by omega⟩ hS hSw hSe hokhS2 (by omega) (by omega)) (cwV 1 hts (good_V wk_336 wk_337 wk_338 wk_29 wk_339) rfl rfl rfl (by decide +kernel) ⟨Nat.le_of_ble_eq_true rfl, Nat.le_of_ble_eq_true rfl⟩) (cPre_V hK hw (4 + 3 * a) ⟨by omega, by omega⟩ hS rfl) rfl rfl hl.1 rfl (lv_room (Nat.le_of_ble_eq_true rfl)) d_R_written_42 ⟨Nat.le_of_ble_eq_true rfl, Nat.le_of_ble_eq_true rfl⟩) hw hA (fun r9 C8 H locs hq7 hw => ?_)
        obtain ⟨x9, hx91, hx92, hx93, hr9, hCe⟩ := hq7
        rw [hCe] at hw; subst hr9
        exact hret _ _ _ _ _ _ 1 6 (by decide) (by decide) d_R_written_45 hw rfl ⟨by omega, Or.inr ⟨by omega, x9, by omega, hx93, rfl⟩, rfl⟩
      · rw [hQ]
        exact xthrow (text := "no such sign") hx hb hlt hown hts hK hxc htb hlk xc_IOB (by decide +kernel) hw ⟨rfl, by omega⟩ (hl.1.trans hml.symm) d_R_written_30 d_R_written_33 d_R_written_34 d_R_written_36 d_R_written_39 (Nat.le_of_ble_eq_true rfl) (Nat.le_of_ble_eq_true rfl) (Nat.le_of_ble_eq_true rfl) (Nat.le_of_ble_eq_true rfl) (Nat.le_of_ble_eq_true rfl) (Nat.le_of_ble_eq_true rfl)
  · refine lv_iload hx hb d_R_written_17 (lv_at hl 0 rfl) ?_
    exact hret _ _ _ _ _ _ 1 6 (by decide) (by decide) d_R_written_19 hw rfl ⟨by omega, Or.inl ⟨by omega, rfl⟩, rfl⟩
def ovlF (oS oN oR : Int → Int) (a i : Int) : Int := if i = 0 then oS a else if i = 1 then oN a else oR a
abbrev rm_R_overlap : Room := { frames := 7, cells := 2, slots := 12, locals := 103 }
set_option maxHeartbeats 4000000 in
set_option maxRecDepth 100000 in
theorem c_R_overlap (l : Launch) (D : va_G) (k : Nat → ClassId) (N : Nat) (AD : Int → Nat) (C : Int → va_E) (sz : Nat) (hlt : l.stackTraces = false) (pn : Int) (pf : Int → Int) (kc : Int) (nn : Int → Int) (ww : Int → Int → Int) (ee : Int → Int → Int) (lc : Int) (pm : Int → Int) (pS : Int → Int) (pN : Int → Int) (pR : Int → Int) (pT : Int → Int) (pA : Int → Int) (oS : Int → Int) (oN : Int → Int) (oR : Int → Int) (oT : Int → Int) (oA : Int → Int) (tr : Int) (sn : Int) (sw : Int → Int) (se : Int → Int) (q0 : Int) (q1 : Int) (q2 : Int) (q3 : Int) (q4 : Int) (mb : Int → Int) (ak : Int → Int) (a : Int) (i : Int) (hN : 82 ≤ (N : Int)) (hRI : RIx k AD C pn pf kc nn ww ee lc pm pS pN pR pT pA oS oN oR oT oA tr sn sw se q0 q1 q2 q3 q4 mb ak) (ha : inI a) (hi : inI i) : XI l y_R_overlap (Cond.code y_R_overlap b_R_overlap 4 (Option.some Jvm.ClassFile.FieldType.int) :: WS) rm_R_overlap 2 12 D clW (tyW k) N AD C sz [.ref (AD 0), .int (zI a), .int (zI i)] (fun r C' => r = zI (ovlF oS oN oR a i) ∧ ((0 ≤ a ∧ a < lc) ∧ (0 ≤ i ∧ i ≤ 2)) ∧ C' = C) (fun E => E = "java/lang/IndexOutOfBoundsException" ∧ ¬ ((0 ≤ a ∧ a < lc) ∧ (0 ≤ i ∧ i ≤ 2))) := by
  refine XI.start (cc := b_R_overlap) (maxL := 4) (rt := .int) (by decide) rfl (Nat.le_of_ble_eq_true rfl) ?_
  intro p e s m args below meth c Q ls hx hb hml hown hts hK hsz hw hl htb hlk hxc hQ hret
  obtain ⟨Qc9, hQ⟩ := hQ
  have hown : s.vm.findClass "RingMatches" = some m.cls := hown
  have hl : lv_has ls 4 [(0, .ref (AD 0)), (1, .int (zI a)), (2, .int (zI i))] := hl
  have hA := wA_hi (N := N) (AD := AD) hsz
  obtain ⟨H, hH⟩ : ∃ H, H = s.heap := ⟨_, rfl⟩
  obtain ⟨locs, hlocs⟩ : ∃ z : List Loc, z = [] := ⟨_, rfl⟩
  have hw : WD D clW (wA N AD sz) s.heap H locs N AD C := by rw [hH, hlocs]; exact hw
  rw [← hlocs]
  suffices hgo : W p l e rm_R_overlap s m args below meth c H locs 0 0 Q (F0 m 0 ls []) by rw [hH] at hgo; exact hgo
  obtain ⟨hR, hP, hPs, h3, hser, h28, hov, hpm, hpi, hls, hst, hstw, hste, hsn, hpr, hmb, hak, hpn, hkc, hlc, htr, hpf, hok, hlb⟩ := hRI
  refine lv_aload_n hx hb d_R_overlap_0 rfl (lv_at hl 0 rfl) ?_
  refine lv_iload_n hx hb d_R_overlap_1 rfl (lv_at hl 1 rfl) ?_
  refine zr_xcallR (vx_runV (As := [.int (zI a)]) (rest := []) ⟨hx, hb, hml, hown, hts⟩ (c_R_overlapAt l D k N AD C H.size hlt kc lc tr pm a hN (by omega) ⟨by omega, by omega⟩ hR h28) (cwV 1 hts (good_V wk_408 wk_410 wk_6 wk_27 wk_411) rfl rfl rfl (by decide +kernel) ⟨Nat.le_of_ble_eq_true rfl, Nat.le_of_ble_eq_true rfl⟩) (xPre_V hK hw hA hxc 0 ⟨by omega, by omega⟩ hR rfl) rfl rfl hl.1 rfl (lv_room (Nat.le_of_ble_eq_true rfl)) d_R_overlap_2 ⟨Nat.le_of_ble_eq_true rfl, Nat.le_of_ble_eq_true rfl⟩) hw hA (fun E9 ce9 q9 H locs hxp hw h91 h92 h93 => ?_) (fun H locs hrp1 hw => ?_)
  · rw [hQ]; exact xout hK htb hlk hw ⟨hxp.1, fun h => hxp.2 h.1⟩ h91 h92 h93 (Nat.le_of_ble_eq_true rfl) (Nat.le_of_ble_eq_true rfl)
  have hpmi := hpm a hrp1.1 (by omega)
  have hO := hov (pm a) hpmi.1 hpmi.2
  obtain ⟨hl1, hl2, hl3, hl4, hl5⟩ := hls a hrp1.1 hrp1.2
  rw [hl1, hl2, hl3, hl4, hl5] at hO
  have hlbi := hlb a hrp1.1 hrp1.2
  refine lv_astore_n (lv' := [(3, .ref (AD (29 + pm a))), (0, .ref (AD 0)), (1, .int (zI a)), (2, .int (zI i))]) hx hb d_R_overlap_5 rfl hl (by decide) rfl (fun ls hl => ?_)
  refine lv_iload_n hx hb d_R_overlap_6 rfl (lv_at hl 3 rfl) ?_
  by_cases hsw : i < 0 ∨ 2 < i
  · refine lv_tableOut (tgt := 47) hx hb d_R_overlap_7 (by rw [zI_toInt ⟨by omega, by omega⟩]; exact hsw) (by decide) ?_
    rw [hQ]
    exact xthrow (text := "no such what") hx hb hlt hown hts hK hxc htb hlk xc_IOB (by decide +kernel) hw ⟨rfl, by omega⟩ (hl.1.trans hml.symm) d_R_overlap_47 d_R_overlap_50 d_R_overlap_51 d_R_overlap_53 d_R_overlap_56 (Nat.le_of_ble_eq_true rfl) (Nat.le_of_ble_eq_true rfl) (Nat.le_of_ble_eq_true rfl) (Nat.le_of_ble_eq_true rfl) (Nat.le_of_ble_eq_true rfl) (Nat.le_of_ble_eq_true rfl)
  · rcases (show i = 0 ∨ i = 1 ∨ i = 2 by omega) with hv9 | hv9 | hv9
    · refine lv_tableIn (tgt := 32) (off := 25) hx hb d_R_overlap_7 (by rw [zI_toInt ⟨by omega, by omega⟩]; omega) (by rw [zI_toInt ⟨by omega, by omega⟩]; omega) (by rw [zI_toInt ⟨by omega, by omega⟩, hv9]; rfl) (by decide) ?_
      refine lv_aload_n hx hb d_R_overlap_32 rfl (lv_at hl 0 rfl) ?_
      refine zr_get (v := .int (zI (oS a))) hx hb hts iw_O hown hK hw (29 + pm a) ⟨by omega, by omega⟩ hO rfl 0 (by decide) (hts _ wk_90) (fun _ h => h) rfl d_R_overlap_33 ?_
      exact hret _ _ _ _ _ _ 1 6 (by decide) (by decide) d_R_overlap_36 hw rfl ⟨by unfold ovlF; rw [if_pos hv9], by omega, rfl⟩
    · refine lv_tableIn (tgt := 37) (off := 30) hx hb d_R_overlap_7 (by rw [zI_toInt ⟨by omega, by omega⟩]; omega) (by rw [zI_toInt ⟨by omega, by omega⟩]; omega) (by rw [zI_toInt ⟨by omega, by omega⟩, hv9]; rfl) (by decide) ?_
      refine lv_aload_n hx hb d_R_overlap_37 rfl (lv_at hl 0 rfl) ?_
      refine zr_get (v := .int (zI (oN a))) hx hb hts iw_O hown hK hw (29 + pm a) ⟨by omega, by omega⟩ hO rfl 1 (by decide) (hts _ wk_92) (fun _ h => h) rfl d_R_overlap_38 ?_
      exact hret _ _ _ _ _ _ 1 6 (by decide) (by decide) d_R_overlap_41 hw rfl ⟨by unfold ovlF; rw [if_neg (by omega), if_pos hv9], by omega, rfl⟩
    · refine lv_tableIn (tgt := 42) (off := 35) hx hb d_R_overlap_7 (by rw [zI_toInt ⟨by omega, by omega⟩]; omega) (by rw [zI_toInt ⟨by omega, by omega⟩]; omega) (by rw [zI_toInt ⟨by omega, by omega⟩, hv9]; rfl) (by decide) ?_
      refine lv_aload_n hx hb d_R_overlap_42 rfl (lv_at hl 0 rfl) ?_
      refine zr_get (v := .int (zI (oR a))) hx hb hts iw_O hown hK hw (29 + pm a) ⟨by omega, by omega⟩ hO rfl 2 (by decide) (hts _ wk_94) (fun _ h => h) rfl d_R_overlap_43 ?_
      exact hret _ _ _ _ _ _ 1 6 (by decide) (by decide) d_R_overlap_46 hw rfl ⟨by unfold ovlF; rw [if_neg (by omega), if_neg (by omega)], by omega, rfl⟩
