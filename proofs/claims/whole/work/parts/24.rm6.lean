theorem wAt_eq {w v : Int → Int} {n : Int} (h : ∀ j : Int, 0 ≤ j → j < n → w j = v j) : wAt w n = wAt v n := by
  funext j
  unfold wAt
  split
  · rename_i hj; exact h j hj.1 hj.2
  · rfl
theorem xV_eq {w v : Int → Int} {n : Int} (h : ∀ j : Int, 0 ≤ j → j < n → w j = v j) : xV w n = xV v n := by
  have e1 := wAt_eq h
  have e2 : gS w n = gS v n := by funext j; unfold gS; rw [e1]
  have e3 : gF w n = gF v n := by funext j; unfold gF; rw [e1]
  funext j
  unfold xV wAt
  split
  · rename_i hj
    unfold evF nS nF
    rw [h j hj.1 hj.2, e2, e3]
  · rfl
theorem ovN_eq2 {w1 w v : Int → Int} {n1 n a : Int} (h : ∀ j : Int, 0 ≤ j → j < n → w j = v j) : ovN w1 n1 w n a = ovN w1 n1 v n a := by
  unfold ovN ovS ovT
  rw [xV_eq h]
theorem ovC_eq2 {w1 w v : Int → Int} {n1 n a : Int} (h : ∀ j : Int, 0 ≤ j → j < n → w j = v j) : ovC w1 n1 w n a = ovC w1 n1 v n a := by
  unfold ovC ovN ovS ovT
  rw [xV_eq h]
/-- where a ring may be missing: the best place so far, its correlation -/
def abN (w1 : Int → Int) (n1 : Int) (w2 : Int → Int) (n2 s p : Int) : Int := ovN w1 n1 (gapW w2 p) (n2 + 1) s
def abC (w1 : Int → Int) (n1 : Int) (w2 : Int → Int) (n2 s p : Int) : Int := ovC w1 n1 (gapW w2 p) (n2 + 1) s
def abS (w1 : Int → Int) (n1 : Int) (w2 : Int → Int) (n2 s : Int) : Nat → Int × Int
  | 0 => (-1, 0)
  | m + 1 => if 3 ≤ abN w1 n1 w2 n2 s (m : Int) ∧ ((abS w1 n1 w2 n2 s m).1 = -1 ∨ (abS w1 n1 w2 n2 s m).2 < abC w1 n1 w2 n2 s (m : Int)) then ((m : Int), abC w1 n1 w2 n2 s (m : Int)) else abS w1 n1 w2 n2 s m
theorem abS_t {w1 w2 : Int → Int} {n1 n2 s x b g : Int} (hx : 0 ≤ x) (e : abS w1 n1 w2 n2 s x.toNat = (b, g)) (h : 3 ≤ abN w1 n1 w2 n2 s x ∧ (b = -1 ∨ g < abC w1 n1 w2 n2 s x)) : abS w1 n1 w2 n2 s (x + 1).toNat = (x, abC w1 n1 w2 n2 s x) := by
  have e1 : (x + 1).toNat = x.toNat + 1 := by omega
  have e2 : ((x.toNat : Nat) : Int) = x := by omega
  rw [e1]
  show (if 3 ≤ abN w1 n1 w2 n2 s ((x.toNat : Nat) : Int) ∧ ((abS w1 n1 w2 n2 s x.toNat).1 = -1 ∨ (abS w1 n1 w2 n2 s x.toNat).2 < abC w1 n1 w2 n2 s ((x.toNat : Nat) : Int)) then _ else _) = _
  rw [e2, e]
  exact if_pos h
theorem abS_f {w1 w2 : Int → Int} {n1 n2 s x b g : Int} (hx : 0 ≤ x) (e : abS w1 n1 w2 n2 s x.toNat = (b, g)) (h : ¬ (3 ≤ abN w1 n1 w2 n2 s x ∧ (b = -1 ∨ g < abC w1 n1 w2 n2 s x))) : abS w1 n1 w2 n2 s (x + 1).toNat = (b, g) := by
  have e1 : (x + 1).toNat = x.toNat + 1 := by omega
  have e2 : ((x.toNat : Nat) : Int) = x := by omega
  rw [e1]
  show (if 3 ≤ abN w1 n1 w2 n2 s ((x.toNat : Nat) : Int) ∧ ((abS w1 n1 w2 n2 s x.toNat).1 = -1 ∨ (abS w1 n1 w2 n2 s x.toNat).2 < abC w1 n1 w2 n2 s ((x.toNat : Nat) : Int)) then _ else abS w1 n1 w2 n2 s x.toNat) = _
  rw [e2, e]
  exact if_neg h
abbrev rm_R_absent : Room := { frames := 7, cells := 3, slots := 18, locals := 111 }
set_option maxHeartbeats 4000000 in
set_option maxRecDepth 100000 in
theorem c_R_absent (l : Launch) (D : va_G) (k : Nat → ClassId) (N : Nat) (AD : Int → Nat) (C : Int → va_E) (sz : Nat) (hlt : l.stackTraces = false) (pn : Int) (pf : Int → Int) (kc : Int) (nn : Int → Int) (ww : Int → Int → Int) (ee : Int → Int → Int) (lc : Int) (pm : Int → Int) (pS : Int → Int) (pN : Int → Int) (pR : Int → Int) (pT : Int → Int) (pA : Int → Int) (oS : Int → Int) (oN : Int → Int) (oR : Int → Int) (oT : Int → Int) (oA : Int → Int) (tr : Int) (sn : Int) (sw : Int → Int) (se : Int → Int) (q0 : Int) (q1 : Int) (q2 : Int) (q3 : Int) (q4 : Int) (mb : Int → Int) (ak : Int → Int) (a : Int) (b : Int) (s0 : Int) (hN : 82 ≤ (N : Int)) (hRI : RIx k AD C pn pf kc nn ww ee lc pm pS pN pR pT pA oS oN oR oT oA tr sn sw se q0 q1 q2 q3 q4 mb ak) (ha : inI a) (hb9 : inI b) (hs9 : inI s0) : XI l y_R_absent (Cond.code y_R_absent b_R_absent 9 (Option.some Jvm.ClassFile.FieldType.int) :: WS) rm_R_absent 3 18 D clW (tyW k) N AD C sz [.ref (AD 0), .int (zI a), .int (zI b), .int (zI s0)] (fun r C' => ((0 ≤ a ∧ a < kc) ∧ (0 ≤ b ∧ b < kc)) ∧ (nn b < 24 ∧ -24 ≤ s0 ∧ s0 ≤ 24) ∧ r = zI (abS (ww a) (nn a) (ww b) (nn b) s0 (nn b + 1).toNat).1 ∧ (∃ (sn1 : Int) (sw1 se1 : Int → Int) (r0 r1 r2 r3 r4 : Int), RIx k AD C' pn pf kc nn ww ee lc pm pS pN pR pT pA oS oN oR oT oA tr sn1 sw1 se1 r0 r1 r2 r3 r4 mb ak) ∧ ∀ j : Int, ¬ (0 ≤ j ∧ j ≤ 81) → C' j = C j) (fun E => (E = "java/lang/IndexOutOfBoundsException" ∧ ¬ ((0 ≤ a ∧ a < kc) ∧ (0 ≤ b ∧ b < kc))) ∨ (E = "java/lang/IllegalArgumentException" ∧ ((0 ≤ a ∧ a < kc) ∧ (0 ≤ b ∧ b < kc)) ∧ ¬ (nn b < 24 ∧ -24 ≤ s0 ∧ s0 ≤ 24))) := by
  refine XI.start (cc := b_R_absent) (maxL := 9) (rt := .int) (by decide) rfl (Nat.le_of_ble_eq_true rfl) ?_
  intro p e s m args below meth c Q ls hx hb hml hown hts hK hsz hw hl htb hlk hxc hQ hret
  obtain ⟨Qc9, hQ⟩ := hQ
  have hown : s.vm.findClass "RingMatches" = some m.cls := hown
  have hl : lv_has ls 9 [(0, .ref (AD 0)), (1, .int (zI a)), (2, .int (zI b)), (3, .int (zI s0))] := hl
  have hA := wA_hi (N := N) (AD := AD) hsz
  obtain ⟨H, hH⟩ : ∃ H, H = s.heap := ⟨_, rfl⟩
  obtain ⟨locs, hlocs⟩ : ∃ z : List Loc, z = [] := ⟨_, rfl⟩
  have hw : WD D clW (wA N AD sz) s.heap H locs N AD C := by rw [hH, hlocs]; exact hw
  rw [← hlocs]
  suffices hgo : W p l e rm_R_absent s m args below meth c H locs 0 0 Q (F0 m 0 ls []) by rw [hH] at hgo; exact hgo
  obtain ⟨C0, hC0⟩ : ∃ z : Int → va_E, z = C := ⟨_, rfl⟩
  obtain ⟨hR, hP, hPs, h3, hser, h28, hov, hpm, hpi, hls, hst, hstw, hste, hsn, hpr, hmb, hak, hpn, hkc, hlc, htr, hpf, hok, hlb⟩ := hRI
  refine lv_aload_n hx hb d_R_absent_0 rfl (lv_at hl 0 rfl) ?_
  refine lv_iload_n hx hb d_R_absent_1 rfl (lv_at hl 1 rfl) ?_
  refine zr_xcallR (vx_runV (As := [.int (zI a)]) (rest := []) ⟨hx, hb, hml, hown, hts⟩ (c_R_seriesAt l D k N AD C H.size hlt kc lc tr a hN (by omega) ⟨by omega, by omega⟩ hR h3) (cwV 1 hts (good_V wk_298 wk_300 wk_3 wk_27 wk_301) rfl rfl rfl (by decide +kernel) ⟨Nat.le_of_ble_eq_true rfl, Nat.le_of_ble_eq_true rfl⟩) (xPre_V hK hw hA hxc 0 ⟨by omega, by omega⟩ hR rfl) rfl rfl hl.1 rfl (lv_room (Nat.le_of_ble_eq_true rfl)) d_R_absent_2 ⟨Nat.le_of_ble_eq_true rfl, Nat.le_of_ble_eq_true rfl⟩) hw hA (fun E9 ce9 q9 H locs hxp hw h91 h92 h93 => ?_) (fun H locs hrp1 hw => ?_)
  · rw [hQ]; exact xout hK htb hlk hw (Or.inl ⟨hxp.1, fun h => hxp.2 h.1⟩) h91 h92 h93 (Nat.le_of_ble_eq_true rfl) (Nat.le_of_ble_eq_true rfl)
  obtain ⟨hokhS1, hokhS2, hokhS3⟩ := hok a hrp1.1 hrp1.2
  obtain ⟨hS, hSw, hSe, hSn⟩ := hser a hrp1.1 (by omega)
  refine lv_astore (lv' := [(4, .ref (AD (4 + 3 * a))), (0, .ref (AD 0)), (1, .int (zI a)), (2, .int (zI b)), (3, .int (zI s0))]) hx hb d_R_absent_5 hl (by decide) rfl (fun ls hl => ?_)
  refine lv_aload_n hx hb d_R_absent_7 rfl (lv_at hl 1 rfl) ?_
  refine lv_iload_n hx hb d_R_absent_8 rfl (lv_at hl 3 rfl) ?_
  refine zr_xcallR (vx_runV (As := [.int (zI b)]) (rest := []) ⟨hx, hb, hml, hown, hts⟩ (c_R_seriesAt l D k N AD C H.size hlt kc lc tr b hN (by omega) ⟨by omega, by omega⟩ hR h3) (cwV 1 hts (good_V wk_298 wk_300 wk_3 wk_27 wk_301) rfl rfl rfl (by decide +kernel) ⟨Nat.le_of_ble_eq_true rfl, Nat.le_of_ble_eq_true rfl⟩) (xPre_V hK hw hA hxc 0 ⟨by omega, by omega⟩ hR rfl) rfl rfl hl.1 rfl (lv_room (Nat.le_of_ble_eq_true rfl)) d_R_absent_9 ⟨Nat.le_of_ble_eq_true rfl, Nat.le_of_ble_eq_true rfl⟩) hw hA (fun E9 ce9 q9 H locs hxp hw h91 h92 h93 => ?_) (fun H locs hrp2 hw => ?_)
  · rw [hQ]; exact xout hK htb hlk hw (Or.inl ⟨hxp.1, fun h => hxp.2 h.2⟩) h91 h92 h93 (Nat.le_of_ble_eq_true rfl) (Nat.le_of_ble_eq_true rfl)
  obtain ⟨hokhT1, hokhT2, hokhT3⟩ := hok b hrp2.1 hrp2.2
  obtain ⟨hT, hTw, hTe, hTn⟩ := hser b hrp2.1 (by omega)
  refine lv_astore (lv' := [(5, .ref (AD (4 + 3 * b))), (4, .ref (AD (4 + 3 * a))), (0, .ref (AD 0)), (1, .int (zI a)), (2, .int (zI b)), (3, .int (zI s0))]) hx hb d_R_absent_12 hl (by decide) rfl (fun ls hl => ?_)
  refine lv_aload hx hb d_R_absent_14 (lv_at hl 0 rfl) ?_
  refine zr_get (v := .int (zI (nn b))) hx hb hts iw_S hown hK hw (4 + 3 * b) ⟨by omega, by omega⟩ hT rfl 2 (by decide) (hts _ wk_73) (fun _ h => h) rfl d_R_absent_16 ?_
  refine zr_bipush hx hb d_R_absent_19 (by decide) ?_
  refine zr_icmp_lt (tgt := 34) hx hb ⟨by omega, by omega⟩ ⟨by omega, by omega⟩ d_R_absent_21 (by decide) (fun c3 => ?_) (fun c3 => ?_)
  · refine lv_iload_n hx hb d_R_absent_34 rfl (lv_at hl 5 rfl) ?_
    refine zr_bipush hx hb d_R_absent_35 (by decide) ?_
    refine zr_icmp_lt (tgt := 46) hx hb ⟨by omega, by omega⟩ ⟨by omega, by omega⟩ d_R_absent_37 (by decide) (fun c4 => ?_) (fun c4 => ?_)
    · rw [hQ]
      exact xthrow (text := "the shift is not -24 .. 24") hx hb hlt hown hts hK hxc htb hlk xc_IAE (by decide +kernel) hw (Or.inr ⟨rfl, by omega, by omega⟩) (hl.1.trans hml.symm) d_R_absent_46 d_R_absent_49 d_R_absent_50 d_R_absent_52 d_R_absent_55 (Nat.le_of_ble_eq_true rfl) (Nat.le_of_ble_eq_true rfl) (Nat.le_of_ble_eq_true rfl) (Nat.le_of_ble_eq_true rfl) (Nat.le_of_ble_eq_true rfl) (Nat.le_of_ble_eq_true rfl)
    · refine lv_iload_n hx hb d_R_absent_40 rfl (lv_at hl 5 rfl) ?_
      refine zr_bipush hx hb d_R_absent_41 (by decide) ?_
      refine zr_icmp_le (tgt := 56) hx hb ⟨by omega, by omega⟩ ⟨by omega, by omega⟩ d_R_absent_43 (by decide) (fun c5 => ?_) (fun c5 => ?_)
      · refine zr_iconst hx hb d_R_absent_56 ?_
        refine lv_istore (lv' := [(6, .int (zI (-1))), (5, .ref (AD (4 + 3 * b))), (4, .ref (AD (4 + 3 * a))), (0, .ref (AD 0)), (1, .int (zI a)), (2, .int (zI b)), (3, .int (zI s0))]) hx hb d_R_absent_57 hl (by decide) rfl (fun ls hl => ?_)
        refine zr_iconst hx hb d_R_absent_59 ?_
        refine lv_istore (lv' := [(7, .int (zI 0)), (6, .int (zI (-1))), (5, .ref (AD (4 + 3 * b))), (4, .ref (AD (4 + 3 * a))), (0, .ref (AD 0)), (1, .int (zI a)), (2, .int (zI b)), (3, .int (zI s0))]) hx hb d_R_absent_60 hl (by decide) rfl (fun ls hl => ?_)
        refine zr_iconst hx hb d_R_absent_62 ?_
        refine lv_istore (lv' := [(8, .int (zI 0)), (7, .int (zI 0)), (6, .int (zI (-1))), (5, .ref (AD (4 + 3 * b))), (4, .ref (AD (4 + 3 * a))), (0, .ref (AD 0)), (1, .int (zI a)), (2, .int (zI b)), (3, .int (zI s0))]) hx hb d_R_absent_63 hl (by decide) rfl (fun ls hl => ?_)
        have lp : ∀ (n9 : Nat) (x : Int) (bs : Int) (gr : Int) (sn1 : Int) (sw1 : Int → Int) (se1 : Int → Int) (r0 : Int) (r1 : Int) (r2 : Int) (r3 : Int) (r4 : Int) (C : Int → va_E) (H : Heap) (locs : List Loc) (ls : Array Slot), (0 ≤ x ∧ x ≤ nn b + 1) → (abS (ww a) (nn a) (ww b) (nn b) s0 x.toNat = (bs, gr)) → (-1 ≤ bs ∧ bs ≤ 24) → (-100 ≤ gr ∧ gr ≤ 100) → (0 ≤ sn1 ∧ sn1 ≤ 24) → (∀ j : Int, ¬ (76 ≤ j ∧ j ≤ 79) → C j = C0 j) → (C 0 = .inr (3, [.ref (AD 1), .ref (AD 3), .int (zI kc), .ref (AD 28), .int (zI lc), .int (zI tr), .ref (AD 76), .ref (AD 79), .ref (AD 80), .ref (AD 81)])) → (C 76 = .inr (2, [.ref (AD (76 + 1)), .ref (AD (76 + 2)), .int (zI sn1)])) → (C (76 + 1) = aI (k 0) 24 sw1) → (C (76 + 2) = aI (k 0) 24 se1) → (C 79 = .inr (0, [.int (zI r0), .int (zI r1), .int (zI r2), .int (zI r3), .int (zI r4)])) → (C (4 + 3 * a) = .inr (2, [.ref (AD ((4 + 3 * a) + 1)), .ref (AD ((4 + 3 * a) + 2)), .int (zI (nn a))])) → (C ((4 + 3 * a) + 1) = aI (k 0) 24 (ww a)) → (C ((4 + 3 * a) + 2) = aI (k 0) 24 (ee a)) → (C (4 + 3 * b) = .inr (2, [.ref (AD ((4 + 3 * b) + 1)), .ref (AD ((4 + 3 * b) + 2)), .int (zI (nn b))])) → (C ((4 + 3 * b) + 1) = aI (k 0) 24 (ww b)) → (C ((4 + 3 * b) + 2) = aI (k 0) 24 (ee b)) → (nn b + 1 - x).toNat < n9 → WD D clW (wA N AD sz) s.heap H locs N AD C → lv_has ls 9 [(0, .ref (AD 0)), (1, .int (zI a)), (2, .int (zI b)), (3, .int (zI s0)), (4, .ref (AD (4 + 3 * a))), (5, .ref (AD (4 + 3 * b))), (6, .int (zI bs)), (7, .int (zI gr)), (8, .int (zI x))] → W p l e rm_R_absent s m args below meth c H locs 2 12 Q (F0 m 65 ls []) := by
          intro n9
          induction n9 with
          | zero => intro x bs gr sn1 sw1 se1 r0 r1 r2 r3 r4 C H locs ls hx1 hab hbs hgr hsn1 hfr hR hst hstw hste hpr hS hSw hSe hT hTw hTe hm hw hl; exact absurd hm (by omega)
          | succ n9 ihlp =>
            intro x bs gr sn1 sw1 se1 r0 r1 r2 r3 r4 C H locs ls hx1 hab hbs hgr hsn1 hfr hR hst hstw hste hpr hS hSw hSe hT hTw hTe hm hw hl
            refine lv_iload hx hb d_R_absent_65 (lv_at hl 8 rfl) ?_
            refine lv_aload hx hb d_R_absent_67 (lv_at hl 5 rfl) ?_
            refine zr_get (v := .int (zI (nn b))) hx hb hts iw_S hown hK hw (4 + 3 * b) ⟨by omega, by omega⟩ hT rfl 2 (by decide) (hts _ wk_73) (fun _ h => h) rfl d_R_absent_69 ?_
            refine zr_icmp_gt (tgt := 148) hx hb ⟨by omega, by omega⟩ ⟨by omega, by omega⟩ d_R_absent_72 (by decide) (fun c6 => ?_) (fun c6 => ?_)
            · refine lv_iload hx hb d_R_absent_148 (lv_at hl 6 rfl) ?_
              exact hret _ _ _ _ _ _ 2 12 (by decide) (by decide) d_R_absent_150 hw rfl ⟨by omega, by omega, by rw [← show x = nn b + 1 by omega, hab], ⟨sn1, sw1, se1, r0, r1, r2, r3, r4, ⟨hR, ((hfr _ (by omega)).trans (by rw [hC0]; exact hP)), ((hfr _ (by omega)).trans (by rw [hC0]; exact hPs)), ((hfr _ (by omega)).trans (by rw [hC0]; exact h3)), (fun i h1 h2 => by obtain ⟨a1, a2, a3, a4⟩ := hser i h1 h2; rw [← hC0] at a1 a2 a3; exact ⟨(hfr _ (by omega)).trans a1, (hfr _ (by omega)).trans a2, (hfr _ (by omega)).trans a3, a4⟩), ((hfr _ (by omega)).trans (by rw [hC0]; exact h28)), (fun j h1 h2 => (hfr _ (by omega)).trans (by rw [hC0]; exact hov j h1 h2)), hpm, hpi, hls, hst, hstw, hste, hsn1, hpr, ((hfr _ (by omega)).trans (by rw [hC0]; exact hmb)), ((hfr _ (by omega)).trans (by rw [hC0]; exact hak)), hpn, hkc, hlc, htr, hpf, hok, hlb⟩⟩, fun j hj => (hfr j (by omega)).trans (by rw [hC0])⟩
            · refine lv_aload_n hx hb d_R_absent_75 rfl (lv_at hl 0 rfl) ?_
              refine zr_get (v := .ref (AD 76)) hx hb hts iw_R hown hK hw 0 ⟨by omega, by omega⟩ hR rfl 6 (by decide) (hts _ wk_116) (fun _ h => h) rfl d_R_absent_76 ?_
              refine lv_aload hx hb d_R_absent_79 (lv_at hl 5 rfl) ?_
              refine lv_iload hx hb d_R_absent_81 (lv_at hl 8 rfl) ?_
              refine zr_callV (va_runV (As := [.ref (AD (4 + 3 * b)), .int (zI x)]) (rest := []) ⟨hx, hb, hml, hown, hts⟩ (c_S_copyWithGap l D k N AD C H.size 76 sn1 sw1 se1 (4 + 3 * b) (nn b) (ww b) (ee b) x ⟨by omega, by omega⟩ ⟨by omega, by omega⟩ (by omega) ⟨by omega, by omega⟩ ⟨by omega, by omega⟩ (by omega) hst hstw hste hT hTw hTe hokhT2) (cwV 2 hts (good_V wk_450 wk_451 wk_452 wk_29 wk_453) rfl rfl rfl (by decide +kernel) ⟨Nat.le_of_ble_eq_true rfl, Nat.le_of_ble_eq_true rfl⟩) (cPre_V hK hw 76 ⟨by omega, by omega⟩ hst rfl) rfl rfl hl.1 rfl (lv_room (Nat.le_of_ble_eq_true rfl)) d_R_absent_83 ⟨Nat.le_of_ble_eq_true rfl, Nat.le_of_ble_eq_true rfl⟩) hw hA (fun C7 H locs hq8 hw => ?_)
              obtain ⟨sw9, se9, hq8a, hq8b, hq8c, hgw, hgev, frC7⟩ := hq8
              have hgok : WOK sw9 ((nn b) + 1) := WOK.to (gapW_ok hokhT2 (by omega)) hgw
              have hR : C7 0 = .inr (3, [.ref (AD 1), .ref (AD 3), .int (zI kc), .ref (AD 28), .int (zI lc), .int (zI tr), .ref (AD 76), .ref (AD 79), .ref (AD 80), .ref (AD 81)]) := (frC7 _ (by omega)).trans hR
              have hst : C7 76 = .inr (2, [.ref (AD (76 + 1)), .ref (AD (76 + 2)), .int (zI ((nn b) + 1))]) := hq8a
              have hstw : C7 (76 + 1) = aI (k 0) 24 sw9 := hq8b
              have hste : C7 (76 + 2) = aI (k 0) 24 se9 := hq8c
              have hpr : C7 79 = .inr (0, [.int (zI r0), .int (zI r1), .int (zI r2), .int (zI r3), .int (zI r4)]) := (frC7 _ (by omega)).trans hpr
              have hS : C7 (4 + 3 * a) = .inr (2, [.ref (AD ((4 + 3 * a) + 1)), .ref (AD ((4 + 3 * a) + 2)), .int (zI (nn a))]) := (frC7 _ (by omega)).trans hS
              have hSw : C7 ((4 + 3 * a) + 1) = aI (k 0) 24 (ww a) := (frC7 _ (by omega)).trans hSw
              have hSe : C7 ((4 + 3 * a) + 2) = aI (k 0) 24 (ee a) := (frC7 _ (by omega)).trans hSe
              have hT : C7 (4 + 3 * b) = .inr (2, [.ref (AD ((4 + 3 * b) + 1)), .ref (AD ((4 + 3 * b) + 2)), .int (zI (nn b))]) := (frC7 _ (by omega)).trans hT
              have hTw : C7 ((4 + 3 * b) + 1) = aI (k 0) 24 (ww b) := (frC7 _ (by omega)).trans hTw
              have hTe : C7 ((4 + 3 * b) + 2) = aI (k 0) 24 (ee b) := (frC7 _ (by omega)).trans hTe
              refine lv_aload_n hx hb d_R_absent_86 rfl (lv_at hl 0 rfl) ?_
              refine zr_get (v := .ref (AD 79)) hx hb hts iw_R hown hK hw 0 ⟨by omega, by omega⟩ hR rfl 7 (by decide) (hts _ wk_117) (fun _ h => h) rfl d_R_absent_87 ?_
              refine lv_aload hx hb d_R_absent_90 (lv_at hl 4 rfl) ?_
              refine lv_aload_n hx hb d_R_absent_92 rfl (lv_at hl 0 rfl) ?_
              refine zr_get (v := .ref (AD 76)) hx hb hts iw_R hown hK hw 0 ⟨by omega, by omega⟩ hR rfl 6 (by decide) (hts _ wk_116) (fun _ h => h) rfl d_R_absent_93 ?_
              refine lv_iload_n hx hb d_R_absent_96 rfl (lv_at hl 3 rfl) ?_
              refine zr_callV (va_runV (As := [.ref (AD (4 + 3 * a)), .ref (AD 76), .int (zI s0)]) (rest := []) ⟨hx, hb, hml, hown, hts⟩ (c_O_lay l D k N AD C7 H.size 79 r0 r1 r2 r3 r4 (4 + 3 * a) (nn a) (ww a) (ee a) 76 ((nn b) + 1) sw9 se9 s0 ⟨by omega, by omega⟩ hpr ⟨by omega, by omega⟩ ⟨by omega, by omega⟩ hS hSw hSe ⟨by omega, by omega⟩ ⟨by omega, by omega⟩ hst hstw hste hokhS2 hgok hokhS3 hgev (by omega) (by omega) (by omega)) (cwV 3 hts (good_V wk_365 wk_366 wk_367 wk_30 wk_368) rfl rfl rfl (by decide +kernel) ⟨Nat.le_of_ble_eq_true rfl, Nat.le_of_ble_eq_true rfl⟩) (cPre_V hK hw 79 ⟨by omega, by omega⟩ hpr rfl) rfl rfl hl.1 rfl (lv_room (Nat.le_of_ble_eq_true rfl)) d_R_absent_97 ⟨Nat.le_of_ble_eq_true rfl, Nat.le_of_ble_eq_true rfl⟩) hw hA (fun C9 H locs hq10 hw => ?_)
              obtain ⟨hq10a, frC9⟩ := hq10
              have hR : C9 0 = .inr (3, [.ref (AD 1), .ref (AD 3), .int (zI kc), .ref (AD 28), .int (zI lc), .int (zI tr), .ref (AD 76), .ref (AD 79), .ref (AD 80), .ref (AD 81)]) := (frC9 _ (by omega)).trans hR
              have hst : C9 76 = .inr (2, [.ref (AD (76 + 1)), .ref (AD (76 + 2)), .int (zI ((nn b) + 1))]) := (frC9 _ (by omega)).trans hst
              have hstw : C9 (76 + 1) = aI (k 0) 24 sw9 := (frC9 _ (by omega)).trans hstw
              have hste : C9 (76 + 2) = aI (k 0) 24 se9 := (frC9 _ (by omega)).trans hste
              have hpr : C9 79 = .inr (0, [.int (zI s0), .int (zI (ovN (ww a) (nn a) sw9 ((nn b) + 1) s0)), .int (zI (ovC (ww a) (nn a) sw9 ((nn b) + 1) s0)), .int (zI r3), .int (zI r4)]) := hq10a
              have hS : C9 (4 + 3 * a) = .inr (2, [.ref (AD ((4 + 3 * a) + 1)), .ref (AD ((4 + 3 * a) + 2)), .int (zI (nn a))]) := (frC9 _ (by omega)).trans hS
              have hSw : C9 ((4 + 3 * a) + 1) = aI (k 0) 24 (ww a) := (frC9 _ (by omega)).trans hSw
              have hSe : C9 ((4 + 3 * a) + 2) = aI (k 0) 24 (ee a) := (frC9 _ (by omega)).trans hSe
              have hT : C9 (4 + 3 * b) = .inr (2, [.ref (AD ((4 + 3 * b) + 1)), .ref (AD ((4 + 3 * b) + 2)), .int (zI (nn b))]) := (frC9 _ (by omega)).trans hT
              have hTw : C9 ((4 + 3 * b) + 1) = aI (k 0) 24 (ww b) := (frC9 _ (by omega)).trans hTw
              have hTe : C9 ((4 + 3 * b) + 2) = aI (k 0) 24 (ee b) := (frC9 _ (by omega)).trans hTe
              have eN : ovN (ww a) (nn a) sw9 ((nn b) + 1) s0 = abN (ww a) (nn a) (ww b) (nn b) s0 x := ovN_eq2 hgw
              have eC : ovC (ww a) (nn a) sw9 ((nn b) + 1) s0 = abC (ww a) (nn a) (ww b) (nn b) s0 x := ovC_eq2 hgw
              rw [eN, eC] at hpr
              have hNi : 0 ≤ abN (ww a) (nn a) (ww b) (nn b) s0 x ∧ abN (ww a) (nn a) (ww b) (nn b) s0 x ≤ 24 := ovN_in hSn (by omega)
              have hCi : -100 ≤ abC (ww a) (nn a) (ww b) (nn b) s0 x ∧ abC (ww a) (nn a) (ww b) (nn b) s0 x ≤ 100 := corrF_in _ _ _
              refine lv_aload_n hx hb d_R_absent_100 rfl (lv_at hl 0 rfl) ?_
              refine zr_get (v := .ref (AD 79)) hx hb hts iw_R hown hK hw 0 ⟨by omega, by omega⟩ hR rfl 7 (by decide) (hts _ wk_117) (fun _ h => h) rfl d_R_absent_101 ?_
              refine zr_get (v := .int (zI (abN (ww a) (nn a) (ww b) (nn b) s0 x))) hx hb hts iw_O hown hK hw 79 ⟨by omega, by omega⟩ hpr rfl 1 (by decide) (hts _ wk_92) (fun _ h => h) rfl d_R_absent_104 ?_
              refine zr_iconst hx hb d_R_absent_107 ?_
              refine zr_icmp_lt (tgt := 142) hx hb ⟨by omega, by omega⟩ ⟨by omega, by omega⟩ d_R_absent_108 (by decide) (fun c11 => ?_) (fun c11 => ?_)
              · have hab2 := abS_f hx1.1 hab (by omega)
                refine lv_iinc (v := zI (x + 1)) (lv' := [(8, .int (zI (x + 1))), (0, .ref (AD 0)), (1, .int (zI a)), (2, .int (zI b)), (3, .int (zI s0)), (4, .ref (AD (4 + 3 * a))), (5, .ref (AD (4 + 3 * b))), (6, .int (zI bs)), (7, .int (zI gr))]) hx hb d_R_absent_142 hl (k := 8) rfl (zI_add _ _) (by decide) rfl (fun ls hl => ?_)
                refine lv_goto (tgt := 65) hx hb d_R_absent_145 (by decide) ?_
                exact ihlp (x + 1) bs gr ((nn b) + 1) sw9 se9 s0 (abN (ww a) (nn a) (ww b) (nn b) s0 x) (abC (ww a) (nn a) (ww b) (nn b) s0 x) r3 r4 C9 H locs ls (by omega) hab2 (by omega) (by omega) (by omega) (fun j hj => by rw [frC9 _ (by omega), frC7 _ (by omega)]; exact hfr j hj) hR hst hstw hste hpr hS hSw hSe hT hTw hTe (by omega) hw (lv_sub hl [1, 2, 3, 4, 5, 6, 7, 8, 0] rfl)
              · refine lv_iload hx hb d_R_absent_111 (lv_at hl 6 rfl) ?_
                refine zr_iconst hx hb d_R_absent_113 ?_
                refine zr_icmp_eq (tgt := 129) hx hb ⟨by omega, by omega⟩ ⟨by omega, by omega⟩ d_R_absent_114 (by decide) (fun c12 => ?_) (fun c12 => ?_)
                · refine lv_iload hx hb d_R_absent_129 (lv_at hl 8 rfl) ?_
                  refine lv_istore (lv' := [(6, .int (zI x)), (0, .ref (AD 0)), (1, .int (zI a)), (2, .int (zI b)), (3, .int (zI s0)), (4, .ref (AD (4 + 3 * a))), (5, .ref (AD (4 + 3 * b))), (7, .int (zI gr)), (8, .int (zI x))]) hx hb d_R_absent_131 hl (by decide) rfl (fun ls hl => ?_)
                  refine lv_aload_n hx hb d_R_absent_133 rfl (lv_at hl 1 rfl) ?_
                  refine zr_get (v := .ref (AD 79)) hx hb hts iw_R hown hK hw 0 ⟨by omega, by omega⟩ hR rfl 7 (by decide) (hts _ wk_117) (fun _ h => h) rfl d_R_absent_134 ?_
                  refine zr_get (v := .int (zI (abC (ww a) (nn a) (ww b) (nn b) s0 x))) hx hb hts iw_O hown hK hw 79 ⟨by omega, by omega⟩ hpr rfl 2 (by decide) (hts _ wk_94) (fun _ h => h) rfl d_R_absent_137 ?_
                  refine lv_istore (lv' := [(7, .int (zI (abC (ww a) (nn a) (ww b) (nn b) s0 x))), (6, .int (zI x)), (0, .ref (AD 0)), (1, .int (zI a)), (2, .int (zI b)), (3, .int (zI s0)), (4, .ref (AD (4 + 3 * a))), (5, .ref (AD (4 + 3 * b))), (8, .int (zI x))]) hx hb d_R_absent_140 hl (by decide) rfl (fun ls hl => ?_)
                  have hab2 := abS_t hx1.1 hab (by omega)
                  refine lv_iinc (v := zI (x + 1)) (lv' := [(8, .int (zI (x + 1))), (7, .int (zI (abC (ww a) (nn a) (ww b) (nn b) s0 x))), (6, .int (zI x)), (0, .ref (AD 0)), (1, .int (zI a)), (2, .int (zI b)), (3, .int (zI s0)), (4, .ref (AD (4 + 3 * a))), (5, .ref (AD (4 + 3 * b)))]) hx hb d_R_absent_142 hl (k := 8) rfl (zI_add _ _) (by decide) rfl (fun ls hl => ?_)
                  refine lv_goto (tgt := 65) hx hb d_R_absent_145 (by decide) ?_
                  exact ihlp (x + 1) x (abC (ww a) (nn a) (ww b) (nn b) s0 x) ((nn b) + 1) sw9 se9 s0 (abN (ww a) (nn a) (ww b) (nn b) s0 x) (abC (ww a) (nn a) (ww b) (nn b) s0 x) r3 r4 C9 H locs ls (by omega) hab2 (by omega) (by omega) (by omega) (fun j hj => by rw [frC9 _ (by omega), frC7 _ (by omega)]; exact hfr j hj) hR hst hstw hste hpr hS hSw hSe hT hTw hTe (by omega) hw (lv_sub hl [3, 4, 5, 6, 7, 8, 2, 1, 0] rfl)
                · refine lv_aload_n hx hb d_R_absent_117 rfl (lv_at hl 0 rfl) ?_
                  refine zr_get (v := .ref (AD 79)) hx hb hts iw_R hown hK hw 0 ⟨by omega, by omega⟩ hR rfl 7 (by decide) (hts _ wk_117) (fun _ h => h) rfl d_R_absent_118 ?_
                  refine zr_get (v := .int (zI (abC (ww a) (nn a) (ww b) (nn b) s0 x))) hx hb hts iw_O hown hK hw 79 ⟨by omega, by omega⟩ hpr rfl 2 (by decide) (hts _ wk_94) (fun _ h => h) rfl d_R_absent_121 ?_
                  refine lv_iload hx hb d_R_absent_124 (lv_at hl 7 rfl) ?_
                  refine zr_icmp_le (tgt := 142) hx hb ⟨by omega, by omega⟩ ⟨by omega, by omega⟩ d_R_absent_126 (by decide) (fun c13 => ?_) (fun c13 => ?_)
                  · have hab2 := abS_f hx1.1 hab (by omega)
                    refine lv_iinc (v := zI (x + 1)) (lv' := [(8, .int (zI (x + 1))), (0, .ref (AD 0)), (1, .int (zI a)), (2, .int (zI b)), (3, .int (zI s0)), (4, .ref (AD (4 + 3 * a))), (5, .ref (AD (4 + 3 * b))), (6, .int (zI bs)), (7, .int (zI gr))]) hx hb d_R_absent_142 hl (k := 8) rfl (zI_add _ _) (by decide) rfl (fun ls hl => ?_)
                    refine lv_goto (tgt := 65) hx hb d_R_absent_145 (by decide) ?_
                    exact ihlp (x + 1) bs gr ((nn b) + 1) sw9 se9 s0 (abN (ww a) (nn a) (ww b) (nn b) s0 x) (abC (ww a) (nn a) (ww b) (nn b) s0 x) r3 r4 C9 H locs ls (by omega) hab2 (by omega) (by omega) (by omega) (fun j hj => by rw [frC9 _ (by omega), frC7 _ (by omega)]; exact hfr j hj) hR hst hstw hste hpr hS hSw hSe hT hTw hTe (by omega) hw (lv_sub hl [1, 2, 3, 4, 5, 6, 7, 8, 0] rfl)
                  · refine lv_iload hx hb d_R_absent_129 (lv_at hl 8 rfl) ?_
                    refine lv_istore (lv' := [(6, .int (zI x)), (0, .ref (AD 0)), (1, .int (zI a)), (2, .int (zI b)), (3, .int (zI s0)), (4, .ref (AD (4 + 3 * a))), (5, .ref (AD (4 + 3 * b))), (7, .int (zI gr)), (8, .int (zI x))]) hx hb d_R_absent_131 hl (by decide) rfl (fun ls hl => ?_)
                    refine lv_aload_n hx hb d_R_absent_133 rfl (lv_at hl 1 rfl) ?_
                    refine zr_get (v := .ref (AD 79)) hx hb hts iw_R hown hK hw 0 ⟨by omega, by omega⟩ hR rfl 7 (by decide) (hts _ wk_117) (fun _ h => h) rfl d_R_absent_134 ?_
                    refine zr_get (v := .int (zI (abC (ww a) (nn a) (ww b) (nn b) s0 x))) hx hb hts iw_O hown hK hw 79 ⟨by omega, by omega⟩ hpr rfl 2 (by decide) (hts _ wk_94) (fun _ h => h) rfl d_R_absent_137 ?_
                    refine lv_istore (lv' := [(7, .int (zI (abC (ww a) (nn a) (ww b) (nn b) s0 x))), (6, .int (zI x)), (0, .ref (AD 0)), (1, .int (zI a)), (2, .int (zI b)), (3, .int (zI s0)), (4, .ref (AD (4 + 3 * a))), (5, .ref (AD (4 + 3 * b))), (8, .int (zI x))]) hx hb d_R_absent_140 hl (by decide) rfl (fun ls hl => ?_)
                    have hab2 := abS_t hx1.1 hab (by omega)
                    refine lv_iinc (v := zI (x + 1)) (lv' := [(8, .int (zI (x + 1))), (7, .int (zI (abC (ww a) (nn a) (ww b) (nn b) s0 x))), (6, .int (zI x)), (0, .ref (AD 0)), (1, .int (zI a)), (2, .int (zI b)), (3, .int (zI s0)), (4, .ref (AD (4 + 3 * a))), (5, .ref (AD (4 + 3 * b)))]) hx hb d_R_absent_142 hl (k := 8) rfl (zI_add _ _) (by decide) rfl (fun ls hl => ?_)
                    refine lv_goto (tgt := 65) hx hb d_R_absent_145 (by decide) ?_
                    exact ihlp (x + 1) x (abC (ww a) (nn a) (ww b) (nn b) s0 x) ((nn b) + 1) sw9 se9 s0 (abN (ww a) (nn a) (ww b) (nn b) s0 x) (abC (ww a) (nn a) (ww b) (nn b) s0 x) r3 r4 C9 H locs ls (by omega) hab2 (by omega) (by omega) (by omega) (fun j hj => by rw [frC9 _ (by omega), frC7 _ (by omega)]; exact hfr j hj) hR hst hstw hste hpr hS hSw hSe hT hTw hTe (by omega) hw (lv_sub hl [3, 4, 5, 6, 7, 8, 2, 1, 0] rfl)
        exact lp ((nn b + 1 - 0 : Int).toNat + 1) 0 (-1) 0 sn sw se q0 q1 q2 q3 q4 C H locs ls (by omega) rfl (by omega) (by omega) (by omega) (fun j _ => by rw [hC0]) hR hst hstw hste hpr hS hSw hSe hT hTw hTe (by omega) hw (lv_sub hl [5, 6, 7, 8, 4, 3, 2, 1, 0] rfl)
      · rw [hQ]
        exact xthrow (text := "the shift is not -24 .. 24") hx hb hlt hown hts hK hxc htb hlk xc_IAE (by decide +kernel) hw (Or.inr ⟨rfl, by omega, by omega⟩) (hl.1.trans hml.symm) d_R_absent_46 d_R_absent_49 d_R_absent_50 d_R_absent_52 d_R_absent_55 (Nat.le_of_ble_eq_true rfl) (Nat.le_of_ble_eq_true rfl) (Nat.le_of_ble_eq_true rfl) (Nat.le_of_ble_eq_true rfl) (Nat.le_of_ble_eq_true rfl) (Nat.le_of_ble_eq_true rfl)
  · rw [hQ]
    exact xthrow (text := "the series has 24 rings") hx hb hlt hown hts hK hxc htb hlk xc_IAE (by decide +kernel) hw (Or.inr ⟨rfl, by omega, by omega⟩) (hl.1.trans hml.symm) d_R_absent_24 d_R_absent_27 d_R_absent_28 d_R_absent_30 d_R_absent_33 (Nat.le_of_ble_eq_true rfl) (Nat.le_of_ble_eq_true rfl) (Nat.le_of_ble_eq_true rfl) (Nat.le_of_ble_eq_true rfl) (Nat.le_of_ble_eq_true rfl) (Nat.le_of_ble_eq_true rfl)
def mnF (x y : Int) : Int := if x = -1 then y else if y = -1 then x else (x + y + 1) / 2
theorem mnF_ok {x y : Int} (hx : x = -1 ∨ (1 ≤ x ∧ x ≤ 500)) (hy : y = -1 ∨ (1 ≤ y ∧ y ≤ 500)) : mnF x y = -1 ∨ (1 ≤ mnF x y ∧ mnF x y ≤ 500) := by
  unfold mnF
  split
  · exact hy
  · split
    · exact hx
    · right; omega
/-- two rows joined: the ring at place j of the new one -/
def corW (w1 : Int → Int) (n1 : Int) (w2 : Int → Int) (n2 s j : Int) : Int := mnF (wAt w1 n1 (min 0 s + j)) (wAt w2 n2 (min 0 s + j - s))
abbrev rm_R_mean : Room := { frames := 0, cells := 0, slots := 0, locals := 0 }
set_option maxHeartbeats 4000000 in
set_option maxRecDepth 100000 in
theorem c_R_mean (l : Launch) (D : va_G) (k : Nat → ClassId) (N : Nat) (AD : Int → Nat) (C : Int → va_E) (sz : Nat) (x : Int) (y : Int) (hx0 : x = -1 ∨ (1 ≤ x ∧ x ≤ 500)) (hy0 : y = -1 ∨ (1 ≤ y ∧ y ≤ 500)) : MI l y_R_mean (Cond.code y_R_mean b_R_mean 2 (Option.some Jvm.ClassFile.FieldType.int) :: WS) rm_R_mean D clW (tyW k) N AD C sz [.int (zI x), .int (zI y)] (fun r C' => r = zI (mnF x y) ∧ C' = C) := by
  refine MI.start (cc := b_R_mean) (maxL := 2) (rt := .int) (by decide) rfl (Nat.le_of_ble_eq_true rfl) ?_
  intro p e s m args below meth c Q ls hx hb hml hown hts hK hsz hw hl hret
  have hown : s.vm.findClass "RingMatches" = some m.cls := hown
  have hl : lv_has ls 2 [(0, .int (zI x)), (1, .int (zI y))] := hl
  have hA := wA_hi (N := N) (AD := AD) hsz
  obtain ⟨H, hH⟩ : ∃ H, H = s.heap := ⟨_, rfl⟩
  obtain ⟨locs, hlocs⟩ : ∃ z : List Loc, z = [] := ⟨_, rfl⟩
  have hw : WD D clW (wA N AD sz) s.heap H locs N AD C := by rw [hH, hlocs]; exact hw
  rw [← hlocs]
  suffices hgo : W p l e rm_R_mean s m args below meth c H locs 0 0 Q (F0 m 0 ls []) by rw [hH] at hgo; exact hgo
  refine lv_iload_n hx hb d_R_mean_0 rfl (lv_at hl 0 rfl) ?_
  refine zr_iconst hx hb d_R_mean_1 ?_
  refine zr_icmp_ne (tgt := 7) hx hb ⟨by omega, by omega⟩ ⟨by omega, by omega⟩ d_R_mean_2 (by decide) (fun c1 => ?_) (fun c1 => ?_)
  · refine lv_iload_n hx hb d_R_mean_7 rfl (lv_at hl 1 rfl) ?_
    refine zr_iconst hx hb d_R_mean_8 ?_
    refine zr_icmp_ne (tgt := 14) hx hb ⟨by omega, by omega⟩ ⟨by omega, by omega⟩ d_R_mean_9 (by decide) (fun c2 => ?_) (fun c2 => ?_)
    · refine lv_iload_n hx hb d_R_mean_14 rfl (lv_at hl 0 rfl) ?_
      refine lv_iload_n hx hb d_R_mean_15 rfl (lv_at hl 1 rfl) ?_
      refine zr_iadd hx hb d_R_mean_16 ?_
      refine zr_iconst hx hb d_R_mean_17 ?_
      refine zr_iadd hx hb d_R_mean_18 ?_
      refine zr_iconst hx hb d_R_mean_19 ?_
      refine zr_idiv hx hb d_R_mean_20 ⟨by omega, by omega⟩ ⟨by omega, by omega⟩ (by omega) (by omega) ?_
      exact hret _ _ _ _ _ _ d_R_mean_21 hw rfl ⟨by unfold mnF; rw [if_neg (by omega), if_neg (by omega)], rfl⟩
    · refine lv_iload_n hx hb d_R_mean_12 rfl (lv_at hl 0 rfl) ?_
      exact hret _ _ _ _ _ _ d_R_mean_13 hw rfl ⟨by unfold mnF; rw [if_neg (by omega), if_pos (by omega)], rfl⟩
  · refine lv_iload_n hx hb d_R_mean_5 rfl (lv_at hl 1 rfl) ?_
    exact hret _ _ _ _ _ _ d_R_mean_6 hw rfl ⟨by unfold mnF; rw [if_pos (by omega)], rfl⟩
abbrev rm_R_core : Room := { frames := 7, cells := 3, slots := 18, locals := 103 }
set_option maxHeartbeats 4000000 in
set_option maxRecDepth 100000 in
theorem c_R_core (l : Launch) (D : va_G) (k : Nat → ClassId) (N : Nat) (AD : Int → Nat) (C : Int → va_E) (sz : Nat) (hlt : l.stackTraces = false) (pn : Int) (pf : Int → Int) (kc : Int) (nn : Int → Int) (ww : Int → Int → Int) (ee : Int → Int → Int) (lc : Int) (pm : Int → Int) (pS : Int → Int) (pN : Int → Int) (pR : Int → Int) (pT : Int → Int) (pA : Int → Int) (oS : Int → Int) (oN : Int → Int) (oR : Int → Int) (oT : Int → Int) (oA : Int → Int) (tr : Int) (sn : Int) (sw : Int → Int) (se : Int → Int) (q0 : Int) (q1 : Int) (q2 : Int) (q3 : Int) (q4 : Int) (mb : Int → Int) (ak : Int → Int) (a : Int) (b : Int) (s0 : Int) (hN : 82 ≤ (N : Int)) (hRI : RIx k AD C pn pf kc nn ww ee lc pm pS pN pR pT pA oS oN oR oT oA tr sn sw se q0 q1 q2 q3 q4 mb ak) (ha : inI a) (hb9 : inI b) (hs9 : inI s0) : XI l y_R_core (Cond.code y_R_core b_R_core 10 (Option.some Jvm.ClassFile.FieldType.int) :: WS) rm_R_core 3 18 D clW (tyW k) N AD C sz [.ref (AD 0), .int (zI a), .int (zI b), .int (zI s0)] (fun r C' => ((0 ≤ a ∧ a < kc) ∧ (0 ≤ b ∧ b < kc)) ∧ kc < 8 ∧ ((¬ ((- nn b < s0 ∧ s0 < nn a) ∧ (max (nn a) (nn b + s0) - min 0 s0) ≤ 24) ∧ r = zI (-1) ∧ C' = C) ∨ (((- nn b < s0 ∧ s0 < nn a) ∧ (max (nn a) (nn b + s0) - min 0 s0) ≤ 24) ∧ r = zI kc ∧ ∃ w9 e9 : Int → Int, (∀ j : Int, 0 ≤ j → j < (max (nn a) (nn b + s0) - min 0 s0) → w9 j = corW (ww a) (nn a) (ww b) (nn b) s0 j) ∧ RIx k AD C' pn pf (kc + 1) (zup nn kc (max (nn a) (nn b + s0) - min 0 s0)) (zup ww kc w9) (zup ee kc e9) lc pm pS pN pR pT pA oS oN oR oT oA tr sn sw se q0 q1 q2 q3 q4 mb ak)) ∧ ∀ j : Int, ¬ (0 ≤ j ∧ j ≤ 81) → C' j = C j) (fun E => (E = "java/lang/IndexOutOfBoundsException" ∧ ¬ ((0 ≤ a ∧ a < kc) ∧ (0 ≤ b ∧ b < kc))) ∨ (E = "java/lang/IllegalStateException" ∧ ((0 ≤ a ∧ a < kc) ∧ (0 ≤ b ∧ b < kc)) ∧ ¬ kc < 8)) := by
  refine XI.start (cc := b_R_core) (maxL := 10) (rt := .int) (by decide) rfl (Nat.le_of_ble_eq_true rfl) ?_
  intro p e s m args below meth c Q ls hx hb hml hown hts hK hsz hw hl htb hlk hxc hQ hret
  obtain ⟨Qc9, hQ⟩ := hQ
  have hown : s.vm.findClass "RingMatches" = some m.cls := hown
  have hl : lv_has ls 10 [(0, .ref (AD 0)), (1, .int (zI a)), (2, .int (zI b)), (3, .int (zI s0))] := hl
  have hA := wA_hi (N := N) (AD := AD) hsz
  obtain ⟨H, hH⟩ : ∃ H, H = s.heap := ⟨_, rfl⟩
  obtain ⟨locs, hlocs⟩ : ∃ z : List Loc, z = [] := ⟨_, rfl⟩
  have hw : WD D clW (wA N AD sz) s.heap H locs N AD C := by rw [hH, hlocs]; exact hw
  rw [← hlocs]
  suffices hgo : W p l e rm_R_core s m args below meth c H locs 0 0 Q (F0 m 0 ls []) by rw [hH] at hgo; exact hgo
  obtain ⟨C0, hC0⟩ : ∃ z : Int → va_E, z = C := ⟨_, rfl⟩
  obtain ⟨hR, hP, hPs, h3, hser, h28, hov, hpm, hpi, hls, hst, hstw, hste, hsn, hpr, hmb, hak, hpn, hkc, hlc, htr, hpf, hok, hlb⟩ := hRI
  have hP9 := hP
  have hPs9 := hPs
  have h289 := h28
  have hst9 := hst
  have hstw9 := hstw
  have hste9 := hste
  have hpr9 := hpr
  have hmb9 := hmb
  have hak9 := hak
  refine lv_aload_n hx hb d_R_core_0 rfl (lv_at hl 0 rfl) ?_
  refine lv_iload_n hx hb d_R_core_1 rfl (lv_at hl 1 rfl) ?_
  refine zr_xcallR (vx_runV (As := [.int (zI a)]) (rest := []) ⟨hx, hb, hml, hown, hts⟩ (c_R_seriesAt l D k N AD C H.size hlt kc lc tr a hN (by omega) ⟨by omega, by omega⟩ hR h3) (cwV 1 hts (good_V wk_298 wk_300 wk_3 wk_27 wk_301) rfl rfl rfl (by decide +kernel) ⟨Nat.le_of_ble_eq_true rfl, Nat.le_of_ble_eq_true rfl⟩) (xPre_V hK hw hA hxc 0 ⟨by omega, by omega⟩ hR rfl) rfl rfl hl.1 rfl (lv_room (Nat.le_of_ble_eq_true rfl)) d_R_core_2 ⟨Nat.le_of_ble_eq_true rfl, Nat.le_of_ble_eq_true rfl⟩) hw hA (fun E9 ce9 q9 H locs hxp hw h91 h92 h93 => ?_) (fun H locs hrp1 hw => ?_)
  · rw [hQ]; exact xout hK htb hlk hw (Or.inl ⟨hxp.1, fun h => hxp.2 h.1⟩) h91 h92 h93 (Nat.le_of_ble_eq_true rfl) (Nat.le_of_ble_eq_true rfl)
  obtain ⟨hokhS1, hokhS2, hokhS3⟩ := hok a hrp1.1 hrp1.2
  obtain ⟨hS, hSw, hSe, hSn⟩ := hser a hrp1.1 (by omega)
  refine lv_astore (lv' := [(4, .ref (AD (4 + 3 * a))), (0, .ref (AD 0)), (1, .int (zI a)), (2, .int (zI b)), (3, .int (zI s0))]) hx hb d_R_core_5 hl (by decide) rfl (fun ls hl => ?_)
  refine lv_aload_n hx hb d_R_core_7 rfl (lv_at hl 1 rfl) ?_
  refine lv_iload_n hx hb d_R_core_8 rfl (lv_at hl 3 rfl) ?_
  refine zr_xcallR (vx_runV (As := [.int (zI b)]) (rest := []) ⟨hx, hb, hml, hown, hts⟩ (c_R_seriesAt l D k N AD C H.size hlt kc lc tr b hN (by omega) ⟨by omega, by omega⟩ hR h3) (cwV 1 hts (good_V wk_298 wk_300 wk_3 wk_27 wk_301) rfl rfl rfl (by decide +kernel) ⟨Nat.le_of_ble_eq_true rfl, Nat.le_of_ble_eq_true rfl⟩) (xPre_V hK hw hA hxc 0 ⟨by omega, by omega⟩ hR rfl) rfl rfl hl.1 rfl (lv_room (Nat.le_of_ble_eq_true rfl)) d_R_core_9 ⟨Nat.le_of_ble_eq_true rfl, Nat.le_of_ble_eq_true rfl⟩) hw hA (fun E9 ce9 q9 H locs hxp hw h91 h92 h93 => ?_) (fun H locs hrp2 hw => ?_)
  · rw [hQ]; exact xout hK htb hlk hw (Or.inl ⟨hxp.1, fun h => hxp.2 h.2⟩) h91 h92 h93 (Nat.le_of_ble_eq_true rfl) (Nat.le_of_ble_eq_true rfl)
  obtain ⟨hokhT1, hokhT2, hokhT3⟩ := hok b hrp2.1 hrp2.2
  obtain ⟨hT, hTw, hTe, hTn⟩ := hser b hrp2.1 (by omega)
  refine lv_astore (lv' := [(5, .ref (AD (4 + 3 * b))), (4, .ref (AD (4 + 3 * a))), (0, .ref (AD 0)), (1, .int (zI a)), (2, .int (zI b)), (3, .int (zI s0))]) hx hb d_R_core_12 hl (by decide) rfl (fun ls hl => ?_)
  refine lv_aload_n hx hb d_R_core_14 rfl (lv_at hl 2 rfl) ?_
  refine zr_get (v := .int (zI kc)) hx hb hts iw_R hown hK hw 0 ⟨by omega, by omega⟩ hR rfl 2 (by decide) (hts _ wk_112) (fun _ h => h) rfl d_R_core_15 ?_
  refine zr_bipush hx hb d_R_core_18 (by decide) ?_
  refine zr_icmp_lt (tgt := 33) hx hb ⟨by omega, by omega⟩ ⟨by omega, by omega⟩ d_R_core_20 (by decide) (fun c3 => ?_) (fun c3 => ?_)
  · refine lv_iload_n hx hb d_R_core_33 rfl (lv_at hl 5 rfl) ?_
    refine lv_aload hx hb d_R_core_34 (lv_at hl 0 rfl) ?_
    refine zr_get (v := .int (zI (nn b))) hx hb hts iw_S hown hK hw (4 + 3 * b) ⟨by omega, by omega⟩ hT rfl 2 (by decide) (hts _ wk_73) (fun _ h => h) rfl d_R_core_36 ?_
    refine zr_ineg hx hb d_R_core_39 ?_
    refine zr_icmp_le (tgt := 52) hx hb ⟨by omega, by omega⟩ ⟨by omega, by omega⟩ d_R_core_40 (by decide) (fun c4 => ?_) (fun c4 => ?_)
    · refine zr_iconst hx hb d_R_core_52 ?_
      exact hret _ _ _ _ _ _ 2 12 (by decide) (by decide) d_R_core_53 hw rfl ⟨by omega, by omega, Or.inl ⟨by omega, rfl, rfl⟩, fun j hj => rfl⟩
    · refine lv_iload_n hx hb d_R_core_43 rfl (lv_at hl 5 rfl) ?_
      refine lv_aload hx hb d_R_core_44 (lv_at hl 1 rfl) ?_
      refine zr_get (v := .int (zI (nn a))) hx hb hts iw_S hown hK hw (4 + 3 * a) ⟨by omega, by omega⟩ hS rfl 2 (by decide) (hts _ wk_73) (fun _ h => h) rfl d_R_core_46 ?_
      refine zr_icmp_lt (tgt := 54) hx hb ⟨by omega, by omega⟩ ⟨by omega, by omega⟩ d_R_core_49 (by decide) (fun c5 => ?_) (fun c5 => ?_)
      · refine zr_iconst hx hb d_R_core_54 ?_
        refine lv_iload_n hx hb d_R_core_55 rfl (lv_at hl 5 rfl) ?_
        refine zr_min hx hb (hml.trans hl.1.symm) hown hts wk_463 (Nat.le_of_ble_eq_true rfl) (Nat.le_of_ble_eq_true rfl) (Nat.le_of_ble_eq_true rfl) (Nat.le_of_ble_eq_true rfl) ⟨by omega, by omega⟩ ⟨by omega, by omega⟩ d_R_core_56 ?_
        refine lv_istore (lv' := [(6, .int (zI (min 0 s0))), (5, .ref (AD (4 + 3 * b))), (4, .ref (AD (4 + 3 * a))), (0, .ref (AD 0)), (1, .int (zI a)), (2, .int (zI b)), (3, .int (zI s0))]) hx hb d_R_core_59 hl (by decide) rfl (fun ls hl => ?_)
        refine lv_aload hx hb d_R_core_61 (lv_at hl 2 rfl) ?_
        refine zr_get (v := .int (zI (nn a))) hx hb hts iw_S hown hK hw (4 + 3 * a) ⟨by omega, by omega⟩ hS rfl 2 (by decide) (hts _ wk_73) (fun _ h => h) rfl d_R_core_63 ?_
        refine lv_aload hx hb d_R_core_66 (lv_at hl 1 rfl) ?_
        refine zr_get (v := .int (zI (nn b))) hx hb hts iw_S hown hK hw (4 + 3 * b) ⟨by omega, by omega⟩ hT rfl 2 (by decide) (hts _ wk_73) (fun _ h => h) rfl d_R_core_68 ?_
        refine lv_iload_n hx hb d_R_core_71 rfl (lv_at hl 6 rfl) ?_
        refine zr_iadd hx hb d_R_core_72 ?_
        refine zr_max hx hb (hml.trans hl.1.symm) hown hts wk_464 (Nat.le_of_ble_eq_true rfl) (Nat.le_of_ble_eq_true rfl) (Nat.le_of_ble_eq_true rfl) (Nat.le_of_ble_eq_true rfl) ⟨by omega, by omega⟩ ⟨by omega, by omega⟩ d_R_core_73 ?_
        refine lv_istore (lv' := [(7, .int (zI (max (nn a) ((nn b) + s0)))), (6, .int (zI (min 0 s0))), (5, .ref (AD (4 + 3 * b))), (4, .ref (AD (4 + 3 * a))), (0, .ref (AD 0)), (1, .int (zI a)), (2, .int (zI b)), (3, .int (zI s0))]) hx hb d_R_core_76 hl (by decide) rfl (fun ls hl => ?_)
        refine lv_iload hx hb d_R_core_78 (lv_at hl 0 rfl) ?_
        refine lv_iload hx hb d_R_core_80 (lv_at hl 1 rfl) ?_
        refine zr_isub hx hb d_R_core_82 ?_
        refine zr_bipush hx hb d_R_core_83 (by decide) ?_
        refine zr_icmp_le (tgt := 90) hx hb ⟨by omega, by omega⟩ ⟨by omega, by omega⟩ d_R_core_85 (by decide) (fun c6 => ?_) (fun c6 => ?_)
        · refine lv_aload_n hx hb d_R_core_90 rfl (lv_at hl 4 rfl) ?_
          refine zr_get (v := .ref (AD 3)) hx hb hts iw_R hown hK hw 0 ⟨by omega, by omega⟩ hR rfl 1 (by decide) (hts _ wk_111) (fun _ h => h) rfl d_R_core_91 ?_
          refine lv_aload_n hx hb d_R_core_94 rfl (lv_at hl 4 rfl) ?_
          refine zr_get (v := .int (zI kc)) hx hb hts iw_R hown hK hw 0 ⟨by omega, by omega⟩ hR rfl 2 (by decide) (hts _ wk_112) (fun _ h => h) rfl d_R_core_95 ?_
          refine zr_aldq (v := AD (4 + 3 * kc)) hx hb hK hw 3 ⟨by omega, by omega⟩ 3 h3 rfl ⟨by omega, by omega⟩ (by decide) rfl d_R_core_98 ?_
          obtain ⟨hV, hVw, hVe, hVn⟩ := hser kc (by omega) (by omega)
          refine lv_astore (lv' := [(8, .ref (AD (4 + 3 * kc))), (7, .int (zI (max (nn a) ((nn b) + s0)))), (6, .int (zI (min 0 s0))), (5, .ref (AD (4 + 3 * b))), (4, .ref (AD (4 + 3 * a))), (0, .ref (AD 0)), (1, .int (zI a)), (2, .int (zI b)), (3, .int (zI s0))]) hx hb d_R_core_99 hl (by decide) rfl (fun ls hl => ?_)
          refine lv_aload hx hb d_R_core_101 (lv_at hl 0 rfl) ?_
          refine zr_iconst hx hb d_R_core_103 ?_
          refine zr_put (ty := .int) (v := .int (zI 0)) hx hb hts iw_S tyS tyS_ok nmS hown hK hw (4 + 3 * kc) ⟨by omega, by omega⟩ hV rfl 2 (by decide) (hts _ wk_73) (fun _ h => h) rfl (by decide +kernel) rfl rfl (Nat.le_of_ble_eq_true rfl) d_R_core_104 (fun H locs hw => ?_)
          obtain ⟨C7, hC7⟩ : ∃ z : Int → va_E, z = zup C (4 + 3 * kc) (.inr (2, [.ref (AD ((4 + 3 * kc) + 1)), .ref (AD ((4 + 3 * kc) + 2)), .int (zI 0)])) := ⟨_, rfl⟩
          have hw : WD D clW (wA N AD sz) s.heap H locs N AD C7 := by rw [hC7]; exact hw
          have frC7 : ∀ j : Int, j ≠ (4 + 3 * kc) → C7 j = C j := fun j h => by rw [hC7]; exact zup_n h
          have hR : C7 0 = .inr (3, [.ref (AD 1), .ref (AD 3), .int (zI kc), .ref (AD 28), .int (zI lc), .int (zI tr), .ref (AD 76), .ref (AD 79), .ref (AD 80), .ref (AD 81)]) := (frC7 _ (by omega)).trans hR
          have h3 : C7 3 = aQ (k 3) 8 (fun i => some (AD (4 + 3 * i))) := (frC7 _ (by omega)).trans h3
          have h28 : C7 28 = aQ (k 4) 47 (fun j => some (AD (29 + pm j))) := (frC7 _ (by omega)).trans h28
          have hP : C7 1 = .inr (1, [.ref (AD (1 + 1)), .int (zI pn)]) := (frC7 _ (by omega)).trans hP
          have hPs : C7 (1 + 1) = aI (k 0) 100 pf := (frC7 _ (by omega)).trans hPs
          have hS : C7 (4 + 3 * a) = .inr (2, [.ref (AD ((4 + 3 * a) + 1)), .ref (AD ((4 + 3 * a) + 2)), .int (zI (nn a))]) := (frC7 _ (by omega)).trans hS
          have hSw : C7 ((4 + 3 * a) + 1) = aI (k 0) 24 (ww a) := (frC7 _ (by omega)).trans hSw
          have hSe : C7 ((4 + 3 * a) + 2) = aI (k 0) 24 (ee a) := (frC7 _ (by omega)).trans hSe
          have hT : C7 (4 + 3 * b) = .inr (2, [.ref (AD ((4 + 3 * b) + 1)), .ref (AD ((4 + 3 * b) + 2)), .int (zI (nn b))]) := (frC7 _ (by omega)).trans hT
          have hTw : C7 ((4 + 3 * b) + 1) = aI (k 0) 24 (ww b) := (frC7 _ (by omega)).trans hTw
          have hTe : C7 ((4 + 3 * b) + 2) = aI (k 0) 24 (ee b) := (frC7 _ (by omega)).trans hTe
          have hV : C7 (4 + 3 * kc) = .inr (2, [.ref (AD ((4 + 3 * kc) + 1)), .ref (AD ((4 + 3 * kc) + 2)), .int (zI 0)]) := by rw [hC7]; exact zup_s
          have hVw : C7 ((4 + 3 * kc) + 1) = aI (k 0) 24 (ww kc) := (frC7 _ (by omega)).trans hVw
          have hVe : C7 ((4 + 3 * kc) + 2) = aI (k 0) 24 (ee kc) := (frC7 _ (by omega)).trans hVe
          have hV : C7 (4 + 3 * kc) = .inr (2, [.ref (AD ((4 + 3 * kc) + 1)), .ref (AD ((4 + 3 * kc) + 2)), .int (zI (min 0 s0 - min 0 s0))]) := by rw [Int.sub_self]; exact hV
          refine lv_iload hx hb d_R_core_107 (lv_at hl 2 rfl) ?_
          refine lv_istore (lv' := [(9, .int (zI (min 0 s0))), (8, .ref (AD (4 + 3 * kc))), (7, .int (zI (max (nn a) ((nn b) + s0)))), (6, .int (zI (min 0 s0))), (5, .ref (AD (4 + 3 * b))), (4, .ref (AD (4 + 3 * a))), (0, .ref (AD 0)), (1, .int (zI a)), (2, .int (zI b)), (3, .int (zI s0))]) hx hb d_R_core_109 hl (by decide) rfl (fun ls hl => ?_)
          have lp : ∀ (n9 : Nat) (x : Int) (w1 : Int → Int) (C : Int → va_E) (H : Heap) (locs : List Loc) (ls : Array Slot), (min 0 s0 ≤ x ∧ x ≤ (max (nn a) (nn b + s0))) → (∀ j : Int, 0 ≤ j → j < x - min 0 s0 → w1 j = corW (ww a) (nn a) (ww b) (nn b) s0 j) → (∀ j : Int, ¬ (4 + 3 * kc ≤ j ∧ j ≤ 4 + 3 * kc + 2) → C j = C0 j) → (C 0 = .inr (3, [.ref (AD 1), .ref (AD 3), .int (zI kc), .ref (AD 28), .int (zI lc), .int (zI tr), .ref (AD 76), .ref (AD 79), .ref (AD 80), .ref (AD 81)])) → (C 3 = aQ (k 3) 8 (fun i => some (AD (4 + 3 * i)))) → (C (4 + 3 * a) = .inr (2, [.ref (AD ((4 + 3 * a) + 1)), .ref (AD ((4 + 3 * a) + 2)), .int (zI (nn a))])) → (C ((4 + 3 * a) + 1) = aI (k 0) 24 (ww a)) → (C ((4 + 3 * a) + 2) = aI (k 0) 24 (ee a)) → (C (4 + 3 * b) = .inr (2, [.ref (AD ((4 + 3 * b) + 1)), .ref (AD ((4 + 3 * b) + 2)), .int (zI (nn b))])) → (C ((4 + 3 * b) + 1) = aI (k 0) 24 (ww b)) → (C ((4 + 3 * b) + 2) = aI (k 0) 24 (ee b)) → (C (4 + 3 * kc) = .inr (2, [.ref (AD ((4 + 3 * kc) + 1)), .ref (AD ((4 + 3 * kc) + 2)), .int (zI (x - min 0 s0))])) → (C ((4 + 3 * kc) + 1) = aI (k 0) 24 w1) → (C ((4 + 3 * kc) + 2) = aI (k 0) 24 (ee kc)) → ((max (nn a) (nn b + s0)) - x).toNat < n9 → WD D clW (wA N AD sz) s.heap H locs N AD C → lv_has ls 10 [(0, .ref (AD 0)), (1, .int (zI a)), (2, .int (zI b)), (3, .int (zI s0)), (4, .ref (AD (4 + 3 * a))), (5, .ref (AD (4 + 3 * b))), (6, .int (zI (min 0 s0))), (7, .int (zI (max (nn a) ((nn b) + s0)))), (8, .ref (AD (4 + 3 * kc))), (9, .int (zI x))] → W p l e rm_R_core s m args below meth c H locs 2 12 Q (F0 m 111 ls []) := by
            intro n9
            induction n9 with
            | zero => intro x w1 C H locs ls hx1 hw1 hfr hR h3 hS hSw hSe hT hTw hTe hV hVw hVe hm hw hl; exact absurd hm (by omega)
            | succ n9 ihlp =>
              intro x w1 C H locs ls hx1 hw1 hfr hR h3 hS hSw hSe hT hTw hTe hV hVw hVe hm hw hl
              refine lv_iload hx hb d_R_core_111 (lv_at hl 9 rfl) ?_
              refine lv_iload hx hb d_R_core_113 (lv_at hl 7 rfl) ?_
              refine zr_icmp_ge (tgt := 148) hx hb ⟨by omega, by omega⟩ ⟨by omega, by omega⟩ d_R_core_115 (by decide) (fun c8 => ?_) (fun c8 => ?_)
              · have hxe : x = (max (nn a) (nn b + s0)) := by omega
                have hokc : WOK (corW (ww a) (nn a) (ww b) (nn b) s0) (x - min 0 s0) := fun j _ _ => mnF_ok (wAt_cases hokhS2 _) (wAt_cases hokhT2 _)
                have hokw : WOK w1 (x - min 0 s0) := WOK.to hokc hw1
                refine lv_aload hx hb d_R_core_148 (lv_at hl 8 rfl) ?_
                refine zr_callV (va_runV (As := []) (rest := []) ⟨hx, hb, hml, hown, hts⟩ (c_S_makeEven l D k N AD C H.size (4 + 3 * kc) (x - min 0 s0) w1 (ee kc) ⟨by omega, by omega⟩ ⟨by omega, by omega⟩ hV hVw hVe hokw) (cwV 0 hts (good_V wk_469 wk_268 wk_269 wk_29 wk_270) rfl rfl rfl (by decide +kernel) ⟨Nat.le_of_ble_eq_true rfl, Nat.le_of_ble_eq_true rfl⟩) (cPre_V hK hw (4 + 3 * kc) ⟨by omega, by omega⟩ hV rfl) rfl rfl hl.1 rfl (lv_room (Nat.le_of_ble_eq_true rfl)) d_R_core_150 ⟨Nat.le_of_ble_eq_true rfl, Nat.le_of_ble_eq_true rfl⟩) hw hA (fun C9 H locs hq10 hw => ?_)
                obtain ⟨ev11, hq10a, hEv, frC9⟩ := hq10
                have hR : C9 0 = .inr (3, [.ref (AD 1), .ref (AD 3), .int (zI kc), .ref (AD 28), .int (zI lc), .int (zI tr), .ref (AD 76), .ref (AD 79), .ref (AD 80), .ref (AD 81)]) := (frC9 _ (by omega)).trans hR
                have h3 : C9 3 = aQ (k 3) 8 (fun i => some (AD (4 + 3 * i))) := (frC9 _ (by omega)).trans h3
                have hS : C9 (4 + 3 * a) = .inr (2, [.ref (AD ((4 + 3 * a) + 1)), .ref (AD ((4 + 3 * a) + 2)), .int (zI (nn a))]) := (frC9 _ (by omega)).trans hS
                have hSw : C9 ((4 + 3 * a) + 1) = aI (k 0) 24 (ww a) := (frC9 _ (by omega)).trans hSw
                have hSe : C9 ((4 + 3 * a) + 2) = aI (k 0) 24 (ee a) := (frC9 _ (by omega)).trans hSe
                have hT : C9 (4 + 3 * b) = .inr (2, [.ref (AD ((4 + 3 * b) + 1)), .ref (AD ((4 + 3 * b) + 2)), .int (zI (nn b))]) := (frC9 _ (by omega)).trans hT
                have hTw : C9 ((4 + 3 * b) + 1) = aI (k 0) 24 (ww b) := (frC9 _ (by omega)).trans hTw
                have hTe : C9 ((4 + 3 * b) + 2) = aI (k 0) 24 (ee b) := (frC9 _ (by omega)).trans hTe
                have hV : C9 (4 + 3 * kc) = .inr (2, [.ref (AD ((4 + 3 * kc) + 1)), .ref (AD ((4 + 3 * kc) + 2)), .int (zI (x - min 0 s0))]) := (frC9 _ (by omega)).trans hV
                have hVw : C9 ((4 + 3 * kc) + 1) = aI (k 0) 24 w1 := (frC9 _ (by omega)).trans hVw
                have hVe : C9 ((4 + 3 * kc) + 2) = aI (k 0) 24 ev11 := hq10a
                refine lv_aload_n hx hb d_R_core_153 rfl (lv_at hl 0 rfl) ?_
                refine zr_callI (va_runV (As := []) (rest := []) ⟨hx, hb, hml, hown, hts⟩ (c_R_keepNext l D k N AD C9 H.size kc lc tr hN hR) (cwV 0 hts (good_V wk_286 wk_288 wk_2 wk_27 wk_289) rfl rfl rfl (by decide +kernel) ⟨Nat.le_of_ble_eq_true rfl, Nat.le_of_ble_eq_true rfl⟩) (cPre_V hK hw 0 ⟨by omega, by omega⟩ hR rfl) rfl rfl hl.1 rfl (lv_room (Nat.le_of_ble_eq_true rfl)) d_R_core_154 ⟨Nat.le_of_ble_eq_true rfl, Nat.le_of_ble_eq_true rfl⟩) hw hA (fun r9 C12 H locs hq13 hw => ?_)
                obtain ⟨hr9, hq13a, frC12⟩ := hq13
                subst hr9
                have hR : C12 0 = .inr (3, [.ref (AD 1), .ref (AD 3), .int (zI (kc + 1)), .ref (AD 28), .int (zI lc), .int (zI tr), .ref (AD 76), .ref (AD 79), .ref (AD 80), .ref (AD 81)]) := hq13a
                have h3 : C12 3 = aQ (k 3) 8 (fun i => some (AD (4 + 3 * i))) := (frC12 _ (by omega)).trans h3
                have hS : C12 (4 + 3 * a) = .inr (2, [.ref (AD ((4 + 3 * a) + 1)), .ref (AD ((4 + 3 * a) + 2)), .int (zI (nn a))]) := (frC12 _ (by omega)).trans hS
                have hSw : C12 ((4 + 3 * a) + 1) = aI (k 0) 24 (ww a) := (frC12 _ (by omega)).trans hSw
                have hSe : C12 ((4 + 3 * a) + 2) = aI (k 0) 24 (ee a) := (frC12 _ (by omega)).trans hSe
                have hT : C12 (4 + 3 * b) = .inr (2, [.ref (AD ((4 + 3 * b) + 1)), .ref (AD ((4 + 3 * b) + 2)), .int (zI (nn b))]) := (frC12 _ (by omega)).trans hT
                have hTw : C12 ((4 + 3 * b) + 1) = aI (k 0) 24 (ww b) := (frC12 _ (by omega)).trans hTw
                have hTe : C12 ((4 + 3 * b) + 2) = aI (k 0) 24 (ee b) := (frC12 _ (by omega)).trans hTe
                have hV : C12 (4 + 3 * kc) = .inr (2, [.ref (AD ((4 + 3 * kc) + 1)), .ref (AD ((4 + 3 * kc) + 2)), .int (zI (x - min 0 s0))]) := (frC12 _ (by omega)).trans hV
                have hVw : C12 ((4 + 3 * kc) + 1) = aI (k 0) 24 w1 := (frC12 _ (by omega)).trans hVw
                have hVe : C12 ((4 + 3 * kc) + 2) = aI (k 0) 24 ev11 := (frC12 _ (by omega)).trans hVe
                have hser9 : ∀ i : Int, 0 ≤ i → i < 8 → C12 (4 + 3 * i) = .inr (2, [.ref (AD ((4 + 3 * i) + 1)), .ref (AD ((4 + 3 * i) + 2)), .int (zI (zup nn kc (x - min 0 s0) i))]) ∧ C12 ((4 + 3 * i) + 1) = aI (k 0) 24 (zup ww kc w1 i) ∧ C12 ((4 + 3 * i) + 2) = aI (k 0) 24 (zup ee kc ev11 i) ∧ (0 ≤ zup nn kc (x - min 0 s0) i ∧ zup nn kc (x - min 0 s0) i ≤ 24) := by
                  intro i h1 h2
                  by_cases hi : i = kc
                  · rw [hi, zup_s, zup_s, zup_s]; exact ⟨hV, hVw, hVe, by omega⟩
                  · rw [zup_n hi, zup_n hi, zup_n hi]
                    obtain ⟨a1, a2, a3, a4⟩ := hser i h1 h2
                    rw [← hC0] at a1 a2 a3
                    exact ⟨by rw [frC12 _ (by omega), frC9 _ (by omega)]; exact (hfr _ (by omega)).trans a1, by rw [frC12 _ (by omega), frC9 _ (by omega)]; exact (hfr _ (by omega)).trans a2, by rw [frC12 _ (by omega), frC9 _ (by omega)]; exact (hfr _ (by omega)).trans a3, a4⟩
                have hok8 : ∀ i : Int, 0 ≤ i → i < kc + 1 → 1 ≤ zup nn kc (x - min 0 s0) i ∧ WOK (zup ww kc w1 i) (zup nn kc (x - min 0 s0) i) ∧ EvOK (zup ww kc w1 i) (zup ee kc ev11 i) (zup nn kc (x - min 0 s0) i) := by
                  intro i h1 h2
                  by_cases hi : i = kc
                  · rw [hi, zup_s, zup_s, zup_s]; exact ⟨by omega, hokw, hEv⟩
                  · rw [zup_n hi, zup_n hi, zup_n hi]; exact hok i h1 (by omega)
                exact hret _ _ _ _ _ _ 2 12 (by decide) (by decide) d_R_core_157 hw rfl ⟨by omega, by omega, Or.inr ⟨by omega, rfl, w1, ev11, fun j h1 h2 => hw1 j h1 (by omega), by rw [← hxe]; exact ⟨hR, (by rw [frC12 _ (by omega), frC9 _ (by omega)]; exact (hfr _ (by omega)).trans (by rw [hC0]; exact hP9)), (by rw [frC12 _ (by omega), frC9 _ (by omega)]; exact (hfr _ (by omega)).trans (by rw [hC0]; exact hPs9)), h3, hser9, (by rw [frC12 _ (by omega), frC9 _ (by omega)]; exact (hfr _ (by omega)).trans (by rw [hC0]; exact h289)), (fun j h1 h2 => by rw [frC12 _ (by omega), frC9 _ (by omega)]; exact (hfr _ (by omega)).trans (by rw [hC0]; exact hov j h1 h2)), hpm, hpi, hls, (by rw [frC12 _ (by omega), frC9 _ (by omega)]; exact (hfr _ (by omega)).trans (by rw [hC0]; exact hst9)), (by rw [frC12 _ (by omega), frC9 _ (by omega)]; exact (hfr _ (by omega)).trans (by rw [hC0]; exact hstw9)), (by rw [frC12 _ (by omega), frC9 _ (by omega)]; exact (hfr _ (by omega)).trans (by rw [hC0]; exact hste9)), hsn, (by rw [frC12 _ (by omega), frC9 _ (by omega)]; exact (hfr _ (by omega)).trans (by rw [hC0]; exact hpr9)), (by rw [frC12 _ (by omega), frC9 _ (by omega)]; exact (hfr _ (by omega)).trans (by rw [hC0]; exact hmb9)), (by rw [frC12 _ (by omega), frC9 _ (by omega)]; exact (hfr _ (by omega)).trans (by rw [hC0]; exact hak9)), hpn, (by omega), hlc, htr, hpf, hok8, hlb⟩⟩, fun j hj => by rw [frC12 _ (by omega), frC9 _ (by omega)]; exact (hfr j (by omega)).trans (by rw [hC0])⟩
              · refine lv_aload hx hb d_R_core_118 (lv_at hl 8 rfl) ?_
                refine lv_aload hx hb d_R_core_120 (lv_at hl 4 rfl) ?_
                refine lv_iload hx hb d_R_core_122 (lv_at hl 9 rfl) ?_
                refine zr_callI (va_runV (As := [.int (zI x)]) (rest := [.ref (AD (4 + 3 * kc))]) ⟨hx, hb, hml, hown, hts⟩ (c_S_widthAt l D k N AD C H.size (4 + 3 * a) (nn a) (ww a) (ee a) x ⟨by omega, by omega⟩ ⟨by omega, by omega⟩ hS hSw hSe ⟨by omega, by omega⟩) (cwV 1 hts (good_V wk_320 wk_276 wk_277 wk_29 wk_278) rfl rfl rfl (by decide +kernel) ⟨Nat.le_of_ble_eq_true rfl, Nat.le_of_ble_eq_true rfl⟩) (cPre_V hK hw (4 + 3 * a) ⟨by omega, by omega⟩ hS rfl) rfl rfl hl.1 rfl (lv_room (Nat.le_of_ble_eq_true rfl)) d_R_core_124 ⟨Nat.le_of_ble_eq_true rfl, Nat.le_of_ble_eq_true rfl⟩) hw hA (fun r9 C15 H locs hq14 hw => ?_)
                obtain ⟨hr9, hCe⟩ := hq14
                rw [hCe] at hw; subst hr9
                refine lv_aload hx hb d_R_core_127 (lv_at hl 5 rfl) ?_
                refine lv_iload hx hb d_R_core_129 (lv_at hl 9 rfl) ?_
                refine lv_iload_n hx hb d_R_core_131 rfl (lv_at hl 3 rfl) ?_
                refine zr_isub hx hb d_R_core_132 ?_
                refine zr_callI (va_runV (As := [.int (zI (x - s0))]) (rest := [.int (zI (wAt (ww a) (nn a) x)), .ref (AD (4 + 3 * kc))]) ⟨hx, hb, hml, hown, hts⟩ (c_S_widthAt l D k N AD C H.size (4 + 3 * b) (nn b) (ww b) (ee b) (x - s0) ⟨by omega, by omega⟩ ⟨by omega, by omega⟩ hT hTw hTe ⟨by omega, by omega⟩) (cwV 1 hts (good_V wk_320 wk_276 wk_277 wk_29 wk_278) rfl rfl rfl (by decide +kernel) ⟨Nat.le_of_ble_eq_true rfl, Nat.le_of_ble_eq_true rfl⟩) (cPre_V hK hw (4 + 3 * b) ⟨by omega, by omega⟩ hT rfl) rfl rfl hl.1 rfl (lv_room (Nat.le_of_ble_eq_true rfl)) d_R_core_133 ⟨Nat.le_of_ble_eq_true rfl, Nat.le_of_ble_eq_true rfl⟩) hw hA (fun r9 C17 H locs hq16 hw => ?_)
                obtain ⟨hr9, hCe⟩ := hq16
                rw [hCe] at hw; subst hr9
                have hm1 := wAt_cases hokhS2 x
                have hm2 := wAt_cases hokhT2 (x - s0)
                refine zr_callI (va_runS (As := [.int (zI (wAt (ww a) (nn a) x)), .int (zI (wAt (ww b) (nn b) (x - s0)))]) (rest := [.ref (AD (4 + 3 * kc))]) ⟨hx, hb, hml, hown, hts⟩ (c_R_mean l D k N AD C H.size (wAt (ww a) (nn a) x) (wAt (ww b) (nn b) (x - s0)) hm1 hm2) (va_cwS 2 hts (good_S wk_465 wk_466 wk_27 wk_467) rfl rfl rfl (by decide +kernel) ⟨Nat.le_of_ble_eq_true rfl, Nat.le_of_ble_eq_true rfl⟩) (cPre_S hK hw) rfl rfl hl.1 rfl (lv_room (Nat.le_of_ble_eq_true rfl)) d_R_core_136 ⟨Nat.le_of_ble_eq_true rfl, Nat.le_of_ble_eq_true rfl⟩) hw hA (fun r9 C19 H locs hq18 hw => ?_)
                obtain ⟨hr9, hCe⟩ := hq18
                rw [hCe] at hw; subst hr9
                refine zr_callV (va_runV (As := [.int (zI (mnF (wAt (ww a) (nn a) x) (wAt (ww b) (nn b) (x - s0))))]) (rest := []) ⟨hx, hb, hml, hown, hts⟩ (c_S_add l D k N AD C H.size (4 + 3 * kc) (x - min 0 s0) w1 (ee kc) (mnF (wAt (ww a) (nn a) x) (wAt (ww b) (nn b) (x - s0))) ⟨by omega, by omega⟩ ⟨by omega, by omega⟩ hV hVw hVe (by omega)) (cwV 1 hts (good_V wk_468 wk_261 wk_262 wk_29 wk_263) rfl rfl rfl (by decide +kernel) ⟨Nat.le_of_ble_eq_true rfl, Nat.le_of_ble_eq_true rfl⟩) (cPre_V hK hw (4 + 3 * kc) ⟨by omega, by omega⟩ hV rfl) rfl rfl hl.1 rfl (lv_room (Nat.le_of_ble_eq_true rfl)) d_R_core_139 ⟨Nat.le_of_ble_eq_true rfl, Nat.le_of_ble_eq_true rfl⟩) hw hA (fun C20 H locs hq21 hw => ?_)
                obtain ⟨hq21a, hq21b, hq21c, frC20⟩ := hq21
                have hR : C20 0 = .inr (3, [.ref (AD 1), .ref (AD 3), .int (zI kc), .ref (AD 28), .int (zI lc), .int (zI tr), .ref (AD 76), .ref (AD 79), .ref (AD 80), .ref (AD 81)]) := (frC20 _ (by omega)).trans hR
                have h3 : C20 3 = aQ (k 3) 8 (fun i => some (AD (4 + 3 * i))) := (frC20 _ (by omega)).trans h3
                have hS : C20 (4 + 3 * a) = .inr (2, [.ref (AD ((4 + 3 * a) + 1)), .ref (AD ((4 + 3 * a) + 2)), .int (zI (nn a))]) := (frC20 _ (by omega)).trans hS
                have hSw : C20 ((4 + 3 * a) + 1) = aI (k 0) 24 (ww a) := (frC20 _ (by omega)).trans hSw
                have hSe : C20 ((4 + 3 * a) + 2) = aI (k 0) 24 (ee a) := (frC20 _ (by omega)).trans hSe
                have hT : C20 (4 + 3 * b) = .inr (2, [.ref (AD ((4 + 3 * b) + 1)), .ref (AD ((4 + 3 * b) + 2)), .int (zI (nn b))]) := (frC20 _ (by omega)).trans hT
                have hTw : C20 ((4 + 3 * b) + 1) = aI (k 0) 24 (ww b) := (frC20 _ (by omega)).trans hTw
                have hTe : C20 ((4 + 3 * b) + 2) = aI (k 0) 24 (ee b) := (frC20 _ (by omega)).trans hTe
                have hV : C20 (4 + 3 * kc) = .inr (2, [.ref (AD ((4 + 3 * kc) + 1)), .ref (AD ((4 + 3 * kc) + 2)), .int (zI ((x - min 0 s0) + 1))]) := hq21a
                have hVw : C20 ((4 + 3 * kc) + 1) = aI (k 0) 24 (zup w1 (x - min 0 s0) (mnF (wAt (ww a) (nn a) x) (wAt (ww b) (nn b) (x - s0)))) := hq21b
                have hVe : C20 ((4 + 3 * kc) + 2) = aI (k 0) 24 (ee kc) := hq21c.trans hVe
                have hw2 : ∀ j : Int, 0 ≤ j → j < x + 1 - min 0 s0 → (zup w1 (x - min 0 s0) (mnF (wAt (ww a) (nn a) x) (wAt (ww b) (nn b) (x - s0)))) j = corW (ww a) (nn a) (ww b) (nn b) s0 j := by
                  rw [show x + 1 - min 0 s0 = (x - min 0 s0) + 1 by omega]
                  refine zup_ok hw1 ?_
                  unfold corW
                  rw [show min 0 s0 + (x - min 0 s0) = x by omega]
                have hV : C20 (4 + 3 * kc) = .inr (2, [.ref (AD ((4 + 3 * kc) + 1)), .ref (AD ((4 + 3 * kc) + 2)), .int (zI (x + 1 - min 0 s0))]) := by rw [show x + 1 - min 0 s0 = x - min 0 s0 + 1 by omega]; exact hV
                refine lv_iinc (v := zI (x + 1)) (lv' := [(9, .int (zI (x + 1))), (0, .ref (AD 0)), (1, .int (zI a)), (2, .int (zI b)), (3, .int (zI s0)), (4, .ref (AD (4 + 3 * a))), (5, .ref (AD (4 + 3 * b))), (6, .int (zI (min 0 s0))), (7, .int (zI (max (nn a) ((nn b) + s0)))), (8, .ref (AD (4 + 3 * kc)))]) hx hb d_R_core_142 hl (k := 9) rfl (zI_add _ _) (by decide) rfl (fun ls hl => ?_)
                refine lv_goto (tgt := 111) hx hb d_R_core_145 (by decide) ?_
                exact ihlp (x + 1) (zup w1 (x - min 0 s0) (mnF (wAt (ww a) (nn a) x) (wAt (ww b) (nn b) (x - s0)))) C20 H locs ls (by omega) hw2 (fun j hj => by rw [frC20 _ (by omega)]; exact hfr j hj) hR h3 hS hSw hSe hT hTw hTe hV hVw hVe (by omega) hw (lv_sub hl [1, 2, 3, 4, 5, 6, 7, 8, 9, 0] rfl)
          exact lp (((max (nn a) (nn b + s0)) - (min 0 s0) : Int).toNat + 1) (min 0 s0) (ww kc) C7 H locs ls (by omega) (fun j h1 h2 => absurd h2 (by omega)) (fun j hj => by rw [frC7 _ (by omega), hC0]) hR h3 hS hSw hSe hT hTw hTe hV hVw hVe (by omega) hw (lv_sub hl [6, 7, 8, 9, 5, 4, 3, 2, 1, 0] rfl)
        · refine zr_iconst hx hb d_R_core_88 ?_
          exact hret _ _ _ _ _ _ 2 12 (by decide) (by decide) d_R_core_89 hw rfl ⟨by omega, by omega, Or.inl ⟨by omega, rfl, rfl⟩, fun j hj => rfl⟩
      · refine zr_iconst hx hb d_R_core_52 ?_
        exact hret _ _ _ _ _ _ 2 12 (by decide) (by decide) d_R_core_53 hw rfl ⟨by omega, by omega, Or.inl ⟨by omega, rfl, rfl⟩, fun j hj => rfl⟩
  · rw [hQ]
    exact xthrow (text := "there are eight series") hx hb hlt hown hts hK hxc htb hlk xc_ISE (by decide +kernel) hw (Or.inr ⟨rfl, by omega, by omega⟩) (hl.1.trans hml.symm) d_R_core_23 d_R_core_26 d_R_core_27 d_R_core_29 d_R_core_32 (Nat.le_of_ble_eq_true rfl) (Nat.le_of_ble_eq_true rfl) (Nat.le_of_ble_eq_true rfl) (Nat.le_of_ble_eq_true rfl) (Nat.le_of_ble_eq_true rfl) (Nat.le_of_ble_eq_true rfl)
