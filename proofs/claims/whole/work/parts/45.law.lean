def R_law : String := "RingMatchesLaw"
def lw_P (b : Addr) (xs : List Int32) (args : Array Value) (s : State) : Prop := args = #[.ref b] ∧ s.IntsAt b xs ∧ xs.length ≤ 2048 ∧ (Jvm.Cond.and given_1 narrow_1).before args s = true
def lw_Q (_ : Array Value) (s : State) (o : Outcome) (t : State) : Prop := o = .returned (some (.int 1)) ∧ Framed s o t [] 617651 7243151
def lw_Z (below : List Frame) (a : Array Value) (s : State) : State → Prop := fun t => ∃ o, t.status = .running ∧ Ended t below o ∧ lw_Q a s o t
/-- the law's own end, with 1 on the stack, nothing written that was there before, its room as the claim has it -/
theorem lw_ret {p : Program} {l : Launch} {e : Env} {s : State} {m : MethodId} {below : List Frame} {meth : Method} {c : Code} {b : Nat} (hx : p.tables.exec = Jvm.exec) (hb : c.code = code) (hr : meth.sig.returnType = ret) (hlocks : meth.locks = false) {pc : Nat} {H : Heap} {ls : Array Slot} (hdg : decode code pc = .ok (.ireturn, 1)) : W p l e room_1 s m #[Value.ref b] below meth c H [] 617651 7243151 (lw_Z below #[Value.ref b] s) (F0 m pc ls [.int 1]) := by
  intro T hT X
  obtain ⟨fs, hret, hrun, hended, hW, hframe⟩ := X.leave (v := some (.int 1)) (hlocks := hlocks) (fun h => by rw [hr] at h; cases h)
  have hmeth' : T.vm.method? m = some meth := X.method'
  refine ⟨T.setFrames fs, ?_, .returned (some (.int 1)), hrun, hended, rfl, ⟨_, rfl⟩, hW, hframe⟩
  jvm_step X.here [X.here.top, hx, hb, hdg, hmeth', hr, ret, narrow_b1]
  (try refine ⟨rfl, ?_⟩); (try refine ⟨rfl, ?_⟩)
  first | (intro acts; rw [hret _ acts rfl rfl rfl]) | rw [hret _ _ rfl rfl rfl]
  exact Steps.refl _
/-- what holds at the law's entry: the machine, the code, the tables' words (any of lw_tbl by 'hts w (by decide +kernel)'), the script of L ints xs at the cell b, what the Statement gives of the start (any of its parts by flat_of_before) -/
def lw_At (p : Program) (s : State) (m : MethodId) (meth : Method) (c : Code) (b L : Nat) (xs : Nat → Int32) : Prop :=
  p.tables.exec = Jvm.exec ∧ c.code = code ∧ meth.sig.returnType = ret ∧ c.maxLocals = 8 ∧ s.vm.findClass R_law = some m.cls ∧ (∀ w ∈ lw_tbl, w.before #[Value.ref b] s = true) ∧ va_X b L xs s s.heap ∧ b < s.heap.size ∧ meth.locks = false ∧ (Jvm.Cond.and given_1 narrow_1).before #[Value.ref b] s = true
theorem INV_mono {k : Nat → ClassId} {AD : Int → Nat} {C : Int → va_E} {t t2 th : Int} (h : INV k AD C t th) (ht : t ≤ t2) : INV k AD C t2 th := by
  obtain ⟨pn, pf, kc, nn, ww, ee, lc, pm, pS, pN, pR, pT, pA, oS, oN, oR, oT, oA, tr, sn, sw, se, q0, q1, q2, q3, q4, mb, ak, fa, fb, mn, mr, ma, ab, bl, mz, mw, mS, mN, mR, of, h1, h2⟩ := h
  exact ⟨pn, pf, kc, nn, ww, ee, lc, pm, pS, pN, pR, pT, pA, oS, oN, oR, oT, oA, tr, sn, sw, se, q0, q1, q2, q3, q4, mb, ak, fa, fb, mn, mr, ma, ab, bl, mz, mw, mS, mN, mR, of, h1, by omega⟩
def VLI (k : Nat → ClassId) (C : Int → va_E) (of : Int → Int) (rb : Int32) (u : Int) : Prop := u = 0 → ∃ v : Int, inI v ∧ rb = zI v ∧ C 89 = aL (k 2) 1 (zup of 0 v)
def VLL (k : Nat → ClassId) (C : Int → va_E) (of : Int → Int) (rb : Int64) (u : Int) : Prop := u = 0 → ∃ v : Int, inL v ∧ rb = zL v ∧ C 89 = aL (k 2) 1 (zup of 0 v)
theorem zI_len (L : Nat) : Int32.ofNat L = zI (L : Int) := (Int32.ofInt_eq_ofNat).symm
theorem zI_1 : zI 1 = 1 := by decide +kernel
set_option maxHeartbeats 16000000 in
set_option maxRecDepth 100000 in
/-- the law's loop: at its head class and reference agree -/
theorem law_loop {p : Program} {l : Launch} {e : Env} {s : State} {m : MethodId} {below : List Frame} {meth : Method} {c : Code} {D : va_G} {k : Nat → ClassId} {N : Nat} {AD : Int → Nat} {A : Nat → Prop} {b L : Nat} {xs : Nat → Int32} (hL : L ≤ 2048) (hlt : l.stackTraces = false) (C0 : lw_At p s m meth c b L xs) (hK : va_K D clW (tyW k) s) (hA : ∀ q, s.heap.size ≤ q → A q) (hA2 : ∀ q, A q → s.heap.size ≤ q) (hxc : xC A s s.heap) (hnc : nC s) (hN : 90 ≤ (N : Int))
    {C : Int → va_E} {H : Heap} {locs : List Loc} {ls : Array Slot} (hinv0 : INV k AD C (12 * 0) 0) (hw : WD D clW A s.heap H locs N AD C) (hl : lv_has ls 8 [(0, .ref b), (1, .ref (AD 0)), (2, .ref (AD 82)), (3, .ref (AD 89)), (4, .int (zI 0))]) : W p l e room_1 s m #[Value.ref b] below meth c H locs (90 + (0 : Int).toNat) (1370 + 6 * (0 : Int).toNat) (lw_Z below #[Value.ref b] s) (F0 m 23 ls []) := by
  obtain ⟨hx, hb, hr, hml, hown, hts0, hX, hbl, hlocks, hgv⟩ := C0
  have hown : s.vm.findClass "RingMatchesLaw" = some m.cls := hown
  have hts : ∀ w ∈ WS, w.before #[Value.ref b] s = true := fun w h => hts0 w (List.mem_filter.mp h).1
  have hbA : ¬ A b := fun h => absurd (hA2 _ h) (by omega)
  obtain ⟨xz, hxy⟩ : ∃ f : Int → Int, ∀ z : Int, inI (f z) ∧ xs (zI z).toNatClampNeg = zI (f z) := Classical.axiomOfChoice (fun z : Int => zI_of (xs (zI z).toNatClampNeg))
  have hxi : ∀ z : Int, inI (xz z) := fun z => (hxy z).1
  have hxz : ∀ z : Int, xs (zI z).toNatClampNeg = zI (xz z) := fun z => (hxy z).2
  have lp : ∀ (n9 : Nat) (x : Int) (th : Int) (C : Int → va_E) (H : Heap) (locs : List Loc) (ls : Array Slot), (0 ≤ x ∧ x ≤ (L : Int) + 4) → (INV k AD C (12 * x) th) → ((L : Int) + 4 - x).toNat < n9 → WD D clW A s.heap H locs N AD C → lv_has ls 8 [(0, .ref b), (1, .ref (AD 0)), (2, .ref (AD 82)), (3, .ref (AD 89)), (4, .int (zI x))] → W p l e room_1 s m #[Value.ref b] below meth c H locs (90 + x.toNat) (1370 + 6 * x.toNat) (lw_Z below #[Value.ref b] s) (F0 m 23 ls []) := by
    intro n9
    induction n9 with
    | zero => intro x th C H locs ls hx0 hinv  hm hw hl; exact absurd hm (by omega)
    | succ n9 ihlp =>
      intro x th C H locs ls hx0 hinv  hm hw hl
      refine lv_iload hx hb d_L_law_23 (lv_at hl 4 rfl) ?_
      refine lv_aload_n hx hb d_L_law_25 rfl (lv_at hl 0 rfl) ?_
      refine va_slen hx hb hX hbl hbA hw.2.2 d_L_law_26 ?_
      rw [zI_len L]
      refine zr_iconst hx hb d_L_law_27 ?_
      refine zr_isub hx hb d_L_law_28 ?_
      refine zr_icmp_gt (tgt := 1005) hx hb ⟨by omega, by omega⟩ ⟨by omega, by omega⟩ d_L_law_29 (by decide) (fun c1 => ?_) (fun c1 => ?_)
      · refine zr_iconst hx hb d_L_law_1005 ?_
        rw [zI_1]
        refine va_forget (fun q hq => hA2 _ (hw.2.2.2.2 q hq)) ?_
        refine W.widen (k := 617651) (n := 7243151) (by omega) (by omega) ?_
        exact lw_ret hx hb hr hlocks d_L_law_1006
      · obtain ⟨pn, pf, kc, nn, ww, ee, lc, pm, pS, pN, pR, pT, pA, oS, oN, oR, oT, oA, tr, sn, sw, se, q0, q1, q2, q3, q4, mb, ak, fa, fb, mn, mr, ma, ab, bl, mz, mw, mS, mN, mR, of, hI, htr⟩ := id hinv
        obtain ⟨hRI, hM, h83, h84, h85, h86, h87, h88, hout, hmz, hrel, hlst, hfab, hra⟩ := id hI
        obtain ⟨_, _, _, _, _, _, _, _, _, _, _, _, _, _, _, _, _, hpn9, hkc9, hlc9, htr0, hpf9, hok9, hlb9⟩ := id hRI
        refine lv_aload_n hx hb d_L_law_32 rfl (lv_at hl 0 rfl) ?_
        refine lv_iload hx hb d_L_law_33 (lv_at hl 4 rfl) ?_
        refine va_sld hx hb hX hbl hbA hw.2.2 (zI_in (by omega) (by omega) (by omega)) d_L_law_35 ?_
        rw [hxz x]
        refine zr_bipush hx hb d_L_law_36 (by decide) ?_
        refine lv_iand hx hb d_L_law_38 ?_
        obtain ⟨d0, hd0, ed0⟩ := zI_of (zI (xz x) &&& zI 15)
        rw [ed0]
        by_cases hsw : d0 < 0 ∨ 12 < d0
        · refine lv_tableOut (tgt := 999) hx hb d_L_law_39 (by rw [zI_toInt ⟨by omega, by omega⟩]; exact hsw) (by decide) ?_
          refine W.widen (k := 90 + (x + 4).toNat) (n := 1370 + 6 * (x + 4).toNat) (by omega) (by omega) ?_
          refine lv_iinc (v := zI (x + 4)) (lv' := [(4, .int (zI (x + 4))), (0, .ref b), (1, .ref (AD 0)), (2, .ref (AD 82)), (3, .ref (AD 89))]) hx hb d_L_law_999 hl (k := 4) rfl (zI_add _ _) (by decide) rfl (fun ls hl => ?_)
          refine lv_goto (tgt := 23) hx hb d_L_law_1002 (by decide) ?_
          exact ihlp (x + 4) th C H locs ls (by omega) (INV_mono hinv (by omega))  (by omega) hw (lv_sub hl [1, 2, 3, 4, 0] rfl)
        · rcases (show d0 = 0 ∨ d0 = 1 ∨ d0 = 2 ∨ d0 = 3 ∨ d0 = 4 ∨ d0 = 5 ∨ d0 = 6 ∨ d0 = 7 ∨ d0 = 8 ∨ d0 = 9 ∨ d0 = 10 ∨ d0 = 11 ∨ d0 = 12 by omega) with hv9 | hv9 | hv9 | hv9 | hv9 | hv9 | hv9 | hv9 | hv9 | hv9 | hv9 | hv9 | hv9
          · refine lv_tableIn (tgt := 104) (off := 65) hx hb d_L_law_39 (by rw [zI_toInt ⟨by omega, by omega⟩]; omega) (by rw [zI_toInt ⟨by omega, by omega⟩]; omega) (by rw [zI_toInt ⟨by omega, by omega⟩, hv9]; rfl) (by decide) ?_
            refine lv_aload_n hx hb d_L_law_104 rfl (lv_at hl 1 rfl) ?_
            refine lv_aload_n hx hb d_L_law_105 rfl (lv_at hl 0 rfl) ?_
            refine lv_iload hx hb d_L_law_106 (lv_at hl 4 rfl) ?_
            refine zr_iconst hx hb d_L_law_108 ?_
            refine zr_iadd hx hb d_L_law_109 ?_
            refine va_sld hx hb hX hbl hbA hw.2.2 (zI_in (by omega) (by omega) (by omega)) d_L_law_110 ?_
            rw [hxz (x + 1)]
            refine lv_aload_n hx hb d_L_law_111 rfl (lv_at hl 0 rfl) ?_
            refine lv_iload hx hb d_L_law_112 (lv_at hl 4 rfl) ?_
            refine zr_iconst hx hb d_L_law_114 ?_
            refine zr_iadd hx hb d_L_law_115 ?_
            refine va_sld hx hb hX hbl hbA hw.2.2 (zI_in (by omega) (by omega) (by omega)) d_L_law_116 ?_
            rw [hxz (x + 2)]
            refine lv_aload_n hx hb d_L_law_117 rfl (lv_at hl 3 rfl) ?_
            refine zr_xcallI (vx_runSX (As := [.ref (AD 0), .int (zI (xz (x + 1))), .int (zI (xz (x + 2))), .ref (AD 89)]) (rest := []) ⟨hx, hb, hml, hown, hts⟩ (c_L_unit l D k N AD C H.size hlt pn pf kc nn ww ee lc pm pS pN pR pT pA oS oN oR oT oA tr sn sw se q0 q1 q2 q3 q4 mb ak (xz (x + 1)) (xz (x + 2)) of hN hRI hout (hxi _) (hxi _)) (vx_cwSW 4 hts (good_S wk_142 wk_143 wk_26 wk_144) rfl rfl rfl (by decide +kernel) ⟨Nat.le_of_ble_eq_true rfl, Nat.le_of_ble_eq_true rfl⟩) (yPre_S hK hw hA hxc hnc) rfl rfl hl.1 rfl (lv_room (Nat.le_of_ble_eq_true rfl)) d_L_law_118 ⟨by show (90 + x.toNat) + 1 ≤ 617651; omega, by show (1370 + 6 * x.toNat) + 6 ≤ 7243151; omega⟩) hw hA (fun E9 ce9 q9 H locs hxp hw h91 h92 h93 => hxp.elim) (fun rk Ck H locs hk hw => ?_)
            have hM : Ck 82 = .inr (4, [.int (zI th), .int (zI pn), .ref (AD 83), .int (zI kc), .ref (AD 84), .ref (AD 85), .int (zI tr), .int (zI lc), .int (zI fa), .int (zI fb), .ref (AD 86), .ref (AD 87), .ref (AD 88), .int (zI mn), .int (zI mr), .int (zI ma), .long (zL ab), .long (zL bl)]) := (hk.2 82 (by omega) (by omega)).trans hM
            have h83 : Ck 83 = aI (k 0) 100 pf := (hk.2 83 (by omega) (by omega)).trans h83
            have h84 : Ck 84 = aI (k 0) 9 mz := (hk.2 84 (by omega) (by omega)).trans h84
            have h85 : Ck 85 = aI (k 0) 216 mw := (hk.2 85 (by omega) (by omega)).trans h85
            have h86 : Ck 86 = aI (k 0) 48 mS := (hk.2 86 (by omega) (by omega)).trans h86
            have h87 : Ck 87 = aI (k 0) 48 mN := (hk.2 87 (by omega) (by omega)).trans h87
            have h88 : Ck 88 = aI (k 0) 48 mR := (hk.2 88 (by omega) (by omega)).trans h88
            refine lv_istore (lv' := [(5, .int rk), (0, .ref b), (1, .ref (AD 0)), (2, .ref (AD 82)), (3, .ref (AD 89)), (4, .int (zI x))]) hx hb d_L_law_121 hl (by decide) rfl (fun ls hl => ?_)
            refine lv_aload_n hx hb d_L_law_123 rfl (lv_at hl 3 rfl) ?_
            refine lv_aload_n hx hb d_L_law_124 rfl (lv_at hl 1 rfl) ?_
            refine lv_iload hx hb d_L_law_125 (lv_at hl 5 rfl) ?_
            refine zr_iconst hx hb d_L_law_127 ?_
            refine zr_iadd hx hb d_L_law_128 ?_
            refine va_sld hx hb hX hbl hbA hw.2.2 (zI_in (by omega) (by omega) (by omega)) d_L_law_129 ?_
            rw [hxz (x + 1)]
            refine lv_aload_n hx hb d_L_law_130 rfl (lv_at hl 1 rfl) ?_
            refine lv_iload hx hb d_L_law_131 (lv_at hl 5 rfl) ?_
            refine zr_iconst hx hb d_L_law_133 ?_
            refine zr_iadd hx hb d_L_law_134 ?_
            refine va_sld hx hb hX hbl hbA hw.2.2 (zI_in (by omega) (by omega) (by omega)) d_L_law_135 ?_
            rw [hxz (x + 2)]
            refine zr_callI (va_runV (As := [.int (zI (xz (x + 1))), .int (zI (xz (x + 2)))]) (rest := []) ⟨hx, hb, hml, hown, hts⟩ (c_M_unit l D k N AD Ck H.size th pn kc tr lc fa fb mn mr ma ab bl pf (xz (x + 1)) (xz (x + 2)) hN hM h83 hpn9) (cwV 2 hts (good_V wk_565 wk_566 wk_567 wk_31 wk_568) rfl rfl rfl (by decide +kernel) ⟨Nat.le_of_ble_eq_true rfl, Nat.le_of_ble_eq_true rfl⟩) (cPre_V hK hw 82 ⟨by omega, by omega⟩ hM rfl) rfl rfl hl.1 rfl (lv_room (Nat.le_of_ble_eq_true rfl)) d_L_law_136 ⟨by show ((90 + x.toNat) + 1) + 0 ≤ 617651; omega, by show ((1370 + 6 * x.toNat) + 6) + 0 ≤ 7243151; omega⟩) hw hA (fun rb Cb H locs hb9 hw => ?_)
            obtain ⟨u, hu, hku, hinv2, hval⟩ := st_unit hI htr hk hb9
            replace hval : VLI k Cb of rb u := hval
            clear hk hb9
            subst hku
            obtain ⟨pn2, pf2, kc2, nn2, ww2, ee2, lc2, pm2, pS2, pN2, pR2, pT2, pA2, oS2, oN2, oR2, oT2, oA2, tr2, sn2, sw2, se2, q02, q12, q22, q32, q42, mb2, ak2, fa2, fb2, mn2, mr2, ma2, ab2, bl2, mz2, mw2, mS2, mN2, mR2, of2, hI2, htr2⟩ := id hinv2
            have hM2 := hI2.2.1
            refine lv_istore (lv' := [(6, .int rb), (5, .int (zI u)), (0, .ref b), (1, .ref (AD 0)), (2, .ref (AD 82)), (3, .ref (AD 89)), (4, .int (zI x))]) hx hb d_L_law_139 hl (by decide) rfl (fun ls hl => ?_)
            refine lv_aload_n hx hb d_L_law_141 rfl (lv_at hl 4 rfl) ?_
            refine zr_callI (va_runV (As := []) (rest := []) ⟨hx, hb, hml, hown, hts⟩ (c_M_thrown l D k N AD Cb H.size u pn2 kc2 tr2 lc2 fa2 fb2 mn2 mr2 ma2 ab2 bl2 hN hM2) (cwV 0 hts (good_V wk_561 wk_562 wk_563 wk_31 wk_564) rfl rfl rfl (by decide +kernel) ⟨Nat.le_of_ble_eq_true rfl, Nat.le_of_ble_eq_true rfl⟩) (cPre_V hK hw 82 ⟨by omega, by omega⟩ hM2 rfl) rfl rfl hl.1 rfl (lv_room (Nat.le_of_ble_eq_true rfl)) d_L_law_142 ⟨by show ((90 + x.toNat) + 1) + 0 ≤ 617651; omega, by show ((1370 + 6 * x.toNat) + 6) + 0 ≤ 7243151; omega⟩) hw hA (fun r9 C9 H locs hq hw => ?_)
            obtain ⟨hr9, hCe⟩ := hq
            rw [hCe] at hw; subst hr9
            refine lv_iload hx hb d_L_law_145 (lv_at hl 1 rfl) ?_
            refine zr_icmp_eq (tgt := 152) hx hb ⟨by omega, by omega⟩ ⟨by omega, by omega⟩ d_L_law_147 (by decide) (fun c2 => ?_) (fun c2 => ?_)
            · refine lv_iload hx hb d_L_law_152 (lv_at hl 1 rfl) ?_
              refine zr_if_ne (tgt := 169) hx hb ⟨by omega, by omega⟩ d_L_law_154 (by decide) (fun c3 => ?_) (fun c3 => ?_)
              · refine lv_goto (tgt := 999) hx hb d_L_law_169 (by decide) ?_
                refine W.widen (k := 90 + (x + 4).toNat) (n := 1370 + 6 * (x + 4).toNat) (by omega) (by omega) ?_
                refine lv_iinc (v := zI (x + 4)) (lv' := [(4, .int (zI (x + 4))), (6, .int rb), (5, .int (zI u)), (0, .ref b), (1, .ref (AD 0)), (2, .ref (AD 82)), (3, .ref (AD 89))]) hx hb d_L_law_999 hl (k := 6) rfl (zI_add _ _) (by decide) rfl (fun ls hl => ?_)
                refine lv_goto (tgt := 23) hx hb d_L_law_1002 (by decide) ?_
                exact ihlp (x + 4) u Cb H locs ls (by omega) (INV_mono hinv2 (by omega))  (by omega) hw (lv_sub hl [3, 4, 5, 6, 0] rfl)
              · obtain ⟨v9, hv9, hrb9, hb89⟩ := hval (by omega)
                subst hrb9
                refine lv_aload_n hx hb d_L_law_157 rfl (lv_at hl 5 rfl) ?_
                refine zr_iconst hx hb d_L_law_158 ?_
                refine zr_lald hx hb hK hw 89 ⟨by omega, by omega⟩ 2 hb89 rfl ⟨by omega, by omega⟩ (by decide) d_L_law_159 ?_
                rw [zup_s]
                refine lv_iload hx hb d_L_law_160 (lv_at hl 0 rfl) ?_
                refine zr_i2l hx hb d_L_law_162 ⟨by omega, by omega⟩ ?_
                refine zr_lcmp_eq (tgt := 169) hx hb ⟨by omega, by omega⟩ ⟨by omega, by omega⟩ d_L_law_163 d_L_law_164 (by decide) (fun c4 => ?_) (fun c4 => ?_)
                · refine lv_goto (tgt := 999) hx hb d_L_law_169 (by decide) ?_
                  refine W.widen (k := 90 + (x + 4).toNat) (n := 1370 + 6 * (x + 4).toNat) (by omega) (by omega) ?_
                  refine lv_iinc (v := zI (x + 4)) (lv' := [(4, .int (zI (x + 4))), (6, .int (zI v9)), (5, .int (zI u)), (0, .ref b), (1, .ref (AD 0)), (2, .ref (AD 82)), (3, .ref (AD 89))]) hx hb d_L_law_999 hl (k := 6) rfl (zI_add _ _) (by decide) rfl (fun ls hl => ?_)
                  refine lv_goto (tgt := 23) hx hb d_L_law_1002 (by decide) ?_
                  exact ihlp (x + 4) u Cb H locs ls (by omega) (INV_mono hinv2 (by omega))  (by omega) hw (lv_sub hl [3, 4, 5, 6, 0] rfl)
                · exact absurd c4 (by omega)
            · exact absurd c2 (by omega)
          · refine lv_tableIn (tgt := 172) (off := 133) hx hb d_L_law_39 (by rw [zI_toInt ⟨by omega, by omega⟩]; omega) (by rw [zI_toInt ⟨by omega, by omega⟩]; omega) (by rw [zI_toInt ⟨by omega, by omega⟩, hv9]; rfl) (by decide) ?_
            refine lv_aload_n hx hb d_L_law_172 rfl (lv_at hl 1 rfl) ?_
            refine lv_aload_n hx hb d_L_law_173 rfl (lv_at hl 3 rfl) ?_
            refine zr_xcallI (vx_runSX (As := [.ref (AD 0), .ref (AD 89)]) (rest := []) ⟨hx, hb, hml, hown, hts⟩ (c_L_read l D k N AD C H.size hlt pn pf kc nn ww ee lc pm pS pN pR pT pA oS oN oR oT oA tr sn sw se q0 q1 q2 q3 q4 mb ak  of hN hRI hout ) (vx_cwSW 2 hts (good_S wk_248 wk_249 wk_26 wk_250) rfl rfl rfl (by decide +kernel) ⟨Nat.le_of_ble_eq_true rfl, Nat.le_of_ble_eq_true rfl⟩) (yPre_S hK hw hA hxc hnc) rfl rfl hl.1 rfl (lv_room (Nat.le_of_ble_eq_true rfl)) d_L_law_174 ⟨by show (90 + x.toNat) + 1 ≤ 617651; omega, by show (1370 + 6 * x.toNat) + 6 ≤ 7243151; omega⟩) hw hA (fun E9 ce9 q9 H locs hxp hw h91 h92 h93 => hxp.elim) (fun rk Ck H locs hk hw => ?_)
            have hM : Ck 82 = .inr (4, [.int (zI th), .int (zI pn), .ref (AD 83), .int (zI kc), .ref (AD 84), .ref (AD 85), .int (zI tr), .int (zI lc), .int (zI fa), .int (zI fb), .ref (AD 86), .ref (AD 87), .ref (AD 88), .int (zI mn), .int (zI mr), .int (zI ma), .long (zL ab), .long (zL bl)]) := (hk.2 82 (by omega) (by omega)).trans hM
            have h83 : Ck 83 = aI (k 0) 100 pf := (hk.2 83 (by omega) (by omega)).trans h83
            have h84 : Ck 84 = aI (k 0) 9 mz := (hk.2 84 (by omega) (by omega)).trans h84
            have h85 : Ck 85 = aI (k 0) 216 mw := (hk.2 85 (by omega) (by omega)).trans h85
            have h86 : Ck 86 = aI (k 0) 48 mS := (hk.2 86 (by omega) (by omega)).trans h86
            have h87 : Ck 87 = aI (k 0) 48 mN := (hk.2 87 (by omega) (by omega)).trans h87
            have h88 : Ck 88 = aI (k 0) 48 mR := (hk.2 88 (by omega) (by omega)).trans h88
            refine lv_istore (lv' := [(5, .int rk), (0, .ref b), (1, .ref (AD 0)), (2, .ref (AD 82)), (3, .ref (AD 89)), (4, .int (zI x))]) hx hb d_L_law_177 hl (by decide) rfl (fun ls hl => ?_)
            refine lv_aload_n hx hb d_L_law_179 rfl (lv_at hl 3 rfl) ?_
            refine zr_callI (va_runV (As := []) (rest := []) ⟨hx, hb, hml, hown, hts⟩ (c_M_read l D k N AD Ck H.size th pn kc tr lc fa fb mn mr ma ab bl mz mw pf hN hM h84 h85 hmz hkc9 h83 hpf9 hpn9) (cwV 0 hts (good_V wk_586 wk_587 wk_588 wk_31 wk_589) rfl rfl rfl (by decide +kernel) ⟨Nat.le_of_ble_eq_true rfl, Nat.le_of_ble_eq_true rfl⟩) (cPre_V hK hw 82 ⟨by omega, by omega⟩ hM rfl) rfl rfl hl.1 rfl (lv_room (Nat.le_of_ble_eq_true rfl)) d_L_law_180 ⟨by show ((90 + x.toNat) + 1) + 0 ≤ 617651; omega, by show ((1370 + 6 * x.toNat) + 6) + 0 ≤ 7243151; omega⟩) hw hA (fun rb Cb H locs hb9 hw => ?_)
            obtain ⟨u, hu, hku, hinv2, hval⟩ := st_read hI htr hk hb9
            replace hval : VLI k Cb of rb u := hval
            clear hk hb9
            subst hku
            obtain ⟨pn2, pf2, kc2, nn2, ww2, ee2, lc2, pm2, pS2, pN2, pR2, pT2, pA2, oS2, oN2, oR2, oT2, oA2, tr2, sn2, sw2, se2, q02, q12, q22, q32, q42, mb2, ak2, fa2, fb2, mn2, mr2, ma2, ab2, bl2, mz2, mw2, mS2, mN2, mR2, of2, hI2, htr2⟩ := id hinv2
            have hM2 := hI2.2.1
            refine lv_istore (lv' := [(6, .int rb), (5, .int (zI u)), (0, .ref b), (1, .ref (AD 0)), (2, .ref (AD 82)), (3, .ref (AD 89)), (4, .int (zI x))]) hx hb d_L_law_183 hl (by decide) rfl (fun ls hl => ?_)
            refine lv_aload_n hx hb d_L_law_185 rfl (lv_at hl 4 rfl) ?_
            refine zr_callI (va_runV (As := []) (rest := []) ⟨hx, hb, hml, hown, hts⟩ (c_M_thrown l D k N AD Cb H.size u pn2 kc2 tr2 lc2 fa2 fb2 mn2 mr2 ma2 ab2 bl2 hN hM2) (cwV 0 hts (good_V wk_561 wk_562 wk_563 wk_31 wk_564) rfl rfl rfl (by decide +kernel) ⟨Nat.le_of_ble_eq_true rfl, Nat.le_of_ble_eq_true rfl⟩) (cPre_V hK hw 82 ⟨by omega, by omega⟩ hM2 rfl) rfl rfl hl.1 rfl (lv_room (Nat.le_of_ble_eq_true rfl)) d_L_law_186 ⟨by show ((90 + x.toNat) + 1) + 0 ≤ 617651; omega, by show ((1370 + 6 * x.toNat) + 6) + 0 ≤ 7243151; omega⟩) hw hA (fun r9 C9 H locs hq hw => ?_)
            obtain ⟨hr9, hCe⟩ := hq
            rw [hCe] at hw; subst hr9
            refine lv_iload hx hb d_L_law_189 (lv_at hl 1 rfl) ?_
            refine zr_icmp_eq (tgt := 196) hx hb ⟨by omega, by omega⟩ ⟨by omega, by omega⟩ d_L_law_191 (by decide) (fun c5 => ?_) (fun c5 => ?_)
            · refine lv_iload hx hb d_L_law_196 (lv_at hl 1 rfl) ?_
              refine zr_if_ne (tgt := 213) hx hb ⟨by omega, by omega⟩ d_L_law_198 (by decide) (fun c6 => ?_) (fun c6 => ?_)
              · refine lv_goto (tgt := 999) hx hb d_L_law_213 (by decide) ?_
                refine W.widen (k := 90 + (x + 4).toNat) (n := 1370 + 6 * (x + 4).toNat) (by omega) (by omega) ?_
                refine lv_iinc (v := zI (x + 4)) (lv' := [(4, .int (zI (x + 4))), (6, .int rb), (5, .int (zI u)), (0, .ref b), (1, .ref (AD 0)), (2, .ref (AD 82)), (3, .ref (AD 89))]) hx hb d_L_law_999 hl (k := 6) rfl (zI_add _ _) (by decide) rfl (fun ls hl => ?_)
                refine lv_goto (tgt := 23) hx hb d_L_law_1002 (by decide) ?_
                exact ihlp (x + 4) u Cb H locs ls (by omega) (INV_mono hinv2 (by omega))  (by omega) hw (lv_sub hl [3, 4, 5, 6, 0] rfl)
              · obtain ⟨v9, hv9, hrb9, hb89⟩ := hval (by omega)
                subst hrb9
                refine lv_aload_n hx hb d_L_law_201 rfl (lv_at hl 5 rfl) ?_
                refine zr_iconst hx hb d_L_law_202 ?_
                refine zr_lald hx hb hK hw 89 ⟨by omega, by omega⟩ 2 hb89 rfl ⟨by omega, by omega⟩ (by decide) d_L_law_203 ?_
                rw [zup_s]
                refine lv_iload hx hb d_L_law_204 (lv_at hl 0 rfl) ?_
                refine zr_i2l hx hb d_L_law_206 ⟨by omega, by omega⟩ ?_
                refine zr_lcmp_eq (tgt := 213) hx hb ⟨by omega, by omega⟩ ⟨by omega, by omega⟩ d_L_law_207 d_L_law_208 (by decide) (fun c7 => ?_) (fun c7 => ?_)
                · refine lv_goto (tgt := 999) hx hb d_L_law_213 (by decide) ?_
                  refine W.widen (k := 90 + (x + 4).toNat) (n := 1370 + 6 * (x + 4).toNat) (by omega) (by omega) ?_
                  refine lv_iinc (v := zI (x + 4)) (lv' := [(4, .int (zI (x + 4))), (6, .int (zI v9)), (5, .int (zI u)), (0, .ref b), (1, .ref (AD 0)), (2, .ref (AD 82)), (3, .ref (AD 89))]) hx hb d_L_law_999 hl (k := 6) rfl (zI_add _ _) (by decide) rfl (fun ls hl => ?_)
                  refine lv_goto (tgt := 23) hx hb d_L_law_1002 (by decide) ?_
                  exact ihlp (x + 4) u Cb H locs ls (by omega) (INV_mono hinv2 (by omega))  (by omega) hw (lv_sub hl [3, 4, 5, 6, 0] rfl)
                · exact absurd c7 (by omega)
            · exact absurd c5 (by omega)
          · refine lv_tableIn (tgt := 216) (off := 177) hx hb d_L_law_39 (by rw [zI_toInt ⟨by omega, by omega⟩]; omega) (by rw [zI_toInt ⟨by omega, by omega⟩]; omega) (by rw [zI_toInt ⟨by omega, by omega⟩, hv9]; rfl) (by decide) ?_
            refine lv_aload_n hx hb d_L_law_216 rfl (lv_at hl 1 rfl) ?_
            refine lv_aload_n hx hb d_L_law_217 rfl (lv_at hl 0 rfl) ?_
            refine lv_iload hx hb d_L_law_218 (lv_at hl 4 rfl) ?_
            refine zr_iconst hx hb d_L_law_220 ?_
            refine zr_iadd hx hb d_L_law_221 ?_
            refine va_sld hx hb hX hbl hbA hw.2.2 (zI_in (by omega) (by omega) (by omega)) d_L_law_222 ?_
            rw [hxz (x + 1)]
            refine lv_aload_n hx hb d_L_law_223 rfl (lv_at hl 0 rfl) ?_
            refine lv_iload hx hb d_L_law_224 (lv_at hl 4 rfl) ?_
            refine zr_iconst hx hb d_L_law_226 ?_
            refine zr_iadd hx hb d_L_law_227 ?_
            refine va_sld hx hb hX hbl hbA hw.2.2 (zI_in (by omega) (by omega) (by omega)) d_L_law_228 ?_
            rw [hxz (x + 2)]
            refine lv_aload_n hx hb d_L_law_229 rfl (lv_at hl 3 rfl) ?_
            refine zr_xcallI (vx_runSX (As := [.ref (AD 0), .int (zI (xz (x + 1))), .int (zI (xz (x + 2))), .ref (AD 89)]) (rest := []) ⟨hx, hb, hml, hown, hts⟩ (c_L_width l D k N AD C H.size hlt pn pf kc nn ww ee lc pm pS pN pR pT pA oS oN oR oT oA tr sn sw se q0 q1 q2 q3 q4 mb ak (xz (x + 1)) (xz (x + 2)) of hN hRI hout (hxi _) (hxi _)) (vx_cwSW 4 hts (good_S wk_290 wk_291 wk_26 wk_292) rfl rfl rfl (by decide +kernel) ⟨Nat.le_of_ble_eq_true rfl, Nat.le_of_ble_eq_true rfl⟩) (yPre_S hK hw hA hxc hnc) rfl rfl hl.1 rfl (lv_room (Nat.le_of_ble_eq_true rfl)) d_L_law_230 ⟨by show (90 + x.toNat) + 2 ≤ 617651; omega, by show (1370 + 6 * x.toNat) + 12 ≤ 7243151; omega⟩) hw hA (fun E9 ce9 q9 H locs hxp hw h91 h92 h93 => hxp.elim) (fun rk Ck H locs hk hw => ?_)
            have hM : Ck 82 = .inr (4, [.int (zI th), .int (zI pn), .ref (AD 83), .int (zI kc), .ref (AD 84), .ref (AD 85), .int (zI tr), .int (zI lc), .int (zI fa), .int (zI fb), .ref (AD 86), .ref (AD 87), .ref (AD 88), .int (zI mn), .int (zI mr), .int (zI ma), .long (zL ab), .long (zL bl)]) := (hk.2 82 (by omega) (by omega)).trans hM
            have h83 : Ck 83 = aI (k 0) 100 pf := (hk.2 83 (by omega) (by omega)).trans h83
            have h84 : Ck 84 = aI (k 0) 9 mz := (hk.2 84 (by omega) (by omega)).trans h84
            have h85 : Ck 85 = aI (k 0) 216 mw := (hk.2 85 (by omega) (by omega)).trans h85
            have h86 : Ck 86 = aI (k 0) 48 mS := (hk.2 86 (by omega) (by omega)).trans h86
            have h87 : Ck 87 = aI (k 0) 48 mN := (hk.2 87 (by omega) (by omega)).trans h87
            have h88 : Ck 88 = aI (k 0) 48 mR := (hk.2 88 (by omega) (by omega)).trans h88
            refine lv_istore (lv' := [(5, .int rk), (0, .ref b), (1, .ref (AD 0)), (2, .ref (AD 82)), (3, .ref (AD 89)), (4, .int (zI x))]) hx hb d_L_law_233 hl (by decide) rfl (fun ls hl => ?_)
            refine lv_aload_n hx hb d_L_law_235 rfl (lv_at hl 3 rfl) ?_
            refine lv_aload_n hx hb d_L_law_236 rfl (lv_at hl 1 rfl) ?_
            refine lv_iload hx hb d_L_law_237 (lv_at hl 5 rfl) ?_
            refine zr_iconst hx hb d_L_law_239 ?_
            refine zr_iadd hx hb d_L_law_240 ?_
            refine va_sld hx hb hX hbl hbA hw.2.2 (zI_in (by omega) (by omega) (by omega)) d_L_law_241 ?_
            rw [hxz (x + 1)]
            refine lv_aload_n hx hb d_L_law_242 rfl (lv_at hl 1 rfl) ?_
            refine lv_iload hx hb d_L_law_243 (lv_at hl 5 rfl) ?_
            refine zr_iconst hx hb d_L_law_245 ?_
            refine zr_iadd hx hb d_L_law_246 ?_
            refine va_sld hx hb hX hbl hbA hw.2.2 (zI_in (by omega) (by omega) (by omega)) d_L_law_247 ?_
            rw [hxz (x + 2)]
            refine zr_callI (va_runV (As := [.int (zI (xz (x + 1))), .int (zI (xz (x + 2)))]) (rest := []) ⟨hx, hb, hml, hown, hts⟩ (c_M_width l D k N AD Ck H.size th pn kc tr lc fa fb mn mr ma ab bl mz mw (xz (x + 1)) (xz (x + 2)) hN hM h84 h85 hmz hkc9 (fun i h1 h2 => (hrel i h1 h2).2.1) (hxi _) (hxi _)) (cwV 2 hts (good_V wk_594 wk_595 wk_596 wk_31 wk_597) rfl rfl rfl (by decide +kernel) ⟨Nat.le_of_ble_eq_true rfl, Nat.le_of_ble_eq_true rfl⟩) (cPre_V hK hw 82 ⟨by omega, by omega⟩ hM rfl) rfl rfl hl.1 rfl (lv_room (Nat.le_of_ble_eq_true rfl)) d_L_law_248 ⟨by show ((90 + x.toNat) + 2) + 0 ≤ 617651; omega, by show ((1370 + 6 * x.toNat) + 12) + 0 ≤ 7243151; omega⟩) hw hA (fun rb Cb H locs hb9 hw => ?_)
            obtain ⟨u, hu, hku, hinv2, hval⟩ := st_width hI htr hk hb9
            replace hval : VLI k Cb of rb u := hval
            clear hk hb9
            subst hku
            obtain ⟨pn2, pf2, kc2, nn2, ww2, ee2, lc2, pm2, pS2, pN2, pR2, pT2, pA2, oS2, oN2, oR2, oT2, oA2, tr2, sn2, sw2, se2, q02, q12, q22, q32, q42, mb2, ak2, fa2, fb2, mn2, mr2, ma2, ab2, bl2, mz2, mw2, mS2, mN2, mR2, of2, hI2, htr2⟩ := id hinv2
            have hM2 := hI2.2.1
            refine lv_istore (lv' := [(6, .int rb), (5, .int (zI u)), (0, .ref b), (1, .ref (AD 0)), (2, .ref (AD 82)), (3, .ref (AD 89)), (4, .int (zI x))]) hx hb d_L_law_251 hl (by decide) rfl (fun ls hl => ?_)
            refine lv_aload_n hx hb d_L_law_253 rfl (lv_at hl 4 rfl) ?_
            refine zr_callI (va_runV (As := []) (rest := []) ⟨hx, hb, hml, hown, hts⟩ (c_M_thrown l D k N AD Cb H.size u pn2 kc2 tr2 lc2 fa2 fb2 mn2 mr2 ma2 ab2 bl2 hN hM2) (cwV 0 hts (good_V wk_561 wk_562 wk_563 wk_31 wk_564) rfl rfl rfl (by decide +kernel) ⟨Nat.le_of_ble_eq_true rfl, Nat.le_of_ble_eq_true rfl⟩) (cPre_V hK hw 82 ⟨by omega, by omega⟩ hM2 rfl) rfl rfl hl.1 rfl (lv_room (Nat.le_of_ble_eq_true rfl)) d_L_law_254 ⟨by show ((90 + x.toNat) + 2) + 0 ≤ 617651; omega, by show ((1370 + 6 * x.toNat) + 12) + 0 ≤ 7243151; omega⟩) hw hA (fun r9 C9 H locs hq hw => ?_)
            obtain ⟨hr9, hCe⟩ := hq
            rw [hCe] at hw; subst hr9
            refine lv_iload hx hb d_L_law_257 (lv_at hl 1 rfl) ?_
            refine zr_icmp_eq (tgt := 264) hx hb ⟨by omega, by omega⟩ ⟨by omega, by omega⟩ d_L_law_259 (by decide) (fun c8 => ?_) (fun c8 => ?_)
            · refine lv_iload hx hb d_L_law_264 (lv_at hl 1 rfl) ?_
              refine zr_if_ne (tgt := 281) hx hb ⟨by omega, by omega⟩ d_L_law_266 (by decide) (fun c9 => ?_) (fun c9 => ?_)
              · refine lv_goto (tgt := 999) hx hb d_L_law_281 (by decide) ?_
                refine W.widen (k := 90 + (x + 4).toNat) (n := 1370 + 6 * (x + 4).toNat) (by omega) (by omega) ?_
                refine lv_iinc (v := zI (x + 4)) (lv' := [(4, .int (zI (x + 4))), (6, .int rb), (5, .int (zI u)), (0, .ref b), (1, .ref (AD 0)), (2, .ref (AD 82)), (3, .ref (AD 89))]) hx hb d_L_law_999 hl (k := 6) rfl (zI_add _ _) (by decide) rfl (fun ls hl => ?_)
                refine lv_goto (tgt := 23) hx hb d_L_law_1002 (by decide) ?_
                exact ihlp (x + 4) u Cb H locs ls (by omega) (INV_mono hinv2 (by omega))  (by omega) hw (lv_sub hl [3, 4, 5, 6, 0] rfl)
              · obtain ⟨v9, hv9, hrb9, hb89⟩ := hval (by omega)
                subst hrb9
                refine lv_aload_n hx hb d_L_law_269 rfl (lv_at hl 5 rfl) ?_
                refine zr_iconst hx hb d_L_law_270 ?_
                refine zr_lald hx hb hK hw 89 ⟨by omega, by omega⟩ 2 hb89 rfl ⟨by omega, by omega⟩ (by decide) d_L_law_271 ?_
                rw [zup_s]
                refine lv_iload hx hb d_L_law_272 (lv_at hl 0 rfl) ?_
                refine zr_i2l hx hb d_L_law_274 ⟨by omega, by omega⟩ ?_
                refine zr_lcmp_eq (tgt := 281) hx hb ⟨by omega, by omega⟩ ⟨by omega, by omega⟩ d_L_law_275 d_L_law_276 (by decide) (fun c10 => ?_) (fun c10 => ?_)
                · refine lv_goto (tgt := 999) hx hb d_L_law_281 (by decide) ?_
                  refine W.widen (k := 90 + (x + 4).toNat) (n := 1370 + 6 * (x + 4).toNat) (by omega) (by omega) ?_
                  refine lv_iinc (v := zI (x + 4)) (lv' := [(4, .int (zI (x + 4))), (6, .int (zI v9)), (5, .int (zI u)), (0, .ref b), (1, .ref (AD 0)), (2, .ref (AD 82)), (3, .ref (AD 89))]) hx hb d_L_law_999 hl (k := 6) rfl (zI_add _ _) (by decide) rfl (fun ls hl => ?_)
                  refine lv_goto (tgt := 23) hx hb d_L_law_1002 (by decide) ?_
                  exact ihlp (x + 4) u Cb H locs ls (by omega) (INV_mono hinv2 (by omega))  (by omega) hw (lv_sub hl [3, 4, 5, 6, 0] rfl)
                · exact absurd c10 (by omega)
            · exact absurd c8 (by omega)
          · refine lv_tableIn (tgt := 284) (off := 245) hx hb d_L_law_39 (by rw [zI_toInt ⟨by omega, by omega⟩]; omega) (by rw [zI_toInt ⟨by omega, by omega⟩]; omega) (by rw [zI_toInt ⟨by omega, by omega⟩, hv9]; rfl) (by decide) ?_
            refine lv_aload_n hx hb d_L_law_284 rfl (lv_at hl 1 rfl) ?_
            refine lv_aload_n hx hb d_L_law_285 rfl (lv_at hl 0 rfl) ?_
            refine lv_iload hx hb d_L_law_286 (lv_at hl 4 rfl) ?_
            refine zr_iconst hx hb d_L_law_288 ?_
            refine zr_iadd hx hb d_L_law_289 ?_
            refine va_sld hx hb hX hbl hbA hw.2.2 (zI_in (by omega) (by omega) (by omega)) d_L_law_290 ?_
            rw [hxz (x + 1)]
            refine lv_aload_n hx hb d_L_law_291 rfl (lv_at hl 0 rfl) ?_
            refine lv_iload hx hb d_L_law_292 (lv_at hl 4 rfl) ?_
            refine zr_iconst hx hb d_L_law_294 ?_
            refine zr_iadd hx hb d_L_law_295 ?_
            refine va_sld hx hb hX hbl hbA hw.2.2 (zI_in (by omega) (by omega) (by omega)) d_L_law_296 ?_
            rw [hxz (x + 2)]
            refine lv_aload_n hx hb d_L_law_297 rfl (lv_at hl 3 rfl) ?_
            refine zr_xcallI (vx_runSX (As := [.ref (AD 0), .int (zI (xz (x + 1))), .int (zI (xz (x + 2))), .ref (AD 89)]) (rest := []) ⟨hx, hb, hml, hown, hts⟩ (c_L_written l D k N AD C H.size hlt pn pf kc nn ww ee lc pm pS pN pR pT pA oS oN oR oT oA tr sn sw se q0 q1 q2 q3 q4 mb ak (xz (x + 1)) (xz (x + 2)) of hN hRI hout (hxi _) (hxi _)) (vx_cwSW 4 hts (good_S wk_321 wk_322 wk_26 wk_323) rfl rfl rfl (by decide +kernel) ⟨Nat.le_of_ble_eq_true rfl, Nat.le_of_ble_eq_true rfl⟩) (yPre_S hK hw hA hxc hnc) rfl rfl hl.1 rfl (lv_room (Nat.le_of_ble_eq_true rfl)) d_L_law_298 ⟨by show (90 + x.toNat) + 2 ≤ 617651; omega, by show (1370 + 6 * x.toNat) + 12 ≤ 7243151; omega⟩) hw hA (fun E9 ce9 q9 H locs hxp hw h91 h92 h93 => hxp.elim) (fun rk Ck H locs hk hw => ?_)
            have hM : Ck 82 = .inr (4, [.int (zI th), .int (zI pn), .ref (AD 83), .int (zI kc), .ref (AD 84), .ref (AD 85), .int (zI tr), .int (zI lc), .int (zI fa), .int (zI fb), .ref (AD 86), .ref (AD 87), .ref (AD 88), .int (zI mn), .int (zI mr), .int (zI ma), .long (zL ab), .long (zL bl)]) := (hk.2 82 (by omega) (by omega)).trans hM
            have h83 : Ck 83 = aI (k 0) 100 pf := (hk.2 83 (by omega) (by omega)).trans h83
            have h84 : Ck 84 = aI (k 0) 9 mz := (hk.2 84 (by omega) (by omega)).trans h84
            have h85 : Ck 85 = aI (k 0) 216 mw := (hk.2 85 (by omega) (by omega)).trans h85
            have h86 : Ck 86 = aI (k 0) 48 mS := (hk.2 86 (by omega) (by omega)).trans h86
            have h87 : Ck 87 = aI (k 0) 48 mN := (hk.2 87 (by omega) (by omega)).trans h87
            have h88 : Ck 88 = aI (k 0) 48 mR := (hk.2 88 (by omega) (by omega)).trans h88
            refine lv_istore (lv' := [(5, .int rk), (0, .ref b), (1, .ref (AD 0)), (2, .ref (AD 82)), (3, .ref (AD 89)), (4, .int (zI x))]) hx hb d_L_law_301 hl (by decide) rfl (fun ls hl => ?_)
            refine lv_aload_n hx hb d_L_law_303 rfl (lv_at hl 3 rfl) ?_
            refine lv_aload_n hx hb d_L_law_304 rfl (lv_at hl 1 rfl) ?_
            refine lv_iload hx hb d_L_law_305 (lv_at hl 5 rfl) ?_
            refine zr_iconst hx hb d_L_law_307 ?_
            refine zr_iadd hx hb d_L_law_308 ?_
            refine va_sld hx hb hX hbl hbA hw.2.2 (zI_in (by omega) (by omega) (by omega)) d_L_law_309 ?_
            rw [hxz (x + 1)]
            refine lv_aload_n hx hb d_L_law_310 rfl (lv_at hl 1 rfl) ?_
            refine lv_iload hx hb d_L_law_311 (lv_at hl 5 rfl) ?_
            refine zr_iconst hx hb d_L_law_313 ?_
            refine zr_iadd hx hb d_L_law_314 ?_
            refine va_sld hx hb hX hbl hbA hw.2.2 (zI_in (by omega) (by omega) (by omega)) d_L_law_315 ?_
            rw [hxz (x + 2)]
            refine zr_callI (va_runV (As := [.int (zI (xz (x + 1))), .int (zI (xz (x + 2)))]) (rest := []) ⟨hx, hb, hml, hown, hts⟩ (c_M_written l D k N AD Ck H.size th pn kc tr lc fa fb mn mr ma ab bl mz mw (xz (x + 1)) (xz (x + 2)) hN hM h84 h85 hmz hkc9 (fun i h1 h2 => (hrel i h1 h2).2.1) (hxi _) (hxi _)) (cwV 2 hts (good_V wk_606 wk_607 wk_608 wk_31 wk_609) rfl rfl rfl (by decide +kernel) ⟨Nat.le_of_ble_eq_true rfl, Nat.le_of_ble_eq_true rfl⟩) (cPre_V hK hw 82 ⟨by omega, by omega⟩ hM rfl) rfl rfl hl.1 rfl (lv_room (Nat.le_of_ble_eq_true rfl)) d_L_law_316 ⟨by show ((90 + x.toNat) + 2) + 0 ≤ 617651; omega, by show ((1370 + 6 * x.toNat) + 12) + 0 ≤ 7243151; omega⟩) hw hA (fun rb Cb H locs hb9 hw => ?_)
            obtain ⟨u, hu, hku, hinv2, hval⟩ := st_written hI htr hk hb9
            replace hval : VLI k Cb of rb u := hval
            clear hk hb9
            subst hku
            obtain ⟨pn2, pf2, kc2, nn2, ww2, ee2, lc2, pm2, pS2, pN2, pR2, pT2, pA2, oS2, oN2, oR2, oT2, oA2, tr2, sn2, sw2, se2, q02, q12, q22, q32, q42, mb2, ak2, fa2, fb2, mn2, mr2, ma2, ab2, bl2, mz2, mw2, mS2, mN2, mR2, of2, hI2, htr2⟩ := id hinv2
            have hM2 := hI2.2.1
            refine lv_istore (lv' := [(6, .int rb), (5, .int (zI u)), (0, .ref b), (1, .ref (AD 0)), (2, .ref (AD 82)), (3, .ref (AD 89)), (4, .int (zI x))]) hx hb d_L_law_319 hl (by decide) rfl (fun ls hl => ?_)
            refine lv_aload_n hx hb d_L_law_321 rfl (lv_at hl 4 rfl) ?_
            refine zr_callI (va_runV (As := []) (rest := []) ⟨hx, hb, hml, hown, hts⟩ (c_M_thrown l D k N AD Cb H.size u pn2 kc2 tr2 lc2 fa2 fb2 mn2 mr2 ma2 ab2 bl2 hN hM2) (cwV 0 hts (good_V wk_561 wk_562 wk_563 wk_31 wk_564) rfl rfl rfl (by decide +kernel) ⟨Nat.le_of_ble_eq_true rfl, Nat.le_of_ble_eq_true rfl⟩) (cPre_V hK hw 82 ⟨by omega, by omega⟩ hM2 rfl) rfl rfl hl.1 rfl (lv_room (Nat.le_of_ble_eq_true rfl)) d_L_law_322 ⟨by show ((90 + x.toNat) + 2) + 0 ≤ 617651; omega, by show ((1370 + 6 * x.toNat) + 12) + 0 ≤ 7243151; omega⟩) hw hA (fun r9 C9 H locs hq hw => ?_)
            obtain ⟨hr9, hCe⟩ := hq
            rw [hCe] at hw; subst hr9
            refine lv_iload hx hb d_L_law_325 (lv_at hl 1 rfl) ?_
            refine zr_icmp_eq (tgt := 332) hx hb ⟨by omega, by omega⟩ ⟨by omega, by omega⟩ d_L_law_327 (by decide) (fun c11 => ?_) (fun c11 => ?_)
            · refine lv_iload hx hb d_L_law_332 (lv_at hl 1 rfl) ?_
              refine zr_if_ne (tgt := 349) hx hb ⟨by omega, by omega⟩ d_L_law_334 (by decide) (fun c12 => ?_) (fun c12 => ?_)
              · refine lv_goto (tgt := 999) hx hb d_L_law_349 (by decide) ?_
                refine W.widen (k := 90 + (x + 4).toNat) (n := 1370 + 6 * (x + 4).toNat) (by omega) (by omega) ?_
                refine lv_iinc (v := zI (x + 4)) (lv' := [(4, .int (zI (x + 4))), (6, .int rb), (5, .int (zI u)), (0, .ref b), (1, .ref (AD 0)), (2, .ref (AD 82)), (3, .ref (AD 89))]) hx hb d_L_law_999 hl (k := 6) rfl (zI_add _ _) (by decide) rfl (fun ls hl => ?_)
                refine lv_goto (tgt := 23) hx hb d_L_law_1002 (by decide) ?_
                exact ihlp (x + 4) u Cb H locs ls (by omega) (INV_mono hinv2 (by omega))  (by omega) hw (lv_sub hl [3, 4, 5, 6, 0] rfl)
              · obtain ⟨v9, hv9, hrb9, hb89⟩ := hval (by omega)
                subst hrb9
                refine lv_aload_n hx hb d_L_law_337 rfl (lv_at hl 5 rfl) ?_
                refine zr_iconst hx hb d_L_law_338 ?_
                refine zr_lald hx hb hK hw 89 ⟨by omega, by omega⟩ 2 hb89 rfl ⟨by omega, by omega⟩ (by decide) d_L_law_339 ?_
                rw [zup_s]
                refine lv_iload hx hb d_L_law_340 (lv_at hl 0 rfl) ?_
                refine zr_i2l hx hb d_L_law_342 ⟨by omega, by omega⟩ ?_
                refine zr_lcmp_eq (tgt := 349) hx hb ⟨by omega, by omega⟩ ⟨by omega, by omega⟩ d_L_law_343 d_L_law_344 (by decide) (fun c13 => ?_) (fun c13 => ?_)
                · refine lv_goto (tgt := 999) hx hb d_L_law_349 (by decide) ?_
                  refine W.widen (k := 90 + (x + 4).toNat) (n := 1370 + 6 * (x + 4).toNat) (by omega) (by omega) ?_
                  refine lv_iinc (v := zI (x + 4)) (lv' := [(4, .int (zI (x + 4))), (6, .int (zI v9)), (5, .int (zI u)), (0, .ref b), (1, .ref (AD 0)), (2, .ref (AD 82)), (3, .ref (AD 89))]) hx hb d_L_law_999 hl (k := 6) rfl (zI_add _ _) (by decide) rfl (fun ls hl => ?_)
                  refine lv_goto (tgt := 23) hx hb d_L_law_1002 (by decide) ?_
                  exact ihlp (x + 4) u Cb H locs ls (by omega) (INV_mono hinv2 (by omega))  (by omega) hw (lv_sub hl [3, 4, 5, 6, 0] rfl)
                · exact absurd c13 (by omega)
            · exact absurd c11 (by omega)
          · refine lv_tableIn (tgt := 352) (off := 313) hx hb d_L_law_39 (by rw [zI_toInt ⟨by omega, by omega⟩]; omega) (by rw [zI_toInt ⟨by omega, by omega⟩]; omega) (by rw [zI_toInt ⟨by omega, by omega⟩, hv9]; rfl) (by decide) ?_
            refine lv_aload_n hx hb d_L_law_352 rfl (lv_at hl 1 rfl) ?_
            refine lv_aload_n hx hb d_L_law_353 rfl (lv_at hl 0 rfl) ?_
            refine lv_iload hx hb d_L_law_354 (lv_at hl 4 rfl) ?_
            refine zr_iconst hx hb d_L_law_356 ?_
            refine zr_iadd hx hb d_L_law_357 ?_
            refine va_sld hx hb hX hbl hbA hw.2.2 (zI_in (by omega) (by omega) (by omega)) d_L_law_358 ?_
            rw [hxz (x + 1)]
            refine lv_aload_n hx hb d_L_law_359 rfl (lv_at hl 0 rfl) ?_
            refine lv_iload hx hb d_L_law_360 (lv_at hl 4 rfl) ?_
            refine zr_iconst hx hb d_L_law_362 ?_
            refine zr_iadd hx hb d_L_law_363 ?_
            refine va_sld hx hb hX hbl hbA hw.2.2 (zI_in (by omega) (by omega) (by omega)) d_L_law_364 ?_
            rw [hxz (x + 2)]
            refine lv_aload_n hx hb d_L_law_365 rfl (lv_at hl 3 rfl) ?_
            refine zr_xcallI (vx_runSX (As := [.ref (AD 0), .int (zI (xz (x + 1))), .int (zI (xz (x + 2))), .ref (AD 89)]) (rest := []) ⟨hx, hb, hml, hown, hts⟩ (c_L_evened l D k N AD C H.size hlt pn pf kc nn ww ee lc pm pS pN pR pT pA oS oN oR oT oA tr sn sw se q0 q1 q2 q3 q4 mb ak (xz (x + 1)) (xz (x + 2)) of hN hRI hout (hxi _) (hxi _)) (vx_cwSW 4 hts (good_S wk_343 wk_344 wk_26 wk_345) rfl rfl rfl (by decide +kernel) ⟨Nat.le_of_ble_eq_true rfl, Nat.le_of_ble_eq_true rfl⟩) (yPre_S hK hw hA hxc hnc) rfl rfl hl.1 rfl (lv_room (Nat.le_of_ble_eq_true rfl)) d_L_law_366 ⟨by show (90 + x.toNat) + 2 ≤ 617651; omega, by show (1370 + 6 * x.toNat) + 12 ≤ 7243151; omega⟩) hw hA (fun E9 ce9 q9 H locs hxp hw h91 h92 h93 => hxp.elim) (fun rk Ck H locs hk hw => ?_)
            have hM : Ck 82 = .inr (4, [.int (zI th), .int (zI pn), .ref (AD 83), .int (zI kc), .ref (AD 84), .ref (AD 85), .int (zI tr), .int (zI lc), .int (zI fa), .int (zI fb), .ref (AD 86), .ref (AD 87), .ref (AD 88), .int (zI mn), .int (zI mr), .int (zI ma), .long (zL ab), .long (zL bl)]) := (hk.2 82 (by omega) (by omega)).trans hM
            have h83 : Ck 83 = aI (k 0) 100 pf := (hk.2 83 (by omega) (by omega)).trans h83
            have h84 : Ck 84 = aI (k 0) 9 mz := (hk.2 84 (by omega) (by omega)).trans h84
            have h85 : Ck 85 = aI (k 0) 216 mw := (hk.2 85 (by omega) (by omega)).trans h85
            have h86 : Ck 86 = aI (k 0) 48 mS := (hk.2 86 (by omega) (by omega)).trans h86
            have h87 : Ck 87 = aI (k 0) 48 mN := (hk.2 87 (by omega) (by omega)).trans h87
            have h88 : Ck 88 = aI (k 0) 48 mR := (hk.2 88 (by omega) (by omega)).trans h88
            refine lv_istore (lv' := [(5, .int rk), (0, .ref b), (1, .ref (AD 0)), (2, .ref (AD 82)), (3, .ref (AD 89)), (4, .int (zI x))]) hx hb d_L_law_369 hl (by decide) rfl (fun ls hl => ?_)
            refine lv_aload_n hx hb d_L_law_371 rfl (lv_at hl 3 rfl) ?_
            refine lv_aload_n hx hb d_L_law_372 rfl (lv_at hl 1 rfl) ?_
            refine lv_iload hx hb d_L_law_373 (lv_at hl 5 rfl) ?_
            refine zr_iconst hx hb d_L_law_375 ?_
            refine zr_iadd hx hb d_L_law_376 ?_
            refine va_sld hx hb hX hbl hbA hw.2.2 (zI_in (by omega) (by omega) (by omega)) d_L_law_377 ?_
            rw [hxz (x + 1)]
            refine lv_aload_n hx hb d_L_law_378 rfl (lv_at hl 1 rfl) ?_
            refine lv_iload hx hb d_L_law_379 (lv_at hl 5 rfl) ?_
            refine zr_iconst hx hb d_L_law_381 ?_
            refine zr_iadd hx hb d_L_law_382 ?_
            refine va_sld hx hb hX hbl hbA hw.2.2 (zI_in (by omega) (by omega) (by omega)) d_L_law_383 ?_
            rw [hxz (x + 2)]
            refine zr_callI (va_runV (As := [.int (zI (xz (x + 1))), .int (zI (xz (x + 2)))]) (rest := []) ⟨hx, hb, hml, hown, hts⟩ (c_M_evened l D k N AD Ck H.size th pn kc tr lc fa fb mn mr ma ab bl mz mw (xz (x + 1)) (xz (x + 2)) hN hM h84 h85 hmz hkc9 (fun i h1 h2 => (hrel i h1 h2).2.1) (hxi _) (hxi _)) (cwV 2 hts (good_V wk_614 wk_615 wk_616 wk_31 wk_617) rfl rfl rfl (by decide +kernel) ⟨Nat.le_of_ble_eq_true rfl, Nat.le_of_ble_eq_true rfl⟩) (cPre_V hK hw 82 ⟨by omega, by omega⟩ hM rfl) rfl rfl hl.1 rfl (lv_room (Nat.le_of_ble_eq_true rfl)) d_L_law_384 ⟨by show ((90 + x.toNat) + 2) + 0 ≤ 617651; omega, by show ((1370 + 6 * x.toNat) + 12) + 0 ≤ 7243151; omega⟩) hw hA (fun rb Cb H locs hb9 hw => ?_)
            obtain ⟨u, hu, hku, hinv2, hval⟩ := st_evened hI htr hk hb9
            replace hval : VLI k Cb of rb u := hval
            clear hk hb9
            subst hku
            obtain ⟨pn2, pf2, kc2, nn2, ww2, ee2, lc2, pm2, pS2, pN2, pR2, pT2, pA2, oS2, oN2, oR2, oT2, oA2, tr2, sn2, sw2, se2, q02, q12, q22, q32, q42, mb2, ak2, fa2, fb2, mn2, mr2, ma2, ab2, bl2, mz2, mw2, mS2, mN2, mR2, of2, hI2, htr2⟩ := id hinv2
            have hM2 := hI2.2.1
            refine lv_istore (lv' := [(6, .int rb), (5, .int (zI u)), (0, .ref b), (1, .ref (AD 0)), (2, .ref (AD 82)), (3, .ref (AD 89)), (4, .int (zI x))]) hx hb d_L_law_387 hl (by decide) rfl (fun ls hl => ?_)
            refine lv_aload_n hx hb d_L_law_389 rfl (lv_at hl 4 rfl) ?_
            refine zr_callI (va_runV (As := []) (rest := []) ⟨hx, hb, hml, hown, hts⟩ (c_M_thrown l D k N AD Cb H.size u pn2 kc2 tr2 lc2 fa2 fb2 mn2 mr2 ma2 ab2 bl2 hN hM2) (cwV 0 hts (good_V wk_561 wk_562 wk_563 wk_31 wk_564) rfl rfl rfl (by decide +kernel) ⟨Nat.le_of_ble_eq_true rfl, Nat.le_of_ble_eq_true rfl⟩) (cPre_V hK hw 82 ⟨by omega, by omega⟩ hM2 rfl) rfl rfl hl.1 rfl (lv_room (Nat.le_of_ble_eq_true rfl)) d_L_law_390 ⟨by show ((90 + x.toNat) + 2) + 0 ≤ 617651; omega, by show ((1370 + 6 * x.toNat) + 12) + 0 ≤ 7243151; omega⟩) hw hA (fun r9 C9 H locs hq hw => ?_)
            obtain ⟨hr9, hCe⟩ := hq
            rw [hCe] at hw; subst hr9
            refine lv_iload hx hb d_L_law_393 (lv_at hl 1 rfl) ?_
            refine zr_icmp_eq (tgt := 400) hx hb ⟨by omega, by omega⟩ ⟨by omega, by omega⟩ d_L_law_395 (by decide) (fun c14 => ?_) (fun c14 => ?_)
            · refine lv_iload hx hb d_L_law_400 (lv_at hl 1 rfl) ?_
              refine zr_if_ne (tgt := 417) hx hb ⟨by omega, by omega⟩ d_L_law_402 (by decide) (fun c15 => ?_) (fun c15 => ?_)
              · refine lv_goto (tgt := 999) hx hb d_L_law_417 (by decide) ?_
                refine W.widen (k := 90 + (x + 4).toNat) (n := 1370 + 6 * (x + 4).toNat) (by omega) (by omega) ?_
                refine lv_iinc (v := zI (x + 4)) (lv' := [(4, .int (zI (x + 4))), (6, .int rb), (5, .int (zI u)), (0, .ref b), (1, .ref (AD 0)), (2, .ref (AD 82)), (3, .ref (AD 89))]) hx hb d_L_law_999 hl (k := 6) rfl (zI_add _ _) (by decide) rfl (fun ls hl => ?_)
                refine lv_goto (tgt := 23) hx hb d_L_law_1002 (by decide) ?_
                exact ihlp (x + 4) u Cb H locs ls (by omega) (INV_mono hinv2 (by omega))  (by omega) hw (lv_sub hl [3, 4, 5, 6, 0] rfl)
              · obtain ⟨v9, hv9, hrb9, hb89⟩ := hval (by omega)
                subst hrb9
                refine lv_aload_n hx hb d_L_law_405 rfl (lv_at hl 5 rfl) ?_
                refine zr_iconst hx hb d_L_law_406 ?_
                refine zr_lald hx hb hK hw 89 ⟨by omega, by omega⟩ 2 hb89 rfl ⟨by omega, by omega⟩ (by decide) d_L_law_407 ?_
                rw [zup_s]
                refine lv_iload hx hb d_L_law_408 (lv_at hl 0 rfl) ?_
                refine zr_i2l hx hb d_L_law_410 ⟨by omega, by omega⟩ ?_
                refine zr_lcmp_eq (tgt := 417) hx hb ⟨by omega, by omega⟩ ⟨by omega, by omega⟩ d_L_law_411 d_L_law_412 (by decide) (fun c16 => ?_) (fun c16 => ?_)
                · refine lv_goto (tgt := 999) hx hb d_L_law_417 (by decide) ?_
                  refine W.widen (k := 90 + (x + 4).toNat) (n := 1370 + 6 * (x + 4).toNat) (by omega) (by omega) ?_
                  refine lv_iinc (v := zI (x + 4)) (lv' := [(4, .int (zI (x + 4))), (6, .int (zI v9)), (5, .int (zI u)), (0, .ref b), (1, .ref (AD 0)), (2, .ref (AD 82)), (3, .ref (AD 89))]) hx hb d_L_law_999 hl (k := 6) rfl (zI_add _ _) (by decide) rfl (fun ls hl => ?_)
                  refine lv_goto (tgt := 23) hx hb d_L_law_1002 (by decide) ?_
                  exact ihlp (x + 4) u Cb H locs ls (by omega) (INV_mono hinv2 (by omega))  (by omega) hw (lv_sub hl [3, 4, 5, 6, 0] rfl)
                · exact absurd c16 (by omega)
            · exact absurd c14 (by omega)
          · refine lv_tableIn (tgt := 420) (off := 381) hx hb d_L_law_39 (by rw [zI_toInt ⟨by omega, by omega⟩]; omega) (by rw [zI_toInt ⟨by omega, by omega⟩]; omega) (by rw [zI_toInt ⟨by omega, by omega⟩, hv9]; rfl) (by decide) ?_
            refine lv_aload_n hx hb d_L_law_420 rfl (lv_at hl 1 rfl) ?_
            refine lv_aload_n hx hb d_L_law_421 rfl (lv_at hl 0 rfl) ?_
            refine lv_iload hx hb d_L_law_422 (lv_at hl 4 rfl) ?_
            refine zr_iconst hx hb d_L_law_424 ?_
            refine zr_iadd hx hb d_L_law_425 ?_
            refine va_sld hx hb hX hbl hbA hw.2.2 (zI_in (by omega) (by omega) (by omega)) d_L_law_426 ?_
            rw [hxz (x + 1)]
            refine lv_aload_n hx hb d_L_law_427 rfl (lv_at hl 0 rfl) ?_
            refine lv_iload hx hb d_L_law_428 (lv_at hl 4 rfl) ?_
            refine zr_iconst hx hb d_L_law_430 ?_
            refine zr_iadd hx hb d_L_law_431 ?_
            refine va_sld hx hb hX hbl hbA hw.2.2 (zI_in (by omega) (by omega) (by omega)) d_L_law_432 ?_
            rw [hxz (x + 2)]
            refine lv_aload_n hx hb d_L_law_433 rfl (lv_at hl 0 rfl) ?_
            refine lv_iload hx hb d_L_law_434 (lv_at hl 4 rfl) ?_
            refine zr_iconst hx hb d_L_law_436 ?_
            refine zr_iadd hx hb d_L_law_437 ?_
            refine va_sld hx hb hX hbl hbA hw.2.2 (zI_in (by omega) (by omega) (by omega)) d_L_law_438 ?_
            rw [hxz (x + 3)]
            refine lv_aload_n hx hb d_L_law_439 rfl (lv_at hl 3 rfl) ?_
            refine zr_xcallI (vx_runSX (As := [.ref (AD 0), .int (zI (xz (x + 1))), .int (zI (xz (x + 2))), .int (zI (xz (x + 3))), .ref (AD 89)]) (rest := []) ⟨hx, hb, hml, hown, hts⟩ (c_L_match l D k N AD C H.size hlt pn pf kc nn ww ee lc pm pS pN pR pT pA oS oN oR oT oA tr sn sw se q0 q1 q2 q3 q4 mb ak (xz (x + 1)) (xz (x + 2)) (xz (x + 3)) of hN hRI hout (hxi _) (hxi _) (hxi _) (by omega)) (vx_cwSW 5 hts (good_S wk_354 wk_355 wk_26 wk_356) rfl rfl rfl (by decide +kernel) ⟨Nat.le_of_ble_eq_true rfl, Nat.le_of_ble_eq_true rfl⟩) (yPre_S hK hw hA hxc hnc) rfl rfl hl.1 rfl (lv_room (Nat.le_of_ble_eq_true rfl)) d_L_law_440 ⟨by show (90 + x.toNat) + 3 ≤ 617651; omega, by show (1370 + 6 * x.toNat) + 18 ≤ 7243151; omega⟩) hw hA (fun E9 ce9 q9 H locs hxp hw h91 h92 h93 => hxp.elim) (fun rk Ck H locs hk hw => ?_)
            have hM : Ck 82 = .inr (4, [.int (zI th), .int (zI pn), .ref (AD 83), .int (zI kc), .ref (AD 84), .ref (AD 85), .int (zI tr), .int (zI lc), .int (zI fa), .int (zI fb), .ref (AD 86), .ref (AD 87), .ref (AD 88), .int (zI mn), .int (zI mr), .int (zI ma), .long (zL ab), .long (zL bl)]) := (hk.2 82 (by omega) (by omega)).trans hM
            have h83 : Ck 83 = aI (k 0) 100 pf := (hk.2 83 (by omega) (by omega)).trans h83
            have h84 : Ck 84 = aI (k 0) 9 mz := (hk.2 84 (by omega) (by omega)).trans h84
            have h85 : Ck 85 = aI (k 0) 216 mw := (hk.2 85 (by omega) (by omega)).trans h85
            have h86 : Ck 86 = aI (k 0) 48 mS := (hk.2 86 (by omega) (by omega)).trans h86
            have h87 : Ck 87 = aI (k 0) 48 mN := (hk.2 87 (by omega) (by omega)).trans h87
            have h88 : Ck 88 = aI (k 0) 48 mR := (hk.2 88 (by omega) (by omega)).trans h88
            refine lv_istore (lv' := [(5, .int rk), (0, .ref b), (1, .ref (AD 0)), (2, .ref (AD 82)), (3, .ref (AD 89)), (4, .int (zI x))]) hx hb d_L_law_443 hl (by decide) rfl (fun ls hl => ?_)
            refine lv_aload_n hx hb d_L_law_445 rfl (lv_at hl 3 rfl) ?_
            refine lv_aload_n hx hb d_L_law_446 rfl (lv_at hl 1 rfl) ?_
            refine lv_iload hx hb d_L_law_447 (lv_at hl 5 rfl) ?_
            refine zr_iconst hx hb d_L_law_449 ?_
            refine zr_iadd hx hb d_L_law_450 ?_
            refine va_sld hx hb hX hbl hbA hw.2.2 (zI_in (by omega) (by omega) (by omega)) d_L_law_451 ?_
            rw [hxz (x + 1)]
            refine lv_aload_n hx hb d_L_law_452 rfl (lv_at hl 1 rfl) ?_
            refine lv_iload hx hb d_L_law_453 (lv_at hl 5 rfl) ?_
            refine zr_iconst hx hb d_L_law_455 ?_
            refine zr_iadd hx hb d_L_law_456 ?_
            refine va_sld hx hb hX hbl hbA hw.2.2 (zI_in (by omega) (by omega) (by omega)) d_L_law_457 ?_
            rw [hxz (x + 2)]
            refine lv_aload_n hx hb d_L_law_458 rfl (lv_at hl 1 rfl) ?_
            refine lv_iload hx hb d_L_law_459 (lv_at hl 5 rfl) ?_
            refine zr_iconst hx hb d_L_law_461 ?_
            refine zr_iadd hx hb d_L_law_462 ?_
            refine va_sld hx hb hX hbl hbA hw.2.2 (zI_in (by omega) (by omega) (by omega)) d_L_law_463 ?_
            rw [hxz (x + 3)]
            refine zr_callI (va_runV (As := [.int (zI (xz (x + 1))), .int (zI (xz (x + 2))), .int (zI (xz (x + 3)))]) (rest := []) ⟨hx, hb, hml, hown, hts⟩ (c_M_match l D k N AD Ck H.size th pn kc tr lc fa fb mn mr ma ab bl mz mw mS mN mR (xz (x + 1)) (xz (x + 2)) (xz (x + 3)) hN hM h84 h85 hmz hkc9 h86 h87 h88 (fun i h1 h2 => (hrel i h1 h2).2.1) (fun i h1 h2 => by rw [(hrel i h1 h2).1]; exact (hok9 i h1 h2).1) (hxi _) (hxi _) (hxi _) ⟨htr0, by omega⟩) (cwV 3 hts (good_V wk_622 wk_623 wk_624 wk_31 wk_625) rfl rfl rfl (by decide +kernel) ⟨Nat.le_of_ble_eq_true rfl, Nat.le_of_ble_eq_true rfl⟩) (cPre_V hK hw 82 ⟨by omega, by omega⟩ hM rfl) rfl rfl hl.1 rfl (lv_room (Nat.le_of_ble_eq_true rfl)) d_L_law_464 ⟨by show ((90 + x.toNat) + 3) + 0 ≤ 617651; omega, by show ((1370 + 6 * x.toNat) + 18) + 0 ≤ 7243151; omega⟩) hw hA (fun rb Cb H locs hb9 hw => ?_)
            obtain ⟨u, hu, hku, hinv2, hval⟩ := st_match hI htr hk hb9
            replace hval : VLI k Cb of rb u := hval
            clear hk hb9
            subst hku
            obtain ⟨pn2, pf2, kc2, nn2, ww2, ee2, lc2, pm2, pS2, pN2, pR2, pT2, pA2, oS2, oN2, oR2, oT2, oA2, tr2, sn2, sw2, se2, q02, q12, q22, q32, q42, mb2, ak2, fa2, fb2, mn2, mr2, ma2, ab2, bl2, mz2, mw2, mS2, mN2, mR2, of2, hI2, htr2⟩ := id hinv2
            have hM2 := hI2.2.1
            refine lv_istore (lv' := [(6, .int rb), (5, .int (zI u)), (0, .ref b), (1, .ref (AD 0)), (2, .ref (AD 82)), (3, .ref (AD 89)), (4, .int (zI x))]) hx hb d_L_law_467 hl (by decide) rfl (fun ls hl => ?_)
            refine lv_aload_n hx hb d_L_law_469 rfl (lv_at hl 4 rfl) ?_
            refine zr_callI (va_runV (As := []) (rest := []) ⟨hx, hb, hml, hown, hts⟩ (c_M_thrown l D k N AD Cb H.size u pn2 kc2 tr2 lc2 fa2 fb2 mn2 mr2 ma2 ab2 bl2 hN hM2) (cwV 0 hts (good_V wk_561 wk_562 wk_563 wk_31 wk_564) rfl rfl rfl (by decide +kernel) ⟨Nat.le_of_ble_eq_true rfl, Nat.le_of_ble_eq_true rfl⟩) (cPre_V hK hw 82 ⟨by omega, by omega⟩ hM2 rfl) rfl rfl hl.1 rfl (lv_room (Nat.le_of_ble_eq_true rfl)) d_L_law_470 ⟨by show ((90 + x.toNat) + 3) + 0 ≤ 617651; omega, by show ((1370 + 6 * x.toNat) + 18) + 0 ≤ 7243151; omega⟩) hw hA (fun r9 C9 H locs hq hw => ?_)
            obtain ⟨hr9, hCe⟩ := hq
            rw [hCe] at hw; subst hr9
            refine lv_iload hx hb d_L_law_473 (lv_at hl 1 rfl) ?_
            refine zr_icmp_eq (tgt := 480) hx hb ⟨by omega, by omega⟩ ⟨by omega, by omega⟩ d_L_law_475 (by decide) (fun c17 => ?_) (fun c17 => ?_)
            · refine lv_iload hx hb d_L_law_480 (lv_at hl 1 rfl) ?_
              refine zr_if_ne (tgt := 497) hx hb ⟨by omega, by omega⟩ d_L_law_482 (by decide) (fun c18 => ?_) (fun c18 => ?_)
              · refine lv_goto (tgt := 999) hx hb d_L_law_497 (by decide) ?_
                refine W.widen (k := 90 + (x + 4).toNat) (n := 1370 + 6 * (x + 4).toNat) (by omega) (by omega) ?_
                refine lv_iinc (v := zI (x + 4)) (lv' := [(4, .int (zI (x + 4))), (6, .int rb), (5, .int (zI u)), (0, .ref b), (1, .ref (AD 0)), (2, .ref (AD 82)), (3, .ref (AD 89))]) hx hb d_L_law_999 hl (k := 6) rfl (zI_add _ _) (by decide) rfl (fun ls hl => ?_)
                refine lv_goto (tgt := 23) hx hb d_L_law_1002 (by decide) ?_
                exact ihlp (x + 4) u Cb H locs ls (by omega) (INV_mono hinv2 (by omega))  (by omega) hw (lv_sub hl [3, 4, 5, 6, 0] rfl)
              · obtain ⟨v9, hv9, hrb9, hb89⟩ := hval (by omega)
                subst hrb9
                refine lv_aload_n hx hb d_L_law_485 rfl (lv_at hl 5 rfl) ?_
                refine zr_iconst hx hb d_L_law_486 ?_
                refine zr_lald hx hb hK hw 89 ⟨by omega, by omega⟩ 2 hb89 rfl ⟨by omega, by omega⟩ (by decide) d_L_law_487 ?_
                rw [zup_s]
                refine lv_iload hx hb d_L_law_488 (lv_at hl 0 rfl) ?_
                refine zr_i2l hx hb d_L_law_490 ⟨by omega, by omega⟩ ?_
                refine zr_lcmp_eq (tgt := 497) hx hb ⟨by omega, by omega⟩ ⟨by omega, by omega⟩ d_L_law_491 d_L_law_492 (by decide) (fun c19 => ?_) (fun c19 => ?_)
                · refine lv_goto (tgt := 999) hx hb d_L_law_497 (by decide) ?_
                  refine W.widen (k := 90 + (x + 4).toNat) (n := 1370 + 6 * (x + 4).toNat) (by omega) (by omega) ?_
                  refine lv_iinc (v := zI (x + 4)) (lv' := [(4, .int (zI (x + 4))), (6, .int (zI v9)), (5, .int (zI u)), (0, .ref b), (1, .ref (AD 0)), (2, .ref (AD 82)), (3, .ref (AD 89))]) hx hb d_L_law_999 hl (k := 6) rfl (zI_add _ _) (by decide) rfl (fun ls hl => ?_)
                  refine lv_goto (tgt := 23) hx hb d_L_law_1002 (by decide) ?_
                  exact ihlp (x + 4) u Cb H locs ls (by omega) (INV_mono hinv2 (by omega))  (by omega) hw (lv_sub hl [3, 4, 5, 6, 0] rfl)
                · exact absurd c19 (by omega)
            · exact absurd c17 (by omega)
          · refine lv_tableIn (tgt := 500) (off := 461) hx hb d_L_law_39 (by rw [zI_toInt ⟨by omega, by omega⟩]; omega) (by rw [zI_toInt ⟨by omega, by omega⟩]; omega) (by rw [zI_toInt ⟨by omega, by omega⟩, hv9]; rfl) (by decide) ?_
            refine lv_aload_n hx hb d_L_law_500 rfl (lv_at hl 1 rfl) ?_
            refine lv_aload_n hx hb d_L_law_501 rfl (lv_at hl 0 rfl) ?_
            refine lv_iload hx hb d_L_law_502 (lv_at hl 4 rfl) ?_
            refine zr_iconst hx hb d_L_law_504 ?_
            refine zr_iadd hx hb d_L_law_505 ?_
            refine va_sld hx hb hX hbl hbA hw.2.2 (zI_in (by omega) (by omega) (by omega)) d_L_law_506 ?_
            rw [hxz (x + 1)]
            refine lv_aload_n hx hb d_L_law_507 rfl (lv_at hl 0 rfl) ?_
            refine lv_iload hx hb d_L_law_508 (lv_at hl 4 rfl) ?_
            refine zr_iconst hx hb d_L_law_510 ?_
            refine zr_iadd hx hb d_L_law_511 ?_
            refine va_sld hx hb hX hbl hbA hw.2.2 (zI_in (by omega) (by omega) (by omega)) d_L_law_512 ?_
            rw [hxz (x + 2)]
            refine lv_aload_n hx hb d_L_law_513 rfl (lv_at hl 3 rfl) ?_
            refine zr_xcallI (vx_runSX (As := [.ref (AD 0), .int (zI (xz (x + 1))), .int (zI (xz (x + 2))), .ref (AD 89)]) (rest := []) ⟨hx, hb, hml, hown, hts⟩ (c_L_overlap l D k N AD C H.size hlt pn pf kc nn ww ee lc pm pS pN pR pT pA oS oN oR oT oA tr sn sw se q0 q1 q2 q3 q4 mb ak (xz (x + 1)) (xz (x + 2)) of hN hRI hout (hxi _) (hxi _)) (vx_cwSW 4 hts (good_S wk_401 wk_402 wk_26 wk_403) rfl rfl rfl (by decide +kernel) ⟨Nat.le_of_ble_eq_true rfl, Nat.le_of_ble_eq_true rfl⟩) (yPre_S hK hw hA hxc hnc) rfl rfl hl.1 rfl (lv_room (Nat.le_of_ble_eq_true rfl)) d_L_law_514 ⟨by show (90 + x.toNat) + 2 ≤ 617651; omega, by show (1370 + 6 * x.toNat) + 12 ≤ 7243151; omega⟩) hw hA (fun E9 ce9 q9 H locs hxp hw h91 h92 h93 => hxp.elim) (fun rk Ck H locs hk hw => ?_)
            have hM : Ck 82 = .inr (4, [.int (zI th), .int (zI pn), .ref (AD 83), .int (zI kc), .ref (AD 84), .ref (AD 85), .int (zI tr), .int (zI lc), .int (zI fa), .int (zI fb), .ref (AD 86), .ref (AD 87), .ref (AD 88), .int (zI mn), .int (zI mr), .int (zI ma), .long (zL ab), .long (zL bl)]) := (hk.2 82 (by omega) (by omega)).trans hM
            have h83 : Ck 83 = aI (k 0) 100 pf := (hk.2 83 (by omega) (by omega)).trans h83
            have h84 : Ck 84 = aI (k 0) 9 mz := (hk.2 84 (by omega) (by omega)).trans h84
            have h85 : Ck 85 = aI (k 0) 216 mw := (hk.2 85 (by omega) (by omega)).trans h85
            have h86 : Ck 86 = aI (k 0) 48 mS := (hk.2 86 (by omega) (by omega)).trans h86
            have h87 : Ck 87 = aI (k 0) 48 mN := (hk.2 87 (by omega) (by omega)).trans h87
            have h88 : Ck 88 = aI (k 0) 48 mR := (hk.2 88 (by omega) (by omega)).trans h88
            refine lv_istore (lv' := [(5, .int rk), (0, .ref b), (1, .ref (AD 0)), (2, .ref (AD 82)), (3, .ref (AD 89)), (4, .int (zI x))]) hx hb d_L_law_517 hl (by decide) rfl (fun ls hl => ?_)
            refine lv_aload_n hx hb d_L_law_519 rfl (lv_at hl 3 rfl) ?_
            refine lv_aload_n hx hb d_L_law_520 rfl (lv_at hl 1 rfl) ?_
            refine lv_iload hx hb d_L_law_521 (lv_at hl 5 rfl) ?_
            refine zr_iconst hx hb d_L_law_523 ?_
            refine zr_iadd hx hb d_L_law_524 ?_
            refine va_sld hx hb hX hbl hbA hw.2.2 (zI_in (by omega) (by omega) (by omega)) d_L_law_525 ?_
            rw [hxz (x + 1)]
            refine lv_aload_n hx hb d_L_law_526 rfl (lv_at hl 1 rfl) ?_
            refine lv_iload hx hb d_L_law_527 (lv_at hl 5 rfl) ?_
            refine zr_iconst hx hb d_L_law_529 ?_
            refine zr_iadd hx hb d_L_law_530 ?_
            refine va_sld hx hb hX hbl hbA hw.2.2 (zI_in (by omega) (by omega) (by omega)) d_L_law_531 ?_
            rw [hxz (x + 2)]
            refine zr_callI (va_runV (As := [.int (zI (xz (x + 1))), .int (zI (xz (x + 2)))]) (rest := []) ⟨hx, hb, hml, hown, hts⟩ (c_M_overlap l D k N AD Ck H.size th pn kc tr lc fa fb mn mr ma ab bl mS mN mR (xz (x + 1)) (xz (x + 2)) hN hM h86 h87 h88 hlc9 (hxi _) (hxi _)) (cwV 2 hts (good_V wk_646 wk_647 wk_648 wk_31 wk_649) rfl rfl rfl (by decide +kernel) ⟨Nat.le_of_ble_eq_true rfl, Nat.le_of_ble_eq_true rfl⟩) (cPre_V hK hw 82 ⟨by omega, by omega⟩ hM rfl) rfl rfl hl.1 rfl (lv_room (Nat.le_of_ble_eq_true rfl)) d_L_law_532 ⟨by show ((90 + x.toNat) + 2) + 0 ≤ 617651; omega, by show ((1370 + 6 * x.toNat) + 12) + 0 ≤ 7243151; omega⟩) hw hA (fun rb Cb H locs hb9 hw => ?_)
            obtain ⟨u, hu, hku, hinv2, hval⟩ := st_overlap hI htr hk hb9
            replace hval : VLI k Cb of rb u := hval
            clear hk hb9
            subst hku
            obtain ⟨pn2, pf2, kc2, nn2, ww2, ee2, lc2, pm2, pS2, pN2, pR2, pT2, pA2, oS2, oN2, oR2, oT2, oA2, tr2, sn2, sw2, se2, q02, q12, q22, q32, q42, mb2, ak2, fa2, fb2, mn2, mr2, ma2, ab2, bl2, mz2, mw2, mS2, mN2, mR2, of2, hI2, htr2⟩ := id hinv2
            have hM2 := hI2.2.1
            refine lv_istore (lv' := [(6, .int rb), (5, .int (zI u)), (0, .ref b), (1, .ref (AD 0)), (2, .ref (AD 82)), (3, .ref (AD 89)), (4, .int (zI x))]) hx hb d_L_law_535 hl (by decide) rfl (fun ls hl => ?_)
            refine lv_aload_n hx hb d_L_law_537 rfl (lv_at hl 4 rfl) ?_
            refine zr_callI (va_runV (As := []) (rest := []) ⟨hx, hb, hml, hown, hts⟩ (c_M_thrown l D k N AD Cb H.size u pn2 kc2 tr2 lc2 fa2 fb2 mn2 mr2 ma2 ab2 bl2 hN hM2) (cwV 0 hts (good_V wk_561 wk_562 wk_563 wk_31 wk_564) rfl rfl rfl (by decide +kernel) ⟨Nat.le_of_ble_eq_true rfl, Nat.le_of_ble_eq_true rfl⟩) (cPre_V hK hw 82 ⟨by omega, by omega⟩ hM2 rfl) rfl rfl hl.1 rfl (lv_room (Nat.le_of_ble_eq_true rfl)) d_L_law_538 ⟨by show ((90 + x.toNat) + 2) + 0 ≤ 617651; omega, by show ((1370 + 6 * x.toNat) + 12) + 0 ≤ 7243151; omega⟩) hw hA (fun r9 C9 H locs hq hw => ?_)
            obtain ⟨hr9, hCe⟩ := hq
            rw [hCe] at hw; subst hr9
            refine lv_iload hx hb d_L_law_541 (lv_at hl 1 rfl) ?_
            refine zr_icmp_eq (tgt := 548) hx hb ⟨by omega, by omega⟩ ⟨by omega, by omega⟩ d_L_law_543 (by decide) (fun c20 => ?_) (fun c20 => ?_)
            · refine lv_iload hx hb d_L_law_548 (lv_at hl 1 rfl) ?_
              refine zr_if_ne (tgt := 565) hx hb ⟨by omega, by omega⟩ d_L_law_550 (by decide) (fun c21 => ?_) (fun c21 => ?_)
              · refine lv_goto (tgt := 999) hx hb d_L_law_565 (by decide) ?_
                refine W.widen (k := 90 + (x + 4).toNat) (n := 1370 + 6 * (x + 4).toNat) (by omega) (by omega) ?_
                refine lv_iinc (v := zI (x + 4)) (lv' := [(4, .int (zI (x + 4))), (6, .int rb), (5, .int (zI u)), (0, .ref b), (1, .ref (AD 0)), (2, .ref (AD 82)), (3, .ref (AD 89))]) hx hb d_L_law_999 hl (k := 6) rfl (zI_add _ _) (by decide) rfl (fun ls hl => ?_)
                refine lv_goto (tgt := 23) hx hb d_L_law_1002 (by decide) ?_
                exact ihlp (x + 4) u Cb H locs ls (by omega) (INV_mono hinv2 (by omega))  (by omega) hw (lv_sub hl [3, 4, 5, 6, 0] rfl)
              · obtain ⟨v9, hv9, hrb9, hb89⟩ := hval (by omega)
                subst hrb9
                refine lv_aload_n hx hb d_L_law_553 rfl (lv_at hl 5 rfl) ?_
                refine zr_iconst hx hb d_L_law_554 ?_
                refine zr_lald hx hb hK hw 89 ⟨by omega, by omega⟩ 2 hb89 rfl ⟨by omega, by omega⟩ (by decide) d_L_law_555 ?_
                rw [zup_s]
                refine lv_iload hx hb d_L_law_556 (lv_at hl 0 rfl) ?_
                refine zr_i2l hx hb d_L_law_558 ⟨by omega, by omega⟩ ?_
                refine zr_lcmp_eq (tgt := 565) hx hb ⟨by omega, by omega⟩ ⟨by omega, by omega⟩ d_L_law_559 d_L_law_560 (by decide) (fun c22 => ?_) (fun c22 => ?_)
                · refine lv_goto (tgt := 999) hx hb d_L_law_565 (by decide) ?_
                  refine W.widen (k := 90 + (x + 4).toNat) (n := 1370 + 6 * (x + 4).toNat) (by omega) (by omega) ?_
                  refine lv_iinc (v := zI (x + 4)) (lv' := [(4, .int (zI (x + 4))), (6, .int (zI v9)), (5, .int (zI u)), (0, .ref b), (1, .ref (AD 0)), (2, .ref (AD 82)), (3, .ref (AD 89))]) hx hb d_L_law_999 hl (k := 6) rfl (zI_add _ _) (by decide) rfl (fun ls hl => ?_)
                  refine lv_goto (tgt := 23) hx hb d_L_law_1002 (by decide) ?_
                  exact ihlp (x + 4) u Cb H locs ls (by omega) (INV_mono hinv2 (by omega))  (by omega) hw (lv_sub hl [3, 4, 5, 6, 0] rfl)
                · exact absurd c22 (by omega)
            · exact absurd c20 (by omega)
          · refine lv_tableIn (tgt := 568) (off := 529) hx hb d_L_law_39 (by rw [zI_toInt ⟨by omega, by omega⟩]; omega) (by rw [zI_toInt ⟨by omega, by omega⟩]; omega) (by rw [zI_toInt ⟨by omega, by omega⟩, hv9]; rfl) (by decide) ?_
            refine lv_aload_n hx hb d_L_law_568 rfl (lv_at hl 1 rfl) ?_
            refine lv_aload_n hx hb d_L_law_569 rfl (lv_at hl 0 rfl) ?_
            refine lv_iload hx hb d_L_law_570 (lv_at hl 4 rfl) ?_
            refine zr_iconst hx hb d_L_law_572 ?_
            refine zr_iadd hx hb d_L_law_573 ?_
            refine va_sld hx hb hX hbl hbA hw.2.2 (zI_in (by omega) (by omega) (by omega)) d_L_law_574 ?_
            rw [hxz (x + 1)]
            refine lv_aload_n hx hb d_L_law_575 rfl (lv_at hl 0 rfl) ?_
            refine lv_iload hx hb d_L_law_576 (lv_at hl 4 rfl) ?_
            refine zr_iconst hx hb d_L_law_578 ?_
            refine zr_iadd hx hb d_L_law_579 ?_
            refine va_sld hx hb hX hbl hbA hw.2.2 (zI_in (by omega) (by omega) (by omega)) d_L_law_580 ?_
            rw [hxz (x + 2)]
            refine lv_aload_n hx hb d_L_law_581 rfl (lv_at hl 3 rfl) ?_
            refine zr_xcallI (vx_runSX (As := [.ref (AD 0), .int (zI (xz (x + 1))), .int (zI (xz (x + 2))), .ref (AD 89)]) (rest := []) ⟨hx, hb, hml, hown, hts⟩ (c_L_agree l D k N AD C H.size hlt pn pf kc nn ww ee lc pm pS pN pR pT pA oS oN oR oT oA tr sn sw se q0 q1 q2 q3 q4 mb ak (xz (x + 1)) (xz (x + 2)) of hN hRI hout (hxi _) (hxi _)) (vx_cwSW 4 hts (good_S wk_414 wk_415 wk_26 wk_416) rfl rfl rfl (by decide +kernel) ⟨Nat.le_of_ble_eq_true rfl, Nat.le_of_ble_eq_true rfl⟩) (yPre_S hK hw hA hxc hnc) rfl rfl hl.1 rfl (lv_room (Nat.le_of_ble_eq_true rfl)) d_L_law_582 ⟨by show (90 + x.toNat) + 2 ≤ 617651; omega, by show (1370 + 6 * x.toNat) + 12 ≤ 7243151; omega⟩) hw hA (fun E9 ce9 q9 H locs hxp hw h91 h92 h93 => hxp.elim) (fun rk Ck H locs hk hw => ?_)
            have hM : Ck 82 = .inr (4, [.int (zI th), .int (zI pn), .ref (AD 83), .int (zI kc), .ref (AD 84), .ref (AD 85), .int (zI tr), .int (zI lc), .int (zI fa), .int (zI fb), .ref (AD 86), .ref (AD 87), .ref (AD 88), .int (zI mn), .int (zI mr), .int (zI ma), .long (zL ab), .long (zL bl)]) := (hk.2 82 (by omega) (by omega)).trans hM
            have h83 : Ck 83 = aI (k 0) 100 pf := (hk.2 83 (by omega) (by omega)).trans h83
            have h84 : Ck 84 = aI (k 0) 9 mz := (hk.2 84 (by omega) (by omega)).trans h84
            have h85 : Ck 85 = aI (k 0) 216 mw := (hk.2 85 (by omega) (by omega)).trans h85
            have h86 : Ck 86 = aI (k 0) 48 mS := (hk.2 86 (by omega) (by omega)).trans h86
            have h87 : Ck 87 = aI (k 0) 48 mN := (hk.2 87 (by omega) (by omega)).trans h87
            have h88 : Ck 88 = aI (k 0) 48 mR := (hk.2 88 (by omega) (by omega)).trans h88
            refine lv_istore (lv' := [(5, .int rk), (0, .ref b), (1, .ref (AD 0)), (2, .ref (AD 82)), (3, .ref (AD 89)), (4, .int (zI x))]) hx hb d_L_law_585 hl (by decide) rfl (fun ls hl => ?_)
            refine lv_aload_n hx hb d_L_law_587 rfl (lv_at hl 3 rfl) ?_
            refine lv_aload_n hx hb d_L_law_588 rfl (lv_at hl 1 rfl) ?_
            refine lv_iload hx hb d_L_law_589 (lv_at hl 5 rfl) ?_
            refine zr_iconst hx hb d_L_law_591 ?_
            refine zr_iadd hx hb d_L_law_592 ?_
            refine va_sld hx hb hX hbl hbA hw.2.2 (zI_in (by omega) (by omega) (by omega)) d_L_law_593 ?_
            rw [hxz (x + 1)]
            refine lv_aload_n hx hb d_L_law_594 rfl (lv_at hl 1 rfl) ?_
            refine lv_iload hx hb d_L_law_595 (lv_at hl 5 rfl) ?_
            refine zr_iconst hx hb d_L_law_597 ?_
            refine zr_iadd hx hb d_L_law_598 ?_
            refine va_sld hx hb hX hbl hbA hw.2.2 (zI_in (by omega) (by omega) (by omega)) d_L_law_599 ?_
            rw [hxz (x + 2)]
            refine zr_callI (va_runV (As := [.int (zI (xz (x + 1))), .int (zI (xz (x + 2)))]) (rest := []) ⟨hx, hb, hml, hown, hts⟩ (c_M_agree l D k N AD Ck H.size th pn kc tr lc fa fb mn mr ma ab bl mz mw mS (xz (x + 1)) (xz (x + 2)) hN hM h84 h85 hmz hkc9 h86 hlc9 (fun i h1 h2 => (hrel i h1 h2).2.1) hfab (fun r h1 h2 => by rw [(hlst r h1 h2).1]; exact (hlb9 r h1 h2).1) (hxi _) (hxi _)) (cwV 2 hts (good_V wk_654 wk_655 wk_656 wk_31 wk_657) rfl rfl rfl (by decide +kernel) ⟨Nat.le_of_ble_eq_true rfl, Nat.le_of_ble_eq_true rfl⟩) (cPre_V hK hw 82 ⟨by omega, by omega⟩ hM rfl) rfl rfl hl.1 rfl (lv_room (Nat.le_of_ble_eq_true rfl)) d_L_law_600 ⟨by show ((90 + x.toNat) + 2) + 0 ≤ 617651; omega, by show ((1370 + 6 * x.toNat) + 12) + 0 ≤ 7243151; omega⟩) hw hA (fun rb Cb H locs hb9 hw => ?_)
            obtain ⟨u, hu, hku, hinv2, hval⟩ := st_agree hI htr hk hb9
            replace hval : VLI k Cb of rb u := hval
            clear hk hb9
            subst hku
            obtain ⟨pn2, pf2, kc2, nn2, ww2, ee2, lc2, pm2, pS2, pN2, pR2, pT2, pA2, oS2, oN2, oR2, oT2, oA2, tr2, sn2, sw2, se2, q02, q12, q22, q32, q42, mb2, ak2, fa2, fb2, mn2, mr2, ma2, ab2, bl2, mz2, mw2, mS2, mN2, mR2, of2, hI2, htr2⟩ := id hinv2
            have hM2 := hI2.2.1
            refine lv_istore (lv' := [(6, .int rb), (5, .int (zI u)), (0, .ref b), (1, .ref (AD 0)), (2, .ref (AD 82)), (3, .ref (AD 89)), (4, .int (zI x))]) hx hb d_L_law_603 hl (by decide) rfl (fun ls hl => ?_)
            refine lv_aload_n hx hb d_L_law_605 rfl (lv_at hl 4 rfl) ?_
            refine zr_callI (va_runV (As := []) (rest := []) ⟨hx, hb, hml, hown, hts⟩ (c_M_thrown l D k N AD Cb H.size u pn2 kc2 tr2 lc2 fa2 fb2 mn2 mr2 ma2 ab2 bl2 hN hM2) (cwV 0 hts (good_V wk_561 wk_562 wk_563 wk_31 wk_564) rfl rfl rfl (by decide +kernel) ⟨Nat.le_of_ble_eq_true rfl, Nat.le_of_ble_eq_true rfl⟩) (cPre_V hK hw 82 ⟨by omega, by omega⟩ hM2 rfl) rfl rfl hl.1 rfl (lv_room (Nat.le_of_ble_eq_true rfl)) d_L_law_606 ⟨by show ((90 + x.toNat) + 2) + 0 ≤ 617651; omega, by show ((1370 + 6 * x.toNat) + 12) + 0 ≤ 7243151; omega⟩) hw hA (fun r9 C9 H locs hq hw => ?_)
            obtain ⟨hr9, hCe⟩ := hq
            rw [hCe] at hw; subst hr9
            refine lv_iload hx hb d_L_law_609 (lv_at hl 1 rfl) ?_
            refine zr_icmp_eq (tgt := 616) hx hb ⟨by omega, by omega⟩ ⟨by omega, by omega⟩ d_L_law_611 (by decide) (fun c23 => ?_) (fun c23 => ?_)
            · refine lv_iload hx hb d_L_law_616 (lv_at hl 1 rfl) ?_
              refine zr_if_ne (tgt := 633) hx hb ⟨by omega, by omega⟩ d_L_law_618 (by decide) (fun c24 => ?_) (fun c24 => ?_)
              · refine lv_goto (tgt := 999) hx hb d_L_law_633 (by decide) ?_
                refine W.widen (k := 90 + (x + 4).toNat) (n := 1370 + 6 * (x + 4).toNat) (by omega) (by omega) ?_
                refine lv_iinc (v := zI (x + 4)) (lv' := [(4, .int (zI (x + 4))), (6, .int rb), (5, .int (zI u)), (0, .ref b), (1, .ref (AD 0)), (2, .ref (AD 82)), (3, .ref (AD 89))]) hx hb d_L_law_999 hl (k := 6) rfl (zI_add _ _) (by decide) rfl (fun ls hl => ?_)
                refine lv_goto (tgt := 23) hx hb d_L_law_1002 (by decide) ?_
                exact ihlp (x + 4) u Cb H locs ls (by omega) (INV_mono hinv2 (by omega))  (by omega) hw (lv_sub hl [3, 4, 5, 6, 0] rfl)
              · obtain ⟨v9, hv9, hrb9, hb89⟩ := hval (by omega)
                subst hrb9
                refine lv_aload_n hx hb d_L_law_621 rfl (lv_at hl 5 rfl) ?_
                refine zr_iconst hx hb d_L_law_622 ?_
                refine zr_lald hx hb hK hw 89 ⟨by omega, by omega⟩ 2 hb89 rfl ⟨by omega, by omega⟩ (by decide) d_L_law_623 ?_
                rw [zup_s]
                refine lv_iload hx hb d_L_law_624 (lv_at hl 0 rfl) ?_
                refine zr_i2l hx hb d_L_law_626 ⟨by omega, by omega⟩ ?_
                refine zr_lcmp_eq (tgt := 633) hx hb ⟨by omega, by omega⟩ ⟨by omega, by omega⟩ d_L_law_627 d_L_law_628 (by decide) (fun c25 => ?_) (fun c25 => ?_)
                · refine lv_goto (tgt := 999) hx hb d_L_law_633 (by decide) ?_
                  refine W.widen (k := 90 + (x + 4).toNat) (n := 1370 + 6 * (x + 4).toNat) (by omega) (by omega) ?_
                  refine lv_iinc (v := zI (x + 4)) (lv' := [(4, .int (zI (x + 4))), (6, .int (zI v9)), (5, .int (zI u)), (0, .ref b), (1, .ref (AD 0)), (2, .ref (AD 82)), (3, .ref (AD 89))]) hx hb d_L_law_999 hl (k := 6) rfl (zI_add _ _) (by decide) rfl (fun ls hl => ?_)
                  refine lv_goto (tgt := 23) hx hb d_L_law_1002 (by decide) ?_
                  exact ihlp (x + 4) u Cb H locs ls (by omega) (INV_mono hinv2 (by omega))  (by omega) hw (lv_sub hl [3, 4, 5, 6, 0] rfl)
                · exact absurd c25 (by omega)
            · exact absurd c23 (by omega)
          · refine lv_tableIn (tgt := 636) (off := 597) hx hb d_L_law_39 (by rw [zI_toInt ⟨by omega, by omega⟩]; omega) (by rw [zI_toInt ⟨by omega, by omega⟩]; omega) (by rw [zI_toInt ⟨by omega, by omega⟩, hv9]; rfl) (by decide) ?_
            refine lv_aload_n hx hb d_L_law_636 rfl (lv_at hl 1 rfl) ?_
            refine lv_aload_n hx hb d_L_law_637 rfl (lv_at hl 0 rfl) ?_
            refine lv_iload hx hb d_L_law_638 (lv_at hl 4 rfl) ?_
            refine zr_iconst hx hb d_L_law_640 ?_
            refine zr_iadd hx hb d_L_law_641 ?_
            refine va_sld hx hb hX hbl hbA hw.2.2 (zI_in (by omega) (by omega) (by omega)) d_L_law_642 ?_
            rw [hxz (x + 1)]
            refine lv_aload_n hx hb d_L_law_643 rfl (lv_at hl 0 rfl) ?_
            refine lv_iload hx hb d_L_law_644 (lv_at hl 4 rfl) ?_
            refine zr_iconst hx hb d_L_law_646 ?_
            refine zr_iadd hx hb d_L_law_647 ?_
            refine va_sld hx hb hX hbl hbA hw.2.2 (zI_in (by omega) (by omega) (by omega)) d_L_law_648 ?_
            rw [hxz (x + 2)]
            refine lv_aload_n hx hb d_L_law_649 rfl (lv_at hl 3 rfl) ?_
            refine zr_xcallI (vx_runSX (As := [.ref (AD 0), .int (zI (xz (x + 1))), .int (zI (xz (x + 2))), .ref (AD 89)]) (rest := []) ⟨hx, hb, hml, hown, hts⟩ (c_L_odds l D k N AD C H.size hlt pn pf kc nn ww ee lc pm pS pN pR pT pA oS oN oR oT oA tr sn sw se q0 q1 q2 q3 q4 mb ak (xz (x + 1)) (xz (x + 2)) of hN hRI hout (hxi _) (hxi _) (by omega)) (vx_cwSW 4 hts (good_S wk_431 wk_432 wk_26 wk_433) rfl rfl rfl (by decide +kernel) ⟨Nat.le_of_ble_eq_true rfl, Nat.le_of_ble_eq_true rfl⟩) (yPre_S hK hw hA hxc hnc) rfl rfl hl.1 rfl (lv_room (Nat.le_of_ble_eq_true rfl)) d_L_law_650 ⟨by show (90 + x.toNat) + 2 ≤ 617651; omega, by show (1370 + 6 * x.toNat) + 12 ≤ 7243151; omega⟩) hw hA (fun E9 ce9 q9 H locs hxp hw h91 h92 h93 => hxp.elim) (fun rk Ck H locs hk hw => ?_)
            have hM : Ck 82 = .inr (4, [.int (zI th), .int (zI pn), .ref (AD 83), .int (zI kc), .ref (AD 84), .ref (AD 85), .int (zI tr), .int (zI lc), .int (zI fa), .int (zI fb), .ref (AD 86), .ref (AD 87), .ref (AD 88), .int (zI mn), .int (zI mr), .int (zI ma), .long (zL ab), .long (zL bl)]) := (hk.2 82 (by omega) (by omega)).trans hM
            have h83 : Ck 83 = aI (k 0) 100 pf := (hk.2 83 (by omega) (by omega)).trans h83
            have h84 : Ck 84 = aI (k 0) 9 mz := (hk.2 84 (by omega) (by omega)).trans h84
            have h85 : Ck 85 = aI (k 0) 216 mw := (hk.2 85 (by omega) (by omega)).trans h85
            have h86 : Ck 86 = aI (k 0) 48 mS := (hk.2 86 (by omega) (by omega)).trans h86
            have h87 : Ck 87 = aI (k 0) 48 mN := (hk.2 87 (by omega) (by omega)).trans h87
            have h88 : Ck 88 = aI (k 0) 48 mR := (hk.2 88 (by omega) (by omega)).trans h88
            refine lv_istore (lv' := [(5, .int rk), (0, .ref b), (1, .ref (AD 0)), (2, .ref (AD 82)), (3, .ref (AD 89)), (4, .int (zI x))]) hx hb d_L_law_653 hl (by decide) rfl (fun ls hl => ?_)
            refine lv_aload_n hx hb d_L_law_655 rfl (lv_at hl 3 rfl) ?_
            refine lv_aload_n hx hb d_L_law_656 rfl (lv_at hl 1 rfl) ?_
            refine lv_iload hx hb d_L_law_657 (lv_at hl 5 rfl) ?_
            refine zr_iconst hx hb d_L_law_659 ?_
            refine zr_iadd hx hb d_L_law_660 ?_
            refine va_sld hx hb hX hbl hbA hw.2.2 (zI_in (by omega) (by omega) (by omega)) d_L_law_661 ?_
            rw [hxz (x + 1)]
            refine lv_aload_n hx hb d_L_law_662 rfl (lv_at hl 1 rfl) ?_
            refine lv_iload hx hb d_L_law_663 (lv_at hl 5 rfl) ?_
            refine zr_iconst hx hb d_L_law_665 ?_
            refine zr_iadd hx hb d_L_law_666 ?_
            refine va_sld hx hb hX hbl hbA hw.2.2 (zI_in (by omega) (by omega) (by omega)) d_L_law_667 ?_
            rw [hxz (x + 2)]
            refine zr_callL (va_runV (As := [.int (zI (xz (x + 1))), .int (zI (xz (x + 2)))]) (rest := []) ⟨hx, hb, hml, hown, hts⟩ (c_M_odds l D k N AD Ck H.size th pn kc tr lc fa fb mn mr ma ab bl mz mw mS (xz (x + 1)) (xz (x + 2)) hN hM h84 h85 hmz hkc9 h86 hlc9 (fun i h1 h2 => (hrel i h1 h2).2.1) hfab (fun r h1 h2 => by rw [(hlst r h1 h2).1]; exact (hlb9 r h1 h2).1) (hxi _) (hxi _) ⟨htr0, by omega⟩) (cwV 2 hts (good_V wk_663 wk_664 wk_665 wk_31 wk_666) rfl rfl rfl (by decide +kernel) ⟨Nat.le_of_ble_eq_true rfl, Nat.le_of_ble_eq_true rfl⟩) (cPre_V hK hw 82 ⟨by omega, by omega⟩ hM rfl) rfl rfl hl.1 rfl (lv_room (Nat.le_of_ble_eq_true rfl)) d_L_law_668 ⟨by show ((90 + x.toNat) + 2) + 0 ≤ 617651; omega, by show ((1370 + 6 * x.toNat) + 12) + 0 ≤ 7243151; omega⟩) hw hA (fun rb Cb H locs hb9 hw => ?_)
            obtain ⟨u, hu, hku, hinv2, hval⟩ := st_odds hI htr hk hb9
            replace hval : VLL k Cb of rb u := hval
            clear hk hb9
            subst hku
            obtain ⟨pn2, pf2, kc2, nn2, ww2, ee2, lc2, pm2, pS2, pN2, pR2, pT2, pA2, oS2, oN2, oR2, oT2, oA2, tr2, sn2, sw2, se2, q02, q12, q22, q32, q42, mb2, ak2, fa2, fb2, mn2, mr2, ma2, ab2, bl2, mz2, mw2, mS2, mN2, mR2, of2, hI2, htr2⟩ := id hinv2
            have hM2 := hI2.2.1
            refine lv_lstore (lv' := [(6, .long rb), (5, .int (zI u)), (0, .ref b), (1, .ref (AD 0)), (2, .ref (AD 82)), (3, .ref (AD 89)), (4, .int (zI x))]) hx hb d_L_law_671 hl (by decide) rfl (fun ls hl => ?_)
            refine lv_aload_n hx hb d_L_law_673 rfl (lv_at hl 4 rfl) ?_
            refine zr_callI (va_runV (As := []) (rest := []) ⟨hx, hb, hml, hown, hts⟩ (c_M_thrown l D k N AD Cb H.size u pn2 kc2 tr2 lc2 fa2 fb2 mn2 mr2 ma2 ab2 bl2 hN hM2) (cwV 0 hts (good_V wk_561 wk_562 wk_563 wk_31 wk_564) rfl rfl rfl (by decide +kernel) ⟨Nat.le_of_ble_eq_true rfl, Nat.le_of_ble_eq_true rfl⟩) (cPre_V hK hw 82 ⟨by omega, by omega⟩ hM2 rfl) rfl rfl hl.1 rfl (lv_room (Nat.le_of_ble_eq_true rfl)) d_L_law_674 ⟨by show ((90 + x.toNat) + 2) + 0 ≤ 617651; omega, by show ((1370 + 6 * x.toNat) + 12) + 0 ≤ 7243151; omega⟩) hw hA (fun r9 C9 H locs hq hw => ?_)
            obtain ⟨hr9, hCe⟩ := hq
            rw [hCe] at hw; subst hr9
            refine lv_iload hx hb d_L_law_677 (lv_at hl 1 rfl) ?_
            refine zr_icmp_eq (tgt := 684) hx hb ⟨by omega, by omega⟩ ⟨by omega, by omega⟩ d_L_law_679 (by decide) (fun c26 => ?_) (fun c26 => ?_)
            · refine lv_iload hx hb d_L_law_684 (lv_at hl 1 rfl) ?_
              refine zr_if_ne (tgt := 700) hx hb ⟨by omega, by omega⟩ d_L_law_686 (by decide) (fun c27 => ?_) (fun c27 => ?_)
              · refine lv_goto (tgt := 999) hx hb d_L_law_700 (by decide) ?_
                refine W.widen (k := 90 + (x + 4).toNat) (n := 1370 + 6 * (x + 4).toNat) (by omega) (by omega) ?_
                refine lv_iinc (v := zI (x + 4)) (lv' := [(4, .int (zI (x + 4))), (6, .long rb), (5, .int (zI u)), (0, .ref b), (1, .ref (AD 0)), (2, .ref (AD 82)), (3, .ref (AD 89))]) hx hb d_L_law_999 hl (k := 6) rfl (zI_add _ _) (by decide) rfl (fun ls hl => ?_)
                refine lv_goto (tgt := 23) hx hb d_L_law_1002 (by decide) ?_
                exact ihlp (x + 4) u Cb H locs ls (by omega) (INV_mono hinv2 (by omega))  (by omega) hw (lv_sub hl [3, 4, 5, 6, 0] rfl)
              · obtain ⟨v9, hv9, hrb9, hb89⟩ := hval (by omega)
                subst hrb9
                refine lv_aload_n hx hb d_L_law_689 rfl (lv_at hl 5 rfl) ?_
                refine zr_iconst hx hb d_L_law_690 ?_
                refine zr_lald hx hb hK hw 89 ⟨by omega, by omega⟩ 2 hb89 rfl ⟨by omega, by omega⟩ (by decide) d_L_law_691 ?_
                rw [zup_s]
                refine lv_lload hx hb d_L_law_692 (lv_at hl 0 rfl) ?_
                refine zr_lcmp_eq (tgt := 700) hx hb ⟨by omega, by omega⟩ ⟨by omega, by omega⟩ d_L_law_694 d_L_law_695 (by decide) (fun c28 => ?_) (fun c28 => ?_)
                · refine lv_goto (tgt := 999) hx hb d_L_law_700 (by decide) ?_
                  refine W.widen (k := 90 + (x + 4).toNat) (n := 1370 + 6 * (x + 4).toNat) (by omega) (by omega) ?_
                  refine lv_iinc (v := zI (x + 4)) (lv' := [(4, .int (zI (x + 4))), (6, .long (zL v9)), (5, .int (zI u)), (0, .ref b), (1, .ref (AD 0)), (2, .ref (AD 82)), (3, .ref (AD 89))]) hx hb d_L_law_999 hl (k := 6) rfl (zI_add _ _) (by decide) rfl (fun ls hl => ?_)
                  refine lv_goto (tgt := 23) hx hb d_L_law_1002 (by decide) ?_
                  exact ihlp (x + 4) u Cb H locs ls (by omega) (INV_mono hinv2 (by omega))  (by omega) hw (lv_sub hl [3, 4, 5, 6, 0] rfl)
                · exact absurd c28 (by omega)
            · exact absurd c26 (by omega)
          · refine lv_tableIn (tgt := 703) (off := 664) hx hb d_L_law_39 (by rw [zI_toInt ⟨by omega, by omega⟩]; omega) (by rw [zI_toInt ⟨by omega, by omega⟩]; omega) (by rw [zI_toInt ⟨by omega, by omega⟩, hv9]; rfl) (by decide) ?_
            refine lv_aload_n hx hb d_L_law_703 rfl (lv_at hl 1 rfl) ?_
            refine lv_aload_n hx hb d_L_law_704 rfl (lv_at hl 0 rfl) ?_
            refine lv_iload hx hb d_L_law_705 (lv_at hl 4 rfl) ?_
            refine zr_iconst hx hb d_L_law_707 ?_
            refine zr_iadd hx hb d_L_law_708 ?_
            refine va_sld hx hb hX hbl hbA hw.2.2 (zI_in (by omega) (by omega) (by omega)) d_L_law_709 ?_
            rw [hxz (x + 1)]
            refine lv_aload_n hx hb d_L_law_710 rfl (lv_at hl 0 rfl) ?_
            refine lv_iload hx hb d_L_law_711 (lv_at hl 4 rfl) ?_
            refine zr_iconst hx hb d_L_law_713 ?_
            refine zr_iadd hx hb d_L_law_714 ?_
            refine va_sld hx hb hX hbl hbA hw.2.2 (zI_in (by omega) (by omega) (by omega)) d_L_law_715 ?_
            rw [hxz (x + 2)]
            refine lv_aload_n hx hb d_L_law_716 rfl (lv_at hl 0 rfl) ?_
            refine lv_iload hx hb d_L_law_717 (lv_at hl 4 rfl) ?_
            refine zr_iconst hx hb d_L_law_719 ?_
            refine zr_iadd hx hb d_L_law_720 ?_
            refine va_sld hx hb hX hbl hbA hw.2.2 (zI_in (by omega) (by omega) (by omega)) d_L_law_721 ?_
            rw [hxz (x + 3)]
            refine lv_aload_n hx hb d_L_law_722 rfl (lv_at hl 3 rfl) ?_
            refine zr_xcallI (vx_runSX (As := [.ref (AD 0), .int (zI (xz (x + 1))), .int (zI (xz (x + 2))), .int (zI (xz (x + 3))), .ref (AD 89)]) (rest := []) ⟨hx, hb, hml, hown, hts⟩ (c_L_absent l D k N AD C H.size hlt pn pf kc nn ww ee lc pm pS pN pR pT pA oS oN oR oT oA tr sn sw se q0 q1 q2 q3 q4 mb ak (xz (x + 1)) (xz (x + 2)) (xz (x + 3)) of hN hRI hout (hxi _) (hxi _) (hxi _)) (vx_cwSW 5 hts (good_S wk_441 wk_442 wk_26 wk_443) rfl rfl rfl (by decide +kernel) ⟨Nat.le_of_ble_eq_true rfl, Nat.le_of_ble_eq_true rfl⟩) (yPre_S hK hw hA hxc hnc) rfl rfl hl.1 rfl (lv_room (Nat.le_of_ble_eq_true rfl)) d_L_law_723 ⟨by show (90 + x.toNat) + 3 ≤ 617651; omega, by show (1370 + 6 * x.toNat) + 18 ≤ 7243151; omega⟩) hw hA (fun E9 ce9 q9 H locs hxp hw h91 h92 h93 => hxp.elim) (fun rk Ck H locs hk hw => ?_)
            have hM : Ck 82 = .inr (4, [.int (zI th), .int (zI pn), .ref (AD 83), .int (zI kc), .ref (AD 84), .ref (AD 85), .int (zI tr), .int (zI lc), .int (zI fa), .int (zI fb), .ref (AD 86), .ref (AD 87), .ref (AD 88), .int (zI mn), .int (zI mr), .int (zI ma), .long (zL ab), .long (zL bl)]) := (hk.2 82 (by omega) (by omega)).trans hM
            have h83 : Ck 83 = aI (k 0) 100 pf := (hk.2 83 (by omega) (by omega)).trans h83
            have h84 : Ck 84 = aI (k 0) 9 mz := (hk.2 84 (by omega) (by omega)).trans h84
            have h85 : Ck 85 = aI (k 0) 216 mw := (hk.2 85 (by omega) (by omega)).trans h85
            have h86 : Ck 86 = aI (k 0) 48 mS := (hk.2 86 (by omega) (by omega)).trans h86
            have h87 : Ck 87 = aI (k 0) 48 mN := (hk.2 87 (by omega) (by omega)).trans h87
            have h88 : Ck 88 = aI (k 0) 48 mR := (hk.2 88 (by omega) (by omega)).trans h88
            refine lv_istore (lv' := [(5, .int rk), (0, .ref b), (1, .ref (AD 0)), (2, .ref (AD 82)), (3, .ref (AD 89)), (4, .int (zI x))]) hx hb d_L_law_726 hl (by decide) rfl (fun ls hl => ?_)
            refine lv_aload_n hx hb d_L_law_728 rfl (lv_at hl 3 rfl) ?_
            refine lv_aload_n hx hb d_L_law_729 rfl (lv_at hl 1 rfl) ?_
            refine lv_iload hx hb d_L_law_730 (lv_at hl 5 rfl) ?_
            refine zr_iconst hx hb d_L_law_732 ?_
            refine zr_iadd hx hb d_L_law_733 ?_
            refine va_sld hx hb hX hbl hbA hw.2.2 (zI_in (by omega) (by omega) (by omega)) d_L_law_734 ?_
            rw [hxz (x + 1)]
            refine lv_aload_n hx hb d_L_law_735 rfl (lv_at hl 1 rfl) ?_
            refine lv_iload hx hb d_L_law_736 (lv_at hl 5 rfl) ?_
            refine zr_iconst hx hb d_L_law_738 ?_
            refine zr_iadd hx hb d_L_law_739 ?_
            refine va_sld hx hb hX hbl hbA hw.2.2 (zI_in (by omega) (by omega) (by omega)) d_L_law_740 ?_
            rw [hxz (x + 2)]
            refine lv_aload_n hx hb d_L_law_741 rfl (lv_at hl 1 rfl) ?_
            refine lv_iload hx hb d_L_law_742 (lv_at hl 5 rfl) ?_
            refine zr_iconst hx hb d_L_law_744 ?_
            refine zr_iadd hx hb d_L_law_745 ?_
            refine va_sld hx hb hX hbl hbA hw.2.2 (zI_in (by omega) (by omega) (by omega)) d_L_law_746 ?_
            rw [hxz (x + 3)]
            refine zr_callI (va_runV (As := [.int (zI (xz (x + 1))), .int (zI (xz (x + 2))), .int (zI (xz (x + 3)))]) (rest := []) ⟨hx, hb, hml, hown, hts⟩ (c_M_absent l D k N AD Ck H.size th pn kc tr lc fa fb mn mr ma ab bl mz mw (xz (x + 1)) (xz (x + 2)) (xz (x + 3)) hN hM h84 h85 hmz hkc9 (fun i h1 h2 => (hrel i h1 h2).2.1) (hxi _) (hxi _) (hxi _)) (cwV 3 hts (good_V wk_667 wk_668 wk_669 wk_31 wk_670) rfl rfl rfl (by decide +kernel) ⟨Nat.le_of_ble_eq_true rfl, Nat.le_of_ble_eq_true rfl⟩) (cPre_V hK hw 82 ⟨by omega, by omega⟩ hM rfl) rfl rfl hl.1 rfl (lv_room (Nat.le_of_ble_eq_true rfl)) d_L_law_747 ⟨by show ((90 + x.toNat) + 3) + 0 ≤ 617651; omega, by show ((1370 + 6 * x.toNat) + 18) + 0 ≤ 7243151; omega⟩) hw hA (fun rb Cb H locs hb9 hw => ?_)
            obtain ⟨u, hu, hku, hinv2, hval⟩ := st_absent hI htr hk hb9
            replace hval : VLI k Cb of rb u := hval
            clear hk hb9
            subst hku
            obtain ⟨pn2, pf2, kc2, nn2, ww2, ee2, lc2, pm2, pS2, pN2, pR2, pT2, pA2, oS2, oN2, oR2, oT2, oA2, tr2, sn2, sw2, se2, q02, q12, q22, q32, q42, mb2, ak2, fa2, fb2, mn2, mr2, ma2, ab2, bl2, mz2, mw2, mS2, mN2, mR2, of2, hI2, htr2⟩ := id hinv2
            have hM2 := hI2.2.1
            refine lv_istore (lv' := [(6, .int rb), (5, .int (zI u)), (0, .ref b), (1, .ref (AD 0)), (2, .ref (AD 82)), (3, .ref (AD 89)), (4, .int (zI x))]) hx hb d_L_law_750 hl (by decide) rfl (fun ls hl => ?_)
            refine lv_aload_n hx hb d_L_law_752 rfl (lv_at hl 4 rfl) ?_
            refine zr_callI (va_runV (As := []) (rest := []) ⟨hx, hb, hml, hown, hts⟩ (c_M_thrown l D k N AD Cb H.size u pn2 kc2 tr2 lc2 fa2 fb2 mn2 mr2 ma2 ab2 bl2 hN hM2) (cwV 0 hts (good_V wk_561 wk_562 wk_563 wk_31 wk_564) rfl rfl rfl (by decide +kernel) ⟨Nat.le_of_ble_eq_true rfl, Nat.le_of_ble_eq_true rfl⟩) (cPre_V hK hw 82 ⟨by omega, by omega⟩ hM2 rfl) rfl rfl hl.1 rfl (lv_room (Nat.le_of_ble_eq_true rfl)) d_L_law_753 ⟨by show ((90 + x.toNat) + 3) + 0 ≤ 617651; omega, by show ((1370 + 6 * x.toNat) + 18) + 0 ≤ 7243151; omega⟩) hw hA (fun r9 C9 H locs hq hw => ?_)
            obtain ⟨hr9, hCe⟩ := hq
            rw [hCe] at hw; subst hr9
            refine lv_iload hx hb d_L_law_756 (lv_at hl 1 rfl) ?_
            refine zr_icmp_eq (tgt := 763) hx hb ⟨by omega, by omega⟩ ⟨by omega, by omega⟩ d_L_law_758 (by decide) (fun c29 => ?_) (fun c29 => ?_)
            · refine lv_iload hx hb d_L_law_763 (lv_at hl 1 rfl) ?_
              refine zr_if_ne (tgt := 780) hx hb ⟨by omega, by omega⟩ d_L_law_765 (by decide) (fun c30 => ?_) (fun c30 => ?_)
              · refine lv_goto (tgt := 999) hx hb d_L_law_780 (by decide) ?_
                refine W.widen (k := 90 + (x + 4).toNat) (n := 1370 + 6 * (x + 4).toNat) (by omega) (by omega) ?_
                refine lv_iinc (v := zI (x + 4)) (lv' := [(4, .int (zI (x + 4))), (6, .int rb), (5, .int (zI u)), (0, .ref b), (1, .ref (AD 0)), (2, .ref (AD 82)), (3, .ref (AD 89))]) hx hb d_L_law_999 hl (k := 6) rfl (zI_add _ _) (by decide) rfl (fun ls hl => ?_)
                refine lv_goto (tgt := 23) hx hb d_L_law_1002 (by decide) ?_
                exact ihlp (x + 4) u Cb H locs ls (by omega) (INV_mono hinv2 (by omega))  (by omega) hw (lv_sub hl [3, 4, 5, 6, 0] rfl)
              · obtain ⟨v9, hv9, hrb9, hb89⟩ := hval (by omega)
                subst hrb9
                refine lv_aload_n hx hb d_L_law_768 rfl (lv_at hl 5 rfl) ?_
                refine zr_iconst hx hb d_L_law_769 ?_
                refine zr_lald hx hb hK hw 89 ⟨by omega, by omega⟩ 2 hb89 rfl ⟨by omega, by omega⟩ (by decide) d_L_law_770 ?_
                rw [zup_s]
                refine lv_iload hx hb d_L_law_771 (lv_at hl 0 rfl) ?_
                refine zr_i2l hx hb d_L_law_773 ⟨by omega, by omega⟩ ?_
                refine zr_lcmp_eq (tgt := 780) hx hb ⟨by omega, by omega⟩ ⟨by omega, by omega⟩ d_L_law_774 d_L_law_775 (by decide) (fun c31 => ?_) (fun c31 => ?_)
                · refine lv_goto (tgt := 999) hx hb d_L_law_780 (by decide) ?_
                  refine W.widen (k := 90 + (x + 4).toNat) (n := 1370 + 6 * (x + 4).toNat) (by omega) (by omega) ?_
                  refine lv_iinc (v := zI (x + 4)) (lv' := [(4, .int (zI (x + 4))), (6, .int (zI v9)), (5, .int (zI u)), (0, .ref b), (1, .ref (AD 0)), (2, .ref (AD 82)), (3, .ref (AD 89))]) hx hb d_L_law_999 hl (k := 6) rfl (zI_add _ _) (by decide) rfl (fun ls hl => ?_)
                  refine lv_goto (tgt := 23) hx hb d_L_law_1002 (by decide) ?_
                  exact ihlp (x + 4) u Cb H locs ls (by omega) (INV_mono hinv2 (by omega))  (by omega) hw (lv_sub hl [3, 4, 5, 6, 0] rfl)
                · exact absurd c31 (by omega)
            · exact absurd c29 (by omega)
          · refine lv_tableIn (tgt := 783) (off := 744) hx hb d_L_law_39 (by rw [zI_toInt ⟨by omega, by omega⟩]; omega) (by rw [zI_toInt ⟨by omega, by omega⟩]; omega) (by rw [zI_toInt ⟨by omega, by omega⟩, hv9]; rfl) (by decide) ?_
            refine lv_aload_n hx hb d_L_law_783 rfl (lv_at hl 1 rfl) ?_
            refine lv_aload_n hx hb d_L_law_784 rfl (lv_at hl 0 rfl) ?_
            refine lv_iload hx hb d_L_law_785 (lv_at hl 4 rfl) ?_
            refine zr_iconst hx hb d_L_law_787 ?_
            refine zr_iadd hx hb d_L_law_788 ?_
            refine va_sld hx hb hX hbl hbA hw.2.2 (zI_in (by omega) (by omega) (by omega)) d_L_law_789 ?_
            rw [hxz (x + 1)]
            refine lv_aload_n hx hb d_L_law_790 rfl (lv_at hl 0 rfl) ?_
            refine lv_iload hx hb d_L_law_791 (lv_at hl 4 rfl) ?_
            refine zr_iconst hx hb d_L_law_793 ?_
            refine zr_iadd hx hb d_L_law_794 ?_
            refine va_sld hx hb hX hbl hbA hw.2.2 (zI_in (by omega) (by omega) (by omega)) d_L_law_795 ?_
            rw [hxz (x + 2)]
            refine lv_aload_n hx hb d_L_law_796 rfl (lv_at hl 0 rfl) ?_
            refine lv_iload hx hb d_L_law_797 (lv_at hl 4 rfl) ?_
            refine zr_iconst hx hb d_L_law_799 ?_
            refine zr_iadd hx hb d_L_law_800 ?_
            refine va_sld hx hb hX hbl hbA hw.2.2 (zI_in (by omega) (by omega) (by omega)) d_L_law_801 ?_
            rw [hxz (x + 3)]
            refine lv_aload_n hx hb d_L_law_802 rfl (lv_at hl 3 rfl) ?_
            refine zr_xcallI (vx_runSX (As := [.ref (AD 0), .int (zI (xz (x + 1))), .int (zI (xz (x + 2))), .int (zI (xz (x + 3))), .ref (AD 89)]) (rest := []) ⟨hx, hb, hml, hown, hts⟩ (c_L_core l D k N AD C H.size hlt pn pf kc nn ww ee lc pm pS pN pR pT pA oS oN oR oT oA tr sn sw se q0 q1 q2 q3 q4 mb ak (xz (x + 1)) (xz (x + 2)) (xz (x + 3)) of hN hRI hout (hxi _) (hxi _) (hxi _)) (vx_cwSW 5 hts (good_S wk_456 wk_457 wk_26 wk_458) rfl rfl rfl (by decide +kernel) ⟨Nat.le_of_ble_eq_true rfl, Nat.le_of_ble_eq_true rfl⟩) (yPre_S hK hw hA hxc hnc) rfl rfl hl.1 rfl (lv_room (Nat.le_of_ble_eq_true rfl)) d_L_law_803 ⟨by show (90 + x.toNat) + 3 ≤ 617651; omega, by show (1370 + 6 * x.toNat) + 18 ≤ 7243151; omega⟩) hw hA (fun E9 ce9 q9 H locs hxp hw h91 h92 h93 => hxp.elim) (fun rk Ck H locs hk hw => ?_)
            have hM : Ck 82 = .inr (4, [.int (zI th), .int (zI pn), .ref (AD 83), .int (zI kc), .ref (AD 84), .ref (AD 85), .int (zI tr), .int (zI lc), .int (zI fa), .int (zI fb), .ref (AD 86), .ref (AD 87), .ref (AD 88), .int (zI mn), .int (zI mr), .int (zI ma), .long (zL ab), .long (zL bl)]) := (hk.2 82 (by omega) (by omega)).trans hM
            have h83 : Ck 83 = aI (k 0) 100 pf := (hk.2 83 (by omega) (by omega)).trans h83
            have h84 : Ck 84 = aI (k 0) 9 mz := (hk.2 84 (by omega) (by omega)).trans h84
            have h85 : Ck 85 = aI (k 0) 216 mw := (hk.2 85 (by omega) (by omega)).trans h85
            have h86 : Ck 86 = aI (k 0) 48 mS := (hk.2 86 (by omega) (by omega)).trans h86
            have h87 : Ck 87 = aI (k 0) 48 mN := (hk.2 87 (by omega) (by omega)).trans h87
            have h88 : Ck 88 = aI (k 0) 48 mR := (hk.2 88 (by omega) (by omega)).trans h88
            refine lv_istore (lv' := [(5, .int rk), (0, .ref b), (1, .ref (AD 0)), (2, .ref (AD 82)), (3, .ref (AD 89)), (4, .int (zI x))]) hx hb d_L_law_806 hl (by decide) rfl (fun ls hl => ?_)
            refine lv_aload_n hx hb d_L_law_808 rfl (lv_at hl 3 rfl) ?_
            refine lv_aload_n hx hb d_L_law_809 rfl (lv_at hl 1 rfl) ?_
            refine lv_iload hx hb d_L_law_810 (lv_at hl 5 rfl) ?_
            refine zr_iconst hx hb d_L_law_812 ?_
            refine zr_iadd hx hb d_L_law_813 ?_
            refine va_sld hx hb hX hbl hbA hw.2.2 (zI_in (by omega) (by omega) (by omega)) d_L_law_814 ?_
            rw [hxz (x + 1)]
            refine lv_aload_n hx hb d_L_law_815 rfl (lv_at hl 1 rfl) ?_
            refine lv_iload hx hb d_L_law_816 (lv_at hl 5 rfl) ?_
            refine zr_iconst hx hb d_L_law_818 ?_
            refine zr_iadd hx hb d_L_law_819 ?_
            refine va_sld hx hb hX hbl hbA hw.2.2 (zI_in (by omega) (by omega) (by omega)) d_L_law_820 ?_
            rw [hxz (x + 2)]
            refine lv_aload_n hx hb d_L_law_821 rfl (lv_at hl 1 rfl) ?_
            refine lv_iload hx hb d_L_law_822 (lv_at hl 5 rfl) ?_
            refine zr_iconst hx hb d_L_law_824 ?_
            refine zr_iadd hx hb d_L_law_825 ?_
            refine va_sld hx hb hX hbl hbA hw.2.2 (zI_in (by omega) (by omega) (by omega)) d_L_law_826 ?_
            rw [hxz (x + 3)]
            refine zr_callI (va_runV (As := [.int (zI (xz (x + 1))), .int (zI (xz (x + 2))), .int (zI (xz (x + 3)))]) (rest := []) ⟨hx, hb, hml, hown, hts⟩ (c_M_core l D k N AD Ck H.size th pn kc tr lc fa fb mn mr ma ab bl mz mw (xz (x + 1)) (xz (x + 2)) (xz (x + 3)) hN hM h84 h85 hmz hkc9 (fun i h1 h2 => (hrel i h1 h2).2.1) (hxi _) (hxi _) (hxi _)) (cwV 3 hts (good_V wk_671 wk_672 wk_673 wk_31 wk_674) rfl rfl rfl (by decide +kernel) ⟨Nat.le_of_ble_eq_true rfl, Nat.le_of_ble_eq_true rfl⟩) (cPre_V hK hw 82 ⟨by omega, by omega⟩ hM rfl) rfl rfl hl.1 rfl (lv_room (Nat.le_of_ble_eq_true rfl)) d_L_law_827 ⟨by show ((90 + x.toNat) + 3) + 0 ≤ 617651; omega, by show ((1370 + 6 * x.toNat) + 18) + 0 ≤ 7243151; omega⟩) hw hA (fun rb Cb H locs hb9 hw => ?_)
            obtain ⟨u, hu, hku, hinv2, hval⟩ := st_core hI htr hk hb9
            replace hval : VLI k Cb of rb u := hval
            clear hk hb9
            subst hku
            obtain ⟨pn2, pf2, kc2, nn2, ww2, ee2, lc2, pm2, pS2, pN2, pR2, pT2, pA2, oS2, oN2, oR2, oT2, oA2, tr2, sn2, sw2, se2, q02, q12, q22, q32, q42, mb2, ak2, fa2, fb2, mn2, mr2, ma2, ab2, bl2, mz2, mw2, mS2, mN2, mR2, of2, hI2, htr2⟩ := id hinv2
            have hM2 := hI2.2.1
            refine lv_istore (lv' := [(6, .int rb), (5, .int (zI u)), (0, .ref b), (1, .ref (AD 0)), (2, .ref (AD 82)), (3, .ref (AD 89)), (4, .int (zI x))]) hx hb d_L_law_830 hl (by decide) rfl (fun ls hl => ?_)
            refine lv_aload_n hx hb d_L_law_832 rfl (lv_at hl 4 rfl) ?_
            refine zr_callI (va_runV (As := []) (rest := []) ⟨hx, hb, hml, hown, hts⟩ (c_M_thrown l D k N AD Cb H.size u pn2 kc2 tr2 lc2 fa2 fb2 mn2 mr2 ma2 ab2 bl2 hN hM2) (cwV 0 hts (good_V wk_561 wk_562 wk_563 wk_31 wk_564) rfl rfl rfl (by decide +kernel) ⟨Nat.le_of_ble_eq_true rfl, Nat.le_of_ble_eq_true rfl⟩) (cPre_V hK hw 82 ⟨by omega, by omega⟩ hM2 rfl) rfl rfl hl.1 rfl (lv_room (Nat.le_of_ble_eq_true rfl)) d_L_law_833 ⟨by show ((90 + x.toNat) + 3) + 0 ≤ 617651; omega, by show ((1370 + 6 * x.toNat) + 18) + 0 ≤ 7243151; omega⟩) hw hA (fun r9 C9 H locs hq hw => ?_)
            obtain ⟨hr9, hCe⟩ := hq
            rw [hCe] at hw; subst hr9
            refine lv_iload hx hb d_L_law_836 (lv_at hl 1 rfl) ?_
            refine zr_icmp_eq (tgt := 843) hx hb ⟨by omega, by omega⟩ ⟨by omega, by omega⟩ d_L_law_838 (by decide) (fun c32 => ?_) (fun c32 => ?_)
            · refine lv_iload hx hb d_L_law_843 (lv_at hl 1 rfl) ?_
              refine zr_if_ne (tgt := 860) hx hb ⟨by omega, by omega⟩ d_L_law_845 (by decide) (fun c33 => ?_) (fun c33 => ?_)
              · refine lv_goto (tgt := 999) hx hb d_L_law_860 (by decide) ?_
                refine W.widen (k := 90 + (x + 4).toNat) (n := 1370 + 6 * (x + 4).toNat) (by omega) (by omega) ?_
                refine lv_iinc (v := zI (x + 4)) (lv' := [(4, .int (zI (x + 4))), (6, .int rb), (5, .int (zI u)), (0, .ref b), (1, .ref (AD 0)), (2, .ref (AD 82)), (3, .ref (AD 89))]) hx hb d_L_law_999 hl (k := 6) rfl (zI_add _ _) (by decide) rfl (fun ls hl => ?_)
                refine lv_goto (tgt := 23) hx hb d_L_law_1002 (by decide) ?_
                exact ihlp (x + 4) u Cb H locs ls (by omega) (INV_mono hinv2 (by omega))  (by omega) hw (lv_sub hl [3, 4, 5, 6, 0] rfl)
              · obtain ⟨v9, hv9, hrb9, hb89⟩ := hval (by omega)
                subst hrb9
                refine lv_aload_n hx hb d_L_law_848 rfl (lv_at hl 5 rfl) ?_
                refine zr_iconst hx hb d_L_law_849 ?_
                refine zr_lald hx hb hK hw 89 ⟨by omega, by omega⟩ 2 hb89 rfl ⟨by omega, by omega⟩ (by decide) d_L_law_850 ?_
                rw [zup_s]
                refine lv_iload hx hb d_L_law_851 (lv_at hl 0 rfl) ?_
                refine zr_i2l hx hb d_L_law_853 ⟨by omega, by omega⟩ ?_
                refine zr_lcmp_eq (tgt := 860) hx hb ⟨by omega, by omega⟩ ⟨by omega, by omega⟩ d_L_law_854 d_L_law_855 (by decide) (fun c34 => ?_) (fun c34 => ?_)
                · refine lv_goto (tgt := 999) hx hb d_L_law_860 (by decide) ?_
                  refine W.widen (k := 90 + (x + 4).toNat) (n := 1370 + 6 * (x + 4).toNat) (by omega) (by omega) ?_
                  refine lv_iinc (v := zI (x + 4)) (lv' := [(4, .int (zI (x + 4))), (6, .int (zI v9)), (5, .int (zI u)), (0, .ref b), (1, .ref (AD 0)), (2, .ref (AD 82)), (3, .ref (AD 89))]) hx hb d_L_law_999 hl (k := 6) rfl (zI_add _ _) (by decide) rfl (fun ls hl => ?_)
                  refine lv_goto (tgt := 23) hx hb d_L_law_1002 (by decide) ?_
                  exact ihlp (x + 4) u Cb H locs ls (by omega) (INV_mono hinv2 (by omega))  (by omega) hw (lv_sub hl [3, 4, 5, 6, 0] rfl)
                · exact absurd c34 (by omega)
            · exact absurd c32 (by omega)
          · refine lv_tableIn (tgt := 863) (off := 824) hx hb d_L_law_39 (by rw [zI_toInt ⟨by omega, by omega⟩]; omega) (by rw [zI_toInt ⟨by omega, by omega⟩]; omega) (by rw [zI_toInt ⟨by omega, by omega⟩, hv9]; rfl) (by decide) ?_
            refine lv_aload_n hx hb d_L_law_863 rfl (lv_at hl 1 rfl) ?_
            refine lv_aload_n hx hb d_L_law_864 rfl (lv_at hl 0 rfl) ?_
            refine lv_iload hx hb d_L_law_865 (lv_at hl 4 rfl) ?_
            refine zr_iconst hx hb d_L_law_867 ?_
            refine zr_iadd hx hb d_L_law_868 ?_
            refine va_sld hx hb hX hbl hbA hw.2.2 (zI_in (by omega) (by omega) (by omega)) d_L_law_869 ?_
            rw [hxz (x + 1)]
            refine lv_aload_n hx hb d_L_law_870 rfl (lv_at hl 0 rfl) ?_
            refine lv_iload hx hb d_L_law_871 (lv_at hl 4 rfl) ?_
            refine zr_iconst hx hb d_L_law_873 ?_
            refine zr_iadd hx hb d_L_law_874 ?_
            refine va_sld hx hb hX hbl hbA hw.2.2 (zI_in (by omega) (by omega) (by omega)) d_L_law_875 ?_
            rw [hxz (x + 2)]
            refine lv_aload_n hx hb d_L_law_876 rfl (lv_at hl 0 rfl) ?_
            refine lv_iload hx hb d_L_law_877 (lv_at hl 4 rfl) ?_
            refine zr_iconst hx hb d_L_law_879 ?_
            refine zr_iadd hx hb d_L_law_880 ?_
            refine va_sld hx hb hX hbl hbA hw.2.2 (zI_in (by omega) (by omega) (by omega)) d_L_law_881 ?_
            rw [hxz (x + 3)]
            refine lv_aload_n hx hb d_L_law_882 rfl (lv_at hl 3 rfl) ?_
            refine zr_xcallI (vx_runSX (As := [.ref (AD 0), .int (zI (xz (x + 1))), .int (zI (xz (x + 2))), .int (zI (xz (x + 3))), .ref (AD 89)]) (rest := []) ⟨hx, hb, hml, hown, hts⟩ (c_L_group l D k N AD C H.size hlt pn pf kc nn ww ee lc pm pS pN pR pT pA oS oN oR oT oA tr sn sw se q0 q1 q2 q3 q4 mb ak (xz (x + 1)) (xz (x + 2)) (xz (x + 3)) of hN hRI hout (hxi _) (hxi _) (hxi _)) (vx_cwSW 5 hts (good_S wk_470 wk_471 wk_26 wk_472) rfl rfl rfl (by decide +kernel) ⟨Nat.le_of_ble_eq_true rfl, Nat.le_of_ble_eq_true rfl⟩) (yPre_S hK hw hA hxc hnc) rfl rfl hl.1 rfl (lv_room (Nat.le_of_ble_eq_true rfl)) d_L_law_883 ⟨by show (90 + x.toNat) + 2 ≤ 617651; omega, by show (1370 + 6 * x.toNat) + 12 ≤ 7243151; omega⟩) hw hA (fun E9 ce9 q9 H locs hxp hw h91 h92 h93 => hxp.elim) (fun rk Ck H locs hk hw => ?_)
            have hM : Ck 82 = .inr (4, [.int (zI th), .int (zI pn), .ref (AD 83), .int (zI kc), .ref (AD 84), .ref (AD 85), .int (zI tr), .int (zI lc), .int (zI fa), .int (zI fb), .ref (AD 86), .ref (AD 87), .ref (AD 88), .int (zI mn), .int (zI mr), .int (zI ma), .long (zL ab), .long (zL bl)]) := (hk.2 82 (by omega) (by omega)).trans hM
            have h83 : Ck 83 = aI (k 0) 100 pf := (hk.2 83 (by omega) (by omega)).trans h83
            have h84 : Ck 84 = aI (k 0) 9 mz := (hk.2 84 (by omega) (by omega)).trans h84
            have h85 : Ck 85 = aI (k 0) 216 mw := (hk.2 85 (by omega) (by omega)).trans h85
            have h86 : Ck 86 = aI (k 0) 48 mS := (hk.2 86 (by omega) (by omega)).trans h86
            have h87 : Ck 87 = aI (k 0) 48 mN := (hk.2 87 (by omega) (by omega)).trans h87
            have h88 : Ck 88 = aI (k 0) 48 mR := (hk.2 88 (by omega) (by omega)).trans h88
            refine lv_istore (lv' := [(5, .int rk), (0, .ref b), (1, .ref (AD 0)), (2, .ref (AD 82)), (3, .ref (AD 89)), (4, .int (zI x))]) hx hb d_L_law_886 hl (by decide) rfl (fun ls hl => ?_)
            refine lv_aload_n hx hb d_L_law_888 rfl (lv_at hl 3 rfl) ?_
            refine lv_aload_n hx hb d_L_law_889 rfl (lv_at hl 1 rfl) ?_
            refine lv_iload hx hb d_L_law_890 (lv_at hl 5 rfl) ?_
            refine zr_iconst hx hb d_L_law_892 ?_
            refine zr_iadd hx hb d_L_law_893 ?_
            refine va_sld hx hb hX hbl hbA hw.2.2 (zI_in (by omega) (by omega) (by omega)) d_L_law_894 ?_
            rw [hxz (x + 1)]
            refine lv_aload_n hx hb d_L_law_895 rfl (lv_at hl 1 rfl) ?_
            refine lv_iload hx hb d_L_law_896 (lv_at hl 5 rfl) ?_
            refine zr_iconst hx hb d_L_law_898 ?_
            refine zr_iadd hx hb d_L_law_899 ?_
            refine va_sld hx hb hX hbl hbA hw.2.2 (zI_in (by omega) (by omega) (by omega)) d_L_law_900 ?_
            rw [hxz (x + 2)]
            refine lv_aload_n hx hb d_L_law_901 rfl (lv_at hl 1 rfl) ?_
            refine lv_iload hx hb d_L_law_902 (lv_at hl 5 rfl) ?_
            refine zr_iconst hx hb d_L_law_904 ?_
            refine zr_iadd hx hb d_L_law_905 ?_
            refine va_sld hx hb hX hbl hbA hw.2.2 (zI_in (by omega) (by omega) (by omega)) d_L_law_906 ?_
            rw [hxz (x + 3)]
            refine zr_callI (va_runV (As := [.int (zI (xz (x + 1))), .int (zI (xz (x + 2))), .int (zI (xz (x + 3)))]) (rest := []) ⟨hx, hb, hml, hown, hts⟩ (c_M_group l D k N AD Ck H.size th pn kc tr lc fa fb mn mr ma ab bl mz mw (xz (x + 1)) (xz (x + 2)) (xz (x + 3)) hN hM h84 h85 hmz hkc9 (fun i h1 h2 => (hrel i h1 h2).2.1) (fun i h1 h2 => by rw [(hrel i h1 h2).1]; exact (hok9 i h1 h2).1) (hxi _) (hxi _) (hxi _)) (cwV 3 hts (good_V wk_679 wk_680 wk_681 wk_31 wk_682) rfl rfl rfl (by decide +kernel) ⟨Nat.le_of_ble_eq_true rfl, Nat.le_of_ble_eq_true rfl⟩) (cPre_V hK hw 82 ⟨by omega, by omega⟩ hM rfl) rfl rfl hl.1 rfl (lv_room (Nat.le_of_ble_eq_true rfl)) d_L_law_907 ⟨by show ((90 + x.toNat) + 2) + 0 ≤ 617651; omega, by show ((1370 + 6 * x.toNat) + 12) + 0 ≤ 7243151; omega⟩) hw hA (fun rb Cb H locs hb9 hw => ?_)
            obtain ⟨u, hu, hku, hinv2, hval⟩ := st_group hI htr hk hb9
            replace hval : VLI k Cb of rb u := hval
            clear hk hb9
            subst hku
            obtain ⟨pn2, pf2, kc2, nn2, ww2, ee2, lc2, pm2, pS2, pN2, pR2, pT2, pA2, oS2, oN2, oR2, oT2, oA2, tr2, sn2, sw2, se2, q02, q12, q22, q32, q42, mb2, ak2, fa2, fb2, mn2, mr2, ma2, ab2, bl2, mz2, mw2, mS2, mN2, mR2, of2, hI2, htr2⟩ := id hinv2
            have hM2 := hI2.2.1
            refine lv_istore (lv' := [(6, .int rb), (5, .int (zI u)), (0, .ref b), (1, .ref (AD 0)), (2, .ref (AD 82)), (3, .ref (AD 89)), (4, .int (zI x))]) hx hb d_L_law_910 hl (by decide) rfl (fun ls hl => ?_)
            refine lv_aload_n hx hb d_L_law_912 rfl (lv_at hl 4 rfl) ?_
            refine zr_callI (va_runV (As := []) (rest := []) ⟨hx, hb, hml, hown, hts⟩ (c_M_thrown l D k N AD Cb H.size u pn2 kc2 tr2 lc2 fa2 fb2 mn2 mr2 ma2 ab2 bl2 hN hM2) (cwV 0 hts (good_V wk_561 wk_562 wk_563 wk_31 wk_564) rfl rfl rfl (by decide +kernel) ⟨Nat.le_of_ble_eq_true rfl, Nat.le_of_ble_eq_true rfl⟩) (cPre_V hK hw 82 ⟨by omega, by omega⟩ hM2 rfl) rfl rfl hl.1 rfl (lv_room (Nat.le_of_ble_eq_true rfl)) d_L_law_913 ⟨by show ((90 + x.toNat) + 2) + 0 ≤ 617651; omega, by show ((1370 + 6 * x.toNat) + 12) + 0 ≤ 7243151; omega⟩) hw hA (fun r9 C9 H locs hq hw => ?_)
            obtain ⟨hr9, hCe⟩ := hq
            rw [hCe] at hw; subst hr9
            refine lv_iload hx hb d_L_law_916 (lv_at hl 1 rfl) ?_
            refine zr_icmp_eq (tgt := 923) hx hb ⟨by omega, by omega⟩ ⟨by omega, by omega⟩ d_L_law_918 (by decide) (fun c35 => ?_) (fun c35 => ?_)
            · refine lv_iload hx hb d_L_law_923 (lv_at hl 1 rfl) ?_
              refine zr_if_ne (tgt := 940) hx hb ⟨by omega, by omega⟩ d_L_law_925 (by decide) (fun c36 => ?_) (fun c36 => ?_)
              · refine lv_goto (tgt := 999) hx hb d_L_law_940 (by decide) ?_
                refine W.widen (k := 90 + (x + 4).toNat) (n := 1370 + 6 * (x + 4).toNat) (by omega) (by omega) ?_
                refine lv_iinc (v := zI (x + 4)) (lv' := [(4, .int (zI (x + 4))), (6, .int rb), (5, .int (zI u)), (0, .ref b), (1, .ref (AD 0)), (2, .ref (AD 82)), (3, .ref (AD 89))]) hx hb d_L_law_999 hl (k := 6) rfl (zI_add _ _) (by decide) rfl (fun ls hl => ?_)
                refine lv_goto (tgt := 23) hx hb d_L_law_1002 (by decide) ?_
                exact ihlp (x + 4) u Cb H locs ls (by omega) (INV_mono hinv2 (by omega))  (by omega) hw (lv_sub hl [3, 4, 5, 6, 0] rfl)
              · obtain ⟨v9, hv9, hrb9, hb89⟩ := hval (by omega)
                subst hrb9
                refine lv_aload_n hx hb d_L_law_928 rfl (lv_at hl 5 rfl) ?_
                refine zr_iconst hx hb d_L_law_929 ?_
                refine zr_lald hx hb hK hw 89 ⟨by omega, by omega⟩ 2 hb89 rfl ⟨by omega, by omega⟩ (by decide) d_L_law_930 ?_
                rw [zup_s]
                refine lv_iload hx hb d_L_law_931 (lv_at hl 0 rfl) ?_
                refine zr_i2l hx hb d_L_law_933 ⟨by omega, by omega⟩ ?_
                refine zr_lcmp_eq (tgt := 940) hx hb ⟨by omega, by omega⟩ ⟨by omega, by omega⟩ d_L_law_934 d_L_law_935 (by decide) (fun c37 => ?_) (fun c37 => ?_)
                · refine lv_goto (tgt := 999) hx hb d_L_law_940 (by decide) ?_
                  refine W.widen (k := 90 + (x + 4).toNat) (n := 1370 + 6 * (x + 4).toNat) (by omega) (by omega) ?_
                  refine lv_iinc (v := zI (x + 4)) (lv' := [(4, .int (zI (x + 4))), (6, .int (zI v9)), (5, .int (zI u)), (0, .ref b), (1, .ref (AD 0)), (2, .ref (AD 82)), (3, .ref (AD 89))]) hx hb d_L_law_999 hl (k := 6) rfl (zI_add _ _) (by decide) rfl (fun ls hl => ?_)
                  refine lv_goto (tgt := 23) hx hb d_L_law_1002 (by decide) ?_
                  exact ihlp (x + 4) u Cb H locs ls (by omega) (INV_mono hinv2 (by omega))  (by omega) hw (lv_sub hl [3, 4, 5, 6, 0] rfl)
                · exact absurd c37 (by omega)
            · exact absurd c35 (by omega)
          · refine lv_tableIn (tgt := 943) (off := 904) hx hb d_L_law_39 (by rw [zI_toInt ⟨by omega, by omega⟩]; omega) (by rw [zI_toInt ⟨by omega, by omega⟩]; omega) (by rw [zI_toInt ⟨by omega, by omega⟩, hv9]; rfl) (by decide) ?_
            refine lv_aload_n hx hb d_L_law_943 rfl (lv_at hl 1 rfl) ?_
            refine lv_aload_n hx hb d_L_law_944 rfl (lv_at hl 0 rfl) ?_
            refine lv_iload hx hb d_L_law_945 (lv_at hl 4 rfl) ?_
            refine zr_iconst hx hb d_L_law_947 ?_
            refine zr_iadd hx hb d_L_law_948 ?_
            refine va_sld hx hb hX hbl hbA hw.2.2 (zI_in (by omega) (by omega) (by omega)) d_L_law_949 ?_
            rw [hxz (x + 1)]
            refine lv_aload_n hx hb d_L_law_950 rfl (lv_at hl 3 rfl) ?_
            refine zr_xcallI (vx_runSX (As := [.ref (AD 0), .int (zI (xz (x + 1))), .ref (AD 89)]) (rest := []) ⟨hx, hb, hml, hown, hts⟩ (c_L_count l D k N AD C H.size hlt pn pf kc nn ww ee lc pm pS pN pR pT pA oS oN oR oT oA tr sn sw se q0 q1 q2 q3 q4 mb ak (xz (x + 1)) of hN hRI hout (hxi _)) (vx_cwSW 3 hts (good_S wk_493 wk_494 wk_26 wk_495) rfl rfl rfl (by decide +kernel) ⟨Nat.le_of_ble_eq_true rfl, Nat.le_of_ble_eq_true rfl⟩) (yPre_S hK hw hA hxc hnc) rfl rfl hl.1 rfl (lv_room (Nat.le_of_ble_eq_true rfl)) d_L_law_951 ⟨by show (90 + x.toNat) + 1 ≤ 617651; omega, by show (1370 + 6 * x.toNat) + 6 ≤ 7243151; omega⟩) hw hA (fun E9 ce9 q9 H locs hxp hw h91 h92 h93 => hxp.elim) (fun rk Ck H locs hk hw => ?_)
            have hM : Ck 82 = .inr (4, [.int (zI th), .int (zI pn), .ref (AD 83), .int (zI kc), .ref (AD 84), .ref (AD 85), .int (zI tr), .int (zI lc), .int (zI fa), .int (zI fb), .ref (AD 86), .ref (AD 87), .ref (AD 88), .int (zI mn), .int (zI mr), .int (zI ma), .long (zL ab), .long (zL bl)]) := (hk.2 82 (by omega) (by omega)).trans hM
            have h83 : Ck 83 = aI (k 0) 100 pf := (hk.2 83 (by omega) (by omega)).trans h83
            have h84 : Ck 84 = aI (k 0) 9 mz := (hk.2 84 (by omega) (by omega)).trans h84
            have h85 : Ck 85 = aI (k 0) 216 mw := (hk.2 85 (by omega) (by omega)).trans h85
            have h86 : Ck 86 = aI (k 0) 48 mS := (hk.2 86 (by omega) (by omega)).trans h86
            have h87 : Ck 87 = aI (k 0) 48 mN := (hk.2 87 (by omega) (by omega)).trans h87
            have h88 : Ck 88 = aI (k 0) 48 mR := (hk.2 88 (by omega) (by omega)).trans h88
            refine lv_istore (lv' := [(5, .int rk), (0, .ref b), (1, .ref (AD 0)), (2, .ref (AD 82)), (3, .ref (AD 89)), (4, .int (zI x))]) hx hb d_L_law_954 hl (by decide) rfl (fun ls hl => ?_)
            refine lv_aload_n hx hb d_L_law_956 rfl (lv_at hl 3 rfl) ?_
            refine lv_aload_n hx hb d_L_law_957 rfl (lv_at hl 1 rfl) ?_
            refine lv_iload hx hb d_L_law_958 (lv_at hl 5 rfl) ?_
            refine zr_iconst hx hb d_L_law_960 ?_
            refine zr_iadd hx hb d_L_law_961 ?_
            refine va_sld hx hb hX hbl hbA hw.2.2 (zI_in (by omega) (by omega) (by omega)) d_L_law_962 ?_
            rw [hxz (x + 1)]
            refine zr_callI (va_runV (As := [.int (zI (xz (x + 1)))]) (rest := []) ⟨hx, hb, hml, hown, hts⟩ (c_M_count l D k N AD Ck H.size th pn kc tr lc fa fb mn mr ma ab bl (xz (x + 1)) hN hM (hxi _)) (cwV 1 hts (good_V wk_687 wk_688 wk_689 wk_31 wk_690) rfl rfl rfl (by decide +kernel) ⟨Nat.le_of_ble_eq_true rfl, Nat.le_of_ble_eq_true rfl⟩) (cPre_V hK hw 82 ⟨by omega, by omega⟩ hM rfl) rfl rfl hl.1 rfl (lv_room (Nat.le_of_ble_eq_true rfl)) d_L_law_963 ⟨by show ((90 + x.toNat) + 1) + 0 ≤ 617651; omega, by show ((1370 + 6 * x.toNat) + 6) + 0 ≤ 7243151; omega⟩) hw hA (fun rb Cb H locs hb9 hw => ?_)
            obtain ⟨u, hu, hku, hinv2, hval⟩ := st_count hI htr hk hb9
            replace hval : VLI k Cb of rb u := hval
            clear hk hb9
            subst hku
            obtain ⟨pn2, pf2, kc2, nn2, ww2, ee2, lc2, pm2, pS2, pN2, pR2, pT2, pA2, oS2, oN2, oR2, oT2, oA2, tr2, sn2, sw2, se2, q02, q12, q22, q32, q42, mb2, ak2, fa2, fb2, mn2, mr2, ma2, ab2, bl2, mz2, mw2, mS2, mN2, mR2, of2, hI2, htr2⟩ := id hinv2
            have hM2 := hI2.2.1
            refine lv_istore (lv' := [(6, .int rb), (5, .int (zI u)), (0, .ref b), (1, .ref (AD 0)), (2, .ref (AD 82)), (3, .ref (AD 89)), (4, .int (zI x))]) hx hb d_L_law_966 hl (by decide) rfl (fun ls hl => ?_)
            refine lv_aload_n hx hb d_L_law_968 rfl (lv_at hl 4 rfl) ?_
            refine zr_callI (va_runV (As := []) (rest := []) ⟨hx, hb, hml, hown, hts⟩ (c_M_thrown l D k N AD Cb H.size u pn2 kc2 tr2 lc2 fa2 fb2 mn2 mr2 ma2 ab2 bl2 hN hM2) (cwV 0 hts (good_V wk_561 wk_562 wk_563 wk_31 wk_564) rfl rfl rfl (by decide +kernel) ⟨Nat.le_of_ble_eq_true rfl, Nat.le_of_ble_eq_true rfl⟩) (cPre_V hK hw 82 ⟨by omega, by omega⟩ hM2 rfl) rfl rfl hl.1 rfl (lv_room (Nat.le_of_ble_eq_true rfl)) d_L_law_969 ⟨by show ((90 + x.toNat) + 1) + 0 ≤ 617651; omega, by show ((1370 + 6 * x.toNat) + 6) + 0 ≤ 7243151; omega⟩) hw hA (fun r9 C9 H locs hq hw => ?_)
            obtain ⟨hr9, hCe⟩ := hq
            rw [hCe] at hw; subst hr9
            refine lv_iload hx hb d_L_law_972 (lv_at hl 1 rfl) ?_
            refine zr_icmp_eq (tgt := 979) hx hb ⟨by omega, by omega⟩ ⟨by omega, by omega⟩ d_L_law_974 (by decide) (fun c38 => ?_) (fun c38 => ?_)
            · refine lv_iload hx hb d_L_law_979 (lv_at hl 1 rfl) ?_
              refine zr_if_ne (tgt := 996) hx hb ⟨by omega, by omega⟩ d_L_law_981 (by decide) (fun c39 => ?_) (fun c39 => ?_)
              · refine lv_goto (tgt := 999) hx hb d_L_law_996 (by decide) ?_
                refine W.widen (k := 90 + (x + 4).toNat) (n := 1370 + 6 * (x + 4).toNat) (by omega) (by omega) ?_
                refine lv_iinc (v := zI (x + 4)) (lv' := [(4, .int (zI (x + 4))), (6, .int rb), (5, .int (zI u)), (0, .ref b), (1, .ref (AD 0)), (2, .ref (AD 82)), (3, .ref (AD 89))]) hx hb d_L_law_999 hl (k := 6) rfl (zI_add _ _) (by decide) rfl (fun ls hl => ?_)
                refine lv_goto (tgt := 23) hx hb d_L_law_1002 (by decide) ?_
                exact ihlp (x + 4) u Cb H locs ls (by omega) (INV_mono hinv2 (by omega))  (by omega) hw (lv_sub hl [3, 4, 5, 6, 0] rfl)
              · obtain ⟨v9, hv9, hrb9, hb89⟩ := hval (by omega)
                subst hrb9
                refine lv_aload_n hx hb d_L_law_984 rfl (lv_at hl 5 rfl) ?_
                refine zr_iconst hx hb d_L_law_985 ?_
                refine zr_lald hx hb hK hw 89 ⟨by omega, by omega⟩ 2 hb89 rfl ⟨by omega, by omega⟩ (by decide) d_L_law_986 ?_
                rw [zup_s]
                refine lv_iload hx hb d_L_law_987 (lv_at hl 0 rfl) ?_
                refine zr_i2l hx hb d_L_law_989 ⟨by omega, by omega⟩ ?_
                refine zr_lcmp_eq (tgt := 996) hx hb ⟨by omega, by omega⟩ ⟨by omega, by omega⟩ d_L_law_990 d_L_law_991 (by decide) (fun c40 => ?_) (fun c40 => ?_)
                · refine lv_goto (tgt := 999) hx hb d_L_law_996 (by decide) ?_
                  refine W.widen (k := 90 + (x + 4).toNat) (n := 1370 + 6 * (x + 4).toNat) (by omega) (by omega) ?_
                  refine lv_iinc (v := zI (x + 4)) (lv' := [(4, .int (zI (x + 4))), (6, .int (zI v9)), (5, .int (zI u)), (0, .ref b), (1, .ref (AD 0)), (2, .ref (AD 82)), (3, .ref (AD 89))]) hx hb d_L_law_999 hl (k := 6) rfl (zI_add _ _) (by decide) rfl (fun ls hl => ?_)
                  refine lv_goto (tgt := 23) hx hb d_L_law_1002 (by decide) ?_
                  exact ihlp (x + 4) u Cb H locs ls (by omega) (INV_mono hinv2 (by omega))  (by omega) hw (lv_sub hl [3, 4, 5, 6, 0] rfl)
                · exact absurd c40 (by omega)
            · exact absurd c38 (by omega)
  exact lp (((L : Int) + 4 - 0 : Int).toNat + 1) 0 0 C H locs ls (by omega) hinv0  (by omega) hw (lv_sub hl [0, 1, 2, 3, 4] rfl)
