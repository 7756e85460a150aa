/-! the law's own helpers: a call of the class, its throws caught -/
def nC (U : State) : Prop := va_Nc "java/lang/IllegalStateException" "java/lang/IllegalArgumentException" U ∧ va_Nc "java/lang/IllegalArgumentException" "java/lang/IndexOutOfBoundsException" U ∧ va_Nc "java/lang/IllegalStateException" "java/lang/IndexOutOfBoundsException" U
theorem nC.moved {u U : State} (hvm : u.vm.Alike U.vm) (h : nC u) : nC U := ⟨h.1.moved hvm, h.2.1.moved hvm, h.2.2.moved hvm⟩
def yPre (D : va_G) (cl : List vw_C) (tys : List (ClassId × FieldType)) (N : Nat) (AD : Int → Nat) (C : Int → va_E) (sz : Nat) : State → Prop := fun U => xPre D cl tys N AD C sz U ∧ nC U
theorem yPre_blind {av : List Value} {D : va_G} {cl : List vw_C} {tys : List (ClassId × FieldType)} {N : Nat} {AD : Int → Nat} {C : Int → va_E} {sz : Nat} : FrameBlind (va_Pc av (yPre D cl tys N AD C sz)) := fun a U g mk q => by
  obtain ⟨q0, qx, qn⟩ := q
  exact ⟨q0, (xPre_blind (av := av) a U g mk ⟨q0, qx⟩).2, nC.moved (u := U) (U := U.calling g mk a) (Vm.Alike.refl U.vm) qn⟩
theorem yPre_S {s : State} {As : List Value} {D : va_G} {cl : List vw_C} {tys : List (ClassId × FieldType)} {A : Nat → Prop} {H : Heap} {locs : List Loc} {N : Nat} {AD : Int → Nat} {C : Int → va_E} (hK : va_K D cl tys s) (hw : WD D cl A s.heap H locs N AD C) (hA : ∀ q, s.heap.size ≤ q → A q) (hx : xC A s s.heap) (hn : nC s) : PreS s H (va_Pc As (yPre D cl tys N AD C H.size)) As :=
  ⟨yPre_blind, fun U hU hW => ⟨rfl, (xPre_all (av := As) hK hw hA hx U hU hW).2, hn.moved hW.alike⟩⟩
def YI (l : Launch) (y : MethodName) (ws : List Cond) (rm : Room) (mc ms : Nat) (D : va_G) (cl : List vw_C) (tys : List (ClassId × FieldType)) (N : Nat) (AD : Int → Nat) (C : Int → va_E) (sz : Nat) (av : List Value) (post : Int32 → (Int → va_E) → Prop) : Prop := vx_Met l y ws rm (va_Pc av (yPre D cl tys N AD C sz)) (va_Qi post (cB D cl tys N AD sz) (wA N AD sz)) (xX D cl tys N AD C sz (fun _ => False)) mc ms (wA N AD sz)
theorem YI.start {l : Launch} {y : MethodName} {ws ws' : List Cond} {rm : Room} {mc ms : Nat} {D : va_G} {cl : List vw_C} {tys : List (ClassId × FieldType)} {N : Nat} {AD : Int → Nat} {C : Int → va_E} {sz : Nat} {av : List Value} {post : Int32 → (Int → va_E) → Prop} {cc : ByteArray} {maxL : Nat} {hh : List (Nat × Nat × Nat × Nat)} (hy : plainName y.cls = true) (hws : ws = Cond.codeWith y cc maxL (some .int) hh :: ws') (hlen : (lg_sl av).length ≤ maxL)
    (body : ∀ (p : Program) (e : Env) (s : State) (m : MethodId) (args : Array Value) (below : List Frame) (meth : Method) (c : Code) (Q : State → Prop) (ls : Array Slot), p.tables.exec = Jvm.exec → c.code = cc → c.maxLocals = maxL → s.vm.findClass y.cls = some m.cls → (∀ w ∈ ws', w.before args s = true) → va_K D cl tys s → s.heap.size = sz → WD D cl (wA N AD sz) s.heap s.heap [] N AD C → lv_has ls maxL (lv_args 0 av) → c.exceptionTable.toList = tableOf hh → xC (wA N AD sz) s s.heap → nC s →
      (∀ (r : Int32) (C' : Int → va_E) (H : Heap) (locs : List Loc) (pc : Nat) (ls : Array Slot) (cells slots : Nat), cells ≤ mc → slots ≤ ms → decode cc pc = .ok (.ireturn, 1) → WD D cl (wA N AD sz) s.heap H locs N AD C' → post r C' → W p l e rm s m args below meth c H locs cells slots Q (F0 m pc ls [.int r])) →
      W p l e rm s m args below meth c s.heap [] 0 0 Q (F0 m 0 ls [])) : YI l y ws rm mc ms D cl tys N AD C sz av post := by
  refine vx_ofWH (cc := cc) (maxL := maxL) (ret := (some .int)) (hh := hh) hy hws ?_
  intro p e s m args below meth c s₁ B hml hv
  obtain ⟨rfl, ⟨⟨hsz, hP, hK, hD0⟩, hxc⟩, hn⟩ := hv
  rw [lg_entry_eq]
  refine body p e s m _ below meth c _ _ B.exec B.bytes hml (findClass_of_methodNamed B.named) (fun w h => atoms_spec (ws := ws) B.pre w (by rw [hws]; exact List.mem_cons_of_mem _ h)) hK hsz ⟨hP, wA_D hD0, va_S.rf⟩ (lv_entry av (n := maxL) hlen) (vx_table (x := y) B (atoms_spec (ws := ws) B.pre _ (by rw [hws]; exact List.mem_cons_self))) hxc hn ?_
  intro r C' H locs pc ls cells slots h1 h2 hdg hw hp
  refine W.widen h1 h2 (vx_ret ?_)
  exact W.zret B.exec B.bytes B.returns rfl (fun t ht hW => ⟨⟨r, C', rfl, hp, by rw [ht]; exact hw.1, va_K.moved hW.alike hK, hw.2.1⟩, hw.2.2.F ht⟩) hw.2.2.2.2 hdg B.notSynchronized
theorem xk_IAE : Cond.castable "java/lang/IllegalArgumentException" "java/lang/IllegalArgumentException" ∈ xWB := by decide +kernel
theorem xk_ISE : Cond.castable "java/lang/IllegalStateException" "java/lang/IllegalStateException" ∈ xWB := by decide +kernel
theorem xk_IOB : Cond.castable "java/lang/IndexOutOfBoundsException" "java/lang/IndexOutOfBoundsException" ∈ xWB := by decide +kernel
abbrev rm_L_unit : Room := { frames := 7, cells := 1, slots := 6, locals := 104 }
set_option maxHeartbeats 4000000 in
set_option maxRecDepth 100000 in
theorem c_L_unit (l : Launch) (D : va_G) (k : Nat → ClassId) (N : Nat) (AD : Int → Nat) (C : Int → va_E) (sz : Nat) (hlt : l.stackTraces = false) (pn : Int) (pf : Int → Int) (kc : Int) (nn : Int → Int) (ww : Int → Int → Int) (ee : Int → Int → Int) (lc : Int) (pm : Int → Int) (pS : Int → Int) (pN : Int → Int) (pR : Int → Int) (pT : Int → Int) (pA : Int → Int) (oS : Int → Int) (oN : Int → Int) (oR : Int → Int) (oT : Int → Int) (oA : Int → Int) (tr : Int) (sn : Int) (sw : Int → Int) (se : Int → Int) (q0 : Int) (q1 : Int) (q2 : Int) (q3 : Int) (q4 : Int) (mb : Int → Int) (ak : Int → Int) (a : Int) (b : Int) (of : Int → Int) (hN : 90 ≤ (N : Int)) (hRI : RIx k AD C pn pf kc nn ww ee lc pm pS pN pR pT pA oS oN oR oT oA tr sn sw se q0 q1 q2 q3 q4 mb ak) (hout : C 89 = aL (k 2) 1 of) (ha : inI a) (hb9 : inI b) : YI l y_L_unit (Cond.codeWith y_L_unit b_L_unit 5 (Option.some Jvm.ClassFile.FieldType.int) [(0, 10, 13, 13), (0, 10, 17, 15)] :: WS) rm_L_unit 1 6 D clW (tyW k) N AD C sz [.ref (AD 0), .int (zI a), .int (zI b), .ref (AD 89)] (fun r C' => ((r = zI 0 ∧ ∃ (v : Int) (C1 : Int → va_E), inI v ∧ (fun r C' => r = zI (pn + nz a + nz b) ∧ (TK a ∧ TK b) ∧ pn + nz a + nz b ≤ 100 ∧ RIx k AD C' (pn + nz a + nz b) (padF (padF pf pn a 4) (pn + nz a) b 4) kc nn ww ee lc pm pS pN pR pT pA oS oN oR oT oA tr sn sw se q0 q1 q2 q3 q4 mb ak ∧ ∀ j : Int, ¬ (0 ≤ j ∧ j ≤ 81) → C' j = C j) (zI v) C1 ∧ C' 89 = aL (k 2) 1 (zup of 0 v) ∧ ∀ j : Int, j ≠ 89 → C' j = C1 j) ∨ (r = zI 1 ∧ (¬ (TK a ∧ TK b)) ∧ C' = C) ∨ (r = zI 2 ∧ ((TK a ∧ TK b) ∧ 100 < pn + nz a + nz b) ∧ C' = C)) ∧ ∀ j : Int, 82 ≤ j → j ≠ 89 → C' j = C j) := by
  refine YI.start (cc := b_L_unit) (maxL := 5) (hh := [(0, 10, 13, 13), (0, 10, 17, 15)]) (by decide) rfl (Nat.le_of_ble_eq_true rfl) ?_
  intro p e s m args below meth c Q ls hx hb hml hown hts hK hsz hw hl htab hxc hnc hret
  have hown : s.vm.findClass "RingMatchesLaw" = some m.cls := hown
  have hl : lv_has ls 5 [(0, .ref (AD 0)), (1, .int (zI a)), (2, .int (zI b)), (3, .ref (AD 89))] := hl
  have hA := wA_hi (N := N) (AD := AD) hsz
  obtain ⟨H, hH⟩ : ∃ H, H = s.heap := ⟨_, rfl⟩
  obtain ⟨locs, hlocs⟩ : ∃ z : List Loc, z = [] := ⟨_, rfl⟩
  have hw : WD D clW (wA N AD sz) s.heap H locs N AD C := by rw [hH, hlocs]; exact hw
  rw [← hlocs]
  suffices hgo : W p l e rm_L_unit s m args below meth c H locs 0 0 Q (F0 m 0 ls []) by rw [hH] at hgo; exact hgo
  refine lv_aload_n hx hb d_L_unit_0 rfl (lv_at hl 3 rfl) ?_
  refine zr_iconst hx hb d_L_unit_1 ?_
  refine lv_aload_n hx hb d_L_unit_2 rfl (lv_at hl 0 rfl) ?_
  refine lv_iload_n hx hb d_L_unit_3 rfl (lv_at hl 1 rfl) ?_
  refine lv_iload_n hx hb d_L_unit_4 rfl (lv_at hl 2 rfl) ?_
  refine zr_xcallI (vx_runV (As := [.int (zI a), .int (zI b)]) (rest := [.int (zI 0), .ref (AD 89)]) ⟨hx, hb, hml, hown, hts⟩ (c_R_unit l D k N AD C H.size hlt pn pf kc nn ww ee lc pm pS pN pR pT pA oS oN oR oT oA tr sn sw se q0 q1 q2 q3 q4 mb ak a b (by omega) hRI ha hb9) (cwV 2 hts (good_V wk_147 wk_148 wk_149 wk_27 wk_150) rfl rfl rfl (by decide +kernel) ⟨Nat.le_of_ble_eq_true rfl, Nat.le_of_ble_eq_true rfl⟩) (xPre_V hK hw hA hxc 0 ⟨by omega, by omega⟩ (show C 0 = _ from hRI.1) rfl) rfl rfl hl.1 rfl (lv_room (Nat.le_of_ble_eq_true rfl)) d_L_unit_5 ⟨Nat.le_of_ble_eq_true rfl, Nat.le_of_ble_eq_true rfl⟩) hw hA (fun E9 ce9 q9 H locs hxp hw h91 h92 h93 => ?_) (fun r9 Cq H locs hq hw => ?_)
  · rcases hxp with ⟨rfl, hxp⟩ | ⟨rfl, hxp⟩
    · refine vx_catch hown ([] : List ExceptionTableEntry) ({ startPc := 0, endPc := 10, handlerPc := 13, catchType := 13 } : ExceptionTableEntry) ([{ startPc := 0, endPc := 10, handlerPc := 17, catchType := 15 }] : List ExceptionTableEntry) (htab.trans rfl) (fun z hz => absurd hz List.not_mem_nil) rfl (by decide) (hts _ wk_145) (hxc.1.use _ xk_IAE) h91 h92 h93 ?_
      refine lv_astore (lv' := [(4, .ref q9), (0, .ref (AD 0)), (1, .int (zI a)), (2, .int (zI b)), (3, .ref (AD 89))]) hx hb d_L_unit_13 hl (by decide) rfl (fun ls hl => ?_)
      refine zr_iconst hx hb d_L_unit_15 ?_
      exact hret _ _ _ _ _ _ (0 + 1) (0 + 6) (by decide) (by decide) d_L_unit_16 hw ⟨Or.inr (Or.inl ⟨rfl, hxp, rfl⟩), fun j _ _ => rfl⟩
    · refine vx_catch hown ([{ startPc := 0, endPc := 10, handlerPc := 13, catchType := 13 }] : List ExceptionTableEntry) ({ startPc := 0, endPc := 10, handlerPc := 17, catchType := 15 } : ExceptionTableEntry) ([] : List ExceptionTableEntry) (htab.trans rfl) (fun z hz => by cases List.mem_singleton.mp hz; exact Or.inr ⟨by decide, _, hts _ wk_145, hnc.1⟩) rfl (by decide) (hts _ wk_146) (hxc.1.use _ xk_ISE) h91 h92 h93 ?_
      refine lv_astore (lv' := [(4, .ref q9), (0, .ref (AD 0)), (1, .int (zI a)), (2, .int (zI b)), (3, .ref (AD 89))]) hx hb d_L_unit_17 hl (by decide) rfl (fun ls hl => ?_)
      refine zr_iconst hx hb d_L_unit_19 ?_
      exact hret _ _ _ _ _ _ (0 + 1) (0 + 6) (by decide) (by decide) d_L_unit_20 hw ⟨Or.inr (Or.inr ⟨rfl, hxp, rfl⟩), fun j _ _ => rfl⟩
  · obtain ⟨v9, hv9, rfl⟩ := zI_of r9
    have fr9 : ∀ j : Int, 82 ≤ j → Cq j = C j := fun j hj => hq.2.2.2.2 j (by omega)
    have hout : Cq 89 = aL (k 2) 1 of := (fr9 89 (by omega)).trans hout
    refine zr_i2l hx hb d_L_unit_8 ⟨by omega, by omega⟩ ?_
    refine zr_last hx hb hK hw 89 ⟨by omega, by omega⟩ 2 hout rfl ⟨by omega, by omega⟩ (by decide) d_L_unit_9 (fun H locs hw => ?_)
    obtain ⟨C1, hC1⟩ : ∃ z : Int → va_E, z = zup Cq 89 (aL (k 2) 1 (zup of 0 v9)) := ⟨_, rfl⟩
    have hw : WD D clW (wA N AD sz) s.heap H locs N AD C1 := by rw [hC1]; exact hw
    have frC1 : ∀ j : Int, j ≠ 89 → C1 j = Cq j := fun j h => by rw [hC1]; exact zup_n h
    have hout : C1 89 = aL (k 2) 1 (zup of 0 v9) := by rw [hC1]; exact zup_s
    refine lv_goto (tgt := 21) hx hb d_L_unit_10 (by decide) ?_
    refine zr_iconst hx hb d_L_unit_21 ?_
    exact hret _ _ _ _ _ _ (0 + 1) (0 + 6) (by decide) (by decide) d_L_unit_22 hw ⟨Or.inl ⟨rfl, v9, Cq, hv9, hq, hout, frC1⟩, fun j h1 h2 => (frC1 j h2).trans (fr9 j h1)⟩
abbrev rm_L_read : Room := { frames := 7, cells := 1, slots := 6, locals := 132 }
set_option maxHeartbeats 4000000 in
set_option maxRecDepth 100000 in
theorem c_L_read (l : Launch) (D : va_G) (k : Nat → ClassId) (N : Nat) (AD : Int → Nat) (C : Int → va_E) (sz : Nat) (hlt : l.stackTraces = false) (pn : Int) (pf : Int → Int) (kc : Int) (nn : Int → Int) (ww : Int → Int → Int) (ee : Int → Int → Int) (lc : Int) (pm : Int → Int) (pS : Int → Int) (pN : Int → Int) (pR : Int → Int) (pT : Int → Int) (pA : Int → Int) (oS : Int → Int) (oN : Int → Int) (oR : Int → Int) (oT : Int → Int) (oA : Int → Int) (tr : Int) (sn : Int) (sw : Int → Int) (se : Int → Int) (q0 : Int) (q1 : Int) (q2 : Int) (q3 : Int) (q4 : Int) (mb : Int → Int) (ak : Int → Int) (of : Int → Int) (hN : 90 ≤ (N : Int)) (hRI : RIx k AD C pn pf kc nn ww ee lc pm pS pN pR pT pA oS oN oR oT oA tr sn sw se q0 q1 q2 q3 q4 mb ak) (hout : C 89 = aL (k 2) 1 of) : YI l y_L_read (Cond.codeWith y_L_read b_L_read 3 (Option.some Jvm.ClassFile.FieldType.int) [(0, 8, 11, 15)] :: WS) rm_L_read 1 6 D clW (tyW k) N AD C sz [.ref (AD 0), .ref (AD 89)] (fun r C' => ((r = zI 0 ∧ ∃ (v : Int) (C1 : Int → va_E), inI v ∧ (fun r C' => kc < 8 ∧ ((∃ x : Int, (0 ≤ x ∧ x < pn) ∧ okP pf x ∧ ¬ okS (pf x) (ps pf x.toNat) ∧ r = zI (-1 - x) ∧ ∃ (n9 : Int) (w9 e9 : Int → Int), RIx k AD C' 0 pf kc (zup nn kc n9) (zup ww kc w9) (zup ee kc e9) lc pm pS pN pR pT pA oS oN oR oT oA tr sn sw se q0 q1 q2 q3 q4 mb ak) ∨ (okP pf pn ∧ (ps pf pn.toNat).1 = 0 ∧ r = zI (-1 - pn) ∧ ∃ (n9 : Int) (w9 e9 : Int → Int), RIx k AD C' 0 pf kc (zup nn kc n9) (zup ww kc w9) (zup ee kc e9) lc pm pS pN pR pT pA oS oN oR oT oA tr sn sw se q0 q1 q2 q3 q4 mb ak) ∨ (∃ (rg cn : Int) (sw9 w9 e9 : Int → Int), okP pf pn ∧ ps pf pn.toNat = (rg, cn, sw9) ∧ ¬ rg = 0 ∧ r = zI kc ∧ (∀ j : Int, 0 ≤ j → j < cn + 1 → w9 j = zup sw9 cn rg j) ∧ RIx k AD C' 0 pf (kc + 1) (zup nn kc (cn + 1)) (zup ww kc w9) (zup ee kc e9) lc pm pS pN pR pT pA oS oN oR oT oA tr sn sw se q0 q1 q2 q3 q4 mb ak)) ∧ ∀ j : Int, ¬ (0 ≤ j ∧ j ≤ 81) → C' j = C j) (zI v) C1 ∧ C' 89 = aL (k 2) 1 (zup of 0 v) ∧ ∀ j : Int, j ≠ 89 → C' j = C1 j) ∨ (r = zI 1 ∧ (¬ kc < 8) ∧ C' = C)) ∧ ∀ j : Int, 82 ≤ j → j ≠ 89 → C' j = C j) := by
  refine YI.start (cc := b_L_read) (maxL := 3) (hh := [(0, 8, 11, 15)]) (by decide) rfl (Nat.le_of_ble_eq_true rfl) ?_
  intro p e s m args below meth c Q ls hx hb hml hown hts hK hsz hw hl htab hxc hnc hret
  have hown : s.vm.findClass "RingMatchesLaw" = some m.cls := hown
  have hl : lv_has ls 3 [(0, .ref (AD 0)), (1, .ref (AD 89))] := hl
  have hA := wA_hi (N := N) (AD := AD) hsz
  obtain ⟨H, hH⟩ : ∃ H, H = s.heap := ⟨_, rfl⟩
  obtain ⟨locs, hlocs⟩ : ∃ z : List Loc, z = [] := ⟨_, rfl⟩
  have hw : WD D clW (wA N AD sz) s.heap H locs N AD C := by rw [hH, hlocs]; exact hw
  rw [← hlocs]
  suffices hgo : W p l e rm_L_read s m args below meth c H locs 0 0 Q (F0 m 0 ls []) by rw [hH] at hgo; exact hgo
  refine lv_aload_n hx hb d_L_read_0 rfl (lv_at hl 1 rfl) ?_
  refine zr_iconst hx hb d_L_read_1 ?_
  refine lv_aload_n hx hb d_L_read_2 rfl (lv_at hl 0 rfl) ?_
  refine zr_xcallI (vx_runV (As := []) (rest := [.int (zI 0), .ref (AD 89)]) ⟨hx, hb, hml, hown, hts⟩ (c_R_read l D k N AD C H.size hlt pn pf kc nn ww ee lc pm pS pN pR pT pA oS oN oR oT oA tr sn sw se q0 q1 q2 q3 q4 mb ak  (by omega) hRI ) (cwV 0 hts (good_V wk_251 wk_252 wk_253 wk_27 wk_254) rfl rfl rfl (by decide +kernel) ⟨Nat.le_of_ble_eq_true rfl, Nat.le_of_ble_eq_true rfl⟩) (xPre_V hK hw hA hxc 0 ⟨by omega, by omega⟩ (show C 0 = _ from hRI.1) rfl) rfl rfl hl.1 rfl (lv_room (Nat.le_of_ble_eq_true rfl)) d_L_read_3 ⟨Nat.le_of_ble_eq_true rfl, Nat.le_of_ble_eq_true rfl⟩) hw hA (fun E9 ce9 q9 H locs hxp hw h91 h92 h93 => ?_) (fun r9 Cq H locs hq hw => ?_)
  · obtain ⟨rfl, hxp⟩ := hxp
    refine vx_catch hown ([] : List ExceptionTableEntry) ({ startPc := 0, endPc := 8, handlerPc := 11, catchType := 15 } : ExceptionTableEntry) ([] : List ExceptionTableEntry) (htab.trans rfl) (fun z hz => absurd hz List.not_mem_nil) rfl (by decide) (hts _ wk_146) (hxc.1.use _ xk_ISE) h91 h92 h93 ?_
    refine lv_astore_n (lv' := [(2, .ref q9), (0, .ref (AD 0)), (1, .ref (AD 89))]) hx hb d_L_read_11 rfl hl (by decide) rfl (fun ls hl => ?_)
    refine zr_iconst hx hb d_L_read_12 ?_
    exact hret _ _ _ _ _ _ (0 + 1) (0 + 6) (by decide) (by decide) d_L_read_13 hw ⟨Or.inr ⟨rfl, hxp, rfl⟩, fun j _ _ => rfl⟩
  · obtain ⟨v9, hv9, rfl⟩ := zI_of r9
    have fr9 : ∀ j : Int, 82 ≤ j → Cq j = C j := fun j hj => hq.2.2 j (by omega)
    have hout : Cq 89 = aL (k 2) 1 of := (fr9 89 (by omega)).trans hout
    refine zr_i2l hx hb d_L_read_6 ⟨by omega, by omega⟩ ?_
    refine zr_last hx hb hK hw 89 ⟨by omega, by omega⟩ 2 hout rfl ⟨by omega, by omega⟩ (by decide) d_L_read_7 (fun H locs hw => ?_)
    obtain ⟨C1, hC1⟩ : ∃ z : Int → va_E, z = zup Cq 89 (aL (k 2) 1 (zup of 0 v9)) := ⟨_, rfl⟩
    have hw : WD D clW (wA N AD sz) s.heap H locs N AD C1 := by rw [hC1]; exact hw
    have frC1 : ∀ j : Int, j ≠ 89 → C1 j = Cq j := fun j h => by rw [hC1]; exact zup_n h
    have hout : C1 89 = aL (k 2) 1 (zup of 0 v9) := by rw [hC1]; exact zup_s
    refine lv_goto (tgt := 14) hx hb d_L_read_8 (by decide) ?_
    refine zr_iconst hx hb d_L_read_14 ?_
    exact hret _ _ _ _ _ _ (0 + 1) (0 + 6) (by decide) (by decide) d_L_read_15 hw ⟨Or.inl ⟨rfl, v9, Cq, hv9, hq, hout, frC1⟩, fun j h1 h2 => (frC1 j h2).trans (fr9 j h1)⟩
abbrev rm_L_width : Room := { frames := 8, cells := 2, slots := 12, locals := 126 }
set_option maxHeartbeats 4000000 in
set_option maxRecDepth 100000 in
theorem c_L_width (l : Launch) (D : va_G) (k : Nat → ClassId) (N : Nat) (AD : Int → Nat) (C : Int → va_E) (sz : Nat) (hlt : l.stackTraces = false) (pn : Int) (pf : Int → Int) (kc : Int) (nn : Int → Int) (ww : Int → Int → Int) (ee : Int → Int → Int) (lc : Int) (pm : Int → Int) (pS : Int → Int) (pN : Int → Int) (pR : Int → Int) (pT : Int → Int) (pA : Int → Int) (oS : Int → Int) (oN : Int → Int) (oR : Int → Int) (oT : Int → Int) (oA : Int → Int) (tr : Int) (sn : Int) (sw : Int → Int) (se : Int → Int) (q0 : Int) (q1 : Int) (q2 : Int) (q3 : Int) (q4 : Int) (mb : Int → Int) (ak : Int → Int) (a : Int) (i : Int) (of : Int → Int) (hN : 90 ≤ (N : Int)) (hRI : RIx k AD C pn pf kc nn ww ee lc pm pS pN pR pT pA oS oN oR oT oA tr sn sw se q0 q1 q2 q3 q4 mb ak) (hout : C 89 = aL (k 2) 1 of) (ha : inI a) (hi : inI i) : YI l y_L_width (Cond.codeWith y_L_width b_L_width 5 (Option.some Jvm.ClassFile.FieldType.int) [(0, 10, 13, 24)] :: WS) rm_L_width 2 12 D clW (tyW k) N AD C sz [.ref (AD 0), .int (zI a), .int (zI i), .ref (AD 89)] (fun r C' => ((r = zI 0 ∧ ∃ (v : Int) (C1 : Int → va_E), inI v ∧ (fun r C' => r = zI (widF nn ww a i) ∧ ((0 ≤ a ∧ a < kc) ∧ (-1 ≤ i ∧ i < nn a)) ∧ C' = C) (zI v) C1 ∧ C' 89 = aL (k 2) 1 (zup of 0 v) ∧ ∀ j : Int, j ≠ 89 → C' j = C1 j) ∨ (r = zI 1 ∧ (¬ ((0 ≤ a ∧ a < kc) ∧ (-1 ≤ i ∧ i < nn a))) ∧ C' = C)) ∧ ∀ j : Int, 82 ≤ j → j ≠ 89 → C' j = C j) := by
  refine YI.start (cc := b_L_width) (maxL := 5) (hh := [(0, 10, 13, 24)]) (by decide) rfl (Nat.le_of_ble_eq_true rfl) ?_
  intro p e s m args below meth c Q ls hx hb hml hown hts hK hsz hw hl htab hxc hnc hret
  have hown : s.vm.findClass "RingMatchesLaw" = some m.cls := hown
  have hl : lv_has ls 5 [(0, .ref (AD 0)), (1, .int (zI a)), (2, .int (zI i)), (3, .ref (AD 89))] := hl
  have hA := wA_hi (N := N) (AD := AD) hsz
  obtain ⟨H, hH⟩ : ∃ H, H = s.heap := ⟨_, rfl⟩
  obtain ⟨locs, hlocs⟩ : ∃ z : List Loc, z = [] := ⟨_, rfl⟩
  have hw : WD D clW (wA N AD sz) s.heap H locs N AD C := by rw [hH, hlocs]; exact hw
  rw [← hlocs]
  suffices hgo : W p l e rm_L_width s m args below meth c H locs 0 0 Q (F0 m 0 ls []) by rw [hH] at hgo; exact hgo
  refine lv_aload_n hx hb d_L_width_0 rfl (lv_at hl 3 rfl) ?_
  refine zr_iconst hx hb d_L_width_1 ?_
  refine lv_aload_n hx hb d_L_width_2 rfl (lv_at hl 0 rfl) ?_
  refine lv_iload_n hx hb d_L_width_3 rfl (lv_at hl 1 rfl) ?_
  refine lv_iload_n hx hb d_L_width_4 rfl (lv_at hl 2 rfl) ?_
  refine zr_xcallI (vx_runV (As := [.int (zI a), .int (zI i)]) (rest := [.int (zI 0), .ref (AD 89)]) ⟨hx, hb, hml, hown, hts⟩ (c_R_width l D k N AD C H.size hlt pn pf kc nn ww ee lc pm pS pN pR pT pA oS oN oR oT oA tr sn sw se q0 q1 q2 q3 q4 mb ak a i (by omega) hRI ha hi) (cwV 2 hts (good_V wk_294 wk_295 wk_296 wk_27 wk_297) rfl rfl rfl (by decide +kernel) ⟨Nat.le_of_ble_eq_true rfl, Nat.le_of_ble_eq_true rfl⟩) (xPre_V hK hw hA hxc 0 ⟨by omega, by omega⟩ (show C 0 = _ from hRI.1) rfl) rfl rfl hl.1 rfl (lv_room (Nat.le_of_ble_eq_true rfl)) d_L_width_5 ⟨Nat.le_of_ble_eq_true rfl, Nat.le_of_ble_eq_true rfl⟩) hw hA (fun E9 ce9 q9 H locs hxp hw h91 h92 h93 => ?_) (fun r9 Cq H locs hq hw => ?_)
  · obtain ⟨rfl, hxp⟩ := hxp
    refine vx_catch hown ([] : List ExceptionTableEntry) ({ startPc := 0, endPc := 10, handlerPc := 13, catchType := 24 } : ExceptionTableEntry) ([] : List ExceptionTableEntry) (htab.trans rfl) (fun z hz => absurd hz List.not_mem_nil) rfl (by decide) (hts _ wk_293) (hxc.1.use _ xk_IOB) h91 h92 h93 ?_
    refine lv_astore (lv' := [(4, .ref q9), (0, .ref (AD 0)), (1, .int (zI a)), (2, .int (zI i)), (3, .ref (AD 89))]) hx hb d_L_width_13 hl (by decide) rfl (fun ls hl => ?_)
    refine zr_iconst hx hb d_L_width_15 ?_
    exact hret _ _ _ _ _ _ (0 + 2) (0 + 12) (by decide) (by decide) d_L_width_16 hw ⟨Or.inr ⟨rfl, hxp, rfl⟩, fun j _ _ => rfl⟩
  · obtain ⟨v9, hv9, rfl⟩ := zI_of r9
    have fr9 : ∀ j : Int, 82 ≤ j → Cq j = C j := fun j hj => by have hCe := hq.2.2; rw [hCe]
    have hout : Cq 89 = aL (k 2) 1 of := (fr9 89 (by omega)).trans hout
    refine zr_i2l hx hb d_L_width_8 ⟨by omega, by omega⟩ ?_
    refine zr_last hx hb hK hw 89 ⟨by omega, by omega⟩ 2 hout rfl ⟨by omega, by omega⟩ (by decide) d_L_width_9 (fun H locs hw => ?_)
    obtain ⟨C1, hC1⟩ : ∃ z : Int → va_E, z = zup Cq 89 (aL (k 2) 1 (zup of 0 v9)) := ⟨_, rfl⟩
    have hw : WD D clW (wA N AD sz) s.heap H locs N AD C1 := by rw [hC1]; exact hw
    have frC1 : ∀ j : Int, j ≠ 89 → C1 j = Cq j := fun j h => by rw [hC1]; exact zup_n h
    have hout : C1 89 = aL (k 2) 1 (zup of 0 v9) := by rw [hC1]; exact zup_s
    refine lv_goto (tgt := 17) hx hb d_L_width_10 (by decide) ?_
    refine zr_iconst hx hb d_L_width_17 ?_
    exact hret _ _ _ _ _ _ (0 + 2) (0 + 12) (by decide) (by decide) d_L_width_18 hw ⟨Or.inl ⟨rfl, v9, Cq, hv9, hq, hout, frC1⟩, fun j h1 h2 => (frC1 j h2).trans (fr9 j h1)⟩
abbrev rm_L_written : Room := { frames := 8, cells := 2, slots := 12, locals := 127 }
set_option maxHeartbeats 4000000 in
set_option maxRecDepth 100000 in
theorem c_L_written (l : Launch) (D : va_G) (k : Nat → ClassId) (N : Nat) (AD : Int → Nat) (C : Int → va_E) (sz : Nat) (hlt : l.stackTraces = false) (pn : Int) (pf : Int → Int) (kc : Int) (nn : Int → Int) (ww : Int → Int → Int) (ee : Int → Int → Int) (lc : Int) (pm : Int → Int) (pS : Int → Int) (pN : Int → Int) (pR : Int → Int) (pT : Int → Int) (pA : Int → Int) (oS : Int → Int) (oN : Int → Int) (oR : Int → Int) (oT : Int → Int) (oA : Int → Int) (tr : Int) (sn : Int) (sw : Int → Int) (se : Int → Int) (q0 : Int) (q1 : Int) (q2 : Int) (q3 : Int) (q4 : Int) (mb : Int → Int) (ak : Int → Int) (a : Int) (i : Int) (of : Int → Int) (hN : 90 ≤ (N : Int)) (hRI : RIx k AD C pn pf kc nn ww ee lc pm pS pN pR pT pA oS oN oR oT oA tr sn sw se q0 q1 q2 q3 q4 mb ak) (hout : C 89 = aL (k 2) 1 of) (ha : inI a) (hi : inI i) : YI l y_L_written (Cond.codeWith y_L_written b_L_written 5 (Option.some Jvm.ClassFile.FieldType.int) [(0, 10, 13, 24)] :: WS) rm_L_written 2 12 D clW (tyW k) N AD C sz [.ref (AD 0), .int (zI a), .int (zI i), .ref (AD 89)] (fun r C' => ((r = zI 0 ∧ ∃ (v : Int) (C1 : Int → va_E), inI v ∧ (fun r C' => ((0 ≤ a ∧ a < kc) ∧ (-1 ≤ i ∧ i < posR (ww a) (nn a) - 1)) ∧ (i = -1 ∧ r = zI (posR (ww a) (nn a) - 1) ∨ 0 ≤ i ∧ ∃ x : Int, (0 ≤ x ∧ x < nn a) ∧ (posR (ww a) x ≤ i ∧ i < posR (ww a) (x + 1)) ∧ r = zI (tsg (ww a) x i)) ∧ C' = C) (zI v) C1 ∧ C' 89 = aL (k 2) 1 (zup of 0 v) ∧ ∀ j : Int, j ≠ 89 → C' j = C1 j) ∨ (r = zI 1 ∧ (¬ ((0 ≤ a ∧ a < kc) ∧ (-1 ≤ i ∧ i < posR (ww a) (nn a) - 1))) ∧ C' = C)) ∧ ∀ j : Int, 82 ≤ j → j ≠ 89 → C' j = C j) := by
  refine YI.start (cc := b_L_written) (maxL := 5) (hh := [(0, 10, 13, 24)]) (by decide) rfl (Nat.le_of_ble_eq_true rfl) ?_
  intro p e s m args below meth c Q ls hx hb hml hown hts hK hsz hw hl htab hxc hnc hret
  have hown : s.vm.findClass "RingMatchesLaw" = some m.cls := hown
  have hl : lv_has ls 5 [(0, .ref (AD 0)), (1, .int (zI a)), (2, .int (zI i)), (3, .ref (AD 89))] := hl
  have hA := wA_hi (N := N) (AD := AD) hsz
  obtain ⟨H, hH⟩ : ∃ H, H = s.heap := ⟨_, rfl⟩
  obtain ⟨locs, hlocs⟩ : ∃ z : List Loc, z = [] := ⟨_, rfl⟩
  have hw : WD D clW (wA N AD sz) s.heap H locs N AD C := by rw [hH, hlocs]; exact hw
  rw [← hlocs]
  suffices hgo : W p l e rm_L_written s m args below meth c H locs 0 0 Q (F0 m 0 ls []) by rw [hH] at hgo; exact hgo
  refine lv_aload_n hx hb d_L_written_0 rfl (lv_at hl 3 rfl) ?_
  refine zr_iconst hx hb d_L_written_1 ?_
  refine lv_aload_n hx hb d_L_written_2 rfl (lv_at hl 0 rfl) ?_
  refine lv_iload_n hx hb d_L_written_3 rfl (lv_at hl 1 rfl) ?_
  refine lv_iload_n hx hb d_L_written_4 rfl (lv_at hl 2 rfl) ?_
  refine zr_xcallI (vx_runV (As := [.int (zI a), .int (zI i)]) (rest := [.int (zI 0), .ref (AD 89)]) ⟨hx, hb, hml, hown, hts⟩ (c_R_written l D k N AD C H.size hlt pn pf kc nn ww ee lc pm pS pN pR pT pA oS oN oR oT oA tr sn sw se q0 q1 q2 q3 q4 mb ak a i (by omega) hRI ha hi) (cwV 2 hts (good_V wk_324 wk_325 wk_326 wk_27 wk_327) rfl rfl rfl (by decide +kernel) ⟨Nat.le_of_ble_eq_true rfl, Nat.le_of_ble_eq_true rfl⟩) (xPre_V hK hw hA hxc 0 ⟨by omega, by omega⟩ (show C 0 = _ from hRI.1) rfl) rfl rfl hl.1 rfl (lv_room (Nat.le_of_ble_eq_true rfl)) d_L_written_5 ⟨Nat.le_of_ble_eq_true rfl, Nat.le_of_ble_eq_true rfl⟩) hw hA (fun E9 ce9 q9 H locs hxp hw h91 h92 h93 => ?_) (fun r9 Cq H locs hq hw => ?_)
  · obtain ⟨rfl, hxp⟩ := hxp
    refine vx_catch hown ([] : List ExceptionTableEntry) ({ startPc := 0, endPc := 10, handlerPc := 13, catchType := 24 } : ExceptionTableEntry) ([] : List ExceptionTableEntry) (htab.trans rfl) (fun z hz => absurd hz List.not_mem_nil) rfl (by decide) (hts _ wk_293) (hxc.1.use _ xk_IOB) h91 h92 h93 ?_
    refine lv_astore (lv' := [(4, .ref q9), (0, .ref (AD 0)), (1, .int (zI a)), (2, .int (zI i)), (3, .ref (AD 89))]) hx hb d_L_written_13 hl (by decide) rfl (fun ls hl => ?_)
    refine zr_iconst hx hb d_L_written_15 ?_
    exact hret _ _ _ _ _ _ (0 + 2) (0 + 12) (by decide) (by decide) d_L_written_16 hw ⟨Or.inr ⟨rfl, hxp, rfl⟩, fun j _ _ => rfl⟩
  · obtain ⟨v9, hv9, rfl⟩ := zI_of r9
    have fr9 : ∀ j : Int, 82 ≤ j → Cq j = C j := fun j hj => by have hCe := hq.2.2; rw [hCe]
    have hout : Cq 89 = aL (k 2) 1 of := (fr9 89 (by omega)).trans hout
    refine zr_i2l hx hb d_L_written_8 ⟨by omega, by omega⟩ ?_
    refine zr_last hx hb hK hw 89 ⟨by omega, by omega⟩ 2 hout rfl ⟨by omega, by omega⟩ (by decide) d_L_written_9 (fun H locs hw => ?_)
    obtain ⟨C1, hC1⟩ : ∃ z : Int → va_E, z = zup Cq 89 (aL (k 2) 1 (zup of 0 v9)) := ⟨_, rfl⟩
    have hw : WD D clW (wA N AD sz) s.heap H locs N AD C1 := by rw [hC1]; exact hw
    have frC1 : ∀ j : Int, j ≠ 89 → C1 j = Cq j := fun j h => by rw [hC1]; exact zup_n h
    have hout : C1 89 = aL (k 2) 1 (zup of 0 v9) := by rw [hC1]; exact zup_s
    refine lv_goto (tgt := 17) hx hb d_L_written_10 (by decide) ?_
    refine zr_iconst hx hb d_L_written_17 ?_
    exact hret _ _ _ _ _ _ (0 + 2) (0 + 12) (by decide) (by decide) d_L_written_18 hw ⟨Or.inl ⟨rfl, v9, Cq, hv9, hq, hout, frC1⟩, fun j h1 h2 => (frC1 j h2).trans (fr9 j h1)⟩
abbrev rm_L_evened : Room := { frames := 8, cells := 2, slots := 12, locals := 126 }
set_option maxHeartbeats 4000000 in
set_option maxRecDepth 100000 in
theorem c_L_evened (l : Launch) (D : va_G) (k : Nat → ClassId) (N : Nat) (AD : Int → Nat) (C : Int → va_E) (sz : Nat) (hlt : l.stackTraces = false) (pn : Int) (pf : Int → Int) (kc : Int) (nn : Int → Int) (ww : Int → Int → Int) (ee : Int → Int → Int) (lc : Int) (pm : Int → Int) (pS : Int → Int) (pN : Int → Int) (pR : Int → Int) (pT : Int → Int) (pA : Int → Int) (oS : Int → Int) (oN : Int → Int) (oR : Int → Int) (oT : Int → Int) (oA : Int → Int) (tr : Int) (sn : Int) (sw : Int → Int) (se : Int → Int) (q0 : Int) (q1 : Int) (q2 : Int) (q3 : Int) (q4 : Int) (mb : Int → Int) (ak : Int → Int) (a : Int) (i : Int) (of : Int → Int) (hN : 90 ≤ (N : Int)) (hRI : RIx k AD C pn pf kc nn ww ee lc pm pS pN pR pT pA oS oN oR oT oA tr sn sw se q0 q1 q2 q3 q4 mb ak) (hout : C 89 = aL (k 2) 1 of) (ha : inI a) (hi : inI i) : YI l y_L_evened (Cond.codeWith y_L_evened b_L_evened 5 (Option.some Jvm.ClassFile.FieldType.int) [(0, 10, 13, 24)] :: WS) rm_L_evened 2 12 D clW (tyW k) N AD C sz [.ref (AD 0), .int (zI a), .int (zI i), .ref (AD 89)] (fun r C' => ((r = zI 0 ∧ ∃ (v : Int) (C1 : Int → va_E), inI v ∧ (fun r C' => r = zI (xV (ww a) (nn a) i) ∧ ((0 ≤ a ∧ a < kc) ∧ (0 ≤ i ∧ i < nn a)) ∧ C' = C) (zI v) C1 ∧ C' 89 = aL (k 2) 1 (zup of 0 v) ∧ ∀ j : Int, j ≠ 89 → C' j = C1 j) ∨ (r = zI 1 ∧ (¬ ((0 ≤ a ∧ a < kc) ∧ (0 ≤ i ∧ i < nn a))) ∧ C' = C)) ∧ ∀ j : Int, 82 ≤ j → j ≠ 89 → C' j = C j) := by
  refine YI.start (cc := b_L_evened) (maxL := 5) (hh := [(0, 10, 13, 24)]) (by decide) rfl (Nat.le_of_ble_eq_true rfl) ?_
  intro p e s m args below meth c Q ls hx hb hml hown hts hK hsz hw hl htab hxc hnc hret
  have hown : s.vm.findClass "RingMatchesLaw" = some m.cls := hown
  have hl : lv_has ls 5 [(0, .ref (AD 0)), (1, .int (zI a)), (2, .int (zI i)), (3, .ref (AD 89))] := hl
  have hA := wA_hi (N := N) (AD := AD) hsz
  obtain ⟨H, hH⟩ : ∃ H, H = s.heap := ⟨_, rfl⟩
  obtain ⟨locs, hlocs⟩ : ∃ z : List Loc, z = [] := ⟨_, rfl⟩
  have hw : WD D clW (wA N AD sz) s.heap H locs N AD C := by rw [hH, hlocs]; exact hw
  rw [← hlocs]
  suffices hgo : W p l e rm_L_evened s m args below meth c H locs 0 0 Q (F0 m 0 ls []) by rw [hH] at hgo; exact hgo
  refine lv_aload_n hx hb d_L_evened_0 rfl (lv_at hl 3 rfl) ?_
  refine zr_iconst hx hb d_L_evened_1 ?_
  refine lv_aload_n hx hb d_L_evened_2 rfl (lv_at hl 0 rfl) ?_
  refine lv_iload_n hx hb d_L_evened_3 rfl (lv_at hl 1 rfl) ?_
  refine lv_iload_n hx hb d_L_evened_4 rfl (lv_at hl 2 rfl) ?_
  refine zr_xcallI (vx_runV (As := [.int (zI a), .int (zI i)]) (rest := [.int (zI 0), .ref (AD 89)]) ⟨hx, hb, hml, hown, hts⟩ (c_R_evened l D k N AD C H.size hlt pn pf kc nn ww ee lc pm pS pN pR pT pA oS oN oR oT oA tr sn sw se q0 q1 q2 q3 q4 mb ak a i (by omega) hRI ha hi) (cwV 2 hts (good_V wk_346 wk_347 wk_348 wk_27 wk_349) rfl rfl rfl (by decide +kernel) ⟨Nat.le_of_ble_eq_true rfl, Nat.le_of_ble_eq_true rfl⟩) (xPre_V hK hw hA hxc 0 ⟨by omega, by omega⟩ (show C 0 = _ from hRI.1) rfl) rfl rfl hl.1 rfl (lv_room (Nat.le_of_ble_eq_true rfl)) d_L_evened_5 ⟨Nat.le_of_ble_eq_true rfl, Nat.le_of_ble_eq_true rfl⟩) hw hA (fun E9 ce9 q9 H locs hxp hw h91 h92 h93 => ?_) (fun r9 Cq H locs hq hw => ?_)
  · obtain ⟨rfl, hxp⟩ := hxp
    refine vx_catch hown ([] : List ExceptionTableEntry) ({ startPc := 0, endPc := 10, handlerPc := 13, catchType := 24 } : ExceptionTableEntry) ([] : List ExceptionTableEntry) (htab.trans rfl) (fun z hz => absurd hz List.not_mem_nil) rfl (by decide) (hts _ wk_293) (hxc.1.use _ xk_IOB) h91 h92 h93 ?_
    refine lv_astore (lv' := [(4, .ref q9), (0, .ref (AD 0)), (1, .int (zI a)), (2, .int (zI i)), (3, .ref (AD 89))]) hx hb d_L_evened_13 hl (by decide) rfl (fun ls hl => ?_)
    refine zr_iconst hx hb d_L_evened_15 ?_
    exact hret _ _ _ _ _ _ (0 + 2) (0 + 12) (by decide) (by decide) d_L_evened_16 hw ⟨Or.inr ⟨rfl, hxp, rfl⟩, fun j _ _ => rfl⟩
  · obtain ⟨v9, hv9, rfl⟩ := zI_of r9
    have fr9 : ∀ j : Int, 82 ≤ j → Cq j = C j := fun j hj => by have hCe := hq.2.2; rw [hCe]
    have hout : Cq 89 = aL (k 2) 1 of := (fr9 89 (by omega)).trans hout
    refine zr_i2l hx hb d_L_evened_8 ⟨by omega, by omega⟩ ?_
    refine zr_last hx hb hK hw 89 ⟨by omega, by omega⟩ 2 hout rfl ⟨by omega, by omega⟩ (by decide) d_L_evened_9 (fun H locs hw => ?_)
    obtain ⟨C1, hC1⟩ : ∃ z : Int → va_E, z = zup Cq 89 (aL (k 2) 1 (zup of 0 v9)) := ⟨_, rfl⟩
    have hw : WD D clW (wA N AD sz) s.heap H locs N AD C1 := by rw [hC1]; exact hw
    have frC1 : ∀ j : Int, j ≠ 89 → C1 j = Cq j := fun j h => by rw [hC1]; exact zup_n h
    have hout : C1 89 = aL (k 2) 1 (zup of 0 v9) := by rw [hC1]; exact zup_s
    refine lv_goto (tgt := 17) hx hb d_L_evened_10 (by decide) ?_
    refine zr_iconst hx hb d_L_evened_17 ?_
    exact hret _ _ _ _ _ _ (0 + 2) (0 + 12) (by decide) (by decide) d_L_evened_18 hw ⟨Or.inl ⟨rfl, v9, Cq, hv9, hq, hout, frC1⟩, fun j h1 h2 => (frC1 j h2).trans (fr9 j h1)⟩
abbrev rm_L_match : Room := { frames := 8, cells := 3, slots := 18, locals := 130 }
set_option maxHeartbeats 4000000 in
set_option maxRecDepth 100000 in
theorem c_L_match (l : Launch) (D : va_G) (k : Nat → ClassId) (N : Nat) (AD : Int → Nat) (C : Int → va_E) (sz : Nat) (hlt : l.stackTraces = false) (pn : Int) (pf : Int → Int) (kc : Int) (nn : Int → Int) (ww : Int → Int → Int) (ee : Int → Int → Int) (lc : Int) (pm : Int → Int) (pS : Int → Int) (pN : Int → Int) (pR : Int → Int) (pT : Int → Int) (pA : Int → Int) (oS : Int → Int) (oN : Int → Int) (oR : Int → Int) (oT : Int → Int) (oA : Int → Int) (tr : Int) (sn : Int) (sw : Int → Int) (se : Int → Int) (q0 : Int) (q1 : Int) (q2 : Int) (q3 : Int) (q4 : Int) (mb : Int → Int) (ak : Int → Int) (a : Int) (b : Int) (least : Int) (of : Int → Int) (hN : 90 ≤ (N : Int)) (hRI : RIx k AD C pn pf kc nn ww ee lc pm pS pN pR pT pA oS oN oR oT oA tr sn sw se q0 q1 q2 q3 q4 mb ak) (hout : C 89 = aL (k 2) 1 of) (ha : inI a) (hb9 : inI b) (hle : inI least) (htr2 : tr ≤ 100000) : YI l y_L_match (Cond.codeWith y_L_match b_L_match 6 (Option.some Jvm.ClassFile.FieldType.int) [(0, 12, 15, 24), (0, 12, 19, 13)] :: WS) rm_L_match 3 18 D clW (tyW k) N AD C sz [.ref (AD 0), .int (zI a), .int (zI b), .int (zI least), .ref (AD 89)] (fun r C' => ((r = zI 0 ∧ ∃ (v : Int) (C1 : Int → va_E), inI v ∧ (fun r C' => (((0 ≤ a ∧ a < kc) ∧ (0 ≤ b ∧ b < kc)) ∧ (3 ≤ least ∧ least ≤ 24)) ∧ ∃ (lx : Int) (pm1 pS1 pN1 pR1 pT1 pA1 aS aN aR aT aA : Int → Int), mAll (ww a) (nn a) (ww b) (nn b) least (nn a + nn b - 1).toNat = (lx, aS, aN, aR, aT, aA) ∧ r = zI lx ∧ RIx k AD C' pn pf kc nn ww ee lx pm1 pS1 pN1 pR1 pT1 pA1 aS aN aR aT aA (tr + (nn a + nn b - 1)) sn sw se q0 q1 q2 q3 q4 mb ak ∧ ∀ j : Int, ¬ (0 ≤ j ∧ j ≤ 81) → C' j = C j) (zI v) C1 ∧ C' 89 = aL (k 2) 1 (zup of 0 v) ∧ ∀ j : Int, j ≠ 89 → C' j = C1 j) ∨ (r = zI 1 ∧ (¬ ((0 ≤ a ∧ a < kc) ∧ (0 ≤ b ∧ b < kc))) ∧ C' = C) ∨ (r = zI 2 ∧ (((0 ≤ a ∧ a < kc) ∧ (0 ≤ b ∧ b < kc)) ∧ ¬ (3 ≤ least ∧ least ≤ 24)) ∧ C' = C)) ∧ ∀ j : Int, 82 ≤ j → j ≠ 89 → C' j = C j) := by
  refine YI.start (cc := b_L_match) (maxL := 6) (hh := [(0, 12, 15, 24), (0, 12, 19, 13)]) (by decide) rfl (Nat.le_of_ble_eq_true rfl) ?_
  intro p e s m args below meth c Q ls hx hb hml hown hts hK hsz hw hl htab hxc hnc hret
  have hown : s.vm.findClass "RingMatchesLaw" = some m.cls := hown
  have hl : lv_has ls 6 [(0, .ref (AD 0)), (1, .int (zI a)), (2, .int (zI b)), (3, .int (zI least)), (4, .ref (AD 89))] := hl
  have hA := wA_hi (N := N) (AD := AD) hsz
  obtain ⟨H, hH⟩ : ∃ H, H = s.heap := ⟨_, rfl⟩
  obtain ⟨locs, hlocs⟩ : ∃ z : List Loc, z = [] := ⟨_, rfl⟩
  have hw : WD D clW (wA N AD sz) s.heap H locs N AD C := by rw [hH, hlocs]; exact hw
  rw [← hlocs]
  suffices hgo : W p l e rm_L_match s m args below meth c H locs 0 0 Q (F0 m 0 ls []) by rw [hH] at hgo; exact hgo
  refine lv_aload hx hb d_L_match_0 (lv_at hl 4 rfl) ?_
  refine zr_iconst hx hb d_L_match_2 ?_
  refine lv_aload_n hx hb d_L_match_3 rfl (lv_at hl 0 rfl) ?_
  refine lv_iload_n hx hb d_L_match_4 rfl (lv_at hl 1 rfl) ?_
  refine lv_iload_n hx hb d_L_match_5 rfl (lv_at hl 2 rfl) ?_
  refine lv_iload_n hx hb d_L_match_6 rfl (lv_at hl 3 rfl) ?_
  refine zr_xcallI (vx_runV (As := [.int (zI a), .int (zI b), .int (zI least)]) (rest := [.int (zI 0), .ref (AD 89)]) ⟨hx, hb, hml, hown, hts⟩ (c_R_match l D k N AD C H.size hlt pn pf kc nn ww ee lc pm pS pN pR pT pA oS oN oR oT oA tr sn sw se q0 q1 q2 q3 q4 mb ak a b least (by omega) hRI ha hb9 hle htr2) (cwV 3 hts (good_V wk_357 wk_358 wk_359 wk_27 wk_360) rfl rfl rfl (by decide +kernel) ⟨Nat.le_of_ble_eq_true rfl, Nat.le_of_ble_eq_true rfl⟩) (xPre_V hK hw hA hxc 0 ⟨by omega, by omega⟩ (show C 0 = _ from hRI.1) rfl) rfl rfl hl.1 rfl (lv_room (Nat.le_of_ble_eq_true rfl)) d_L_match_7 ⟨Nat.le_of_ble_eq_true rfl, Nat.le_of_ble_eq_true rfl⟩) hw hA (fun E9 ce9 q9 H locs hxp hw h91 h92 h93 => ?_) (fun r9 Cq H locs hq hw => ?_)
  · rcases hxp with ⟨rfl, hxp⟩ | ⟨rfl, hxp⟩
    · refine vx_catch hown ([] : List ExceptionTableEntry) ({ startPc := 0, endPc := 12, handlerPc := 15, catchType := 24 } : ExceptionTableEntry) ([{ startPc := 0, endPc := 12, handlerPc := 19, catchType := 13 }] : List ExceptionTableEntry) (htab.trans rfl) (fun z hz => absurd hz List.not_mem_nil) rfl (by decide) (hts _ wk_293) (hxc.1.use _ xk_IOB) h91 h92 h93 ?_
      refine lv_astore (lv' := [(5, .ref q9), (0, .ref (AD 0)), (1, .int (zI a)), (2, .int (zI b)), (3, .int (zI least)), (4, .ref (AD 89))]) hx hb d_L_match_15 hl (by decide) rfl (fun ls hl => ?_)
      refine zr_iconst hx hb d_L_match_17 ?_
      exact hret _ _ _ _ _ _ (0 + 3) (0 + 18) (by decide) (by decide) d_L_match_18 hw ⟨Or.inr (Or.inl ⟨rfl, hxp, rfl⟩), fun j _ _ => rfl⟩
    · refine vx_catch hown ([{ startPc := 0, endPc := 12, handlerPc := 15, catchType := 24 }] : List ExceptionTableEntry) ({ startPc := 0, endPc := 12, handlerPc := 19, catchType := 13 } : ExceptionTableEntry) ([] : List ExceptionTableEntry) (htab.trans rfl) (fun z hz => by cases List.mem_singleton.mp hz; exact Or.inr ⟨by decide, _, hts _ wk_293, hnc.2.1⟩) rfl (by decide) (hts _ wk_145) (hxc.1.use _ xk_IAE) h91 h92 h93 ?_
      refine lv_astore (lv' := [(5, .ref q9), (0, .ref (AD 0)), (1, .int (zI a)), (2, .int (zI b)), (3, .int (zI least)), (4, .ref (AD 89))]) hx hb d_L_match_19 hl (by decide) rfl (fun ls hl => ?_)
      refine zr_iconst hx hb d_L_match_21 ?_
      exact hret _ _ _ _ _ _ (0 + 3) (0 + 18) (by decide) (by decide) d_L_match_22 hw ⟨Or.inr (Or.inr ⟨rfl, hxp, rfl⟩), fun j _ _ => rfl⟩
  · obtain ⟨v9, hv9, rfl⟩ := zI_of r9
    have fr9 : ∀ j : Int, 82 ≤ j → Cq j = C j := fun j hj => by obtain ⟨_, lx, p1, p2, p3, p4, p5, p6, o1, o2, o3, o4, o5, _, _, _, hf9⟩ := hq; exact hf9 j (by omega)
    have hout : Cq 89 = aL (k 2) 1 of := (fr9 89 (by omega)).trans hout
    refine zr_i2l hx hb d_L_match_10 ⟨by omega, by omega⟩ ?_
    refine zr_last hx hb hK hw 89 ⟨by omega, by omega⟩ 2 hout rfl ⟨by omega, by omega⟩ (by decide) d_L_match_11 (fun H locs hw => ?_)
    obtain ⟨C1, hC1⟩ : ∃ z : Int → va_E, z = zup Cq 89 (aL (k 2) 1 (zup of 0 v9)) := ⟨_, rfl⟩
    have hw : WD D clW (wA N AD sz) s.heap H locs N AD C1 := by rw [hC1]; exact hw
    have frC1 : ∀ j : Int, j ≠ 89 → C1 j = Cq j := fun j h => by rw [hC1]; exact zup_n h
    have hout : C1 89 = aL (k 2) 1 (zup of 0 v9) := by rw [hC1]; exact zup_s
    refine lv_goto (tgt := 23) hx hb d_L_match_12 (by decide) ?_
    refine zr_iconst hx hb d_L_match_23 ?_
    exact hret _ _ _ _ _ _ (0 + 3) (0 + 18) (by decide) (by decide) d_L_match_24 hw ⟨Or.inl ⟨rfl, v9, Cq, hv9, hq, hout, frC1⟩, fun j h1 h2 => (frC1 j h2).trans (fr9 j h1)⟩
abbrev rm_L_overlap : Room := { frames := 8, cells := 2, slots := 12, locals := 126 }
set_option maxHeartbeats 4000000 in
set_option maxRecDepth 100000 in
theorem c_L_overlap (l : Launch) (D : va_G) (k : Nat → ClassId) (N : Nat) (AD : Int → Nat) (C : Int → va_E) (sz : Nat) (hlt : l.stackTraces = false) (pn : Int) (pf : Int → Int) (kc : Int) (nn : Int → Int) (ww : Int → Int → Int) (ee : Int → Int → Int) (lc : Int) (pm : Int → Int) (pS : Int → Int) (pN : Int → Int) (pR : Int → Int) (pT : Int → Int) (pA : Int → Int) (oS : Int → Int) (oN : Int → Int) (oR : Int → Int) (oT : Int → Int) (oA : Int → Int) (tr : Int) (sn : Int) (sw : Int → Int) (se : Int → Int) (q0 : Int) (q1 : Int) (q2 : Int) (q3 : Int) (q4 : Int) (mb : Int → Int) (ak : Int → Int) (a : Int) (i : Int) (of : Int → Int) (hN : 90 ≤ (N : Int)) (hRI : RIx k AD C pn pf kc nn ww ee lc pm pS pN pR pT pA oS oN oR oT oA tr sn sw se q0 q1 q2 q3 q4 mb ak) (hout : C 89 = aL (k 2) 1 of) (ha : inI a) (hi : inI i) : YI l y_L_overlap (Cond.codeWith y_L_overlap b_L_overlap 5 (Option.some Jvm.ClassFile.FieldType.int) [(0, 10, 13, 24)] :: WS) rm_L_overlap 2 12 D clW (tyW k) N AD C sz [.ref (AD 0), .int (zI a), .int (zI i), .ref (AD 89)] (fun r C' => ((r = zI 0 ∧ ∃ (v : Int) (C1 : Int → va_E), inI v ∧ (fun r C' => r = zI (ovlF oS oN oR a i) ∧ ((0 ≤ a ∧ a < lc) ∧ (0 ≤ i ∧ i ≤ 2)) ∧ C' = C) (zI v) C1 ∧ C' 89 = aL (k 2) 1 (zup of 0 v) ∧ ∀ j : Int, j ≠ 89 → C' j = C1 j) ∨ (r = zI 1 ∧ (¬ ((0 ≤ a ∧ a < lc) ∧ (0 ≤ i ∧ i ≤ 2))) ∧ C' = C)) ∧ ∀ j : Int, 82 ≤ j → j ≠ 89 → C' j = C j) := by
  refine YI.start (cc := b_L_overlap) (maxL := 5) (hh := [(0, 10, 13, 24)]) (by decide) rfl (Nat.le_of_ble_eq_true rfl) ?_
  intro p e s m args below meth c Q ls hx hb hml hown hts hK hsz hw hl htab hxc hnc hret
  have hown : s.vm.findClass "RingMatchesLaw" = some m.cls := hown
  have hl : lv_has ls 5 [(0, .ref (AD 0)), (1, .int (zI a)), (2, .int (zI i)), (3, .ref (AD 89))] := hl
  have hA := wA_hi (N := N) (AD := AD) hsz
  obtain ⟨H, hH⟩ : ∃ H, H = s.heap := ⟨_, rfl⟩
  obtain ⟨locs, hlocs⟩ : ∃ z : List Loc, z = [] := ⟨_, rfl⟩
  have hw : WD D clW (wA N AD sz) s.heap H locs N AD C := by rw [hH, hlocs]; exact hw
  rw [← hlocs]
  suffices hgo : W p l e rm_L_overlap s m args below meth c H locs 0 0 Q (F0 m 0 ls []) by rw [hH] at hgo; exact hgo
  refine lv_aload_n hx hb d_L_overlap_0 rfl (lv_at hl 3 rfl) ?_
  refine zr_iconst hx hb d_L_overlap_1 ?_
  refine lv_aload_n hx hb d_L_overlap_2 rfl (lv_at hl 0 rfl) ?_
  refine lv_iload_n hx hb d_L_overlap_3 rfl (lv_at hl 1 rfl) ?_
  refine lv_iload_n hx hb d_L_overlap_4 rfl (lv_at hl 2 rfl) ?_
  refine zr_xcallI (vx_runV (As := [.int (zI a), .int (zI i)]) (rest := [.int (zI 0), .ref (AD 89)]) ⟨hx, hb, hml, hown, hts⟩ (c_R_overlap l D k N AD C H.size hlt pn pf kc nn ww ee lc pm pS pN pR pT pA oS oN oR oT oA tr sn sw se q0 q1 q2 q3 q4 mb ak a i (by omega) hRI ha hi) (cwV 2 hts (good_V wk_404 wk_405 wk_406 wk_27 wk_407) rfl rfl rfl (by decide +kernel) ⟨Nat.le_of_ble_eq_true rfl, Nat.le_of_ble_eq_true rfl⟩) (xPre_V hK hw hA hxc 0 ⟨by omega, by omega⟩ (show C 0 = _ from hRI.1) rfl) rfl rfl hl.1 rfl (lv_room (Nat.le_of_ble_eq_true rfl)) d_L_overlap_5 ⟨Nat.le_of_ble_eq_true rfl, Nat.le_of_ble_eq_true rfl⟩) hw hA (fun E9 ce9 q9 H locs hxp hw h91 h92 h93 => ?_) (fun r9 Cq H locs hq hw => ?_)
  · obtain ⟨rfl, hxp⟩ := hxp
    refine vx_catch hown ([] : List ExceptionTableEntry) ({ startPc := 0, endPc := 10, handlerPc := 13, catchType := 24 } : ExceptionTableEntry) ([] : List ExceptionTableEntry) (htab.trans rfl) (fun z hz => absurd hz List.not_mem_nil) rfl (by decide) (hts _ wk_293) (hxc.1.use _ xk_IOB) h91 h92 h93 ?_
    refine lv_astore (lv' := [(4, .ref q9), (0, .ref (AD 0)), (1, .int (zI a)), (2, .int (zI i)), (3, .ref (AD 89))]) hx hb d_L_overlap_13 hl (by decide) rfl (fun ls hl => ?_)
    refine zr_iconst hx hb d_L_overlap_15 ?_
    exact hret _ _ _ _ _ _ (0 + 2) (0 + 12) (by decide) (by decide) d_L_overlap_16 hw ⟨Or.inr ⟨rfl, hxp, rfl⟩, fun j _ _ => rfl⟩
  · obtain ⟨v9, hv9, rfl⟩ := zI_of r9
    have fr9 : ∀ j : Int, 82 ≤ j → Cq j = C j := fun j hj => by have hCe := hq.2.2; rw [hCe]
    have hout : Cq 89 = aL (k 2) 1 of := (fr9 89 (by omega)).trans hout
    refine zr_i2l hx hb d_L_overlap_8 ⟨by omega, by omega⟩ ?_
    refine zr_last hx hb hK hw 89 ⟨by omega, by omega⟩ 2 hout rfl ⟨by omega, by omega⟩ (by decide) d_L_overlap_9 (fun H locs hw => ?_)
    obtain ⟨C1, hC1⟩ : ∃ z : Int → va_E, z = zup Cq 89 (aL (k 2) 1 (zup of 0 v9)) := ⟨_, rfl⟩
    have hw : WD D clW (wA N AD sz) s.heap H locs N AD C1 := by rw [hC1]; exact hw
    have frC1 : ∀ j : Int, j ≠ 89 → C1 j = Cq j := fun j h => by rw [hC1]; exact zup_n h
    have hout : C1 89 = aL (k 2) 1 (zup of 0 v9) := by rw [hC1]; exact zup_s
    refine lv_goto (tgt := 17) hx hb d_L_overlap_10 (by decide) ?_
    refine zr_iconst hx hb d_L_overlap_17 ?_
    exact hret _ _ _ _ _ _ (0 + 2) (0 + 12) (by decide) (by decide) d_L_overlap_18 hw ⟨Or.inl ⟨rfl, v9, Cq, hv9, hq, hout, frC1⟩, fun j h1 h2 => (frC1 j h2).trans (fr9 j h1)⟩
abbrev rm_L_agree : Room := { frames := 8, cells := 2, slots := 12, locals := 127 }
set_option maxHeartbeats 4000000 in
set_option maxRecDepth 100000 in
theorem c_L_agree (l : Launch) (D : va_G) (k : Nat → ClassId) (N : Nat) (AD : Int → Nat) (C : Int → va_E) (sz : Nat) (hlt : l.stackTraces = false) (pn : Int) (pf : Int → Int) (kc : Int) (nn : Int → Int) (ww : Int → Int → Int) (ee : Int → Int → Int) (lc : Int) (pm : Int → Int) (pS : Int → Int) (pN : Int → Int) (pR : Int → Int) (pT : Int → Int) (pA : Int → Int) (oS : Int → Int) (oN : Int → Int) (oR : Int → Int) (oT : Int → Int) (oA : Int → Int) (tr : Int) (sn : Int) (sw : Int → Int) (se : Int → Int) (q0 : Int) (q1 : Int) (q2 : Int) (q3 : Int) (q4 : Int) (mb : Int → Int) (ak : Int → Int) (a : Int) (i : Int) (of : Int → Int) (hN : 90 ≤ (N : Int)) (hRI : RIx k AD C pn pf kc nn ww ee lc pm pS pN pR pT pA oS oN oR oT oA tr sn sw se q0 q1 q2 q3 q4 mb ak) (hout : C 89 = aL (k 2) 1 of) (ha : inI a) (hi : inI i) : YI l y_L_agree (Cond.codeWith y_L_agree b_L_agree 5 (Option.some Jvm.ClassFile.FieldType.int) [(0, 10, 13, 24)] :: WS) rm_L_agree 2 12 D clW (tyW k) N AD C sz [.ref (AD 0), .int (zI a), .int (zI i), .ref (AD 89)] (fun r C' => ((r = zI 0 ∧ ∃ (v : Int) (C1 : Int → va_E), inI v ∧ (fun r C' => r = zI (agrF (oT a) (oA a) i) ∧ ((0 ≤ a ∧ a < lc) ∧ (i = 0 ∨ i = 1)) ∧ C' = C) (zI v) C1 ∧ C' 89 = aL (k 2) 1 (zup of 0 v) ∧ ∀ j : Int, j ≠ 89 → C' j = C1 j) ∨ (r = zI 1 ∧ (¬ ((0 ≤ a ∧ a < lc) ∧ (i = 0 ∨ i = 1))) ∧ C' = C)) ∧ ∀ j : Int, 82 ≤ j → j ≠ 89 → C' j = C j) := by
  refine YI.start (cc := b_L_agree) (maxL := 5) (hh := [(0, 10, 13, 24)]) (by decide) rfl (Nat.le_of_ble_eq_true rfl) ?_
  intro p e s m args below meth c Q ls hx hb hml hown hts hK hsz hw hl htab hxc hnc hret
  have hown : s.vm.findClass "RingMatchesLaw" = some m.cls := hown
  have hl : lv_has ls 5 [(0, .ref (AD 0)), (1, .int (zI a)), (2, .int (zI i)), (3, .ref (AD 89))] := hl
  have hA := wA_hi (N := N) (AD := AD) hsz
  obtain ⟨H, hH⟩ : ∃ H, H = s.heap := ⟨_, rfl⟩
  obtain ⟨locs, hlocs⟩ : ∃ z : List Loc, z = [] := ⟨_, rfl⟩
  have hw : WD D clW (wA N AD sz) s.heap H locs N AD C := by rw [hH, hlocs]; exact hw
  rw [← hlocs]
  suffices hgo : W p l e rm_L_agree s m args below meth c H locs 0 0 Q (F0 m 0 ls []) by rw [hH] at hgo; exact hgo
  refine lv_aload_n hx hb d_L_agree_0 rfl (lv_at hl 3 rfl) ?_
  refine zr_iconst hx hb d_L_agree_1 ?_
  refine lv_aload_n hx hb d_L_agree_2 rfl (lv_at hl 0 rfl) ?_
  refine lv_iload_n hx hb d_L_agree_3 rfl (lv_at hl 1 rfl) ?_
  refine lv_iload_n hx hb d_L_agree_4 rfl (lv_at hl 2 rfl) ?_
  refine zr_xcallI (vx_runV (As := [.int (zI a), .int (zI i)]) (rest := [.int (zI 0), .ref (AD 89)]) ⟨hx, hb, hml, hown, hts⟩ (c_R_agree l D k N AD C H.size hlt pn pf kc nn ww ee lc pm pS pN pR pT pA oS oN oR oT oA tr sn sw se q0 q1 q2 q3 q4 mb ak a i (by omega) hRI ha hi) (cwV 2 hts (good_V wk_417 wk_418 wk_419 wk_27 wk_420) rfl rfl rfl (by decide +kernel) ⟨Nat.le_of_ble_eq_true rfl, Nat.le_of_ble_eq_true rfl⟩) (xPre_V hK hw hA hxc 0 ⟨by omega, by omega⟩ (show C 0 = _ from hRI.1) rfl) rfl rfl hl.1 rfl (lv_room (Nat.le_of_ble_eq_true rfl)) d_L_agree_5 ⟨Nat.le_of_ble_eq_true rfl, Nat.le_of_ble_eq_true rfl⟩) hw hA (fun E9 ce9 q9 H locs hxp hw h91 h92 h93 => ?_) (fun r9 Cq H locs hq hw => ?_)
  · obtain ⟨rfl, hxp⟩ := hxp
    refine vx_catch hown ([] : List ExceptionTableEntry) ({ startPc := 0, endPc := 10, handlerPc := 13, catchType := 24 } : ExceptionTableEntry) ([] : List ExceptionTableEntry) (htab.trans rfl) (fun z hz => absurd hz List.not_mem_nil) rfl (by decide) (hts _ wk_293) (hxc.1.use _ xk_IOB) h91 h92 h93 ?_
    refine lv_astore (lv' := [(4, .ref q9), (0, .ref (AD 0)), (1, .int (zI a)), (2, .int (zI i)), (3, .ref (AD 89))]) hx hb d_L_agree_13 hl (by decide) rfl (fun ls hl => ?_)
    refine zr_iconst hx hb d_L_agree_15 ?_
    exact hret _ _ _ _ _ _ (0 + 2) (0 + 12) (by decide) (by decide) d_L_agree_16 hw ⟨Or.inr ⟨rfl, hxp, rfl⟩, fun j _ _ => rfl⟩
  · obtain ⟨v9, hv9, rfl⟩ := zI_of r9
    have fr9 : ∀ j : Int, 82 ≤ j → Cq j = C j := fun j hj => by have hCe := hq.2.2; rw [hCe]
    have hout : Cq 89 = aL (k 2) 1 of := (fr9 89 (by omega)).trans hout
    refine zr_i2l hx hb d_L_agree_8 ⟨by omega, by omega⟩ ?_
    refine zr_last hx hb hK hw 89 ⟨by omega, by omega⟩ 2 hout rfl ⟨by omega, by omega⟩ (by decide) d_L_agree_9 (fun H locs hw => ?_)
    obtain ⟨C1, hC1⟩ : ∃ z : Int → va_E, z = zup Cq 89 (aL (k 2) 1 (zup of 0 v9)) := ⟨_, rfl⟩
    have hw : WD D clW (wA N AD sz) s.heap H locs N AD C1 := by rw [hC1]; exact hw
    have frC1 : ∀ j : Int, j ≠ 89 → C1 j = Cq j := fun j h => by rw [hC1]; exact zup_n h
    have hout : C1 89 = aL (k 2) 1 (zup of 0 v9) := by rw [hC1]; exact zup_s
    refine lv_goto (tgt := 17) hx hb d_L_agree_10 (by decide) ?_
    refine zr_iconst hx hb d_L_agree_17 ?_
    exact hret _ _ _ _ _ _ (0 + 2) (0 + 12) (by decide) (by decide) d_L_agree_18 hw ⟨Or.inl ⟨rfl, v9, Cq, hv9, hq, hout, frC1⟩, fun j h1 h2 => (frC1 j h2).trans (fr9 j h1)⟩
abbrev rm_L_odds : Room := { frames := 8, cells := 2, slots := 12, locals := 130 }
set_option maxHeartbeats 4000000 in
set_option maxRecDepth 100000 in
theorem c_L_odds (l : Launch) (D : va_G) (k : Nat → ClassId) (N : Nat) (AD : Int → Nat) (C : Int → va_E) (sz : Nat) (hlt : l.stackTraces = false) (pn : Int) (pf : Int → Int) (kc : Int) (nn : Int → Int) (ww : Int → Int → Int) (ee : Int → Int → Int) (lc : Int) (pm : Int → Int) (pS : Int → Int) (pN : Int → Int) (pR : Int → Int) (pT : Int → Int) (pA : Int → Int) (oS : Int → Int) (oN : Int → Int) (oR : Int → Int) (oT : Int → Int) (oA : Int → Int) (tr : Int) (sn : Int) (sw : Int → Int) (se : Int → Int) (q0 : Int) (q1 : Int) (q2 : Int) (q3 : Int) (q4 : Int) (mb : Int → Int) (ak : Int → Int) (a : Int) (i : Int) (of : Int → Int) (hN : 90 ≤ (N : Int)) (hRI : RIx k AD C pn pf kc nn ww ee lc pm pS pN pR pT pA oS oN oR oT oA tr sn sw se q0 q1 q2 q3 q4 mb ak) (hout : C 89 = aL (k 2) 1 of) (ha : inI a) (hi : inI i) (htr2 : tr ≤ 100000) : YI l y_L_odds (Cond.codeWith y_L_odds b_L_odds 5 (Option.some Jvm.ClassFile.FieldType.int) [(0, 9, 12, 24)] :: WS) rm_L_odds 2 12 D clW (tyW k) N AD C sz [.ref (AD 0), .int (zI a), .int (zI i), .ref (AD 89)] (fun r C' => ((r = zI 0 ∧ ∃ (v : Int) (C1 : Int → va_E), inL v ∧ (fun r C' => r = zL (oddF (oT a) (oA a) tr i) ∧ ((0 ≤ a ∧ a < lc) ∧ (i = 0 ∨ i = 1)) ∧ C' = C) (zL v) C1 ∧ C' 89 = aL (k 2) 1 (zup of 0 v) ∧ ∀ j : Int, j ≠ 89 → C' j = C1 j) ∨ (r = zI 1 ∧ (¬ ((0 ≤ a ∧ a < lc) ∧ (i = 0 ∨ i = 1))) ∧ C' = C)) ∧ ∀ j : Int, 82 ≤ j → j ≠ 89 → C' j = C j) := by
  refine YI.start (cc := b_L_odds) (maxL := 5) (hh := [(0, 9, 12, 24)]) (by decide) rfl (Nat.le_of_ble_eq_true rfl) ?_
  intro p e s m args below meth c Q ls hx hb hml hown hts hK hsz hw hl htab hxc hnc hret
  have hown : s.vm.findClass "RingMatchesLaw" = some m.cls := hown
  have hl : lv_has ls 5 [(0, .ref (AD 0)), (1, .int (zI a)), (2, .int (zI i)), (3, .ref (AD 89))] := hl
  have hA := wA_hi (N := N) (AD := AD) hsz
  obtain ⟨H, hH⟩ : ∃ H, H = s.heap := ⟨_, rfl⟩
  obtain ⟨locs, hlocs⟩ : ∃ z : List Loc, z = [] := ⟨_, rfl⟩
  have hw : WD D clW (wA N AD sz) s.heap H locs N AD C := by rw [hH, hlocs]; exact hw
  rw [← hlocs]
  suffices hgo : W p l e rm_L_odds s m args below meth c H locs 0 0 Q (F0 m 0 ls []) by rw [hH] at hgo; exact hgo
  refine lv_aload_n hx hb d_L_odds_0 rfl (lv_at hl 3 rfl) ?_
  refine zr_iconst hx hb d_L_odds_1 ?_
  refine lv_aload_n hx hb d_L_odds_2 rfl (lv_at hl 0 rfl) ?_
  refine lv_iload_n hx hb d_L_odds_3 rfl (lv_at hl 1 rfl) ?_
  refine lv_iload_n hx hb d_L_odds_4 rfl (lv_at hl 2 rfl) ?_
  refine zr_xcallL (vx_runV (As := [.int (zI a), .int (zI i)]) (rest := [.int (zI 0), .ref (AD 89)]) ⟨hx, hb, hml, hown, hts⟩ (c_R_odds l D k N AD C H.size hlt pn pf kc nn ww ee lc pm pS pN pR pT pA oS oN oR oT oA tr sn sw se q0 q1 q2 q3 q4 mb ak a i (by omega) hRI ha hi htr2) (cwV 2 hts (good_V wk_434 wk_435 wk_436 wk_27 wk_437) rfl rfl rfl (by decide +kernel) ⟨Nat.le_of_ble_eq_true rfl, Nat.le_of_ble_eq_true rfl⟩) (xPre_V hK hw hA hxc 0 ⟨by omega, by omega⟩ (show C 0 = _ from hRI.1) rfl) rfl rfl hl.1 rfl (lv_room (Nat.le_of_ble_eq_true rfl)) d_L_odds_5 ⟨Nat.le_of_ble_eq_true rfl, Nat.le_of_ble_eq_true rfl⟩) hw hA (fun E9 ce9 q9 H locs hxp hw h91 h92 h93 => ?_) (fun r9 Cq H locs hq hw => ?_)
  · obtain ⟨rfl, hxp⟩ := hxp
    refine vx_catch hown ([] : List ExceptionTableEntry) ({ startPc := 0, endPc := 9, handlerPc := 12, catchType := 24 } : ExceptionTableEntry) ([] : List ExceptionTableEntry) (htab.trans rfl) (fun z hz => absurd hz List.not_mem_nil) rfl (by decide) (hts _ wk_293) (hxc.1.use _ xk_IOB) h91 h92 h93 ?_
    refine lv_astore (lv' := [(4, .ref q9), (0, .ref (AD 0)), (1, .int (zI a)), (2, .int (zI i)), (3, .ref (AD 89))]) hx hb d_L_odds_12 hl (by decide) rfl (fun ls hl => ?_)
    refine zr_iconst hx hb d_L_odds_14 ?_
    exact hret _ _ _ _ _ _ (0 + 2) (0 + 12) (by decide) (by decide) d_L_odds_15 hw ⟨Or.inr ⟨rfl, hxp, rfl⟩, fun j _ _ => rfl⟩
  · obtain ⟨v9, hv9, rfl⟩ := zL_of r9
    have fr9 : ∀ j : Int, 82 ≤ j → Cq j = C j := fun j hj => by have hCe := hq.2.2; rw [hCe]
    have hout : Cq 89 = aL (k 2) 1 of := (fr9 89 (by omega)).trans hout
    refine zr_last hx hb hK hw 89 ⟨by omega, by omega⟩ 2 hout rfl ⟨by omega, by omega⟩ (by decide) d_L_odds_8 (fun H locs hw => ?_)
    obtain ⟨C1, hC1⟩ : ∃ z : Int → va_E, z = zup Cq 89 (aL (k 2) 1 (zup of 0 v9)) := ⟨_, rfl⟩
    have hw : WD D clW (wA N AD sz) s.heap H locs N AD C1 := by rw [hC1]; exact hw
    have frC1 : ∀ j : Int, j ≠ 89 → C1 j = Cq j := fun j h => by rw [hC1]; exact zup_n h
    have hout : C1 89 = aL (k 2) 1 (zup of 0 v9) := by rw [hC1]; exact zup_s
    refine lv_goto (tgt := 16) hx hb d_L_odds_9 (by decide) ?_
    refine zr_iconst hx hb d_L_odds_16 ?_
    exact hret _ _ _ _ _ _ (0 + 2) (0 + 12) (by decide) (by decide) d_L_odds_17 hw ⟨Or.inl ⟨rfl, v9, Cq, hv9, hq, hout, frC1⟩, fun j h1 h2 => (frC1 j h2).trans (fr9 j h1)⟩
abbrev rm_L_absent : Room := { frames := 8, cells := 3, slots := 18, locals := 139 }
set_option maxHeartbeats 4000000 in
set_option maxRecDepth 100000 in
theorem c_L_absent (l : Launch) (D : va_G) (k : Nat → ClassId) (N : Nat) (AD : Int → Nat) (C : Int → va_E) (sz : Nat) (hlt : l.stackTraces = false) (pn : Int) (pf : Int → Int) (kc : Int) (nn : Int → Int) (ww : Int → Int → Int) (ee : Int → Int → Int) (lc : Int) (pm : Int → Int) (pS : Int → Int) (pN : Int → Int) (pR : Int → Int) (pT : Int → Int) (pA : Int → Int) (oS : Int → Int) (oN : Int → Int) (oR : Int → Int) (oT : Int → Int) (oA : Int → Int) (tr : Int) (sn : Int) (sw : Int → Int) (se : Int → Int) (q0 : Int) (q1 : Int) (q2 : Int) (q3 : Int) (q4 : Int) (mb : Int → Int) (ak : Int → Int) (a : Int) (b : Int) (s0 : Int) (of : Int → Int) (hN : 90 ≤ (N : Int)) (hRI : RIx k AD C pn pf kc nn ww ee lc pm pS pN pR pT pA oS oN oR oT oA tr sn sw se q0 q1 q2 q3 q4 mb ak) (hout : C 89 = aL (k 2) 1 of) (ha : inI a) (hb9 : inI b) (hs9 : inI s0) : YI l y_L_absent (Cond.codeWith y_L_absent b_L_absent 6 (Option.some Jvm.ClassFile.FieldType.int) [(0, 12, 15, 24), (0, 12, 19, 13)] :: WS) rm_L_absent 3 18 D clW (tyW k) N AD C sz [.ref (AD 0), .int (zI a), .int (zI b), .int (zI s0), .ref (AD 89)] (fun r C' => ((r = zI 0 ∧ ∃ (v : Int) (C1 : Int → va_E), inI v ∧ (fun r C' => ((0 ≤ a ∧ a < kc) ∧ (0 ≤ b ∧ b < kc)) ∧ (nn b < 24 ∧ -24 ≤ s0 ∧ s0 ≤ 24) ∧ r = zI (abS (ww a) (nn a) (ww b) (nn b) s0 (nn b + 1).toNat).1 ∧ (∃ (sn1 : Int) (sw1 se1 : Int → Int) (r0 r1 r2 r3 r4 : Int), RIx k AD C' pn pf kc nn ww ee lc pm pS pN pR pT pA oS oN oR oT oA tr sn1 sw1 se1 r0 r1 r2 r3 r4 mb ak) ∧ ∀ j : Int, ¬ (0 ≤ j ∧ j ≤ 81) → C' j = C j) (zI v) C1 ∧ C' 89 = aL (k 2) 1 (zup of 0 v) ∧ ∀ j : Int, j ≠ 89 → C' j = C1 j) ∨ (r = zI 1 ∧ (¬ ((0 ≤ a ∧ a < kc) ∧ (0 ≤ b ∧ b < kc))) ∧ C' = C) ∨ (r = zI 2 ∧ (((0 ≤ a ∧ a < kc) ∧ (0 ≤ b ∧ b < kc)) ∧ ¬ (nn b < 24 ∧ -24 ≤ s0 ∧ s0 ≤ 24)) ∧ C' = C)) ∧ ∀ j : Int, 82 ≤ j → j ≠ 89 → C' j = C j) := by
  refine YI.start (cc := b_L_absent) (maxL := 6) (hh := [(0, 12, 15, 24), (0, 12, 19, 13)]) (by decide) rfl (Nat.le_of_ble_eq_true rfl) ?_
  intro p e s m args below meth c Q ls hx hb hml hown hts hK hsz hw hl htab hxc hnc hret
  have hown : s.vm.findClass "RingMatchesLaw" = some m.cls := hown
  have hl : lv_has ls 6 [(0, .ref (AD 0)), (1, .int (zI a)), (2, .int (zI b)), (3, .int (zI s0)), (4, .ref (AD 89))] := hl
  have hA := wA_hi (N := N) (AD := AD) hsz
  obtain ⟨H, hH⟩ : ∃ H, H = s.heap := ⟨_, rfl⟩
  obtain ⟨locs, hlocs⟩ : ∃ z : List Loc, z = [] := ⟨_, rfl⟩
  have hw : WD D clW (wA N AD sz) s.heap H locs N AD C := by rw [hH, hlocs]; exact hw
  rw [← hlocs]
  suffices hgo : W p l e rm_L_absent s m args below meth c H locs 0 0 Q (F0 m 0 ls []) by rw [hH] at hgo; exact hgo
  refine lv_aload hx hb d_L_absent_0 (lv_at hl 4 rfl) ?_
  refine zr_iconst hx hb d_L_absent_2 ?_
  refine lv_aload_n hx hb d_L_absent_3 rfl (lv_at hl 0 rfl) ?_
  refine lv_iload_n hx hb d_L_absent_4 rfl (lv_at hl 1 rfl) ?_
  refine lv_iload_n hx hb d_L_absent_5 rfl (lv_at hl 2 rfl) ?_
  refine lv_iload_n hx hb d_L_absent_6 rfl (lv_at hl 3 rfl) ?_
  refine zr_xcallI (vx_runV (As := [.int (zI a), .int (zI b), .int (zI s0)]) (rest := [.int (zI 0), .ref (AD 89)]) ⟨hx, hb, hml, hown, hts⟩ (c_R_absent l D k N AD C H.size hlt pn pf kc nn ww ee lc pm pS pN pR pT pA oS oN oR oT oA tr sn sw se q0 q1 q2 q3 q4 mb ak a b s0 (by omega) hRI ha hb9 hs9) (cwV 3 hts (good_V wk_444 wk_445 wk_446 wk_27 wk_447) rfl rfl rfl (by decide +kernel) ⟨Nat.le_of_ble_eq_true rfl, Nat.le_of_ble_eq_true rfl⟩) (xPre_V hK hw hA hxc 0 ⟨by omega, by omega⟩ (show C 0 = _ from hRI.1) rfl) rfl rfl hl.1 rfl (lv_room (Nat.le_of_ble_eq_true rfl)) d_L_absent_7 ⟨Nat.le_of_ble_eq_true rfl, Nat.le_of_ble_eq_true rfl⟩) hw hA (fun E9 ce9 q9 H locs hxp hw h91 h92 h93 => ?_) (fun r9 Cq H locs hq hw => ?_)
  · rcases hxp with ⟨rfl, hxp⟩ | ⟨rfl, hxp⟩
    · refine vx_catch hown ([] : List ExceptionTableEntry) ({ startPc := 0, endPc := 12, handlerPc := 15, catchType := 24 } : ExceptionTableEntry) ([{ startPc := 0, endPc := 12, handlerPc := 19, catchType := 13 }] : List ExceptionTableEntry) (htab.trans rfl) (fun z hz => absurd hz List.not_mem_nil) rfl (by decide) (hts _ wk_293) (hxc.1.use _ xk_IOB) h91 h92 h93 ?_
      refine lv_astore (lv' := [(5, .ref q9), (0, .ref (AD 0)), (1, .int (zI a)), (2, .int (zI b)), (3, .int (zI s0)), (4, .ref (AD 89))]) hx hb d_L_absent_15 hl (by decide) rfl (fun ls hl => ?_)
      refine zr_iconst hx hb d_L_absent_17 ?_
      exact hret _ _ _ _ _ _ (0 + 3) (0 + 18) (by decide) (by decide) d_L_absent_18 hw ⟨Or.inr (Or.inl ⟨rfl, hxp, rfl⟩), fun j _ _ => rfl⟩
    · refine vx_catch hown ([{ startPc := 0, endPc := 12, handlerPc := 15, catchType := 24 }] : List ExceptionTableEntry) ({ startPc := 0, endPc := 12, handlerPc := 19, catchType := 13 } : ExceptionTableEntry) ([] : List ExceptionTableEntry) (htab.trans rfl) (fun z hz => by cases List.mem_singleton.mp hz; exact Or.inr ⟨by decide, _, hts _ wk_293, hnc.2.1⟩) rfl (by decide) (hts _ wk_145) (hxc.1.use _ xk_IAE) h91 h92 h93 ?_
      refine lv_astore (lv' := [(5, .ref q9), (0, .ref (AD 0)), (1, .int (zI a)), (2, .int (zI b)), (3, .int (zI s0)), (4, .ref (AD 89))]) hx hb d_L_absent_19 hl (by decide) rfl (fun ls hl => ?_)
      refine zr_iconst hx hb d_L_absent_21 ?_
      exact hret _ _ _ _ _ _ (0 + 3) (0 + 18) (by decide) (by decide) d_L_absent_22 hw ⟨Or.inr (Or.inr ⟨rfl, hxp, rfl⟩), fun j _ _ => rfl⟩
  · obtain ⟨v9, hv9, rfl⟩ := zI_of r9
    have fr9 : ∀ j : Int, 82 ≤ j → Cq j = C j := fun j hj => hq.2.2.2.2 j (by omega)
    have hout : Cq 89 = aL (k 2) 1 of := (fr9 89 (by omega)).trans hout
    refine zr_i2l hx hb d_L_absent_10 ⟨by omega, by omega⟩ ?_
    refine zr_last hx hb hK hw 89 ⟨by omega, by omega⟩ 2 hout rfl ⟨by omega, by omega⟩ (by decide) d_L_absent_11 (fun H locs hw => ?_)
    obtain ⟨C1, hC1⟩ : ∃ z : Int → va_E, z = zup Cq 89 (aL (k 2) 1 (zup of 0 v9)) := ⟨_, rfl⟩
    have hw : WD D clW (wA N AD sz) s.heap H locs N AD C1 := by rw [hC1]; exact hw
    have frC1 : ∀ j : Int, j ≠ 89 → C1 j = Cq j := fun j h => by rw [hC1]; exact zup_n h
    have hout : C1 89 = aL (k 2) 1 (zup of 0 v9) := by rw [hC1]; exact zup_s
    refine lv_goto (tgt := 23) hx hb d_L_absent_12 (by decide) ?_
    refine zr_iconst hx hb d_L_absent_23 ?_
    exact hret _ _ _ _ _ _ (0 + 3) (0 + 18) (by decide) (by decide) d_L_absent_24 hw ⟨Or.inl ⟨rfl, v9, Cq, hv9, hq, hout, frC1⟩, fun j h1 h2 => (frC1 j h2).trans (fr9 j h1)⟩
abbrev rm_L_core : Room := { frames := 8, cells := 3, slots := 18, locals := 132 }
set_option maxHeartbeats 4000000 in
set_option maxRecDepth 100000 in
theorem c_L_core (l : Launch) (D : va_G) (k : Nat → ClassId) (N : Nat) (AD : Int → Nat) (C : Int → va_E) (sz : Nat) (hlt : l.stackTraces = false) (pn : Int) (pf : Int → Int) (kc : Int) (nn : Int → Int) (ww : Int → Int → Int) (ee : Int → Int → Int) (lc : Int) (pm : Int → Int) (pS : Int → Int) (pN : Int → Int) (pR : Int → Int) (pT : Int → Int) (pA : Int → Int) (oS : Int → Int) (oN : Int → Int) (oR : Int → Int) (oT : Int → Int) (oA : Int → Int) (tr : Int) (sn : Int) (sw : Int → Int) (se : Int → Int) (q0 : Int) (q1 : Int) (q2 : Int) (q3 : Int) (q4 : Int) (mb : Int → Int) (ak : Int → Int) (a : Int) (b : Int) (s0 : Int) (of : Int → Int) (hN : 90 ≤ (N : Int)) (hRI : RIx k AD C pn pf kc nn ww ee lc pm pS pN pR pT pA oS oN oR oT oA tr sn sw se q0 q1 q2 q3 q4 mb ak) (hout : C 89 = aL (k 2) 1 of) (ha : inI a) (hb9 : inI b) (hs9 : inI s0) : YI l y_L_core (Cond.codeWith y_L_core b_L_core 6 (Option.some Jvm.ClassFile.FieldType.int) [(0, 12, 15, 24), (0, 12, 19, 15)] :: WS) rm_L_core 3 18 D clW (tyW k) N AD C sz [.ref (AD 0), .int (zI a), .int (zI b), .int (zI s0), .ref (AD 89)] (fun r C' => ((r = zI 0 ∧ ∃ (v : Int) (C1 : Int → va_E), inI v ∧ (fun r C' => ((0 ≤ a ∧ a < kc) ∧ (0 ≤ b ∧ b < kc)) ∧ kc < 8 ∧ ((¬ ((- nn b < s0 ∧ s0 < nn a) ∧ (max (nn a) (nn b + s0) - min 0 s0) ≤ 24) ∧ r = zI (-1) ∧ C' = C) ∨ (((- nn b < s0 ∧ s0 < nn a) ∧ (max (nn a) (nn b + s0) - min 0 s0) ≤ 24) ∧ r = zI kc ∧ ∃ w9 e9 : Int → Int, (∀ j : Int, 0 ≤ j → j < (max (nn a) (nn b + s0) - min 0 s0) → w9 j = corW (ww a) (nn a) (ww b) (nn b) s0 j) ∧ RIx k AD C' pn pf (kc + 1) (zup nn kc (max (nn a) (nn b + s0) - min 0 s0)) (zup ww kc w9) (zup ee kc e9) lc pm pS pN pR pT pA oS oN oR oT oA tr sn sw se q0 q1 q2 q3 q4 mb ak)) ∧ ∀ j : Int, ¬ (0 ≤ j ∧ j ≤ 81) → C' j = C j) (zI v) C1 ∧ C' 89 = aL (k 2) 1 (zup of 0 v) ∧ ∀ j : Int, j ≠ 89 → C' j = C1 j) ∨ (r = zI 1 ∧ (¬ ((0 ≤ a ∧ a < kc) ∧ (0 ≤ b ∧ b < kc))) ∧ C' = C) ∨ (r = zI 2 ∧ (((0 ≤ a ∧ a < kc) ∧ (0 ≤ b ∧ b < kc)) ∧ ¬ kc < 8) ∧ C' = C)) ∧ ∀ j : Int, 82 ≤ j → j ≠ 89 → C' j = C j) := by
  refine YI.start (cc := b_L_core) (maxL := 6) (hh := [(0, 12, 15, 24), (0, 12, 19, 15)]) (by decide) rfl (Nat.le_of_ble_eq_true rfl) ?_
  intro p e s m args below meth c Q ls hx hb hml hown hts hK hsz hw hl htab hxc hnc hret
  have hown : s.vm.findClass "RingMatchesLaw" = some m.cls := hown
  have hl : lv_has ls 6 [(0, .ref (AD 0)), (1, .int (zI a)), (2, .int (zI b)), (3, .int (zI s0)), (4, .ref (AD 89))] := hl
  have hA := wA_hi (N := N) (AD := AD) hsz
  obtain ⟨H, hH⟩ : ∃ H, H = s.heap := ⟨_, rfl⟩
  obtain ⟨locs, hlocs⟩ : ∃ z : List Loc, z = [] := ⟨_, rfl⟩
  have hw : WD D clW (wA N AD sz) s.heap H locs N AD C := by rw [hH, hlocs]; exact hw
  rw [← hlocs]
  suffices hgo : W p l e rm_L_core s m args below meth c H locs 0 0 Q (F0 m 0 ls []) by rw [hH] at hgo; exact hgo
  refine lv_aload hx hb d_L_core_0 (lv_at hl 4 rfl) ?_
  refine zr_iconst hx hb d_L_core_2 ?_
  refine lv_aload_n hx hb d_L_core_3 rfl (lv_at hl 0 rfl) ?_
  refine lv_iload_n hx hb d_L_core_4 rfl (lv_at hl 1 rfl) ?_
  refine lv_iload_n hx hb d_L_core_5 rfl (lv_at hl 2 rfl) ?_
  refine lv_iload_n hx hb d_L_core_6 rfl (lv_at hl 3 rfl) ?_
  refine zr_xcallI (vx_runV (As := [.int (zI a), .int (zI b), .int (zI s0)]) (rest := [.int (zI 0), .ref (AD 89)]) ⟨hx, hb, hml, hown, hts⟩ (c_R_core l D k N AD C H.size hlt pn pf kc nn ww ee lc pm pS pN pR pT pA oS oN oR oT oA tr sn sw se q0 q1 q2 q3 q4 mb ak a b s0 (by omega) hRI ha hb9 hs9) (cwV 3 hts (good_V wk_459 wk_460 wk_461 wk_27 wk_462) rfl rfl rfl (by decide +kernel) ⟨Nat.le_of_ble_eq_true rfl, Nat.le_of_ble_eq_true rfl⟩) (xPre_V hK hw hA hxc 0 ⟨by omega, by omega⟩ (show C 0 = _ from hRI.1) rfl) rfl rfl hl.1 rfl (lv_room (Nat.le_of_ble_eq_true rfl)) d_L_core_7 ⟨Nat.le_of_ble_eq_true rfl, Nat.le_of_ble_eq_true rfl⟩) hw hA (fun E9 ce9 q9 H locs hxp hw h91 h92 h93 => ?_) (fun r9 Cq H locs hq hw => ?_)
  · rcases hxp with ⟨rfl, hxp⟩ | ⟨rfl, hxp⟩
    · refine vx_catch hown ([] : List ExceptionTableEntry) ({ startPc := 0, endPc := 12, handlerPc := 15, catchType := 24 } : ExceptionTableEntry) ([{ startPc := 0, endPc := 12, handlerPc := 19, catchType := 15 }] : List ExceptionTableEntry) (htab.trans rfl) (fun z hz => absurd hz List.not_mem_nil) rfl (by decide) (hts _ wk_293) (hxc.1.use _ xk_IOB) h91 h92 h93 ?_
      refine lv_astore (lv' := [(5, .ref q9), (0, .ref (AD 0)), (1, .int (zI a)), (2, .int (zI b)), (3, .int (zI s0)), (4, .ref (AD 89))]) hx hb d_L_core_15 hl (by decide) rfl (fun ls hl => ?_)
      refine zr_iconst hx hb d_L_core_17 ?_
      exact hret _ _ _ _ _ _ (0 + 3) (0 + 18) (by decide) (by decide) d_L_core_18 hw ⟨Or.inr (Or.inl ⟨rfl, hxp, rfl⟩), fun j _ _ => rfl⟩
    · refine vx_catch hown ([{ startPc := 0, endPc := 12, handlerPc := 15, catchType := 24 }] : List ExceptionTableEntry) ({ startPc := 0, endPc := 12, handlerPc := 19, catchType := 15 } : ExceptionTableEntry) ([] : List ExceptionTableEntry) (htab.trans rfl) (fun z hz => by cases List.mem_singleton.mp hz; exact Or.inr ⟨by decide, _, hts _ wk_293, hnc.2.2⟩) rfl (by decide) (hts _ wk_146) (hxc.1.use _ xk_ISE) h91 h92 h93 ?_
      refine lv_astore (lv' := [(5, .ref q9), (0, .ref (AD 0)), (1, .int (zI a)), (2, .int (zI b)), (3, .int (zI s0)), (4, .ref (AD 89))]) hx hb d_L_core_19 hl (by decide) rfl (fun ls hl => ?_)
      refine zr_iconst hx hb d_L_core_21 ?_
      exact hret _ _ _ _ _ _ (0 + 3) (0 + 18) (by decide) (by decide) d_L_core_22 hw ⟨Or.inr (Or.inr ⟨rfl, hxp, rfl⟩), fun j _ _ => rfl⟩
  · obtain ⟨v9, hv9, rfl⟩ := zI_of r9
    have fr9 : ∀ j : Int, 82 ≤ j → Cq j = C j := fun j hj => hq.2.2.2 j (by omega)
    have hout : Cq 89 = aL (k 2) 1 of := (fr9 89 (by omega)).trans hout
    refine zr_i2l hx hb d_L_core_10 ⟨by omega, by omega⟩ ?_
    refine zr_last hx hb hK hw 89 ⟨by omega, by omega⟩ 2 hout rfl ⟨by omega, by omega⟩ (by decide) d_L_core_11 (fun H locs hw => ?_)
    obtain ⟨C1, hC1⟩ : ∃ z : Int → va_E, z = zup Cq 89 (aL (k 2) 1 (zup of 0 v9)) := ⟨_, rfl⟩
    have hw : WD D clW (wA N AD sz) s.heap H locs N AD C1 := by rw [hC1]; exact hw
    have frC1 : ∀ j : Int, j ≠ 89 → C1 j = Cq j := fun j h => by rw [hC1]; exact zup_n h
    have hout : C1 89 = aL (k 2) 1 (zup of 0 v9) := by rw [hC1]; exact zup_s
    refine lv_goto (tgt := 23) hx hb d_L_core_12 (by decide) ?_
    refine zr_iconst hx hb d_L_core_23 ?_
    exact hret _ _ _ _ _ _ (0 + 3) (0 + 18) (by decide) (by decide) d_L_core_24 hw ⟨Or.inl ⟨rfl, v9, Cq, hv9, hq, hout, frC1⟩, fun j h1 h2 => (frC1 j h2).trans (fr9 j h1)⟩
abbrev rm_L_group : Room := { frames := 8, cells := 2, slots := 12, locals := 154 }
set_option maxHeartbeats 4000000 in
set_option maxRecDepth 100000 in
theorem c_L_group (l : Launch) (D : va_G) (k : Nat → ClassId) (N : Nat) (AD : Int → Nat) (C : Int → va_E) (sz : Nat) (hlt : l.stackTraces = false) (pn : Int) (pf : Int → Int) (kc : Int) (nn : Int → Int) (ww : Int → Int → Int) (ee : Int → Int → Int) (lc : Int) (pm : Int → Int) (pS : Int → Int) (pN : Int → Int) (pR : Int → Int) (pT : Int → Int) (pA : Int → Int) (oS : Int → Int) (oN : Int → Int) (oR : Int → Int) (oT : Int → Int) (oA : Int → Int) (tr : Int) (sn : Int) (sw : Int → Int) (se : Int → Int) (q0 : Int) (q1 : Int) (q2 : Int) (q3 : Int) (q4 : Int) (mb : Int → Int) (ak : Int → Int) (s0 : Int) (least : Int) (bound : Int) (of : Int → Int) (hN : 90 ≤ (N : Int)) (hRI : RIx k AD C pn pf kc nn ww ee lc pm pS pN pR pT pA oS oN oR oT oA tr sn sw se q0 q1 q2 q3 q4 mb ak) (hout : C 89 = aL (k 2) 1 of) (ha : inI s0) (hle : inI least) (hbo : inI bound) : YI l y_L_group (Cond.codeWith y_L_group b_L_group 6 (Option.some Jvm.ClassFile.FieldType.int) [(0, 12, 15, 24), (0, 12, 19, 13)] :: WS) rm_L_group 2 12 D clW (tyW k) N AD C sz [.ref (AD 0), .int (zI s0), .int (zI least), .int (zI bound), .ref (AD 89)] (fun r C' => ((r = zI 0 ∧ ∃ (v : Int) (C1 : Int → va_E), inI v ∧ (fun r C' => (0 ≤ s0 ∧ s0 < kc) ∧ (3 ≤ least ∧ least ≤ 24) ∧ (∃ z : Int, r = zI z ∧ isGrp (Jn nn ww least bound) kc s0 z) ∧ (∃ (r0 r1 r2 r3 r4 : Int) (mb2 ak2 : Int → Int), RIx k AD C' pn pf kc nn ww ee lc pm pS pN pR pT pA oS oN oR oT oA tr sn sw se r0 r1 r2 r3 r4 mb2 ak2) ∧ ∀ j : Int, ¬ (0 ≤ j ∧ j ≤ 81) → C' j = C j) (zI v) C1 ∧ C' 89 = aL (k 2) 1 (zup of 0 v) ∧ ∀ j : Int, j ≠ 89 → C' j = C1 j) ∨ (r = zI 1 ∧ (¬ (0 ≤ s0 ∧ s0 < kc)) ∧ C' = C) ∨ (r = zI 2 ∧ ((0 ≤ s0 ∧ s0 < kc) ∧ ¬ (3 ≤ least ∧ least ≤ 24)) ∧ C' = C)) ∧ ∀ j : Int, 82 ≤ j → j ≠ 89 → C' j = C j) := by
  refine YI.start (cc := b_L_group) (maxL := 6) (hh := [(0, 12, 15, 24), (0, 12, 19, 13)]) (by decide) rfl (Nat.le_of_ble_eq_true rfl) ?_
  intro p e s m args below meth c Q ls hx hb hml hown hts hK hsz hw hl htab hxc hnc hret
  have hown : s.vm.findClass "RingMatchesLaw" = some m.cls := hown
  have hl : lv_has ls 6 [(0, .ref (AD 0)), (1, .int (zI s0)), (2, .int (zI least)), (3, .int (zI bound)), (4, .ref (AD 89))] := hl
  have hA := wA_hi (N := N) (AD := AD) hsz
  obtain ⟨H, hH⟩ : ∃ H, H = s.heap := ⟨_, rfl⟩
  obtain ⟨locs, hlocs⟩ : ∃ z : List Loc, z = [] := ⟨_, rfl⟩
  have hw : WD D clW (wA N AD sz) s.heap H locs N AD C := by rw [hH, hlocs]; exact hw
  rw [← hlocs]
  suffices hgo : W p l e rm_L_group s m args below meth c H locs 0 0 Q (F0 m 0 ls []) by rw [hH] at hgo; exact hgo
  refine lv_aload hx hb d_L_group_0 (lv_at hl 4 rfl) ?_
  refine zr_iconst hx hb d_L_group_2 ?_
  refine lv_aload_n hx hb d_L_group_3 rfl (lv_at hl 0 rfl) ?_
  refine lv_iload_n hx hb d_L_group_4 rfl (lv_at hl 1 rfl) ?_
  refine lv_iload_n hx hb d_L_group_5 rfl (lv_at hl 2 rfl) ?_
  refine lv_iload_n hx hb d_L_group_6 rfl (lv_at hl 3 rfl) ?_
  refine zr_xcallI (vx_runV (As := [.int (zI s0), .int (zI least), .int (zI bound)]) (rest := [.int (zI 0), .ref (AD 89)]) ⟨hx, hb, hml, hown, hts⟩ (c_R_group l D k N AD C H.size hlt pn pf kc nn ww ee lc pm pS pN pR pT pA oS oN oR oT oA tr sn sw se q0 q1 q2 q3 q4 mb ak s0 least bound (by omega) hRI ha hle hbo) (cwV 3 hts (good_V wk_473 wk_474 wk_475 wk_27 wk_476) rfl rfl rfl (by decide +kernel) ⟨Nat.le_of_ble_eq_true rfl, Nat.le_of_ble_eq_true rfl⟩) (xPre_V hK hw hA hxc 0 ⟨by omega, by omega⟩ (show C 0 = _ from hRI.1) rfl) rfl rfl hl.1 rfl (lv_room (Nat.le_of_ble_eq_true rfl)) d_L_group_7 ⟨Nat.le_of_ble_eq_true rfl, Nat.le_of_ble_eq_true rfl⟩) hw hA (fun E9 ce9 q9 H locs hxp hw h91 h92 h93 => ?_) (fun r9 Cq H locs hq hw => ?_)
  · rcases hxp with ⟨rfl, hxp⟩ | ⟨rfl, hxp⟩
    · refine vx_catch hown ([] : List ExceptionTableEntry) ({ startPc := 0, endPc := 12, handlerPc := 15, catchType := 24 } : ExceptionTableEntry) ([{ startPc := 0, endPc := 12, handlerPc := 19, catchType := 13 }] : List ExceptionTableEntry) (htab.trans rfl) (fun z hz => absurd hz List.not_mem_nil) rfl (by decide) (hts _ wk_293) (hxc.1.use _ xk_IOB) h91 h92 h93 ?_
      refine lv_astore (lv' := [(5, .ref q9), (0, .ref (AD 0)), (1, .int (zI s0)), (2, .int (zI least)), (3, .int (zI bound)), (4, .ref (AD 89))]) hx hb d_L_group_15 hl (by decide) rfl (fun ls hl => ?_)
      refine zr_iconst hx hb d_L_group_17 ?_
      exact hret _ _ _ _ _ _ (0 + 2) (0 + 12) (by decide) (by decide) d_L_group_18 hw ⟨Or.inr (Or.inl ⟨rfl, hxp, rfl⟩), fun j _ _ => rfl⟩
    · refine vx_catch hown ([{ startPc := 0, endPc := 12, handlerPc := 15, catchType := 24 }] : List ExceptionTableEntry) ({ startPc := 0, endPc := 12, handlerPc := 19, catchType := 13 } : ExceptionTableEntry) ([] : List ExceptionTableEntry) (htab.trans rfl) (fun z hz => by cases List.mem_singleton.mp hz; exact Or.inr ⟨by decide, _, hts _ wk_293, hnc.2.1⟩) rfl (by decide) (hts _ wk_145) (hxc.1.use _ xk_IAE) h91 h92 h93 ?_
      refine lv_astore (lv' := [(5, .ref q9), (0, .ref (AD 0)), (1, .int (zI s0)), (2, .int (zI least)), (3, .int (zI bound)), (4, .ref (AD 89))]) hx hb d_L_group_19 hl (by decide) rfl (fun ls hl => ?_)
      refine zr_iconst hx hb d_L_group_21 ?_
      exact hret _ _ _ _ _ _ (0 + 2) (0 + 12) (by decide) (by decide) d_L_group_22 hw ⟨Or.inr (Or.inr ⟨rfl, hxp, rfl⟩), fun j _ _ => rfl⟩
  · obtain ⟨v9, hv9, rfl⟩ := zI_of r9
    have fr9 : ∀ j : Int, 82 ≤ j → Cq j = C j := fun j hj => hq.2.2.2.2 j (by omega)
    have hout : Cq 89 = aL (k 2) 1 of := (fr9 89 (by omega)).trans hout
    refine zr_i2l hx hb d_L_group_10 ⟨by omega, by omega⟩ ?_
    refine zr_last hx hb hK hw 89 ⟨by omega, by omega⟩ 2 hout rfl ⟨by omega, by omega⟩ (by decide) d_L_group_11 (fun H locs hw => ?_)
    obtain ⟨C1, hC1⟩ : ∃ z : Int → va_E, z = zup Cq 89 (aL (k 2) 1 (zup of 0 v9)) := ⟨_, rfl⟩
    have hw : WD D clW (wA N AD sz) s.heap H locs N AD C1 := by rw [hC1]; exact hw
    have frC1 : ∀ j : Int, j ≠ 89 → C1 j = Cq j := fun j h => by rw [hC1]; exact zup_n h
    have hout : C1 89 = aL (k 2) 1 (zup of 0 v9) := by rw [hC1]; exact zup_s
    refine lv_goto (tgt := 23) hx hb d_L_group_12 (by decide) ?_
    refine zr_iconst hx hb d_L_group_23 ?_
    exact hret _ _ _ _ _ _ (0 + 2) (0 + 12) (by decide) (by decide) d_L_group_24 hw ⟨Or.inl ⟨rfl, v9, Cq, hv9, hq, hout, frC1⟩, fun j h1 h2 => (frC1 j h2).trans (fr9 j h1)⟩
abbrev rm_L_count : Room := { frames := 7, cells := 1, slots := 6, locals := 103 }
set_option maxHeartbeats 4000000 in
set_option maxRecDepth 100000 in
theorem c_L_count (l : Launch) (D : va_G) (k : Nat → ClassId) (N : Nat) (AD : Int → Nat) (C : Int → va_E) (sz : Nat) (hlt : l.stackTraces = false) (pn : Int) (pf : Int → Int) (kc : Int) (nn : Int → Int) (ww : Int → Int → Int) (ee : Int → Int → Int) (lc : Int) (pm : Int → Int) (pS : Int → Int) (pN : Int → Int) (pR : Int → Int) (pT : Int → Int) (pA : Int → Int) (oS : Int → Int) (oN : Int → Int) (oR : Int → Int) (oT : Int → Int) (oA : Int → Int) (tr : Int) (sn : Int) (sw : Int → Int) (se : Int → Int) (q0 : Int) (q1 : Int) (q2 : Int) (q3 : Int) (q4 : Int) (mb : Int → Int) (ak : Int → Int) (i : Int) (of : Int → Int) (hN : 90 ≤ (N : Int)) (hRI : RIx k AD C pn pf kc nn ww ee lc pm pS pN pR pT pA oS oN oR oT oA tr sn sw se q0 q1 q2 q3 q4 mb ak) (hout : C 89 = aL (k 2) 1 of) (hi : inI i) : YI l y_L_count (Cond.codeWith y_L_count b_L_count 4 (Option.some Jvm.ClassFile.FieldType.int) [(0, 9, 12, 24)] :: WS) rm_L_count 1 6 D clW (tyW k) N AD C sz [.ref (AD 0), .int (zI i), .ref (AD 89)] (fun r C' => ((r = zI 0 ∧ ∃ (v : Int) (C1 : Int → va_E), inI v ∧ (fun r C' => r = zI (cntF pn kc lc tr i) ∧ (0 ≤ i ∧ i ≤ 3) ∧ C' = C) (zI v) C1 ∧ C' 89 = aL (k 2) 1 (zup of 0 v) ∧ ∀ j : Int, j ≠ 89 → C' j = C1 j) ∨ (r = zI 1 ∧ (¬ (0 ≤ i ∧ i ≤ 3)) ∧ C' = C)) ∧ ∀ j : Int, 82 ≤ j → j ≠ 89 → C' j = C j) := by
  refine YI.start (cc := b_L_count) (maxL := 4) (hh := [(0, 9, 12, 24)]) (by decide) rfl (Nat.le_of_ble_eq_true rfl) ?_
  intro p e s m args below meth c Q ls hx hb hml hown hts hK hsz hw hl htab hxc hnc hret
  have hown : s.vm.findClass "RingMatchesLaw" = some m.cls := hown
  have hl : lv_has ls 4 [(0, .ref (AD 0)), (1, .int (zI i)), (2, .ref (AD 89))] := hl
  have hA := wA_hi (N := N) (AD := AD) hsz
  obtain ⟨H, hH⟩ : ∃ H, H = s.heap := ⟨_, rfl⟩
  obtain ⟨locs, hlocs⟩ : ∃ z : List Loc, z = [] := ⟨_, rfl⟩
  have hw : WD D clW (wA N AD sz) s.heap H locs N AD C := by rw [hH, hlocs]; exact hw
  rw [← hlocs]
  suffices hgo : W p l e rm_L_count s m args below meth c H locs 0 0 Q (F0 m 0 ls []) by rw [hH] at hgo; exact hgo
  refine lv_aload_n hx hb d_L_count_0 rfl (lv_at hl 2 rfl) ?_
  refine zr_iconst hx hb d_L_count_1 ?_
  refine lv_aload_n hx hb d_L_count_2 rfl (lv_at hl 0 rfl) ?_
  refine lv_iload_n hx hb d_L_count_3 rfl (lv_at hl 1 rfl) ?_
  refine zr_xcallI (vx_runV (As := [.int (zI i)]) (rest := [.int (zI 0), .ref (AD 89)]) ⟨hx, hb, hml, hown, hts⟩ (c_R_count l D k N AD C H.size hlt pn pf kc nn ww ee lc pm pS pN pR pT pA oS oN oR oT oA tr sn sw se q0 q1 q2 q3 q4 mb ak i (by omega) hRI hi) (cwV 1 hts (good_V wk_496 wk_497 wk_498 wk_27 wk_499) rfl rfl rfl (by decide +kernel) ⟨Nat.le_of_ble_eq_true rfl, Nat.le_of_ble_eq_true rfl⟩) (xPre_V hK hw hA hxc 0 ⟨by omega, by omega⟩ (show C 0 = _ from hRI.1) rfl) rfl rfl hl.1 rfl (lv_room (Nat.le_of_ble_eq_true rfl)) d_L_count_4 ⟨Nat.le_of_ble_eq_true rfl, Nat.le_of_ble_eq_true rfl⟩) hw hA (fun E9 ce9 q9 H locs hxp hw h91 h92 h93 => ?_) (fun r9 Cq H locs hq hw => ?_)
  · obtain ⟨rfl, hxp⟩ := hxp
    refine vx_catch hown ([] : List ExceptionTableEntry) ({ startPc := 0, endPc := 9, handlerPc := 12, catchType := 24 } : ExceptionTableEntry) ([] : List ExceptionTableEntry) (htab.trans rfl) (fun z hz => absurd hz List.not_mem_nil) rfl (by decide) (hts _ wk_293) (hxc.1.use _ xk_IOB) h91 h92 h93 ?_
    refine lv_astore_n (lv' := [(3, .ref q9), (0, .ref (AD 0)), (1, .int (zI i)), (2, .ref (AD 89))]) hx hb d_L_count_12 rfl hl (by decide) rfl (fun ls hl => ?_)
    refine zr_iconst hx hb d_L_count_13 ?_
    exact hret _ _ _ _ _ _ (0 + 1) (0 + 6) (by decide) (by decide) d_L_count_14 hw ⟨Or.inr ⟨rfl, hxp, rfl⟩, fun j _ _ => rfl⟩
  · obtain ⟨v9, hv9, rfl⟩ := zI_of r9
    have fr9 : ∀ j : Int, 82 ≤ j → Cq j = C j := fun j hj => by have hCe := hq.2.2; rw [hCe]
    have hout : Cq 89 = aL (k 2) 1 of := (fr9 89 (by omega)).trans hout
    refine zr_i2l hx hb d_L_count_7 ⟨by omega, by omega⟩ ?_
    refine zr_last hx hb hK hw 89 ⟨by omega, by omega⟩ 2 hout rfl ⟨by omega, by omega⟩ (by decide) d_L_count_8 (fun H locs hw => ?_)
    obtain ⟨C1, hC1⟩ : ∃ z : Int → va_E, z = zup Cq 89 (aL (k 2) 1 (zup of 0 v9)) := ⟨_, rfl⟩
    have hw : WD D clW (wA N AD sz) s.heap H locs N AD C1 := by rw [hC1]; exact hw
    have frC1 : ∀ j : Int, j ≠ 89 → C1 j = Cq j := fun j h => by rw [hC1]; exact zup_n h
    have hout : C1 89 = aL (k 2) 1 (zup of 0 v9) := by rw [hC1]; exact zup_s
    refine lv_goto (tgt := 15) hx hb d_L_count_9 (by decide) ?_
    refine zr_iconst hx hb d_L_count_15 ?_
    exact hret _ _ _ _ _ _ (0 + 1) (0 + 6) (by decide) (by decide) d_L_count_16 hw ⟨Or.inl ⟨rfl, v9, Cq, hv9, hq, hout, frC1⟩, fun j h1 h2 => (frC1 j h2).trans (fr9 j h1)⟩
