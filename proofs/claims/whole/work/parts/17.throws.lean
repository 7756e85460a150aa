/-! throwing: the words that are not good ones, the texts, the two statics -/
def xWB : List Cond := lw_tbl.filter (fun w => match w with | .castable _ _ => true | .declares _ => true | _ => false)
def xW (U : State) : Prop := ∀ w ∈ xWB, va_Nw w U
theorem xWB_k {w : Cond} (h : w ∈ xWB) : (∃ a b, w = .castable a b) ∨ ∃ a, w = .declares a := by
  have h2 := (List.mem_filter.mp h).2
  cases w <;> first | exact Or.inl ⟨_, _, rfl⟩ | exact Or.inr ⟨_, rfl⟩ | cases h2
theorem xW.warm {s U : State} (hW : s.WarmedH U.vm) (h : xW s) : xW U := fun w hw => by
  rcases xWB_k hw with ⟨a, b, rfl⟩ | ⟨a, rfl⟩
  · exact va_Nw.warmC hW (h _ hw)
  · exact va_Nw.warmD hW (h _ hw)
theorem xW.same {s U : State} (hv : s.vm = U.vm) (h : xW s) : xW U := fun w hw => by
  rcases xWB_k hw with ⟨a, b, rfl⟩ | ⟨a, rfl⟩
  · exact va_Nw.same rfl hv (h _ hw)
  · exact va_Nw.same rfl hv (h _ hw)
theorem xW.use {s : State} {args : Array Value} (h : xW s) : ∀ w ∈ xWB, w.before args s = true := fun w hw => by
  rcases xWB_k hw with ⟨a, b, rfl⟩ | ⟨a, rfl⟩
  · exact va_Nw.use rfl (h _ hw)
  · exact va_Nw.use rfl (h _ hw)
def strL : List (Nat × String) := [(51, "a sign is not 32 .. 126"), (66, "the pad would have more than 100 signs"), (76, "there are eight series"), (201, "no such series"), (96, "no such ring"), (105, "no such sign"), (205, "least is not 3 .. 24"), (203, "no such overlap"), (146, "no such what"), (207, "no such part"), (165, "the series has 24 rings"), (167, "the shift is not -24 .. 24")]
def xC (A : Nat → Prop) (U : State) (H : Heap) : Prop := xW U ∧ (∀ q ∈ strL, ∃ a, vk_R "RingMatches" q.1 q.2 a U) ∧ vx_Zq Jvm.Bundle.tN "UNASSIGNED_STACK" Jvm.Bundle.steD A U H ∧ vx_Zq Jvm.Bundle.tN "SUPPRESSED_SENTINEL" Jvm.Bundle.listD A U H
theorem xC.warm {A : Nat → Prop} {s U : State} {H : Heap} (hW : s.WarmedH U.vm) (h : xC A s H) : xC A U H := ⟨h.1.warm hW, fun q hq => (h.2.1 q hq).elim fun a ha => ⟨a, vk_R.warm hW ha⟩, h.2.2.1.moved hW.alike, h.2.2.2.moved hW.alike⟩
theorem xC.same {A : Nat → Prop} {s U : State} {H : Heap} (hv : s.vm = U.vm) (h : xC A s H) : xC A U H := ⟨h.1.same hv, fun q hq => (h.2.1 q hq).elim fun a ha => ⟨a, vk_R.same hv.symm ha⟩, h.2.2.1.moved (by rw [hv]; exact Vm.Alike.refl _), h.2.2.2.moved (by rw [hv]; exact Vm.Alike.refl _)⟩
theorem xC.kept {A : Nat → Prop} {U : State} {H H1 : Heap} (h : xC A U H) (hq : ∀ a : Nat, a < H.size → ¬ A a → H1[a]? = H[a]?) : xC A U H1 := ⟨h.1, h.2.1, h.2.2.1.kept hq, h.2.2.2.kept hq⟩
theorem xC.narrow {A B : Nat → Prop} {U : State} {H : Heap} (h : xC A U H) (hAB : ∀ q, B q → A q) : xC B U H := ⟨h.1, h.2.1, h.2.2.1.narrow hAB, h.2.2.2.narrow hAB⟩
def xPre (D : va_G) (cl : List vw_C) (tys : List (ClassId × FieldType)) (N : Nat) (AD : Int → Nat) (C : Int → va_E) (sz : Nat) : State → Prop := fun U => cPre D cl tys N AD C sz U ∧ xC (wA N AD sz) U U.heap
theorem xPre_blind {av : List Value} {D : va_G} {cl : List vw_C} {tys : List (ClassId × FieldType)} {N : Nat} {AD : Int → Nat} {C : Int → va_E} {sz : Nat} : FrameBlind (va_Pc av (xPre D cl tys N AD C sz)) := fun a U g mk q => by
  obtain ⟨q0, ⟨q1, qP, qK, qD⟩, qx⟩ := q
  exact ⟨q0, ⟨q1, qP, va_K.moved (u := U) (U := U.calling g mk a) (Vm.Alike.refl U.vm) qK, qD⟩, xC.same (s := U) (U := U.calling g mk a) (H := U.heap) rfl qx⟩
theorem xPre_all {s : State} {av : List Value} {D : va_G} {cl : List vw_C} {tys : List (ClassId × FieldType)} {A : Nat → Prop} {H : Heap} {locs : List Loc} {N : Nat} {AD : Int → Nat} {C : Int → va_E} (hK : va_K D cl tys s) (hw : WD D cl A s.heap H locs N AD C) (hA : ∀ q, s.heap.size ≤ q → A q) (hx : xC A s s.heap) : ∀ U : State, U.heap = H → s.WarmedH U.vm → va_Pc av (xPre D cl tys N AD C H.size) av.toArray U := fun U hU hW =>
  ⟨rfl, (cPre_all (av := av) hK hw U hU hW).2, by
    rw [hU]
    exact (((hx.kept hw.2.2.2.1).narrow (wA_free hw hA)).warm hW)⟩
theorem xPre_V {s : State} {As : List Value} {D : va_G} {cl : List vw_C} {tys : List (ClassId × FieldType)} {A : Nat → Prop} {H : Heap} {locs : List Loc} {N : Nat} {AD : Int → Nat} {C : Int → va_E} (hK : va_K D cl tys s) (hw : WD D cl A s.heap H locs N AD C) (hA : ∀ q, s.heap.size ≤ q → A q) (hx : xC A s s.heap) (k : Int) (hk : 0 ≤ k ∧ k < N) {ci : Nat} {fs : List Value} (hC : C k = .inr (ci, fs)) {q : vw_C} (hc : cl[ci]? = some q) : PreV s H q.1 (AD k) (va_Pc (.ref (AD k) :: As) (xPre D cl tys N AD C H.size)) As :=
  ⟨xPre_blind, va_recv hK hw.1 hc (by rw [wl_get hk.1 hk.2, hC]), fun U hU hW => xPre_all hK hw hA hx U hU hW⟩
theorem xPre_S {s : State} {As : List Value} {D : va_G} {cl : List vw_C} {tys : List (ClassId × FieldType)} {A : Nat → Prop} {H : Heap} {locs : List Loc} {N : Nat} {AD : Int → Nat} {C : Int → va_E} (hK : va_K D cl tys s) (hw : WD D cl A s.heap H locs N AD C) (hA : ∀ q, s.heap.size ≤ q → A q) (hx : xC A s s.heap) : PreS s H (va_Pc As (xPre D cl tys N AD C H.size)) As :=
  ⟨xPre_blind, fun U hU hW => xPre_all hK hw hA hx U hU hW⟩
/-- what holds where it has thrown: the world is as it was -/
abbrev xX (D : va_G) (cl : List vw_C) (tys : List (ClassId × FieldType)) (N : Nat) (AD : Int → Nat) (C : Int → va_E) (sz : Nat) (xp : String → Prop) : String → State → State → Prop := vx_X (S := Unit) (fun _ => True) (fun E _ t => xp E ∧ cB D cl tys N AD sz C t) (wA N AD sz)
def xNm : List String := ["java/lang/RuntimeException", "java/lang/Exception"]
/-- an exception's class, with the places of its name and its constructor -/
def xcls (cls : String) (ik ic : Nat) : Prop := Jvm.Bundle.fit cls = true ∧ Cond.classLink "RingMatches" ik cls ∈ WS ∧ Cond.initialized cls ∈ WS ∧ (∀ w ∈ (vx_atS "RingMatches" ic cls xNm).filter goodWord, w ∈ WS) ∧ (∀ w ∈ (vx_atS "RingMatches" ic cls xNm).filter (fun w => !goodWord w), w ∈ xWB) ∧ (∀ w ∈ Cond.classLink "RingMatches" ik cls :: Cond.initialized cls :: vx_atS "RingMatches" ic cls xNm, vx_ot w = true)
theorem xc_IAE : xcls "java/lang/IllegalArgumentException" 49 53 := ⟨by decide +kernel, wk_157, wk_35, by decide +kernel, by decide +kernel, by decide +kernel⟩
theorem xc_ISE : xcls "java/lang/IllegalStateException" 64 68 := ⟨by decide +kernel, wk_228, wk_36, by decide +kernel, by decide +kernel, by decide +kernel⟩
theorem xc_IOB : xcls "java/lang/IndexOutOfBoundsException" 94 98 := ⟨by decide +kernel, wk_302, wk_38, by decide +kernel, by decide +kernel, by decide +kernel⟩
theorem xNm_fit : ∀ n ∈ xNm, Jvm.Bundle.fit n = true := by decide +kernel
section ZX
variable {p : Program} {l : Launch} {e : Env} {R : Room} {s : State} {m : MethodId} {args : Array Value} {below : List Frame} {meth : Method} {c : Code} {H : Heap} {locs : List Loc} {cells slots : Nat} {cc : ByteArray} {pc : Nat} {ls : Array Slot} {rest : List Value} {a0 : Array Value}
variable {D : va_G} {cl : List vw_C} {tys : List (ClassId × FieldType)} {N : Nat} {AD : Int → Nat} {C : Int → va_E} {sz : Nat}
variable {Qc : Array Value → State → Outcome → State → Prop} {mc ms : Nat} {xp : String → Prop}
theorem xthrow (hx : p.tables.exec = Jvm.exec) (hb : c.code = cc) (hlt : l.stackTraces = false) (hown : s.vm.findClass "RingMatches" = some m.cls) (hts : ∀ w ∈ WS, w.before args s = true) (hK : va_K D cl tys s) (hxc : xC (wA N AD sz) s s.heap) (htb : ∀ x ∈ c.exceptionTable.toList, False) (hlk : meth.locks = false) {cls text : String} {ik is ic : Nat} (hc9 : xcls cls ik ic) (hst : (is, text) ∈ strL) (hw : WD D cl (wA N AD sz) s.heap H locs N AD C) (hp : xp cls) (hsize : ls.size = c.maxLocals)
    (d0 : decode cc pc = .ok (.new ik, 3)) (d3 : decode cc (pc + 3) = .ok (.dup, 1)) (d4 : decode cc (pc + 4) = .ok (.ldc is, 2)) (d6 : decode cc (pc + 6) = .ok (.invokespecial ic, 3)) (d9 : decode cc (pc + 9) = .ok (.athrow, 1))
    (hRf : 6 ≤ R.frames) (hRl : (rest.map fun v => v.category).sum + 82 ≤ R.locals) (hRc : cells + 1 ≤ R.cells) (hRs : slots + 6 ≤ R.slots) (hc : cells + 1 ≤ mc) (hs : slots + 6 ≤ ms) :
    W p l e R s m args below meth c H locs cells slots (vx_MQ below Qc (xX D cl tys N AD C sz xp) args s mc ms (wA N AD sz)) (F0 m pc ls rest) := by
  obtain ⟨g1, g2, g3, g4, g5, g6⟩ := hc9
  obtain ⟨sa, hsa⟩ := hxc.2.1 _ hst
  refine vx_throwS (names := xNm) (A := wA N AD sz) hx hb hlt hown g1 xNm_fit (hts _ g2) (hts _ g3) hsa (vx_hat (fun w h => hts w (g4 w h)) g5 hxc.1.use) g6 hxc.2.2.1 hxc.2.2.2 hw.2.2 hsize d0 d3 d4 d6 d9 (fun x hx => (htb x hx).elim) (by show 2 + 3 < R.frames; omega) (by show _ + (13 * (2 + 1) + 43) ≤ _; omega) hRc hRs hlk (fun t ha h1 h2 => ?_) hw.2.2.2.2 hc hs
  refine ⟨(), trivial, ⟨hp, hw.1.kept (fun k q hk => h2 q.1 ((hw.1 k q hk).lt)), va_K.moved ha hK, hw.2.1⟩, Nat.le_trans hw.2.2.1 h1, fun q q1 q2 => (h2 q (Nat.lt_of_lt_of_le q1 hw.2.2.1)).trans (hw.2.2.2.1 q q1 q2)⟩
theorem xout (hK : va_K D cl tys s) (htb : ∀ x ∈ c.exceptionTable.toList, False) (hlk : meth.locks = false) {E : String} {ce : Cell} {q : Addr} (hw : WD D cl (wA N AD sz) s.heap H locs N AD C) (hp : xp E) (hcell : H[q]? = some ce) (hv : ce.vm = .none) (hcl : s.vm.findClass E = some ce.cls) (hc : cells ≤ mc) (hs : slots ≤ ms) :
    vx_W p l e R s m args below meth c H locs cells slots (vx_MQ below Qc (xX D cl tys N AD C sz xp) args s mc ms (wA N AD sz)) (F0 m pc ls rest) q :=
  vx_out (fun x hx => (htb x hx).elim) hlk hcell hv hcl (fun t ht ha => ⟨(), trivial, ⟨hp, by rw [ht]; exact hw.1, va_K.moved ha hK, hw.2.1⟩, hw.2.2.F ht⟩) hw.2.2.2.2 hc hs
end ZX
def XI (l : Launch) (y : MethodName) (ws : List Cond) (rm : Room) (mc ms : Nat) (D : va_G) (cl : List vw_C) (tys : List (ClassId × FieldType)) (N : Nat) (AD : Int → Nat) (C : Int → va_E) (sz : Nat) (av : List Value) (post : Int32 → (Int → va_E) → Prop) (xp : String → Prop) : Prop := vx_Met l y ws rm (va_Pc av (xPre D cl tys N AD C sz)) (va_Qi post (cB D cl tys N AD sz) (wA N AD sz)) (xX D cl tys N AD C sz xp) mc ms (wA N AD sz)
theorem XI.start {l : Launch} {y : MethodName} {ws ws' : List Cond} {rm : Room} {mc ms : Nat} {D : va_G} {cl : List vw_C} {tys : List (ClassId × FieldType)} {N : Nat} {AD : Int → Nat} {C : Int → va_E} {sz : Nat} {av : List Value} {post : Int32 → (Int → va_E) → Prop} {xp : String → Prop} {cc : ByteArray} {maxL : Nat} {rt : FieldType} (hy : plainName y.cls = true) (hws : ws = Cond.code y cc maxL (some rt) :: ws') (hlen : (lg_sl av).length ≤ maxL)
    (body : ∀ (p : Program) (e : Env) (s : State) (m : MethodId) (args : Array Value) (below : List Frame) (meth : Method) (c : Code) (Q : State → Prop) (ls : Array Slot), p.tables.exec = Jvm.exec → c.code = cc → c.maxLocals = maxL → s.vm.findClass y.cls = some m.cls → (∀ w ∈ ws', w.before args s = true) → va_K D cl tys s → s.heap.size = sz → WD D cl (wA N AD sz) s.heap s.heap [] N AD C → lv_has ls maxL (lv_args 0 av) → (∀ x ∈ c.exceptionTable.toList, False) → meth.locks = false → xC (wA N AD sz) s s.heap →
      (∃ Qc, Q = vx_MQ below Qc (xX D cl tys N AD C sz xp) args s mc ms (wA N AD sz)) →
      (∀ (r : Int32) (C' : Int → va_E) (H : Heap) (locs : List Loc) (pc : Nat) (ls : Array Slot) (cells slots : Nat), cells ≤ mc → slots ≤ ms → decode cc pc = .ok (.ireturn, 1) → WD D cl (wA N AD sz) s.heap H locs N AD C' → narrow rt (.int r) = .int r → post r C' → W p l e rm s m args below meth c H locs cells slots Q (F0 m pc ls [.int r])) →
      W p l e rm s m args below meth c s.heap [] 0 0 Q (F0 m 0 ls [])) : XI l y ws rm mc ms D cl tys N AD C sz av post xp := by
  refine vx_ofW (cc := cc) (maxL := maxL) (ret := (some rt)) hy hws ?_
  intro p e s m args below meth c s₁ B hml htb hv
  obtain ⟨rfl, ⟨hsz, hP, hK, hD0⟩, hxc⟩ := hv
  rw [lg_entry_eq]
  refine body p e s m _ below meth c _ _ B.exec B.bytes hml (findClass_of_methodNamed B.named) (fun w h => atoms_spec (ws := ws) B.pre w (by rw [hws]; exact List.mem_cons_of_mem _ h)) hK hsz ⟨hP, wA_D hD0, va_S.rf⟩ (lv_entry av (n := maxL) hlen) htb B.notSynchronized hxc ⟨_, rfl⟩ ?_
  intro r C' H locs pc ls cells slots h1 h2 hdg hw hn hp
  refine W.widen h1 h2 (vx_ret ?_)
  exact W.zret B.exec B.bytes B.returns hn (fun t ht hW => ⟨⟨r, C', rfl, hp, by rw [ht]; exact hw.1, va_K.moved hW.alike hK, hw.2.1⟩, hw.2.2.F ht⟩) hw.2.2.2.2 hdg B.notSynchronized
def XL (l : Launch) (y : MethodName) (ws : List Cond) (rm : Room) (mc ms : Nat) (D : va_G) (cl : List vw_C) (tys : List (ClassId × FieldType)) (N : Nat) (AD : Int → Nat) (C : Int → va_E) (sz : Nat) (av : List Value) (post : Int64 → (Int → va_E) → Prop) (xp : String → Prop) : Prop := vx_Met l y ws rm (va_Pc av (xPre D cl tys N AD C sz)) (va_Ql post (cB D cl tys N AD sz) (wA N AD sz)) (xX D cl tys N AD C sz xp) mc ms (wA N AD sz)
theorem XL.start {l : Launch} {y : MethodName} {ws ws' : List Cond} {rm : Room} {mc ms : Nat} {D : va_G} {cl : List vw_C} {tys : List (ClassId × FieldType)} {N : Nat} {AD : Int → Nat} {C : Int → va_E} {sz : Nat} {av : List Value} {post : Int64 → (Int → va_E) → Prop} {xp : String → Prop} {cc : ByteArray} {maxL : Nat} (hy : plainName y.cls = true) (hws : ws = Cond.code y cc maxL (some .long) :: ws') (hlen : (lg_sl av).length ≤ maxL)
    (body : ∀ (p : Program) (e : Env) (s : State) (m : MethodId) (args : Array Value) (below : List Frame) (meth : Method) (c : Code) (Q : State → Prop) (ls : Array Slot), p.tables.exec = Jvm.exec → c.code = cc → c.maxLocals = maxL → s.vm.findClass y.cls = some m.cls → (∀ w ∈ ws', w.before args s = true) → va_K D cl tys s → s.heap.size = sz → WD D cl (wA N AD sz) s.heap s.heap [] N AD C → lv_has ls maxL (lv_args 0 av) → (∀ x ∈ c.exceptionTable.toList, False) → meth.locks = false → xC (wA N AD sz) s s.heap →
      (∃ Qc, Q = vx_MQ below Qc (xX D cl tys N AD C sz xp) args s mc ms (wA N AD sz)) →
      (∀ (r : Int64) (C' : Int → va_E) (H : Heap) (locs : List Loc) (pc : Nat) (ls : Array Slot) (cells slots : Nat), cells ≤ mc → slots ≤ ms → decode cc pc = .ok (.lreturn, 1) → WD D cl (wA N AD sz) s.heap H locs N AD C' → post r C' → W p l e rm s m args below meth c H locs cells slots Q (F0 m pc ls [.long r])) →
      W p l e rm s m args below meth c s.heap [] 0 0 Q (F0 m 0 ls [])) : XL l y ws rm mc ms D cl tys N AD C sz av post xp := by
  refine vx_ofW (cc := cc) (maxL := maxL) (ret := (some .long)) hy hws ?_
  intro p e s m args below meth c s₁ B hml htb hv
  obtain ⟨rfl, ⟨hsz, hP, hK, hD0⟩, hxc⟩ := hv
  rw [lg_entry_eq]
  refine body p e s m _ below meth c _ _ B.exec B.bytes hml (findClass_of_methodNamed B.named) (fun w h => atoms_spec (ws := ws) B.pre w (by rw [hws]; exact List.mem_cons_of_mem _ h)) hK hsz ⟨hP, wA_D hD0, va_S.rf⟩ (lv_entry av (n := maxL) hlen) htb B.notSynchronized hxc ⟨_, rfl⟩ ?_
  intro r C' H locs pc ls cells slots h1 h2 hdg hw hp
  refine W.widen h1 h2 (vx_ret ?_)
  exact W.lret B.exec B.bytes B.returns (fun t ht hW => ⟨⟨r, C', rfl, hp, by rw [ht]; exact hw.1, va_K.moved hW.alike hK, hw.2.1⟩, hw.2.2.F ht⟩) hw.2.2.2.2 hdg B.notSynchronized
def XV (l : Launch) (y : MethodName) (ws : List Cond) (rm : Room) (mc ms : Nat) (D : va_G) (cl : List vw_C) (tys : List (ClassId × FieldType)) (N : Nat) (AD : Int → Nat) (C : Int → va_E) (sz : Nat) (av : List Value) (post : (Int → va_E) → Prop) (xp : String → Prop) : Prop := vx_Met l y ws rm (va_Pc av (xPre D cl tys N AD C sz)) (va_Qv post (cB D cl tys N AD sz) (wA N AD sz)) (xX D cl tys N AD C sz xp) mc ms (wA N AD sz)
theorem XV.start {l : Launch} {y : MethodName} {ws ws' : List Cond} {rm : Room} {mc ms : Nat} {D : va_G} {cl : List vw_C} {tys : List (ClassId × FieldType)} {N : Nat} {AD : Int → Nat} {C : Int → va_E} {sz : Nat} {av : List Value} {post : (Int → va_E) → Prop} {xp : String → Prop} {cc : ByteArray} {maxL : Nat} (hy : plainName y.cls = true) (hws : ws = Cond.code y cc maxL none :: ws') (hlen : (lg_sl av).length ≤ maxL)
    (body : ∀ (p : Program) (e : Env) (s : State) (m : MethodId) (args : Array Value) (below : List Frame) (meth : Method) (c : Code) (Q : State → Prop) (ls : Array Slot), p.tables.exec = Jvm.exec → c.code = cc → c.maxLocals = maxL → s.vm.findClass y.cls = some m.cls → (∀ w ∈ ws', w.before args s = true) → va_K D cl tys s → s.heap.size = sz → WD D cl (wA N AD sz) s.heap s.heap [] N AD C → lv_has ls maxL (lv_args 0 av) → (∀ x ∈ c.exceptionTable.toList, False) → meth.locks = false → xC (wA N AD sz) s s.heap →
      (∃ Qc, Q = vx_MQ below Qc (xX D cl tys N AD C sz xp) args s mc ms (wA N AD sz)) →
      (∀ (C' : Int → va_E) (H : Heap) (locs : List Loc) (pc : Nat) (ls : Array Slot) (cells slots : Nat), cells ≤ mc → slots ≤ ms → decode cc pc = .ok (.return_, 1) → WD D cl (wA N AD sz) s.heap H locs N AD C' → post C' → W p l e rm s m args below meth c H locs cells slots Q (F0 m pc ls [])) →
      W p l e rm s m args below meth c s.heap [] 0 0 Q (F0 m 0 ls [])) : XV l y ws rm mc ms D cl tys N AD C sz av post xp := by
  refine vx_ofW (cc := cc) (maxL := maxL) (ret := none) hy hws ?_
  intro p e s m args below meth c s₁ B hml htb hv
  obtain ⟨rfl, ⟨hsz, hP, hK, hD0⟩, hxc⟩ := hv
  rw [lg_entry_eq]
  refine body p e s m _ below meth c _ _ B.exec B.bytes hml (findClass_of_methodNamed B.named) (fun w h => atoms_spec (ws := ws) B.pre w (by rw [hws]; exact List.mem_cons_of_mem _ h)) hK hsz ⟨hP, wA_D hD0, va_S.rf⟩ (lv_entry av (n := maxL) hlen) htb B.notSynchronized hxc ⟨_, rfl⟩ ?_
  intro C' H locs pc ls cells slots h1 h2 hdg hw hp
  refine W.widen h1 h2 (vx_ret ?_)
  exact W.vret B.exec B.bytes B.returns (fun t ht hW => ⟨⟨C', rfl, hp, by rw [ht]; exact hw.1, va_K.moved hW.alike hK, hw.2.1⟩, hw.2.2.F ht⟩) hw.2.2.2.2 hdg B.notSynchronized
def xR (D : va_G) (cl : List vw_C) (tys : List (ClassId × FieldType)) (N : Nat) (AD : Int → Nat) (C : Int → va_E) (sz : Nat) (ra : Nat) (rp : Prop) : Array Value → State → Outcome → State → Prop := fun _ st oc t => (oc = .returned (some (.ref ra)) ∧ rp ∧ cB D cl tys N AD sz C t) ∧ va_F (wA N AD sz) st t
def XR (l : Launch) (y : MethodName) (ws : List Cond) (rm : Room) (mc ms : Nat) (D : va_G) (cl : List vw_C) (tys : List (ClassId × FieldType)) (N : Nat) (AD : Int → Nat) (C : Int → va_E) (sz : Nat) (av : List Value) (ra : Nat) (rp : Prop) (xp : String → Prop) : Prop := vx_Met l y ws rm (va_Pc av (xPre D cl tys N AD C sz)) (xR D cl tys N AD C sz ra rp) (xX D cl tys N AD C sz xp) mc ms (wA N AD sz)
theorem XR.start {l : Launch} {y : MethodName} {ws ws' : List Cond} {rm : Room} {mc ms : Nat} {D : va_G} {cl : List vw_C} {tys : List (ClassId × FieldType)} {N : Nat} {AD : Int → Nat} {C : Int → va_E} {sz : Nat} {av : List Value} {ra : Nat} {rp : Prop} {xp : String → Prop} {cc : ByteArray} {maxL : Nat} {rn : String} (hy : plainName y.cls = true) (hws : ws = Cond.code y cc maxL (some (.object rn)) :: ws') (hlen : (lg_sl av).length ≤ maxL)
    (body : ∀ (p : Program) (e : Env) (s : State) (m : MethodId) (args : Array Value) (below : List Frame) (meth : Method) (c : Code) (Q : State → Prop) (ls : Array Slot), p.tables.exec = Jvm.exec → c.code = cc → c.maxLocals = maxL → s.vm.findClass y.cls = some m.cls → (∀ w ∈ ws', w.before args s = true) → va_K D cl tys s → s.heap.size = sz → WD D cl (wA N AD sz) s.heap s.heap [] N AD C → lv_has ls maxL (lv_args 0 av) → (∀ x ∈ c.exceptionTable.toList, False) → meth.locks = false → xC (wA N AD sz) s s.heap →
      (∃ Qc, Q = vx_MQ below Qc (xX D cl tys N AD C sz xp) args s mc ms (wA N AD sz)) →
      (∀ (H : Heap) (locs : List Loc) (pc : Nat) (ls : Array Slot) (cells slots : Nat), cells ≤ mc → slots ≤ ms → decode cc pc = .ok (.areturn, 1) → WD D cl (wA N AD sz) s.heap H locs N AD C → rp → W p l e rm s m args below meth c H locs cells slots Q (F0 m pc ls [.ref ra])) →
      W p l e rm s m args below meth c s.heap [] 0 0 Q (F0 m 0 ls [])) : XR l y ws rm mc ms D cl tys N AD C sz av ra rp xp := by
  refine vx_ofW (cc := cc) (maxL := maxL) (ret := some (.object rn)) hy hws ?_
  intro p e s m args below meth c s₁ B hml htb hv
  obtain ⟨rfl, ⟨hsz, hP, hK, hD0⟩, hxc⟩ := hv
  rw [lg_entry_eq]
  refine body p e s m _ below meth c _ _ B.exec B.bytes hml (findClass_of_methodNamed B.named) (fun w h => atoms_spec (ws := ws) B.pre w (by rw [hws]; exact List.mem_cons_of_mem _ h)) hK hsz ⟨hP, wA_D hD0, va_S.rf⟩ (lv_entry av (n := maxL) hlen) htb B.notSynchronized hxc ⟨_, rfl⟩ ?_
  intro H locs pc ls cells slots h1 h2 hdg hw hp
  refine W.widen h1 h2 (vx_ret ?_)
  exact W.aret B.exec B.bytes B.returns (Or.inl ⟨_, rfl⟩) (Or.inr ⟨_, rfl⟩) (fun t ht hW => ⟨⟨rfl, hp, by rw [ht]; exact hw.1, va_K.moved hW.alike hK, hw.2.1⟩, hw.2.2.F ht⟩) hw.2.2.2.2 hdg B.notSynchronized
section ZXC
variable {p : Program} {l : Launch} {e : Env} {R : Room} {s : State} {m : MethodId} {args : Array Value} {below : List Frame} {meth : Method} {c : Code} {H : Heap} {locs : List Loc} {cells slots mc ms : Nat} {Q : State → Prop} {pc : Nat} {ls : Array Slot} {rest st0 : List Value} {a : Array Value}
variable {D : va_G} {cl : List vw_C} {tys : List (ClassId × FieldType)} {A : Nat → Prop} {N : Nat} {AD : Int → Nat} {C : Int → va_E} {xp : String → Prop}
theorem zr_xcallI {post : Int32 → (Int → va_E) → Prop} (hr : vx_Run p l e R s m args below meth c H locs cells slots mc ms (F0 m pc ls st0) rest (va_Qi post (cB D cl tys N AD H.size) (wA N AD H.size) a) (xX D cl tys N AD C H.size xp) (wA N AD H.size)) (hw : WD D cl A s.heap H locs N AD C) (hA : ∀ q, s.heap.size ≤ q → A q)
    (kx : ∀ (E : String) (ce : Cell) (q9 : Addr) (H1 : Heap) (locs1 : List Loc), xp E → WD D cl A s.heap H1 locs1 N AD C → H1[q9]? = some ce → ce.vm = .none → s.vm.findClass E = some ce.cls → vx_W p l e R s m args below meth c H1 locs1 (cells + mc) (slots + ms) Q (F0 m pc ls rest) q9)
    (kk : ∀ (r : Int32) (C' : Int → va_E) (H1 : Heap) (locs1 : List Loc), post r C' → WD D cl A s.heap H1 locs1 N AD C' → W p l e R s m args below meth c H1 locs1 (cells + mc) (slots + ms) Q (F0 m (pc + 3) ls (.int r :: rest))) : W p l e R s m args below meth c H locs cells slots Q (F0 m pc ls st0) := by
  have hF := wA_free hw hA
  refine vx_calli hr hw.2.2 (fun q _ h => hF q h) hF (fun q _ h => hF q h) (fun E ce q9 u t H1 locs1 ht hvm hp hB hz hk hS hce hcv hcl => ?_) (fun r C' t H1 locs1 ht hvm hp hB hz hk hS => ?_)
  · exact kx E ce q9 H1 locs1 hB.1 ⟨by rw [← ht]; exact hB.2.1, hB.2.2.2.weaken (fun k q _ h => hF q.1 h), hS⟩ hce hcv hcl
  · exact kk r C' H1 locs1 hp ⟨by rw [← ht]; exact hB.1, hB.2.2.weaken (fun k q _ h => hF q.1 h), hS⟩
theorem zr_xcallL {post : Int64 → (Int → va_E) → Prop} (hr : vx_Run p l e R s m args below meth c H locs cells slots mc ms (F0 m pc ls st0) rest (va_Ql post (cB D cl tys N AD H.size) (wA N AD H.size) a) (xX D cl tys N AD C H.size xp) (wA N AD H.size)) (hw : WD D cl A s.heap H locs N AD C) (hA : ∀ q, s.heap.size ≤ q → A q)
    (kx : ∀ (E : String) (ce : Cell) (q9 : Addr) (H1 : Heap) (locs1 : List Loc), xp E → WD D cl A s.heap H1 locs1 N AD C → H1[q9]? = some ce → ce.vm = .none → s.vm.findClass E = some ce.cls → vx_W p l e R s m args below meth c H1 locs1 (cells + mc) (slots + ms) Q (F0 m pc ls rest) q9)
    (kk : ∀ (r : Int64) (C' : Int → va_E) (H1 : Heap) (locs1 : List Loc), post r C' → WD D cl A s.heap H1 locs1 N AD C' → W p l e R s m args below meth c H1 locs1 (cells + mc) (slots + ms) Q (F0 m (pc + 3) ls (.long r :: rest))) : W p l e R s m args below meth c H locs cells slots Q (F0 m pc ls st0) := by
  have hF := wA_free hw hA
  refine vx_calll hr hw.2.2 (fun q _ h => hF q h) hF (fun q _ h => hF q h) (fun E ce q9 u t H1 locs1 ht hvm hp hB hz hk hS hce hcv hcl => ?_) (fun r C' t H1 locs1 ht hvm hp hB hz hk hS => ?_)
  · exact kx E ce q9 H1 locs1 hB.1 ⟨by rw [← ht]; exact hB.2.1, hB.2.2.2.weaken (fun k q _ h => hF q.1 h), hS⟩ hce hcv hcl
  · exact kk r C' H1 locs1 hp ⟨by rw [← ht]; exact hB.1, hB.2.2.weaken (fun k q _ h => hF q.1 h), hS⟩
theorem zr_xcallV {post : (Int → va_E) → Prop} (hr : vx_Run p l e R s m args below meth c H locs cells slots mc ms (F0 m pc ls st0) rest (va_Qv post (cB D cl tys N AD H.size) (wA N AD H.size) a) (xX D cl tys N AD C H.size xp) (wA N AD H.size)) (hw : WD D cl A s.heap H locs N AD C) (hA : ∀ q, s.heap.size ≤ q → A q)
    (kx : ∀ (E : String) (ce : Cell) (q9 : Addr) (H1 : Heap) (locs1 : List Loc), xp E → WD D cl A s.heap H1 locs1 N AD C → H1[q9]? = some ce → ce.vm = .none → s.vm.findClass E = some ce.cls → vx_W p l e R s m args below meth c H1 locs1 (cells + mc) (slots + ms) Q (F0 m pc ls rest) q9)
    (kk : ∀ (C' : Int → va_E) (H1 : Heap) (locs1 : List Loc), post C' → WD D cl A s.heap H1 locs1 N AD C' → W p l e R s m args below meth c H1 locs1 (cells + mc) (slots + ms) Q (F0 m (pc + 3) ls rest)) : W p l e R s m args below meth c H locs cells slots Q (F0 m pc ls st0) := by
  have hF := wA_free hw hA
  refine vx_callv hr hw.2.2 (fun q _ h => hF q h) hF (fun q _ h => hF q h) (fun E ce q9 u t H1 locs1 ht hvm hp hB hz hk hS hce hcv hcl => ?_) (fun C' t H1 locs1 ht hvm hp hB hz hk hS => ?_)
  · exact kx E ce q9 H1 locs1 hB.1 ⟨by rw [← ht]; exact hB.2.1, hB.2.2.2.weaken (fun k q _ h => hF q.1 h), hS⟩ hce hcv hcl
  · exact kk C' H1 locs1 hp ⟨by rw [← ht]; exact hB.1, hB.2.2.weaken (fun k q _ h => hF q.1 h), hS⟩
theorem zr_xcallR {ra : Nat} {rp : Prop} (hr : vx_Run p l e R s m args below meth c H locs cells slots mc ms (F0 m pc ls st0) rest (xR D cl tys N AD C H.size ra rp a) (xX D cl tys N AD C H.size xp) (wA N AD H.size)) (hw : WD D cl A s.heap H locs N AD C) (hA : ∀ q, s.heap.size ≤ q → A q)
    (kx : ∀ (E : String) (ce : Cell) (q9 : Addr) (H1 : Heap) (locs1 : List Loc), xp E → WD D cl A s.heap H1 locs1 N AD C → H1[q9]? = some ce → ce.vm = .none → s.vm.findClass E = some ce.cls → vx_W p l e R s m args below meth c H1 locs1 (cells + mc) (slots + ms) Q (F0 m pc ls rest) q9)
    (kk : ∀ (H1 : Heap) (locs1 : List Loc), rp → WD D cl A s.heap H1 locs1 N AD C → W p l e R s m args below meth c H1 locs1 (cells + mc) (slots + ms) Q (F0 m (pc + 3) ls (.ref ra :: rest))) : W p l e R s m args below meth c H locs cells slots Q (F0 m pc ls st0) := by
  have hF := wA_free hw hA
  intro T hT X
  rcases hr T hT X with ⟨v, st₀, t, T', L, h0, X', hL, e1, e2, ⟨⟨hv, hp, hB⟩, hF9⟩, st⟩ | ⟨q, st₀, t, T', L, E, ce, h0, X', hL, e1, e2, ⟨u, hp, hB, hF9⟩, hce, hcv, hcl, st⟩
  · cases hv
    obtain ⟨k1, k2, k3⟩ := vx_keep h0 e1 hw.2.2 (fun q _ h => hF q h) hF hL hF9
    obtain ⟨t2, a1, b1⟩ := kk T'.heap (locs ++ L) hp ⟨by rw [e1]; exact hB.1, hB.2.2.weaken (fun k q _ h => hF q.1 h), k3⟩ T' rfl X'
    exact ⟨t2, st t2 a1, b1⟩
  · obtain ⟨k1, k2, k3⟩ := vx_keep h0 e1 hw.2.2 (fun q _ h => hF q h) hF hL hF9
    obtain ⟨t2, a1, b1⟩ := kx E ce q T'.heap (locs ++ L) hB.1 ⟨by rw [e1]; exact hB.2.1, hB.2.2.2.weaken (fun k q _ h => hF q.1 h), k3⟩ (by rw [e1]; exact hce) hcv hcl T' rfl X'
    exact ⟨t2, st.trans a1, b1⟩
end ZXC
