/-! contracts over one world -/
def wA (N : Nat) (AD : Int → Nat) (sz : Nat) : Nat → Prop := fun q => (∃ k : Int, 0 ≤ k ∧ k < (N : Int) ∧ q = AD k) ∨ sz ≤ q
theorem wA_D {B : Nat → Prop} {N : Nat} {AD : Int → Nat} {C : Int → va_E} {sz : Nat} (h : va_D B (wl N AD C)) : va_D (wA N AD sz) (wl N AD C) := by
  refine ⟨h.1, fun k q hk => ?_⟩
  obtain ⟨h1, rfl⟩ := wl_at hk
  exact Or.inl ⟨(k : Int), by omega, by omega, rfl⟩
theorem wA_free {D : va_G} {cl : List vw_C} {A : Nat → Prop} {H0 H : Heap} {locs : List Loc} {N : Nat} {AD : Int → Nat} {C : Int → va_E} (hw : WD D cl A H0 H locs N AD C) (hA : ∀ q, H0.size ≤ q → A q) : ∀ q, wA N AD H.size q → A q := by
  intro q h
  rcases h with ⟨k, h0, h1, rfl⟩ | h
  · exact hw.2.1.2 k.toNat (AD k, C k) (wl_get h0 h1)
  · exact hA q (Nat.le_trans hw.2.2.1 h)
theorem wA_hi {N : Nat} {AD : Int → Nat} {sz : Nat} {s : State} (h : s.heap.size = sz) : ∀ q, s.heap.size ≤ q → wA N AD sz q := fun q hq => Or.inr (by omega)
def cPre (D : va_G) (cl : List vw_C) (tys : List (ClassId × FieldType)) (N : Nat) (AD : Int → Nat) (C : Int → va_E) (sz : Nat) : State → Prop := fun U => U.heap.size = sz ∧ va_P D cl (wl N AD C) U.heap ∧ va_K D cl tys U ∧ va_D (fun _ => True) (wl N AD C)
theorem cPre_blind {av : List Value} {D : va_G} {cl : List vw_C} {tys : List (ClassId × FieldType)} {N : Nat} {AD : Int → Nat} {C : Int → va_E} {sz : Nat} : FrameBlind (va_Pc av (cPre D cl tys N AD C sz)) := fun a U g mk q => by
  obtain ⟨q0, q1, qP, qK, qD⟩ := q
  exact ⟨q0, q1, qP, va_K.moved (u := U) (U := U.calling g mk a) (Vm.Alike.refl U.vm) qK, qD⟩
theorem cPre_all {s : State} {av : List Value} {D : va_G} {cl : List vw_C} {tys : List (ClassId × FieldType)} {A : Nat → Prop} {H0 H : Heap} {locs : List Loc} {N : Nat} {AD : Int → Nat} {C : Int → va_E} (hK : va_K D cl tys s) (hw : WD D cl A H0 H locs N AD C) : ∀ U : State, U.heap = H → s.WarmedH U.vm → va_Pc av (cPre D cl tys N AD C H.size) av.toArray U := fun U hU hW =>
  ⟨rfl, by rw [hU], by rw [hU]; exact hw.1, va_K.moved hW.alike hK, hw.2.1.weaken (fun _ _ _ _ => trivial)⟩
theorem cPre_V {s : State} {As : List Value} {D : va_G} {cl : List vw_C} {tys : List (ClassId × FieldType)} {A : Nat → Prop} {H0 H : Heap} {locs : List Loc} {N : Nat} {AD : Int → Nat} {C : Int → va_E} (hK : va_K D cl tys s) (hw : WD D cl A H0 H locs N AD C) (k : Int) (hk : 0 ≤ k ∧ k < N) {ci : Nat} {fs : List Value} (hC : C k = .inr (ci, fs)) {q : vw_C} (hc : cl[ci]? = some q) : PreV s H q.1 (AD k) (va_Pc (.ref (AD k) :: As) (cPre D cl tys N AD C H.size)) As :=
  ⟨cPre_blind, va_recv hK hw.1 hc (by rw [wl_get hk.1 hk.2, hC]), fun U hU hW => cPre_all hK hw U hU hW⟩
theorem cPre_S {s : State} {As : List Value} {D : va_G} {cl : List vw_C} {tys : List (ClassId × FieldType)} {A : Nat → Prop} {H0 H : Heap} {locs : List Loc} {N : Nat} {AD : Int → Nat} {C : Int → va_E} (hK : va_K D cl tys s) (hw : WD D cl A H0 H locs N AD C) : PreS s H (va_Pc As (cPre D cl tys N AD C H.size)) As :=
  ⟨cPre_blind, fun U hU hW => cPre_all hK hw U hU hW⟩
def cB (D : va_G) (cl : List vw_C) (tys : List (ClassId × FieldType)) (N : Nat) (AD : Int → Nat) (sz : Nat) : (Int → va_E) → State → Prop := fun C' t => va_P D cl (wl N AD C') t.heap ∧ va_K D cl tys t ∧ va_D (wA N AD sz) (wl N AD C')
def MI (l : Launch) (y : MethodName) (ws : List Cond) (rm : Room) (D : va_G) (cl : List vw_C) (tys : List (ClassId × FieldType)) (N : Nat) (AD : Int → Nat) (C : Int → va_E) (sz : Nat) (av : List Value) (post : Int32 → (Int → va_E) → Prop) : Prop := Met l y ws rm (va_Pc av (cPre D cl tys N AD C sz)) (va_Qi post (cB D cl tys N AD sz) (wA N AD sz)) 0 0 (wA N AD sz)
theorem MI.start {l : Launch} {y : MethodName} {ws ws' : List Cond} {rm : Room} {D : va_G} {cl : List vw_C} {tys : List (ClassId × FieldType)} {N : Nat} {AD : Int → Nat} {C : Int → va_E} {sz : Nat} {av : List Value} {post : Int32 → (Int → va_E) → Prop} {cc : ByteArray} {maxL : Nat} {rt : FieldType} (hy : plainName y.cls = true) (hws : ws = Cond.code y cc maxL (some rt) :: ws') (hlen : (lg_sl av).length ≤ maxL)
    (body : ∀ (p : Program) (e : Env) (s : State) (m : MethodId) (args : Array Value) (below : List Frame) (meth : Method) (c : Code) (Q : State → Prop) (ls : Array Slot), p.tables.exec = Jvm.exec → c.code = cc → c.maxLocals = maxL → s.vm.findClass y.cls = some m.cls → (∀ w ∈ ws', w.before args s = true) → va_K D cl tys s → s.heap.size = sz → WD D cl (wA N AD sz) s.heap s.heap [] N AD C → lv_has ls maxL (lv_args 0 av) →
      (∀ (r : Int32) (C' : Int → va_E) (H : Heap) (locs : List Loc) (pc : Nat) (ls : Array Slot), decode cc pc = .ok (.ireturn, 1) → WD D cl (wA N AD sz) s.heap H locs N AD C' → narrow rt (.int r) = .int r → post r C' → W p l e rm s m args below meth c H locs 0 0 Q (F0 m pc ls [.int r])) →
      W p l e rm s m args below meth c s.heap [] 0 0 Q (F0 m 0 ls [])) : MI l y ws rm D cl tys N AD C sz av post := by
  refine Met.ofW (cc := cc) (maxL := maxL) (ret := (some rt)) hy hws ?_
  intro p e s m args below meth c s₁ B hml hv
  obtain ⟨rfl, hsz, hP, hK, hD0⟩ := hv
  rw [lg_entry_eq]
  refine body p e s m _ below meth c _ _ B.exec B.bytes hml (findClass_of_methodNamed B.named) (fun w h => atoms_spec (ws := ws) B.pre w (by rw [hws]; exact List.mem_cons_of_mem _ h)) hK hsz ⟨hP, wA_D hD0, va_S.rf⟩ (lv_entry av (n := maxL) hlen) ?_
  intro r C' H locs pc ls hdg hw hn hp
  exact W.zret B.exec B.bytes B.returns hn (fun t ht hW => ⟨⟨r, C', rfl, hp, by rw [ht]; exact hw.1, va_K.moved hW.alike hK, hw.2.1⟩, hw.2.2.F ht⟩) hw.2.2.2.2 hdg B.notSynchronized
def ML (l : Launch) (y : MethodName) (ws : List Cond) (rm : Room) (D : va_G) (cl : List vw_C) (tys : List (ClassId × FieldType)) (N : Nat) (AD : Int → Nat) (C : Int → va_E) (sz : Nat) (av : List Value) (post : Int64 → (Int → va_E) → Prop) : Prop := Met l y ws rm (va_Pc av (cPre D cl tys N AD C sz)) (va_Ql post (cB D cl tys N AD sz) (wA N AD sz)) 0 0 (wA N AD sz)
theorem ML.start {l : Launch} {y : MethodName} {ws ws' : List Cond} {rm : Room} {D : va_G} {cl : List vw_C} {tys : List (ClassId × FieldType)} {N : Nat} {AD : Int → Nat} {C : Int → va_E} {sz : Nat} {av : List Value} {post : Int64 → (Int → va_E) → Prop} {cc : ByteArray} {maxL : Nat} (hy : plainName y.cls = true) (hws : ws = Cond.code y cc maxL (some .long) :: ws') (hlen : (lg_sl av).length ≤ maxL)
    (body : ∀ (p : Program) (e : Env) (s : State) (m : MethodId) (args : Array Value) (below : List Frame) (meth : Method) (c : Code) (Q : State → Prop) (ls : Array Slot), p.tables.exec = Jvm.exec → c.code = cc → c.maxLocals = maxL → s.vm.findClass y.cls = some m.cls → (∀ w ∈ ws', w.before args s = true) → va_K D cl tys s → s.heap.size = sz → WD D cl (wA N AD sz) s.heap s.heap [] N AD C → lv_has ls maxL (lv_args 0 av) →
      (∀ (r : Int64) (C' : Int → va_E) (H : Heap) (locs : List Loc) (pc : Nat) (ls : Array Slot), decode cc pc = .ok (.lreturn, 1) → WD D cl (wA N AD sz) s.heap H locs N AD C' → post r C' → W p l e rm s m args below meth c H locs 0 0 Q (F0 m pc ls [.long r])) →
      W p l e rm s m args below meth c s.heap [] 0 0 Q (F0 m 0 ls [])) : ML l y ws rm D cl tys N AD C sz av post := by
  refine Met.ofW (cc := cc) (maxL := maxL) (ret := (some .long)) hy hws ?_
  intro p e s m args below meth c s₁ B hml hv
  obtain ⟨rfl, hsz, hP, hK, hD0⟩ := hv
  rw [lg_entry_eq]
  refine body p e s m _ below meth c _ _ B.exec B.bytes hml (findClass_of_methodNamed B.named) (fun w h => atoms_spec (ws := ws) B.pre w (by rw [hws]; exact List.mem_cons_of_mem _ h)) hK hsz ⟨hP, wA_D hD0, va_S.rf⟩ (lv_entry av (n := maxL) hlen) ?_
  intro r C' H locs pc ls hdg hw hp
  exact W.lret B.exec B.bytes B.returns (fun t ht hW => ⟨⟨r, C', rfl, hp, by rw [ht]; exact hw.1, va_K.moved hW.alike hK, hw.2.1⟩, hw.2.2.F ht⟩) hw.2.2.2.2 hdg B.notSynchronized
def MV (l : Launch) (y : MethodName) (ws : List Cond) (rm : Room) (D : va_G) (cl : List vw_C) (tys : List (ClassId × FieldType)) (N : Nat) (AD : Int → Nat) (C : Int → va_E) (sz : Nat) (av : List Value) (post : (Int → va_E) → Prop) : Prop := Met l y ws rm (va_Pc av (cPre D cl tys N AD C sz)) (va_Qv post (cB D cl tys N AD sz) (wA N AD sz)) 0 0 (wA N AD sz)
theorem MV.start {l : Launch} {y : MethodName} {ws ws' : List Cond} {rm : Room} {D : va_G} {cl : List vw_C} {tys : List (ClassId × FieldType)} {N : Nat} {AD : Int → Nat} {C : Int → va_E} {sz : Nat} {av : List Value} {post : (Int → va_E) → Prop} {cc : ByteArray} {maxL : Nat} (hy : plainName y.cls = true) (hws : ws = Cond.code y cc maxL none :: ws') (hlen : (lg_sl av).length ≤ maxL)
    (body : ∀ (p : Program) (e : Env) (s : State) (m : MethodId) (args : Array Value) (below : List Frame) (meth : Method) (c : Code) (Q : State → Prop) (ls : Array Slot), p.tables.exec = Jvm.exec → c.code = cc → c.maxLocals = maxL → s.vm.findClass y.cls = some m.cls → (∀ w ∈ ws', w.before args s = true) → va_K D cl tys s → s.heap.size = sz → WD D cl (wA N AD sz) s.heap s.heap [] N AD C → lv_has ls maxL (lv_args 0 av) →
      (∀ (C' : Int → va_E) (H : Heap) (locs : List Loc) (pc : Nat) (ls : Array Slot), decode cc pc = .ok (.return_, 1) → WD D cl (wA N AD sz) s.heap H locs N AD C' → post C' → W p l e rm s m args below meth c H locs 0 0 Q (F0 m pc ls [])) →
      W p l e rm s m args below meth c s.heap [] 0 0 Q (F0 m 0 ls [])) : MV l y ws rm D cl tys N AD C sz av post := by
  refine Met.ofW (cc := cc) (maxL := maxL) (ret := none) hy hws ?_
  intro p e s m args below meth c s₁ B hml hv
  obtain ⟨rfl, hsz, hP, hK, hD0⟩ := hv
  rw [lg_entry_eq]
  refine body p e s m _ below meth c _ _ B.exec B.bytes hml (findClass_of_methodNamed B.named) (fun w h => atoms_spec (ws := ws) B.pre w (by rw [hws]; exact List.mem_cons_of_mem _ h)) hK hsz ⟨hP, wA_D hD0, va_S.rf⟩ (lv_entry av (n := maxL) hlen) ?_
  intro C' H locs pc ls hdg hw hp
  exact W.vret B.exec B.bytes B.returns (fun t ht hW => ⟨⟨C', rfl, hp, by rw [ht]; exact hw.1, va_K.moved hW.alike hK, hw.2.1⟩, hw.2.2.F ht⟩) hw.2.2.2.2 hdg B.notSynchronized
section ZC
variable {p : Program} {l : Launch} {e : Env} {R : Room} {s : State} {m : MethodId} {args : Array Value} {below : List Frame} {meth : Method} {c : Code} {H : Heap} {locs : List Loc} {cells slots : Nat} {Q : State → Prop} {pc : Nat} {ls : Array Slot} {rest st0 : List Value} {a : Array Value}
variable {D : va_G} {cl : List vw_C} {tys : List (ClassId × FieldType)} {A : Nat → Prop} {N : Nat} {AD : Int → Nat} {C : Int → va_E}
theorem zr_callI {post : Int32 → (Int → va_E) → Prop} (hr : va_Run p l e R s m args below meth c H locs cells slots 0 0 (F0 m pc ls st0) rest (va_Qi post (cB D cl tys N AD H.size) (wA N AD H.size) a) (wA N AD H.size)) (hw : WD D cl A s.heap H locs N AD C) (hA : ∀ q, s.heap.size ≤ q → A q)
    (kk : ∀ (r : Int32) (C' : Int → va_E) (H1 : Heap) (locs1 : List Loc), post r C' → WD D cl A s.heap H1 locs1 N AD C' → W p l e R s m args below meth c H1 locs1 cells slots Q (F0 m (pc + 3) ls (.int r :: rest))) : W p l e R s m args below meth c H locs cells slots Q (F0 m pc ls st0) := by
  have hF := wA_free hw hA
  refine va_calli hr hw.2.2 (fun q _ h => hF q h) hF (fun r C' t H1 locs1 ht hvm hp hB hz hk hS => ?_)
  exact kk r C' H1 locs1 hp ⟨by rw [← ht]; exact hB.1, hB.2.2.weaken (fun k q _ h => hF q.1 h), hS⟩
theorem zr_callL {post : Int64 → (Int → va_E) → Prop} (hr : va_Run p l e R s m args below meth c H locs cells slots 0 0 (F0 m pc ls st0) rest (va_Ql post (cB D cl tys N AD H.size) (wA N AD H.size) a) (wA N AD H.size)) (hw : WD D cl A s.heap H locs N AD C) (hA : ∀ q, s.heap.size ≤ q → A q)
    (kk : ∀ (r : Int64) (C' : Int → va_E) (H1 : Heap) (locs1 : List Loc), post r C' → WD D cl A s.heap H1 locs1 N AD C' → W p l e R s m args below meth c H1 locs1 cells slots Q (F0 m (pc + 3) ls (.long r :: rest))) : W p l e R s m args below meth c H locs cells slots Q (F0 m pc ls st0) := by
  have hF := wA_free hw hA
  refine va_calll hr hw.2.2 (fun q _ h => hF q h) hF (fun r C' t H1 locs1 ht hvm hp hB hz hk hS => ?_)
  exact kk r C' H1 locs1 hp ⟨by rw [← ht]; exact hB.1, hB.2.2.weaken (fun k q _ h => hF q.1 h), hS⟩
theorem zr_callV {post : (Int → va_E) → Prop} (hr : va_Run p l e R s m args below meth c H locs cells slots 0 0 (F0 m pc ls st0) rest (va_Qv post (cB D cl tys N AD H.size) (wA N AD H.size) a) (wA N AD H.size)) (hw : WD D cl A s.heap H locs N AD C) (hA : ∀ q, s.heap.size ≤ q → A q)
    (kk : ∀ (C' : Int → va_E) (H1 : Heap) (locs1 : List Loc), post C' → WD D cl A s.heap H1 locs1 N AD C' → W p l e R s m args below meth c H1 locs1 cells slots Q (F0 m (pc + 3) ls rest)) : W p l e R s m args below meth c H locs cells slots Q (F0 m pc ls st0) := by
  have hF := wA_free hw hA
  refine va_callv hr hw.2.2 (fun q _ h => hF q h) hF (fun C' t H1 locs1 ht hvm hp hB hz hk hS => ?_)
  exact kk C' H1 locs1 hp ⟨by rw [← ht]; exact hB.1, hB.2.2.weaken (fun k q _ h => hF q.1 h), hS⟩
end ZC
