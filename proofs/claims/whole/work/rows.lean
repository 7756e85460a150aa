section
-- ===== PART A: goes FIRST, ahead of the names: the tables' words, and 'selects' of the private methods out of them =====
/-- a private method of a class that the tables say can be made, by its rows of tables_1 -/
def lw_okq (q : MethodName × Nat) : Prop := (q.1.cls ≠ "java/lang/invoke/MethodHandle" ∧ q.1.cls ≠ "java/lang/invoke/VarHandle") ∧ Cond.instantiable q.1.cls q.2 ∈ tables_1 ∧ Cond.privateMethod q.1 ∈ tables_1 ∧ Cond.instanceMethod q.1 ∈ tables_1
theorem lw_p0 : lw_okq (⟨"java/lang/Throwable", "fillInStackTrace", "(I)Ljava/lang/Throwable;"⟩, 6) := ⟨⟨by decide +kernel, by decide +kernel⟩, List.mem_of_getElem? (i := 170) (by decide +kernel), List.mem_of_getElem? (i := 168) (by decide +kernel), List.mem_of_getElem? (i := 169) (by decide +kernel)⟩
theorem lw_p1 : lw_okq (⟨"RingMatches$Series", "evenedFromWidths", "(I)I"⟩, 3) := ⟨⟨by decide +kernel, by decide +kernel⟩, List.mem_of_getElem? (i := 38) (by decide +kernel), List.mem_of_getElem? (i := 246) (by decide +kernel), List.mem_of_getElem? (i := 247) (by decide +kernel)⟩
theorem lw_p2 : lw_okq (⟨"RingMatches", "keepNext", "()I"⟩, 10) := ⟨⟨by decide +kernel, by decide +kernel⟩, List.mem_of_getElem? (i := 14) (by decide +kernel), List.mem_of_getElem? (i := 261) (by decide +kernel), List.mem_of_getElem? (i := 262) (by decide +kernel)⟩
theorem lw_p3 : lw_okq (⟨"RingMatches", "seriesAt", "(I)LRingMatches$Series;"⟩, 10) := ⟨⟨by decide +kernel, by decide +kernel⟩, List.mem_of_getElem? (i := 14) (by decide +kernel), List.mem_of_getElem? (i := 273) (by decide +kernel), List.mem_of_getElem? (i := 274) (by decide +kernel)⟩
theorem lw_p4 : lw_okq (⟨"RingMatches$Overlap", "isPair", "(LRingMatches$Series;LRingMatches$Series;I)Z"⟩, 5) := ⟨⟨by decide +kernel, by decide +kernel⟩, List.mem_of_getElem? (i := 58) (by decide +kernel), List.mem_of_getElem? (i := 357) (by decide +kernel), List.mem_of_getElem? (i := 358) (by decide +kernel)⟩
theorem lw_p5 : lw_okq (⟨"RingMatches", "rankNewest", "()V"⟩, 10) := ⟨⟨by decide +kernel, by decide +kernel⟩, List.mem_of_getElem? (i := 14) (by decide +kernel), List.mem_of_getElem? (i := 368) (by decide +kernel), List.mem_of_getElem? (i := 369) (by decide +kernel)⟩
theorem lw_p6 : lw_okq (⟨"RingMatches", "overlapAt", "(I)LRingMatches$Overlap;"⟩, 10) := ⟨⟨by decide +kernel, by decide +kernel⟩, List.mem_of_getElem? (i := 14) (by decide +kernel), List.mem_of_getElem? (i := 383) (by decide +kernel), List.mem_of_getElem? (i := 384) (by decide +kernel)⟩
theorem lw_p7 : lw_okq (⟨"RingMatches", "memberNotAsked", "()I"⟩, 10) := ⟨⟨by decide +kernel, by decide +kernel⟩, List.mem_of_getElem? (i := 14) (by decide +kernel), List.mem_of_getElem? (i := 452) (by decide +kernel), List.mem_of_getElem? (i := 453) (by decide +kernel)⟩
theorem lw_p8 : lw_okq (⟨"RingMatches", "addJoinedTo", "(III)V"⟩, 10) := ⟨⟨by decide +kernel, by decide +kernel⟩, List.mem_of_getElem? (i := 14) (by decide +kernel), List.mem_of_getElem? (i := 456) (by decide +kernel), List.mem_of_getElem? (i := 457) (by decide +kernel)⟩
theorem lw_p9 : lw_okq (⟨"RingMatches", "areJoined", "(LRingMatches$Series;LRingMatches$Series;II)Z"⟩, 10) := ⟨⟨by decide +kernel, by decide +kernel⟩, List.mem_of_getElem? (i := 14) (by decide +kernel), List.mem_of_getElem? (i := 460) (by decide +kernel), List.mem_of_getElem? (i := 461) (by decide +kernel)⟩
theorem lw_p10 : lw_okq (⟨"RingMatches", "leastMember", "()I"⟩, 10) := ⟨⟨by decide +kernel, by decide +kernel⟩, List.mem_of_getElem? (i := 14) (by decide +kernel), List.mem_of_getElem? (i := 464) (by decide +kernel), List.mem_of_getElem? (i := 465) (by decide +kernel)⟩
theorem lw_p11 : lw_okq (⟨"RingMatchesModel", "goes", "(ZZZ)Z"⟩, 18) := ⟨⟨by decide +kernel, by decide +kernel⟩, List.mem_of_getElem? (i := 475) (by decide +kernel), List.mem_of_getElem? (i := 553) (by decide +kernel), List.mem_of_getElem? (i := 554) (by decide +kernel)⟩
theorem lw_p12 : lw_okq (⟨"RingMatchesModel", "push", "(I)V"⟩, 18) := ⟨⟨by decide +kernel, by decide +kernel⟩, List.mem_of_getElem? (i := 475) (by decide +kernel), List.mem_of_getElem? (i := 557) (by decide +kernel), List.mem_of_getElem? (i := 558) (by decide +kernel)⟩
theorem lw_p13 : lw_okq (⟨"RingMatchesModel", "fault", "()I"⟩, 18) := ⟨⟨by decide +kernel, by decide +kernel⟩, List.mem_of_getElem? (i := 475) (by decide +kernel), List.mem_of_getElem? (i := 565) (by decide +kernel), List.mem_of_getElem? (i := 566) (by decide +kernel)⟩
theorem lw_p14 : lw_okq (⟨"RingMatchesModel", "isSeries", "(I)Z"⟩, 18) := ⟨⟨by decide +kernel, by decide +kernel⟩, List.mem_of_getElem? (i := 475) (by decide +kernel), List.mem_of_getElem? (i := 573) (by decide +kernel), List.mem_of_getElem? (i := 574) (by decide +kernel)⟩
theorem lw_p15 : lw_okq (⟨"RingMatchesModel", "widthOf", "(II)I"⟩, 18) := ⟨⟨by decide +kernel, by decide +kernel⟩, List.mem_of_getElem? (i := 475) (by decide +kernel), List.mem_of_getElem? (i := 577) (by decide +kernel), List.mem_of_getElem? (i := 578) (by decide +kernel)⟩
def lw_privs_1 : List (MethodName × Nat) := [(⟨"java/lang/Throwable", "fillInStackTrace", "(I)Ljava/lang/Throwable;"⟩, 6), (⟨"RingMatches$Series", "evenedFromWidths", "(I)I"⟩, 3), (⟨"RingMatches", "keepNext", "()I"⟩, 10), (⟨"RingMatches", "seriesAt", "(I)LRingMatches$Series;"⟩, 10), (⟨"RingMatches$Overlap", "isPair", "(LRingMatches$Series;LRingMatches$Series;I)Z"⟩, 5), (⟨"RingMatches", "rankNewest", "()V"⟩, 10), (⟨"RingMatches", "overlapAt", "(I)LRingMatches$Overlap;"⟩, 10), (⟨"RingMatches", "memberNotAsked", "()I"⟩, 10), (⟨"RingMatches", "addJoinedTo", "(III)V"⟩, 10), (⟨"RingMatches", "areJoined", "(LRingMatches$Series;LRingMatches$Series;II)Z"⟩, 10), (⟨"RingMatches", "leastMember", "()I"⟩, 10), (⟨"RingMatchesModel", "goes", "(ZZZ)Z"⟩, 18), (⟨"RingMatchesModel", "push", "(I)V"⟩, 18), (⟨"RingMatchesModel", "fault", "()I"⟩, 18), (⟨"RingMatchesModel", "isSeries", "(I)Z"⟩, 18), (⟨"RingMatchesModel", "widthOf", "(II)I"⟩, 18)]
theorem lw_r1 : ∀ q ∈ lw_privs_1, lw_okq q := List.forall_mem_cons.mpr ⟨lw_p0, List.forall_mem_cons.mpr ⟨lw_p1, List.forall_mem_cons.mpr ⟨lw_p2, List.forall_mem_cons.mpr ⟨lw_p3, List.forall_mem_cons.mpr ⟨lw_p4, List.forall_mem_cons.mpr ⟨lw_p5, List.forall_mem_cons.mpr ⟨lw_p6, List.forall_mem_cons.mpr ⟨lw_p7, List.forall_mem_cons.mpr ⟨lw_p8, List.forall_mem_cons.mpr ⟨lw_p9, List.forall_mem_cons.mpr ⟨lw_p10, List.forall_mem_cons.mpr ⟨lw_p11, List.forall_mem_cons.mpr ⟨lw_p12, List.forall_mem_cons.mpr ⟨lw_p13, List.forall_mem_cons.mpr ⟨lw_p14, List.forall_mem_cons.mpr ⟨lw_p15, fun _ h => absurd h List.not_mem_nil⟩⟩⟩⟩⟩⟩⟩⟩⟩⟩⟩⟩⟩⟩⟩⟩
theorem lw_p16 : lw_okq (⟨"RingMatchesModel", "room", "(II)I"⟩, 18) := ⟨⟨by decide +kernel, by decide +kernel⟩, List.mem_of_getElem? (i := 475) (by decide +kernel), List.mem_of_getElem? (i := 585) (by decide +kernel), List.mem_of_getElem? (i := 586) (by decide +kernel)⟩
theorem lw_p17 : lw_okq (⟨"RingMatchesModel", "even", "(II)I"⟩, 18) := ⟨⟨by decide +kernel, by decide +kernel⟩, List.mem_of_getElem? (i := 475) (by decide +kernel), List.mem_of_getElem? (i := 593) (by decide +kernel), List.mem_of_getElem? (i := 594) (by decide +kernel)⟩
theorem lw_p18 : lw_okq (⟨"RingMatchesModel", "correlate", "(III)I"⟩, 18) := ⟨⟨by decide +kernel, by decide +kernel⟩, List.mem_of_getElem? (i := 475) (by decide +kernel), List.mem_of_getElem? (i := 601) (by decide +kernel), List.mem_of_getElem? (i := 602) (by decide +kernel)⟩
theorem lw_p19 : lw_okq (⟨"RingMatchesModel", "isPair", "(IIII)Z"⟩, 18) := ⟨⟨by decide +kernel, by decide +kernel⟩, List.mem_of_getElem? (i := 475) (by decide +kernel), List.mem_of_getElem? (i := 605) (by decide +kernel), List.mem_of_getElem? (i := 606) (by decide +kernel)⟩
theorem lw_p20 : lw_okq (⟨"RingMatchesModel", "rise", "(II)I"⟩, 18) := ⟨⟨by decide +kernel, by decide +kernel⟩, List.mem_of_getElem? (i := 475) (by decide +kernel), List.mem_of_getElem? (i := 609) (by decide +kernel), List.mem_of_getElem? (i := 610) (by decide +kernel)⟩
theorem lw_p21 : lw_okq (⟨"RingMatchesModel", "isAhead", "(IIII)Z"⟩, 18) := ⟨⟨by decide +kernel, by decide +kernel⟩, List.mem_of_getElem? (i := 475) (by decide +kernel), List.mem_of_getElem? (i := 617) (by decide +kernel), List.mem_of_getElem? (i := 618) (by decide +kernel)⟩
theorem lw_p22 : lw_okq (⟨"RingMatchesModel", "isListed", "(III)Z"⟩, 18) := ⟨⟨by decide +kernel, by decide +kernel⟩, List.mem_of_getElem? (i := 475) (by decide +kernel), List.mem_of_getElem? (i := 625) (by decide +kernel), List.mem_of_getElem? (i := 626) (by decide +kernel)⟩
theorem lw_p23 : lw_okq (⟨"RingMatchesModel", "fraction", "(JJ)V"⟩, 18) := ⟨⟨by decide +kernel, by decide +kernel⟩, List.mem_of_getElem? (i := 475) (by decide +kernel), List.mem_of_getElem? (i := 634) (by decide +kernel), List.mem_of_getElem? (i := 635) (by decide +kernel)⟩
theorem lw_p24 : lw_okq (⟨"RingMatchesModel", "at", "(II)I"⟩, 18) := ⟨⟨by decide +kernel, by decide +kernel⟩, List.mem_of_getElem? (i := 475) (by decide +kernel), List.mem_of_getElem? (i := 650) (by decide +kernel), List.mem_of_getElem? (i := 651) (by decide +kernel)⟩
theorem lw_p25 : lw_okq (⟨"RingMatchesModel", "joined", "(IIII)Z"⟩, 18) := ⟨⟨by decide +kernel, by decide +kernel⟩, List.mem_of_getElem? (i := 475) (by decide +kernel), List.mem_of_getElem? (i := 658) (by decide +kernel), List.mem_of_getElem? (i := 659) (by decide +kernel)⟩
def lw_privs_2 : List (MethodName × Nat) := [(⟨"RingMatchesModel", "room", "(II)I"⟩, 18), (⟨"RingMatchesModel", "even", "(II)I"⟩, 18), (⟨"RingMatchesModel", "correlate", "(III)I"⟩, 18), (⟨"RingMatchesModel", "isPair", "(IIII)Z"⟩, 18), (⟨"RingMatchesModel", "rise", "(II)I"⟩, 18), (⟨"RingMatchesModel", "isAhead", "(IIII)Z"⟩, 18), (⟨"RingMatchesModel", "isListed", "(III)Z"⟩, 18), (⟨"RingMatchesModel", "fraction", "(JJ)V"⟩, 18), (⟨"RingMatchesModel", "at", "(II)I"⟩, 18), (⟨"RingMatchesModel", "joined", "(IIII)Z"⟩, 18)]
theorem lw_r2 : ∀ q ∈ lw_privs_2, lw_okq q := List.forall_mem_cons.mpr ⟨lw_p16, List.forall_mem_cons.mpr ⟨lw_p17, List.forall_mem_cons.mpr ⟨lw_p18, List.forall_mem_cons.mpr ⟨lw_p19, List.forall_mem_cons.mpr ⟨lw_p20, List.forall_mem_cons.mpr ⟨lw_p21, List.forall_mem_cons.mpr ⟨lw_p22, List.forall_mem_cons.mpr ⟨lw_p23, List.forall_mem_cons.mpr ⟨lw_p24, List.forall_mem_cons.mpr ⟨lw_p25, fun _ h => absurd h List.not_mem_nil⟩⟩⟩⟩⟩⟩⟩⟩⟩⟩
def lw_privs : List (MethodName × Nat) := lw_privs_1 ++ (lw_privs_2)
def lw_tbl : List Cond := k2_sels lw_privs ++ tables_1
theorem lw_privs_ok : ∀ q ∈ lw_privs, lw_okq q := by
  show ∀ q ∈ lw_privs_1 ++ (lw_privs_2), lw_okq q
  exact List.forall_mem_append.mpr ⟨lw_r1, lw_r2⟩
end
section
/-! ===== BEGIN words of one list among another's, by their places ===== -/
theorem goodIn_r {big : List Cond} (ws : List Cond) (ps : List Nat) (hp : ws = ps.filterMap (fun i => big[i]?)) (h : ws.all goodWord = true) : GoodIn big ws := by
  intro w hw
  have h1 := List.all_eq_true.mp h w hw
  rw [hp] at hw
  obtain ⟨i, -, hi⟩ := List.mem_filterMap.mp hw
  have hm : w ∈ big := by first | exact List.mem_of_getElem? hi | exact List.getElem?_mem hi
  exact ⟨hm, good_of_word h1⟩
theorem goodIn_app {big a b : List Cond} (ha : GoodIn big a) (hb : GoodIn big b) : GoodIn big (a ++ b) := fun w h => (List.mem_append.mp h).elim (ha w) (hb w)
theorem goodIn_ca {big a b : List Cond} {c : Cond} (ha : GoodIn big (c :: a)) (hb : GoodIn big b) : GoodIn big (c :: (a ++ b)) := fun w h => (List.mem_cons.mp h).elim (fun e => ha w (List.mem_cons.mpr (Or.inl e))) (fun h => (List.mem_append.mp h).elim (fun h => ha w (List.mem_cons.mpr (Or.inr h))) (hb w))
theorem goodIn_sub {big ws : List Cond} (hm : ∀ w ∈ ws, w ∈ big) (h : ws.all goodWord = true) : GoodIn big ws := fun w hw => ⟨hm w hw, good_of_word (List.all_eq_true.mp h w hw)⟩
/-! ===== END ===== -/

/-! ===== BEGIN exceptions that leave a method, and their catching by the caller (launches without stack traces) ===== -/
section VXA
/-! The laws vx_back, vx_callV, vx_callS, vx_callSW, vx_throw0, vx_throwS follow proofs of the library, with one case more: JvmDerived/Free/Laws.lean (Back.of_free), Shelf42/LK1.lean (callV, callS), Shelf/KitTraced.lean (throwNew0V, throwNewS). -/
/-- where a method has thrown q: the class by its name, the cell, what was written, the world -/
def vx_T (XC : String → State → State → Prop) (st : State) (q : Addr) (t : State) (mc ms : Nat) (free : Addr → Prop) : Prop :=
  ∃ (E : String) (ce : Cell) (L : List Loc), XC E st t ∧ t.heap[q]? = some ce ∧ ce.vm = .none ∧ st.vm.findClass E = some ce.cls ∧ st.WarmedH t.vm ∧ st.sameButNew ({ t with vm := st.vm } : State) L mc ms ∧ ∀ z ∈ L, free z.base
def vx_Q (Qc : Array Value → State → Outcome → State → Prop) (XC : String → State → State → Prop) (mc ms : Nat) (free : Addr → Prop) : Array Value → State → Outcome → State → Prop := fun a st o t =>
  (Qc a st o t ∧ ∃ L, FrameEnd st o t L mc ms ∧ ∀ q ∈ L, free q.base) ∨ ∃ q, o = .threw q ∧ vx_T XC st q t mc ms free
/-- a callee that returns or throws -/
def vx_Met (l : Launch) (y : MethodName) (ws : List Cond) (rm : Room) (Pc : Array Value → State → Prop) (Qc : Array Value → State → Outcome → State → Prop) (XC : String → State → State → Prop) (mc ms : Nat) (free : Addr → Prop) : Prop :=
  MetFree l y (headSpec ws rm) Pc (fun _ _ _ _ _ => True) (vx_Q Qc XC mc ms free)
def vx_Post (XC : String → State → State → Prop) (mc ms : Nat) (free : Addr → Prop) : Pt → Array Value → Addr → Pt → Prop := fun A a q B =>
  ∃ (g : JFrame) (mk : MethodId) (t : State) (L : List Loc) (E : String) (ce : Cell), B.U.heap = t.heap ∧ B.U.vm = t.vm ∧ XC E (A.U.calling g mk a) t ∧ t.heap[q]? = some ce ∧ ce.vm = .none ∧ A.U.vm.findClass E = some ce.cls ∧ B.locs = A.locs ++ L ∧ (∀ z ∈ L, free z.base) ∧ B.cells = A.cells + mc ∧ B.slots = A.slots + ms
def vx_Back (l : Launch) (R : Room) (p : Program) (e : Env) (below : List Frame) (s : State) (sargs : Array Value) (y : MethodName) (len W9 : Nat)
    (Pre : Pt → Array Value → Prop) (Post : Pt → Array Value → Option Value → Pt → Prop) (PostX : Pt → Array Value → Addr → Pt → Prop) : Prop :=
  ∀ (m : MethodId) (meth : Method) (c : Code) (A : Pt) (g : JFrame) (ig : Instr) (mk : MethodId) (a : Array Value),
    Stand p l e R s m sargs below meth c A.U A.locs A.cells A.slots → g.method = m → g.locals.size = c.maxLocals → decode c.code g.pc = .ok (ig, len) →
    2 * g.monitorRoom + (g.stack.map fun v => v.category).sum ≤ W9 → A.U.methodNamed? y = some mk → Pre A a →
    (∃ (v : Option Value) (B : Pt), Stand p l e R s m sargs below meth c B.U B.locs B.cells B.slots ∧ Post A a v B ∧
      Steps p.tables e below (doInvoke e (A.U.setTop g) [] mk a).1 (B.U.setTop { g with pc := g.pc + len, stack := v.toList ++ g.stack })) ∨
    (∃ (q : Addr) (B : Pt), Stand p l e R s m sargs below meth c B.U B.locs B.cells B.slots ∧ PostX A a q B ∧
      Steps p.tables e below (doInvoke e (A.U.setTop g) [] mk a).1 ((B.U.setTop g).pushFrame (.throwing q)))
section Payer
variable {l : Launch} {R : Room} {p : Program} {e : Env} {below : List Frame} {s : State} {sargs : Array Value} {y : MethodName} {len W9 : Nat}
theorem vx_back {ws : List Cond} {rm : Room} {Pc : Array Value → State → Prop} {Qc : Array Value → State → Outcome → State → Prop} {XC : String → State → State → Prop} {mc ms : Nat} {free : Addr → Prop} {bytes : ByteArray} {maxL : Nat} {ret : Option FieldType}
    (hM : vx_Met l y ws rm Pc Qc XC mc ms free) (hblind : FrameBlind Pc) (hrc : rm.cells = mc) (hrs : rm.slots = ms)
    (hframes : rm.frames + 1 ≤ R.frames) (hlocals : W9 + (maxL + 11) + rm.locals ≤ R.locals)
    (hws : ∀ w ∈ ws, ∀ a' U, s.WarmedH U.vm → w.before a' U = true) (hcode : Cond.code y bytes maxL ret ∈ ws) (hinit : ∀ a' U, s.WarmedH U.vm → (Cond.initialized y.cls).before a' U = true) :
    vx_Back l R p e below s sargs y len W9 (PreOf R mc ms Pc) (PostOf Qc mc ms free) (vx_Post XC mc ms free) := by
  intro m meth c A g ig mk a X hg hsize hdg hW hn hp
  have h1 : (headSpec ws rm).pre.before a A.U = true := atoms_intro fun w hw => hws w hw _ _ X.warmed
  have h2 : (Cond.code y bytes maxL ret).before a A.U = true := hws _ hcode _ _ X.warmed
  have h3 : (Cond.initialized y.cls).before a A.U = true := hinit _ _ X.warmed
  have h4 : A.cells + (headSpec ws rm).room.cells ≤ R.cells := by rw [show (headSpec ws rm).room.cells = mc from hrc]; exact hp.1
  have h5 : A.slots + (headSpec ws rm).room.slots ≤ R.slots := by rw [show (headSpec ws rm).room.slots = ms from hrs]; exact hp.2.1
  have hPc : Pc a (A.U.calling g mk a) := hblind _ _ _ _ hp.2.2
  obtain ⟨U, Ls, c0, s0⟩ := A
  dsimp only [Pt.U, Pt.locs, Pt.cells, Pt.slots] at h1 h2 h3 h4 h5 X hn hPc ⊢
  obtain ⟨methY, cY, hmY, hcY, -, hlY, -, -, -, -⟩ := Cond.code_spec hn h2
  obtain ⟨kY, hkY, -⟩ := className_of_methodNamed hn
  have hinitY : kY.init = .initialized := Cond.initialized_spec (findClass_of_methodNamed hn) hkY h3
  have h : At U g.method c below := by rw [hg]; exact X.here
  have hlocals9 : W9 + (maxL + 11) + (headSpec ws rm).room.locals ≤ R.locals := hlocals
  have happ : (headSpec ws rm).appliesLoose y e.platform (U.calling g mk a) = true :=
    Spec.appliesLoose_calling (g := g) h hdg hn hkY hinitY
      (X.room_calling (g := g) (R' := (headSpec ws rm).room) hsize hmY hcY hframes (by rw [hlY]; omega) h4 h5) h1
  obtain ⟨mid, hmid⟩ := h.above
  have hfr : (U.setTop g).frames = (.java g :: mid) ++ below := by rw [State.frames_setTop' g h.top, hmid]; rfl
  obtain ⟨o, s₂, hsteps, -, hend, hq⟩ := Steps.callFree hM p X.admits X.cas X.clock (acts := []) hfr happ hPc trivial
  have hq' : vx_Q Qc XC mc ms free a (U.calling g mk a) o s₂ := hq
  rw [State.frames_setTop' g h.top] at hend
  obtain ⟨g₀, hg0⟩ := Option.isSome_iff_exists.mp h.top
  obtain ⟨r, hr⟩ := State.topJava?_eq_some.mp hg0
  have hr' : (({ U with heap := s₂.heap, slotsUsed := s₂.slotsUsed } : State).setVm s₂.vm).frames = .java g₀ :: r := hr
  rcases hq' with ⟨hqc, L, hfe, hL⟩ | ⟨q, rfl, E, ce, L, hx, hce, hcv, hcl, hW₂, hsm, hL⟩
  · obtain ⟨⟨v, rfl⟩, hW₂, e2, q2, q3, q4, q5, q6⟩ := id hfe
    have e3 : s₂ = ({ (U.calling g mk a).setFrames s₂.frames with heap := s₂.heap, slotsUsed := s₂.slotsUsed } : State).setVm s₂.vm := by
      have : s₂ = ({ s₂ with vm := (U.calling g mk a).vm } : State).setVm s₂.vm := rfl
      rw [e2] at this
      exact this
    obtain ⟨c₂, i₂, len₂, hc₂, hd₂, hf₂⟩ := hend
    have hW' : U.WarmedH s₂.vm := hW₂
    have hcc : c₂ = c := by
      have h1 : s₂.code? g.method = U.code? g.method := by
        rw [State.code?_eq, State.code?_eq, hW'.alike.method?]
      exact Option.some.inj (hc₂.symm.trans (h1.trans h.code))
    subst hcc
    have hlen : len₂ = len := by rw [hdg] at hd₂; cases hd₂; rfl
    subst hlen
    have hs₂ : s₂ = (({ U with heap := s₂.heap, slotsUsed := s₂.slotsUsed } : State).setVm s₂.vm).setTop { g with pc := g.pc + len₂, stack := v.toList ++ g.stack } := by
      refine e3.trans ?_
      rw [hf₂, State.calling_eq h.top, State.setFrames_setFrames, State.setTop_of_frames _ hr', hr]
      rfl
    have hsame : U.sameButNew ({ U with heap := s₂.heap, slotsUsed := s₂.slotsUsed } : State) L mc ms := by
      refine ⟨?_, q2, q3, q4, q5, q6⟩
      obtain ⟨t, ht, -⟩ := State.frames_cons hr
      show ({ U with heap := s₂.heap, slotsUsed := s₂.slotsUsed } : State) = { U.setFrames U.frames with heap := s₂.heap, slotsUsed := s₂.slotsUsed }
      rw [State.setFrames_self ht]
    subst hg
    refine Or.inl ⟨v, ⟨(({ U with heap := s₂.heap, slotsUsed := s₂.slotsUsed } : State).setVm s₂.vm), Ls ++ L, c0 + mc, s0 + ms⟩,
      ⟨X.admits, X.cas, X.clock, X.frames, X.room, X.hears, X.method, X.code, (X.here.setHeapUsed s₂.heap s₂.slotsUsed).setVm hW'.alike, X.tail, State.WarmedH.trans X.warmed hW', X.limits, X.bytes, X.same.trans (hsame.setVm s.vm)⟩,
      ⟨g, mk, s₂, L, rfl, rfl, hqc, rfl, hL, rfl, rfl⟩, ?_⟩
    show Steps p.tables e below _ ((({ U with heap := s₂.heap, slotsUsed := s₂.slotsUsed } : State).setVm s₂.vm).setTop { g with pc := g.pc + len₂, stack := v.toList ++ g.stack })
    rw [← hs₂]
    exact hsteps
  · obtain ⟨e2, q2, q3, q4, q5, q6⟩ := id hsm
    have e3 : s₂ = ({ (U.calling g mk a).setFrames s₂.frames with heap := s₂.heap, slotsUsed := s₂.slotsUsed } : State).setVm s₂.vm := by
      have : s₂ = ({ s₂ with vm := (U.calling g mk a).vm } : State).setVm s₂.vm := rfl
      rw [e2] at this
      exact this
    have hf₂ : s₂.frames = .throwing q :: .java g :: U.frames.tail := hend
    have hW' : U.WarmedH s₂.vm := hW₂
    have hs₂ : s₂ = ((({ U with heap := s₂.heap, slotsUsed := s₂.slotsUsed } : State).setVm s₂.vm).setTop g).pushFrame (.throwing q) := by
      refine e3.trans ?_
      rw [hf₂, State.calling_eq h.top, State.setFrames_setFrames, State.pushFrame, State.frames_setTop _ hr', State.setTop_of_frames _ hr', State.setFrames_setFrames, hr]
      rfl
    have hsame : U.sameButNew ({ U with heap := s₂.heap, slotsUsed := s₂.slotsUsed } : State) L mc ms := by
      refine ⟨?_, q2, q3, q4, q5, q6⟩
      obtain ⟨t, ht, -⟩ := State.frames_cons hr
      show ({ U with heap := s₂.heap, slotsUsed := s₂.slotsUsed } : State) = { U.setFrames U.frames with heap := s₂.heap, slotsUsed := s₂.slotsUsed }
      rw [State.setFrames_self ht]
    subst hg
    refine Or.inr ⟨q, ⟨(({ U with heap := s₂.heap, slotsUsed := s₂.slotsUsed } : State).setVm s₂.vm), Ls ++ L, c0 + mc, s0 + ms⟩,
      ⟨X.admits, X.cas, X.clock, X.frames, X.room, X.hears, X.method, X.code, (X.here.setHeapUsed s₂.heap s₂.slotsUsed).setVm hW'.alike, X.tail, State.WarmedH.trans X.warmed hW', X.limits, X.bytes, X.same.trans (hsame.setVm s.vm)⟩,
      ⟨g, mk, s₂, L, E, ce, rfl, rfl, hx, hce, hcv, hcl, rfl, hL, rfl, rfl⟩, ?_⟩
    show Steps p.tables e below _ (((({ U with heap := s₂.heap, slotsUsed := s₂.slotsUsed } : State).setVm s₂.vm).setTop g).pushFrame (.throwing q))
    rw [← hs₂]
    exact hsteps
end Payer
section Calls
variable {p : Program} {l : Launch} {e : Env} {R : Room} {s : State} {m : MethodId} {args : Array Value} {below : List Frame} {meth : Method} {c : Code} {T : State} {locs : List Loc} {cells slots : Nat}
theorem vx_callV (X : Stand p l e R s m args below meth c T locs cells slots) (hexec : p.tables.exec = Jvm.exec) {own C : String} {index : Nat} {y : MethodName} {bytes : ByteArray} {maxL : Nat} {ret : Option FieldType}
    (hown : s.vm.findClass own = some m.cls) (hlink : (Cond.methodLink own index y).before args s = true) (hinst : (Cond.instanceMethod y).before args s = true) (hsel : (Cond.selects C y y).before args s = true)
    (hcode : (Cond.code y bytes maxL ret).before args s = true) (hy : y.cls ≠ "java/lang/invoke/MethodHandle" ∧ y.cls ≠ "java/lang/invoke/VarHandle")
    {W9 : Nat} {Pre : Pt → Array Value → Prop} {Post : Pt → Array Value → Option Value → Pt → Prop} {PostX : Pt → Array Value → Addr → Pt → Prop} (hK : vx_Back l R p e below s args y 3 W9 Pre Post PostX)
    {b : Addr} {cellB : Cell} (hcell : T.heap[b]? = some cellB) (hobj : cellB.vm.isStatics = false) (hcls : s.vm.findClass C = some cellB.cls)
    {g : JFrame} (hg : g.method = m) (hsize : g.locals.size = c.maxLocals) {argsL rest : List Value} (hlen : ∀ sig, parseMethodDescriptor y.desc = some sig → argsL.length = sig.parameters.length)
    (hstack : g.stack = argsL.reverse ++ .ref b :: rest) (hW : 2 * g.monitorRoom + (rest.map fun v => v.category).sum ≤ W9) (hdg : decode c.code g.pc = .ok (.invokevirtual index, 3))
    (hpre : ∀ vm₁, s.WarmedH vm₁ → Pre ⟨T.setVm vm₁, locs, cells, slots⟩ (Value.ref b :: argsL).toArray) :
    (∃ (v : Option Value) (vm₁ : Vm) (B : Pt), s.WarmedH vm₁ ∧ Stand p l e R s m args below meth c B.U B.locs B.cells B.slots ∧ Post ⟨T.setVm vm₁, locs, cells, slots⟩ (Value.ref b :: argsL).toArray v B ∧
      ∀ target, Steps p.tables e below (B.U.setTop { g with pc := g.pc + 3, stack := v.toList ++ rest }) target → Steps p.tables e below (T.setTop g) target) ∨
    (∃ (q : Addr) (vm₁ : Vm) (B : Pt), s.WarmedH vm₁ ∧ Stand p l e R s m args below meth c B.U B.locs B.cells B.slots ∧ PostX ⟨T.setVm vm₁, locs, cells, slots⟩ (Value.ref b :: argsL).toArray q B ∧
      Steps p.tables e below (T.setTop g) ((B.U.setTop { g with stack := rest }).pushFrame (.throwing q))) := by
  obtain ⟨mk, methM, hnamed, hmethM, hstM, habM⟩ := Cond.instanceMethod_spec hinst
  obtain ⟨methM', cM, hmethM', -, -, -, -, -, -, hsigM⟩ := Cond.code_spec hnamed hcode
  cases hmethM.symm.trans hmethM'
  obtain ⟨c2, r2, m2, q1, q2, q3, q4, kP, hkP, hkPi⟩ := Cond.selects_spec hsel
  cases hcls.symm.trans q1
  cases (State.methodFound?_of_named hnamed hy).symm.trans q2
  cases hnamed.symm.trans q3
  have hselP : selectMethod e.platform s.vm cellB.cls mk = .method mk := by rw [Launch.admits_selectMethod X.admits]; exact q4
  obtain ⟨vm₁, X₁, hstep₁⟩ := X.invokevirtual hexec hown hlink hnamed hmethM hstM hkP hkPi hy (a := b) (cell := cellB) hcell
    (fun z h => by rw [h] at hobj; cases hobj) hselP hmethM habM hkP hkPi (g := g) hg (argsL := argsL) (rest := rest) (hlen _ hsigM) hstack hdg
  rcases hK m meth c ⟨T.setVm vm₁, locs, cells, slots⟩ { g with stack := rest } (.invokevirtual index) mk (Value.ref b :: argsL).toArray X₁ hg hsize hdg hW (X₁.named hnamed) (hpre vm₁ X₁.warmed) with ⟨v, B, X', hpost, hsteps⟩ | ⟨q, B, X', hpost, hsteps⟩
  · exact Or.inl ⟨v, vm₁, B, X₁.warmed, X', hpost, fun target h => hstep₁ _ fun acts => by rw [doInvoke_state]; exact hsteps.trans h⟩
  · exact Or.inr ⟨q, vm₁, B, X₁.warmed, X', hpost, hstep₁ _ fun acts => by rw [doInvoke_state]; exact hsteps⟩
theorem vx_callS (X : Stand p l e R s m args below meth c T locs cells slots) (hexec : p.tables.exec = Jvm.exec) {own : String} {index : Nat} {y : MethodName} {bytes : ByteArray} {maxL : Nat} {ret : Option FieldType}
    (hown : s.vm.findClass own = some m.cls) (hlink : (Cond.methodLink own index y).before args s = true) (hstat : (Cond.static y).before args s = true) (hinit : (Cond.initialized y.cls).before args s = true)
    (hcode : (Cond.code y bytes maxL ret).before args s = true) (hy : y.cls ≠ "java/lang/invoke/MethodHandle" ∧ y.cls ≠ "java/lang/invoke/VarHandle")
    {W9 : Nat} {Pre : Pt → Array Value → Prop} {Post : Pt → Array Value → Option Value → Pt → Prop} {PostX : Pt → Array Value → Addr → Pt → Prop} (hK : vx_Back l R p e below s args y 3 W9 Pre Post PostX)
    {g : JFrame} (hg : g.method = m) (hsize : g.locals.size = c.maxLocals) {argsL rest : List Value} (hlen : ∀ sig, parseMethodDescriptor y.desc = some sig → argsL.length = sig.parameters.length)
    (hstack : g.stack = argsL.reverse ++ rest) (hW : 2 * g.monitorRoom + (rest.map fun v => v.category).sum ≤ W9) (hdg : decode c.code g.pc = .ok (.invokestatic index, 3))
    (hpre : ∀ vm₁, s.WarmedH vm₁ → Pre ⟨T.setVm vm₁, locs, cells, slots⟩ argsL.toArray) :
    (∃ (v : Option Value) (vm₁ : Vm) (B : Pt), s.WarmedH vm₁ ∧ Stand p l e R s m args below meth c B.U B.locs B.cells B.slots ∧ Post ⟨T.setVm vm₁, locs, cells, slots⟩ argsL.toArray v B ∧
      ∀ target, Steps p.tables e below (B.U.setTop { g with pc := g.pc + 3, stack := v.toList ++ rest }) target → Steps p.tables e below (T.setTop g) target) ∨
    (∃ (q : Addr) (vm₁ : Vm) (B : Pt), s.WarmedH vm₁ ∧ Stand p l e R s m args below meth c B.U B.locs B.cells B.slots ∧ PostX ⟨T.setVm vm₁, locs, cells, slots⟩ argsL.toArray q B ∧
      Steps p.tables e below (T.setTop g) ((B.U.setTop { g with stack := rest }).pushFrame (.throwing q))) := by
  obtain ⟨mk, hnamed⟩ := Cond.code_named hcode
  obtain ⟨methM, cM, hmethM, -, -, -, -, -, -, hsigM⟩ := Cond.code_spec hnamed hcode
  have hstatic : methM.isStatic = true := Cond.static_spec hnamed hmethM hstat
  obtain ⟨kP, hkP, -⟩ := className_of_methodNamed hnamed
  have hinitP : kP.init = .initialized := Cond.initialized_spec (findClass_of_methodNamed hnamed) hkP hinit
  obtain ⟨vm₁, X₁, hstep₁⟩ := X.invokestatic hexec hown hlink hnamed hmethM hstatic hkP hinitP hy (g := g) hg (argsL := argsL) (rest := rest) (hlen _ hsigM) hstack hdg
  rcases hK m meth c ⟨T.setVm vm₁, locs, cells, slots⟩ { g with stack := rest } (.invokestatic index) mk argsL.toArray X₁ hg hsize hdg hW (X₁.named hnamed) (hpre vm₁ X₁.warmed) with ⟨v, B, X', hpost, hsteps⟩ | ⟨q, B, X', hpost, hsteps⟩
  · exact Or.inl ⟨v, vm₁, B, X₁.warmed, X', hpost, fun target h => hstep₁ _ fun acts => by rw [doInvoke_state]; exact hsteps.trans h⟩
  · exact Or.inr ⟨q, vm₁, B, X₁.warmed, X', hpost, hstep₁ _ fun acts => by rw [doInvoke_state]; exact hsteps⟩
end Calls
theorem vx_cls {s : State} {T : State} {vm₁ : Vm} {E : String} {k : ClassId} (hW : s.WarmedH vm₁) (h : (T.setVm vm₁).vm.findClass E = some k) : s.vm.findClass E = some k := by
  have h1 : vm₁.findClass E = some k := h
  rw [hW.alike.findClass] at h1
  exact h1
/-- the method's frame g, with q thrown over it -/
def vx_W (p : Program) (l : Launch) (e : Env) (R : Room) (s : State) (m : MethodId) (args : Array Value) (below : List Frame) (meth : Method) (c : Code) (H : Heap) (locs : List Loc) (cells slots : Nat) (Q : State → Prop) (g : JFrame) (q : Addr) : Prop :=
  ∀ T : State, T.heap = H → Stand p l e R s m args below meth c T locs cells slots → ∃ t, Steps p.tables e below ((T.setTop g).pushFrame (.throwing q)) t ∧ Q t
def vx_Run (p : Program) (l : Launch) (e : Env) (R : Room) (s : State) (m : MethodId) (args : Array Value) (below : List Frame) (meth : Method) (c : Code) (H : Heap) (locs : List Loc) (cells slots mc ms : Nat) (g : JFrame) (rest : List Value) (Qa : State → Outcome → State → Prop) (XC : String → State → State → Prop) (free : Addr → Prop) : Prop :=
  ∀ T : State, T.heap = H → Stand p l e R s m args below meth c T locs cells slots →
    (∃ (v : Option Value) (st₀ t T' : State) (L : List Loc), st₀.heap = H ∧ Stand p l e R s m args below meth c T' (locs ++ L) (cells + mc) (slots + ms) ∧ (∀ q ∈ L, free q.base) ∧ T'.heap = t.heap ∧ T'.vm = t.vm ∧ Qa st₀ (.returned v) t ∧
      Goes p e below T g T' { g with pc := g.pc + 3, stack := v.toList ++ rest }) ∨
    (∃ (q : Addr) (st₀ t T' : State) (L : List Loc) (E : String) (ce : Cell), st₀.heap = H ∧ Stand p l e R s m args below meth c T' (locs ++ L) (cells + mc) (slots + ms) ∧ (∀ z ∈ L, free z.base) ∧ T'.heap = t.heap ∧ T'.vm = t.vm ∧ XC E st₀ t ∧ t.heap[q]? = some ce ∧ ce.vm = .none ∧ s.vm.findClass E = some ce.cls ∧
      Steps p.tables e below (T.setTop g) ((T'.setTop { g with stack := rest }).pushFrame (.throwing q)))
def vx_X {S : Type} (px : S → Prop) (B : String → S → State → Prop) (A : Nat → Prop) : String → State → State → Prop := fun E st t => ∃ u : S, px u ∧ B E u t ∧ va_F A st t
section Runs
variable {p : Program} {l : Launch} {e : Env} {R : Room} {s : State} {m : MethodId} {args : Array Value} {below : List Frame} {meth : Method} {c : Code} {H : Heap} {locs : List Loc} {cells slots : Nat}
variable {y : MethodName} {bytes cc : ByteArray} {maxL nL mc ms n index : Nat} {ret : Option FieldType} {ws : List Cond} {rm : Room} {Pc : Array Value → State → Prop} {Qc : Array Value → State → Outcome → State → Prop} {XC : String → State → State → Prop} {free : Addr → Prop} {Ts : List Cond} {own C : String} {b : Addr} {As rest : List Value} {g : JFrame}
theorem vx_callBack (cb : CallB R s args own index y bytes maxL ret ws rm mc ms n) (hM : vx_Met l y ws rm Pc Qc XC mc ms free) (hbl : FrameBlind Pc) : vx_Back l R p e below s args y 3 8 (PreOf R mc ms Pc) (PostOf Qc mc ms free) (vx_Post XC mc ms free) := by
  obtain ⟨hrc, hrs, hfr, hlo, hws, hcw, -, hini, -⟩ := cb
  exact vx_back (bytes := bytes) (maxL := maxL) (ret := ret) hM hbl hrc hrs hfr hlo hws hcw (fun a' U hW => word_at hW (Or.inl (by first | rfl | simp [Cond.onTables, Cond.keeps, Cond.steady])) hini)
theorem vx_runV (S : CallFix p m c cc nL s args Ts own) (hM : vx_Met l y ws rm Pc Qc XC mc ms free) (cw : CallW R s args own C index y bytes maxL ret ws rm mc ms n) (hp : PreV s H C b Pc As)
    (hg : g.method = m) (hn : As.length = n) (hsize : g.locals.size = nL) (hstack : g.stack = As.reverse ++ .ref b :: rest) (hW : 2 * g.monitorRoom + (rest.map fun v => v.category).sum ≤ 8) (hdg : decode cc g.pc = .ok (.invokevirtual index, 3)) (hf : cells + mc ≤ R.cells ∧ slots + ms ≤ R.slots) :
    vx_Run p l e R s m args below meth c H locs cells slots mc ms g rest (Qc (Value.ref b :: As).toArray) XC free := by
  have hK : vx_Back l R p e below s args y 3 8 (PreOf R mc ms Pc) (PostOf Qc mc ms free) (vx_Post XC mc ms free) := vx_callBack cw.1 hM hp.1
  obtain ⟨⟨-, -, -, -, -, -, hcode, -, hy, hlen, hl⟩, hin, hse⟩ := cw
  obtain ⟨hx, hb, hml, ho, -⟩ := S
  obtain ⟨-, ⟨cellB, hcB, hoB, hclB⟩, hPc⟩ := hp
  intro T hT X
  rcases vx_callV X hx (C := C) (bytes := bytes) (maxL := maxL) (ret := ret) ho hl hin hse hcode hy hK (by rw [hT]; exact hcB) hoB hclB hg (hsize.trans hml.symm) (argsL := As) (rest := rest) (fun sig h => hn.trans (hlen sig h)) hstack hW (by rw [hb]; exact hdg)
    (fun vm₁ hW₁ => ⟨hf.1, hf.2, hPc (T.setVm vm₁) hT hW₁⟩) with ⟨v, vm₁, ⟨U', l2, c2, s2⟩, hW₁, X', ⟨g', mk, t, L, e1, e2, hq, h1, hL, h2, h3⟩, st⟩ | ⟨q, vm₁, ⟨U', l2, c2, s2⟩, hW₁, X', ⟨g', mk, t, L, E, ce, e1, e2, hq, hce, hcv, hcl, h1, hL, h2, h3⟩, st⟩
  · dsimp only [Pt.U, Pt.locs, Pt.cells, Pt.slots] at X' e1 e2 h1 h2 h3 st
    subst h1; subst h2; subst h3
    exact Or.inl ⟨v, (T.setVm vm₁).calling g' mk (Value.ref b :: As).toArray, t, U', L, hT, X', hL, e1, e2, hq, st⟩
  · dsimp only [Pt.U, Pt.locs, Pt.cells, Pt.slots] at X' e1 e2 h1 h2 h3 st hcl
    subst h1; subst h2; subst h3
    exact Or.inr ⟨q, (T.setVm vm₁).calling g' mk (Value.ref b :: As).toArray, t, U', L, E, ce, hT, X', hL, e1, e2, hq, hce, hcv, vx_cls hW₁ hcl, st⟩
theorem vx_runS (S : CallFix p m c cc nL s args Ts own) (hM : vx_Met l y ws rm Pc Qc XC mc ms free) (cw : CallB R s args own index y bytes maxL ret ws rm mc ms n ∧ (Cond.static y).before args s = true) (hp : PreS s H Pc As)
    (hg : g.method = m) (hn : As.length = n) (hsize : g.locals.size = nL) (hstack : g.stack = As.reverse ++ rest) (hW : 2 * g.monitorRoom + (rest.map fun v => v.category).sum ≤ 8) (hdg : decode cc g.pc = .ok (.invokestatic index, 3)) (hf : cells + mc ≤ R.cells ∧ slots + ms ≤ R.slots) :
    vx_Run p l e R s m args below meth c H locs cells slots mc ms g rest (Qc As.toArray) XC free := by
  have hK : vx_Back l R p e below s args y 3 8 (PreOf R mc ms Pc) (PostOf Qc mc ms free) (vx_Post XC mc ms free) := vx_callBack cw.1 hM hp.1
  obtain ⟨⟨-, -, -, -, -, -, hcode, hini, hy, hlen, hl⟩, hstt⟩ := cw
  obtain ⟨hx, hb, hml, ho, -⟩ := S
  intro T hT X
  rcases vx_callS X hx (bytes := bytes) (maxL := maxL) (ret := ret) ho hl hstt hini hcode hy hK hg (hsize.trans hml.symm) (argsL := As) (rest := rest) (fun sig h => hn.trans (hlen sig h)) hstack hW (by rw [hb]; exact hdg)
    (fun vm₁ hW₁ => ⟨hf.1, hf.2, hp.2 (T.setVm vm₁) hT hW₁⟩) with ⟨v, vm₁, ⟨U', l2, c2, s2⟩, hW₁, X', ⟨g', mk, t, L, e1, e2, hq, h1, hL, h2, h3⟩, st⟩ | ⟨q, vm₁, ⟨U', l2, c2, s2⟩, hW₁, X', ⟨g', mk, t, L, E, ce, e1, e2, hq, hce, hcv, hcl, h1, hL, h2, h3⟩, st⟩
  · dsimp only [Pt.U, Pt.locs, Pt.cells, Pt.slots] at X' e1 e2 h1 h2 h3 st
    subst h1; subst h2; subst h3
    exact Or.inl ⟨v, (T.setVm vm₁).calling g' mk As.toArray, t, U', L, hT, X', hL, e1, e2, hq, st⟩
  · dsimp only [Pt.U, Pt.locs, Pt.cells, Pt.slots] at X' e1 e2 h1 h2 h3 st hcl
    subst h1; subst h2; subst h3
    exact Or.inr ⟨q, (T.setVm vm₁).calling g' mk As.toArray, t, U', L, E, ce, hT, X', hL, e1, e2, hq, hce, hcv, vx_cls hW₁ hcl, st⟩
end Runs
section Rows
variable {p : Program} {l : Launch} {e : Env} {R : Room} {s : State} {m : MethodId} {args : Array Value} {below : List Frame} {meth : Method} {c : Code} {H : Heap} {locs : List Loc} {cells slots : Nat} {Q : State → Prop}
variable {mc ms : Nat} {free : Addr → Prop} {A0 A1 : Nat → Prop} {H0 : Heap} {a : Array Value} {pc : Nat} {ls : Array Slot} {st0 rest : List Value}
theorem vx_keep {st₀ t T' : State} {L : List Loc} (h0 : st₀.heap = H) (e1 : T'.heap = t.heap) (hS : va_S A0 H0 H locs) (hA : ∀ q, q < H.size → A1 q → A0 q) (hf : ∀ q, free q → A0 q) (hL : ∀ q ∈ L, free q.base) (hF : va_F A1 st₀ t) :
    H.size ≤ T'.heap.size ∧ (∀ q : Nat, q < H.size → ¬ A1 q → T'.heap[q]? = H[q]?) ∧ va_S A0 H0 T'.heap (locs ++ L) := by
  obtain ⟨hz, hk⟩ := hF
  rw [h0] at hz hk
  exact ⟨by rw [e1]; exact hz, fun q h1 h2 => by rw [e1]; exact hk q h1 h2,
    ⟨Nat.le_trans hS.1 (by rw [e1]; exact hz), fun q h1 h2 => by rw [e1, hk q (Nat.lt_of_lt_of_le h1 hS.1) (fun z => h2 (hA q (Nat.lt_of_lt_of_le h1 hS.1) z))]; exact hS.2.1 q h1 h2, fun q hq => by
      rcases List.mem_append.mp hq with h | h
      · exact hS.2.2 q h
      · exact hf _ (hL q h)⟩⟩
theorem vx_calli {S SX : Type} {post : Int32 → S → Prop} {px : SX → Prop} {B : S → State → Prop} {BX : String → SX → State → Prop} {AX : Nat → Prop} (hr : vx_Run p l e R s m args below meth c H locs cells slots mc ms (F0 m pc ls st0) rest (va_Qi post B A1 a) (vx_X px BX AX) free) (hS : va_S A0 H0 H locs) (hA : ∀ q, q < H.size → A1 q → A0 q) (hf : ∀ q, free q → A0 q) (hAX : ∀ q, q < H.size → AX q → A0 q)
    (kx : ∀ (E : String) (ce : Cell) (q9 : Addr) (u : SX) (t : State) (H1 : Heap) (locs1 : List Loc), t.heap = H1 → s.vm.Alike t.vm → px u → BX E u t → H.size ≤ H1.size → (∀ q : Nat, q < H.size → ¬ AX q → H1[q]? = H[q]?) → va_S A0 H0 H1 locs1 → H1[q9]? = some ce → ce.vm = .none → s.vm.findClass E = some ce.cls → vx_W p l e R s m args below meth c H1 locs1 (cells + mc) (slots + ms) Q (F0 m pc ls rest) q9)
    (kk : ∀ (r : Int32) (u : S) (t : State) (H1 : Heap) (locs1 : List Loc), t.heap = H1 → s.vm.Alike t.vm → post r u → B u t → H.size ≤ H1.size → (∀ q : Nat, q < H.size → ¬ A1 q → H1[q]? = H[q]?) → va_S A0 H0 H1 locs1 → W p l e R s m args below meth c H1 locs1 (cells + mc) (slots + ms) Q (F0 m (pc + 3) ls (.int r :: rest))) : W p l e R s m args below meth c H locs cells slots Q (F0 m pc ls st0) := by
  intro T hT X
  rcases hr T hT X with ⟨v, st₀, t, T', L, h0, X', hL, e1, e2, ⟨⟨r, u, hv, hp, hb⟩, hF⟩, st⟩ | ⟨q, st₀, t, T', L, E, ce, h0, X', hL, e1, e2, ⟨u, hp, hb, hF⟩, hce, hcv, hcl, st⟩
  · cases hv
    obtain ⟨k1, k2, k3⟩ := vx_keep h0 e1 hS hA hf hL hF
    obtain ⟨t2, a1, b1⟩ := kk r u t T'.heap (locs ++ L) e1.symm (by rw [← e2]; exact X'.warmed.alike) hp hb k1 k2 k3 T' rfl X'
    exact ⟨t2, st t2 a1, b1⟩
  · obtain ⟨k1, k2, k3⟩ := vx_keep h0 e1 hS hAX hf hL hF
    obtain ⟨t2, a1, b1⟩ := kx E ce q u t T'.heap (locs ++ L) e1.symm (by rw [← e2]; exact X'.warmed.alike) hp hb k1 k2 k3 (by rw [e1]; exact hce) hcv hcl T' rfl X'
    exact ⟨t2, st.trans a1, b1⟩
theorem vx_calll {S SX : Type} {post : Int64 → S → Prop} {px : SX → Prop} {B : S → State → Prop} {BX : String → SX → State → Prop} {AX : Nat → Prop} (hr : vx_Run p l e R s m args below meth c H locs cells slots mc ms (F0 m pc ls st0) rest (va_Ql post B A1 a) (vx_X px BX AX) free) (hS : va_S A0 H0 H locs) (hA : ∀ q, q < H.size → A1 q → A0 q) (hf : ∀ q, free q → A0 q) (hAX : ∀ q, q < H.size → AX q → A0 q)
    (kx : ∀ (E : String) (ce : Cell) (q9 : Addr) (u : SX) (t : State) (H1 : Heap) (locs1 : List Loc), t.heap = H1 → s.vm.Alike t.vm → px u → BX E u t → H.size ≤ H1.size → (∀ q : Nat, q < H.size → ¬ AX q → H1[q]? = H[q]?) → va_S A0 H0 H1 locs1 → H1[q9]? = some ce → ce.vm = .none → s.vm.findClass E = some ce.cls → vx_W p l e R s m args below meth c H1 locs1 (cells + mc) (slots + ms) Q (F0 m pc ls rest) q9)
    (kk : ∀ (r : Int64) (u : S) (t : State) (H1 : Heap) (locs1 : List Loc), t.heap = H1 → s.vm.Alike t.vm → post r u → B u t → H.size ≤ H1.size → (∀ q : Nat, q < H.size → ¬ A1 q → H1[q]? = H[q]?) → va_S A0 H0 H1 locs1 → W p l e R s m args below meth c H1 locs1 (cells + mc) (slots + ms) Q (F0 m (pc + 3) ls (.long r :: rest))) : W p l e R s m args below meth c H locs cells slots Q (F0 m pc ls st0) := by
  intro T hT X
  rcases hr T hT X with ⟨v, st₀, t, T', L, h0, X', hL, e1, e2, ⟨⟨r, u, hv, hp, hb⟩, hF⟩, st⟩ | ⟨q, st₀, t, T', L, E, ce, h0, X', hL, e1, e2, ⟨u, hp, hb, hF⟩, hce, hcv, hcl, st⟩
  · cases hv
    obtain ⟨k1, k2, k3⟩ := vx_keep h0 e1 hS hA hf hL hF
    obtain ⟨t2, a1, b1⟩ := kk r u t T'.heap (locs ++ L) e1.symm (by rw [← e2]; exact X'.warmed.alike) hp hb k1 k2 k3 T' rfl X'
    exact ⟨t2, st t2 a1, b1⟩
  · obtain ⟨k1, k2, k3⟩ := vx_keep h0 e1 hS hAX hf hL hF
    obtain ⟨t2, a1, b1⟩ := kx E ce q u t T'.heap (locs ++ L) e1.symm (by rw [← e2]; exact X'.warmed.alike) hp hb k1 k2 k3 (by rw [e1]; exact hce) hcv hcl T' rfl X'
    exact ⟨t2, st.trans a1, b1⟩
theorem vx_callf {S SX : Type} {post : UInt32 → S → Prop} {px : SX → Prop} {B : S → State → Prop} {BX : String → SX → State → Prop} {AX : Nat → Prop} (hr : vx_Run p l e R s m args below meth c H locs cells slots mc ms (F0 m pc ls st0) rest (va_Qf post B A1 a) (vx_X px BX AX) free) (hS : va_S A0 H0 H locs) (hA : ∀ q, q < H.size → A1 q → A0 q) (hf : ∀ q, free q → A0 q) (hAX : ∀ q, q < H.size → AX q → A0 q)
    (kx : ∀ (E : String) (ce : Cell) (q9 : Addr) (u : SX) (t : State) (H1 : Heap) (locs1 : List Loc), t.heap = H1 → s.vm.Alike t.vm → px u → BX E u t → H.size ≤ H1.size → (∀ q : Nat, q < H.size → ¬ AX q → H1[q]? = H[q]?) → va_S A0 H0 H1 locs1 → H1[q9]? = some ce → ce.vm = .none → s.vm.findClass E = some ce.cls → vx_W p l e R s m args below meth c H1 locs1 (cells + mc) (slots + ms) Q (F0 m pc ls rest) q9)
    (kk : ∀ (r : UInt32) (u : S) (t : State) (H1 : Heap) (locs1 : List Loc), t.heap = H1 → s.vm.Alike t.vm → post r u → B u t → H.size ≤ H1.size → (∀ q : Nat, q < H.size → ¬ A1 q → H1[q]? = H[q]?) → va_S A0 H0 H1 locs1 → W p l e R s m args below meth c H1 locs1 (cells + mc) (slots + ms) Q (F0 m (pc + 3) ls (.float r :: rest))) : W p l e R s m args below meth c H locs cells slots Q (F0 m pc ls st0) := by
  intro T hT X
  rcases hr T hT X with ⟨v, st₀, t, T', L, h0, X', hL, e1, e2, ⟨⟨r, u, hv, hp, hb⟩, hF⟩, st⟩ | ⟨q, st₀, t, T', L, E, ce, h0, X', hL, e1, e2, ⟨u, hp, hb, hF⟩, hce, hcv, hcl, st⟩
  · cases hv
    obtain ⟨k1, k2, k3⟩ := vx_keep h0 e1 hS hA hf hL hF
    obtain ⟨t2, a1, b1⟩ := kk r u t T'.heap (locs ++ L) e1.symm (by rw [← e2]; exact X'.warmed.alike) hp hb k1 k2 k3 T' rfl X'
    exact ⟨t2, st t2 a1, b1⟩
  · obtain ⟨k1, k2, k3⟩ := vx_keep h0 e1 hS hAX hf hL hF
    obtain ⟨t2, a1, b1⟩ := kx E ce q u t T'.heap (locs ++ L) e1.symm (by rw [← e2]; exact X'.warmed.alike) hp hb k1 k2 k3 (by rw [e1]; exact hce) hcv hcl T' rfl X'
    exact ⟨t2, st.trans a1, b1⟩
theorem vx_calld {S SX : Type} {post : UInt64 → S → Prop} {px : SX → Prop} {B : S → State → Prop} {BX : String → SX → State → Prop} {AX : Nat → Prop} (hr : vx_Run p l e R s m args below meth c H locs cells slots mc ms (F0 m pc ls st0) rest (va_Qd post B A1 a) (vx_X px BX AX) free) (hS : va_S A0 H0 H locs) (hA : ∀ q, q < H.size → A1 q → A0 q) (hf : ∀ q, free q → A0 q) (hAX : ∀ q, q < H.size → AX q → A0 q)
    (kx : ∀ (E : String) (ce : Cell) (q9 : Addr) (u : SX) (t : State) (H1 : Heap) (locs1 : List Loc), t.heap = H1 → s.vm.Alike t.vm → px u → BX E u t → H.size ≤ H1.size → (∀ q : Nat, q < H.size → ¬ AX q → H1[q]? = H[q]?) → va_S A0 H0 H1 locs1 → H1[q9]? = some ce → ce.vm = .none → s.vm.findClass E = some ce.cls → vx_W p l e R s m args below meth c H1 locs1 (cells + mc) (slots + ms) Q (F0 m pc ls rest) q9)
    (kk : ∀ (r : UInt64) (u : S) (t : State) (H1 : Heap) (locs1 : List Loc), t.heap = H1 → s.vm.Alike t.vm → post r u → B u t → H.size ≤ H1.size → (∀ q : Nat, q < H.size → ¬ A1 q → H1[q]? = H[q]?) → va_S A0 H0 H1 locs1 → W p l e R s m args below meth c H1 locs1 (cells + mc) (slots + ms) Q (F0 m (pc + 3) ls (.double r :: rest))) : W p l e R s m args below meth c H locs cells slots Q (F0 m pc ls st0) := by
  intro T hT X
  rcases hr T hT X with ⟨v, st₀, t, T', L, h0, X', hL, e1, e2, ⟨⟨r, u, hv, hp, hb⟩, hF⟩, st⟩ | ⟨q, st₀, t, T', L, E, ce, h0, X', hL, e1, e2, ⟨u, hp, hb, hF⟩, hce, hcv, hcl, st⟩
  · cases hv
    obtain ⟨k1, k2, k3⟩ := vx_keep h0 e1 hS hA hf hL hF
    obtain ⟨t2, a1, b1⟩ := kk r u t T'.heap (locs ++ L) e1.symm (by rw [← e2]; exact X'.warmed.alike) hp hb k1 k2 k3 T' rfl X'
    exact ⟨t2, st t2 a1, b1⟩
  · obtain ⟨k1, k2, k3⟩ := vx_keep h0 e1 hS hAX hf hL hF
    obtain ⟨t2, a1, b1⟩ := kx E ce q u t T'.heap (locs ++ L) e1.symm (by rw [← e2]; exact X'.warmed.alike) hp hb k1 k2 k3 (by rw [e1]; exact hce) hcv hcl T' rfl X'
    exact ⟨t2, st.trans a1, b1⟩
theorem vx_callv {S SX : Type} {post : S → Prop} {px : SX → Prop} {B : S → State → Prop} {BX : String → SX → State → Prop} {AX : Nat → Prop} (hr : vx_Run p l e R s m args below meth c H locs cells slots mc ms (F0 m pc ls st0) rest (va_Qv post B A1 a) (vx_X px BX AX) free) (hS : va_S A0 H0 H locs) (hA : ∀ q, q < H.size → A1 q → A0 q) (hf : ∀ q, free q → A0 q) (hAX : ∀ q, q < H.size → AX q → A0 q)
    (kx : ∀ (E : String) (ce : Cell) (q9 : Addr) (u : SX) (t : State) (H1 : Heap) (locs1 : List Loc), t.heap = H1 → s.vm.Alike t.vm → px u → BX E u t → H.size ≤ H1.size → (∀ q : Nat, q < H.size → ¬ AX q → H1[q]? = H[q]?) → va_S A0 H0 H1 locs1 → H1[q9]? = some ce → ce.vm = .none → s.vm.findClass E = some ce.cls → vx_W p l e R s m args below meth c H1 locs1 (cells + mc) (slots + ms) Q (F0 m pc ls rest) q9)
    (kk : ∀ (u : S) (t : State) (H1 : Heap) (locs1 : List Loc), t.heap = H1 → s.vm.Alike t.vm → post u → B u t → H.size ≤ H1.size → (∀ q : Nat, q < H.size → ¬ A1 q → H1[q]? = H[q]?) → va_S A0 H0 H1 locs1 → W p l e R s m args below meth c H1 locs1 (cells + mc) (slots + ms) Q (F0 m (pc + 3) ls (rest))) : W p l e R s m args below meth c H locs cells slots Q (F0 m pc ls st0) := by
  intro T hT X
  rcases hr T hT X with ⟨v, st₀, t, T', L, h0, X', hL, e1, e2, ⟨⟨u, hv, hp, hb⟩, hF⟩, st⟩ | ⟨q, st₀, t, T', L, E, ce, h0, X', hL, e1, e2, ⟨u, hp, hb, hF⟩, hce, hcv, hcl, st⟩
  · cases hv
    obtain ⟨k1, k2, k3⟩ := vx_keep h0 e1 hS hA hf hL hF
    obtain ⟨t2, a1, b1⟩ := kk u t T'.heap (locs ++ L) e1.symm (by rw [← e2]; exact X'.warmed.alike) hp hb k1 k2 k3 T' rfl X'
    exact ⟨t2, st t2 a1, b1⟩
  · obtain ⟨k1, k2, k3⟩ := vx_keep h0 e1 hS hAX hf hL hF
    obtain ⟨t2, a1, b1⟩ := kx E ce q u t T'.heap (locs ++ L) e1.symm (by rw [← e2]; exact X'.warmed.alike) hp hb k1 k2 k3 (by rw [e1]; exact hce) hcv hcl T' rfl X'
    exact ⟨t2, st.trans a1, b1⟩
/-- caught by the row x of this method's table; the rows ahead don't take it -/
theorem vx_catch {own name : String} {E : String} {ce : Cell} {q : Addr} (hown : s.vm.findClass own = some m.cls) (pre : List ExceptionTableEntry) (x : ExceptionTableEntry) (suf : List ExceptionTableEntry) (hsplit : c.exceptionTable.toList = pre ++ x :: suf)
    (hpass : ∀ z ∈ pre, covers z pc = false ∨ (z.catchType ≠ 0 ∧ ∃ nm : String, (Cond.classLink own z.catchType nm).before args s = true ∧ va_Nc E nm s)) (hx : covers x pc = true) (h0 : x.catchType ≠ 0)
    (hlink : (Cond.classLink own x.catchType name).before args s = true) (hcast : (Cond.castable E name).before args s = true) (hcell : H[q]? = some ce) (hv : ce.vm = .none) (hcl : s.vm.findClass E = some ce.cls)
    (kk : W p l e R s m args below meth c H locs cells slots Q (F0 m x.handlerPc ls [.ref q])) : vx_W p l e R s m args below meth c H locs cells slots Q (F0 m pc ls rest) q := by
  intro T hT X
  have hpl : e.platform.magicAccessors = ({} : Platform).magicAccessors := by rw [X.admits.platform]
  obtain ⟨c3, c4, hc3, hc4, hasg⟩ := Cond.castable_spec hcast
  cases Option.some.inj (hc3.symm.trans hcl)
  obtain ⟨c5, hc5, hcl5⟩ := Cond.classLink_spec hown hlink e.platform hpl
  cases Option.some.inj (hc4.symm.trans hc5)
  obtain ⟨vm', X', st⟩ := X.thenCaughtThrough q (g := F0 m pc ls rest) rfl (Steps.refl _) (by rw [hT]; exact hcell) (by rw [hv]; rfl) (by obtain ⟨k9, h9, -⟩ := Vm.findClass_spec hcl; exact ⟨k9, h9⟩) pre x suf hsplit
    (fun z hz => by
      rcases hpass z hz with h | ⟨hz0, nm, hl1, hn1⟩
      · exact Or.inl h
      · obtain ⟨c6, hc6, hcl6⟩ := Cond.classLink_spec hown hl1 e.platform hpl
        obtain ⟨a8, b8, h1, h2, h3⟩ := hn1
        cases Option.some.inj (h1.symm.trans hcl)
        cases Option.some.inj (h2.symm.trans hc6)
        exact Or.inr ⟨hz0, _, hcl6, h3⟩) hx (Or.inr ⟨h0, c4, hcl5, hasg⟩)
  obtain ⟨t, a1, b1⟩ := kk (T.setVm vm') hT X'
  exact ⟨t, st.trans a1, b1⟩
end Rows
section Ends
variable {p : Program} {l : Launch} {e : Env} {R : Room} {s : State} {m : MethodId} {args : Array Value} {below : List Frame} {meth : Method} {c : Code} {H : Heap} {locs : List Loc} {cells slots : Nat} {Q : State → Prop}
variable {mc ms : Nat} {free : Addr → Prop} {A0 A1 : Nat → Prop} {H0 : Heap} {a : Array Value} {ls : Array Slot} {st0 rest : List Value}
variable {Qc : Array Value → State → Outcome → State → Prop} {XC : String → State → State → Prop}
/-- what a body that may throw owes at its end -/
def vx_MQ (below : List Frame) (Qc : Array Value → State → Outcome → State → Prop) (XC : String → State → State → Prop) (a : Array Value) (s : State) (mc ms : Nat) (free : Addr → Prop) : State → Prop := fun t =>
  ∃ o, t.status = .running ∧ Ended t below o ∧ vx_Q Qc XC mc ms free a s o t
theorem vx_ret {g : JFrame} {mc ms : Nat} (k : W p l e R s m args below meth c H locs cells slots (MQ below Qc args s mc ms free) g) : W p l e R s m args below meth c H locs cells slots (vx_MQ below Qc XC args s mc ms free) g := by
  intro T hT X
  obtain ⟨t, a1, o, b1, b2, b3, b4⟩ := k T hT X
  exact ⟨t, a1, o, b1, b2, Or.inl ⟨b3, b4⟩⟩
/-- not caught here: it goes on to the caller -/
theorem vx_widen {g : JFrame} {q : Addr} {k n : Nat} (h1 : cells ≤ k) (h2 : slots ≤ n) (kk : vx_W p l e R s m args below meth c H locs k n Q g q) : vx_W p l e R s m args below meth c H locs cells slots Q g q := fun T hT X => kk T hT (stand_widen X h1 h2)
theorem vx_out {pc : Nat} {E : String} {ce : Cell} {q : Addr} {mc ms : Nat} (hout : ∀ x ∈ c.exceptionTable.toList, covers x pc = false) (hlocks : meth.locks = false) (hcell : H[q]? = some ce) (hv : ce.vm = .none) (hcl : s.vm.findClass E = some ce.cls)
    (hx : ∀ t : State, t.heap = H → s.vm.Alike t.vm → XC E s t) (hf : ∀ z ∈ locs, free z.base) (hc : cells ≤ mc) (hs : slots ≤ ms) :
    vx_W p l e R s m args below meth c H locs cells slots (vx_MQ below Qc XC args s mc ms free) (F0 m pc ls rest) q := by
  intro T hT X
  obtain ⟨st1, hrun, hend, hW, hsm⟩ := X.leaveThrown q (g := F0 m pc ls rest) rfl rfl rfl hout hlocks
  have hcell9 : (T.setFrames (.throwing q :: below)).heap[q]? = some ce := by
    show T.heap[q]? = some ce
    rw [hT]; exact hcell
  exact ⟨_, st1, .threw q, hrun, hend, Or.inr ⟨q, rfl, E, ce, locs, hx _ hT hW.alike, hcell9, hv, hcl, hW, hsm.mono hc hs, hf⟩⟩
theorem vx_frame {U : State} {k n : Nat} (h : s.sameButNew ({ U with vm := s.vm } : State) locs k n) : s.heap.size ≤ U.heap.size ∧ ∀ q : Nat, q < s.heap.size → (∀ z ∈ locs, z.base ≠ q) → U.heap[q]? = s.heap[q]? := by
  obtain ⟨-, h2, -, -, -, h6⟩ := h
  refine ⟨h2, fun q hq hz => ?_⟩
  obtain ⟨c9, e1, e2, e3, e4⟩ := h6 q _ (Array.getElem?_eq_getElem hq)
  have hs : c9.slots = (s.heap[q]).slots := Array.ext_getElem? fun i => e4 i fun hm => hz _ hm rfl
  have h9 : c9 = s.heap[q] := by
    rw [hs] at e2
    exact e2
  have e5 : U.heap[q]? = some c9 := e1
  rw [e5, h9, Array.getElem?_eq_getElem hq]
/-- the words of a throw but the four that speak of the heap -/
def vx_no (w : Cond) : Bool := decide (w ≠ .isRef (.static Jvm.Bundle.tN "UNASSIGNED_STACK" Jvm.Bundle.steD)) && decide (w ≠ .isRef (.static Jvm.Bundle.tN "SUPPRESSED_SENTINEL" Jvm.Bundle.listD)) && decide (w ≠ .laysStatic Jvm.Bundle.tN "UNASSIGNED_STACK" Jvm.Bundle.steD) && decide (w ≠ .laysStatic Jvm.Bundle.tN "SUPPRESSED_SENTINEL" Jvm.Bundle.listD)
def vx_at0 (own : String) (ic : Nat) (X : String) (names : List String) : List Cond := (Jvm.Bundle.ownAtoms0 own ic X names).filter vx_no
def vx_atS (own : String) (ic : Nat) (X : String) (names : List String) : List Cond := (Jvm.Bundle.ownAtoms own ic X names).filter vx_no
/-- a word that the tables alone decide, or a good one -/
def vx_ot (w : Cond) : Bool := w.onTables || goodWord w
theorem vx_ot_at {args a' : Array Value} {s U : State} {w : Cond} (hW : s.WarmedH U.vm) (hvm : s.vm = U.vm) (hg : vx_ot w = true) (h : w.before args s = true) : w.before a' U = true := by
  simp only [vx_ot, Bool.or_eq_true] at hg
  rcases hg with hg | hg
  · exact va_tabs hg hvm h
  · exact word_at hW (good_of_word hg) h
/-- a list's words: the good ones out of the method's own list, the others by premises of their own -/
theorem vx_hat {args : Array Value} {s : State} {L B : List Cond} (h1 : ∀ w ∈ L.filter goodWord, w.before args s = true) (h2 : ∀ w ∈ L.filter (fun w => !goodWord w), w ∈ B) (h3 : ∀ w ∈ B, w.before args s = true) : ∀ w ∈ L, w.before args s = true := by
  intro w hw
  by_cases g : goodWord w = true
  · exact h1 w (List.mem_filter.mpr ⟨hw, g⟩)
  · refine h3 w (h2 w (List.mem_filter.mpr ⟨hw, ?_⟩))
    show (!goodWord w) = true
    cases hgw : goodWord w
    · rfl
    · exact absurd hgw g
theorem vx_c {args : Array Value} {s : State} {w : Cond} {B : List Cond} (h : w.before args s = true) (t : ∀ w ∈ B, w.before args s = true) : ∀ w' ∈ w :: B, w'.before args s = true := fun w' h' => (List.mem_cons.mp h').elim (fun e => by rw [e]; exact h) (t w')
theorem vx_n {args : Array Value} {s : State} : ∀ w ∈ ([] : List Cond), w.before args s = true := fun _ h => nomatch h
theorem vx_own {args : Array Value} {s : State} {L : List Cond} (h1 : ∀ w ∈ L.filter vx_no, w.before args s = true)
    (hU : (Cond.isRef (.static Jvm.Bundle.tN "UNASSIGNED_STACK" Jvm.Bundle.steD)).before args s = true) (hN : (Cond.isRef (.static Jvm.Bundle.tN "SUPPRESSED_SENTINEL" Jvm.Bundle.listD)).before args s = true)
    (lU : (Cond.laysStatic Jvm.Bundle.tN "UNASSIGNED_STACK" Jvm.Bundle.steD).before args s = true) (lN : (Cond.laysStatic Jvm.Bundle.tN "SUPPRESSED_SENTINEL" Jvm.Bundle.listD).before args s = true) : ∀ w ∈ L, w.before args s = true := by
  intro w hw
  by_cases e1 : w = .isRef (.static Jvm.Bundle.tN "UNASSIGNED_STACK" Jvm.Bundle.steD)
  · rw [e1]; exact hU
  · by_cases e2 : w = .isRef (.static Jvm.Bundle.tN "SUPPRESSED_SENTINEL" Jvm.Bundle.listD)
    · rw [e2]; exact hN
    · by_cases e3 : w = .laysStatic Jvm.Bundle.tN "UNASSIGNED_STACK" Jvm.Bundle.steD
      · rw [e3]; exact lU
      · by_cases e4 : w = .laysStatic Jvm.Bundle.tN "SUPPRESSED_SENTINEL" Jvm.Bundle.listD
        · rw [e4]; exact lN
        · exact h1 w (List.mem_filter.mpr ⟨hw, by unfold vx_no; rw [decide_eq_true e1, decide_eq_true e2, decide_eq_true e3, decide_eq_true e4]; rfl⟩)
/-- where a static field lies, its class's statics cell in H -/
def vx_L (C n d : String) (A : Nat → Prop) (U : State) (H : Heap) : Prop := ∃ (c : ClassId) (k : Class) (i : Nat) (f : Field) (a : Nat) (cell : Cell), U.vm.findClass C = some c ∧ U.fieldFound? C n d = some (c, k, i, f) ∧ f.isStatic = true ∧ k.statics = some a ∧ H[a]? = some cell ∧ cell.vm.isStatics = true ∧ cell.cls = c ∧ f.slot < cell.slots.size ∧ k.staticTypes[f.slot]? = some f.type ∧ ¬ A a
theorem vx_L.moved {C n d : String} {A : Nat → Prop} {u U : State} {H : Heap} (hvm : u.vm.Alike U.vm) (h : vx_L C n d A u H) : vx_L C n d A U H := by
  obtain ⟨c, k, i, f, a, cell, h1, h2, h3, h4, h5, h6, h7, h8, h9, h10⟩ := h
  obtain ⟨k', hi', he⟩ := State.fieldFound?_setVm hvm h2
  exact ⟨c, k', i, f, a, cell, by rw [hvm.findClass]; exact h1, hi', h3, by rw [he]; exact h4, h5, h6, h7, h8, by rw [he]; exact h9, h10⟩
theorem vx_L.kept {C n d : String} {A : Nat → Prop} {U : State} {H H1 : Heap} (h : vx_L C n d A U H) (hq : ∀ a : Nat, a < H.size → ¬ A a → H1[a]? = H[a]?) : vx_L C n d A U H1 := by
  obtain ⟨c, k, i, f, a, cell, h1, h2, h3, h4, h5, h6, h7, h8, h9, h10⟩ := h
  exact ⟨c, k, i, f, a, cell, h1, h2, h3, h4, by rw [hq a (Array.getElem?_eq_some_iff.mp h5).1 h10]; exact h5, h6, h7, h8, h9, h10⟩
theorem vx_L.narrow {C n d : String} {A B : Nat → Prop} {U : State} {H : Heap} (h : vx_L C n d A U H) (hAB : ∀ q, B q → A q) : vx_L C n d B U H := by
  obtain ⟨c, k, i, f, a, cell, h1, h2, h3, h4, h5, h6, h7, h8, h9, h10⟩ := h
  exact ⟨c, k, i, f, a, cell, h1, h2, h3, h4, h5, h6, h7, h8, h9, fun z => h10 (hAB _ z)⟩
theorem vx_L.word {C n d : String} {A : Nat → Prop} {s : State} {args : Array Value} (h : vx_L C n d A s s.heap) : (Cond.laysStatic C n d).before args s = true := by
  obtain ⟨c, k, i, f, a, cell, h1, h2, h3, h4, h5, h6, h7, h8, h9, -⟩ := h
  show (Cond.laysStatic C n d).holds args s none s [] = true
  exact Cond.laysStatic_of h1 h2 h3 h4 h5 h6 h7 h8 h9
/-- .. and what it holds: null or some reference -/
def vx_Zq (C n d : String) (A : Nat → Prop) (U : State) (H : Heap) : Prop := va_Zq C n d A U H ∧ vx_L C n d A U H
theorem vx_Zq.moved {C n d : String} {A : Nat → Prop} {u U : State} {H : Heap} (hvm : u.vm.Alike U.vm) (h : vx_Zq C n d A u H) : vx_Zq C n d A U H := ⟨va_Zq.moved hvm h.1, vx_L.moved hvm h.2⟩
theorem vx_Zq.kept {C n d : String} {A : Nat → Prop} {U : State} {H H1 : Heap} (h : vx_Zq C n d A U H) (hq : ∀ a : Nat, a < H.size → ¬ A a → H1[a]? = H[a]?) : vx_Zq C n d A U H1 := ⟨va_Zq.kept h.1 hq, vx_L.kept h.2 hq⟩
theorem vx_Zq.narrow {C n d : String} {A B : Nat → Prop} {U : State} {H : Heap} (h : vx_Zq C n d A U H) (hAB : ∀ q, B q → A q) : vx_Zq C n d B U H := ⟨va_Zq.narrow h.1 hAB, vx_L.narrow h.2 hAB⟩
theorem vx_Zqof {args : Array Value} {s : State} {C n d : String} {A : Nat → Prop} (hl : (Cond.laysStatic C n d).before args s = true) (hini : (Cond.initialized C).before args s = true) (h : (Cond.isRef (.static C n d)).before args s = true) (hA : ∀ a : Nat, a < s.heap.size → ¬ A a) : vx_Zq C n d A s s.heap := by
  refine ⟨va_Zqof hl hini h hA, ?_⟩
  obtain ⟨c, k, i, f, a, cell, h1, h2, h3, h4, h5, h6, h7, h8, h9⟩ := Cond.laysStatic_spec hl
  exact ⟨c, k, i, f, a, cell, h1, h2, h3, h4, h5, h6, h7, h8, h9, hA a (Array.getElem?_eq_some_iff.mp h5).1⟩
theorem vx_isRef {C n d : String} {v : Value} {A : Nat → Prop} {s : State} {args : Array Value} (h : va_Z C n d v A s s.heap) (hv : v.isRef = true) : (Cond.isRef (.static C n d)).before args s = true := by
  obtain ⟨cf, kf, fi, f, a, cell, h1, h2, h3, h4, h5, h6, h7, -⟩ := h
  have he : (Term.static C n d).eval args s none [] s = some v := by
    simp [Term.eval, State.fieldNamed?, h1, h2, h4, h5, h6, h7]
  simp only [Cond.before, Cond.holds, Cond.value, he]
  cases v <;> simp_all [Value.isRef]
theorem vx_isRefq {C n d : String} {A : Nat → Prop} {s : State} {args : Array Value} (h : va_Zq C n d A s s.heap) : (Cond.isRef (.static C n d)).before args s = true := by
  rcases h with h | ⟨t, h⟩
  · exact vx_isRef h rfl
  · exact vx_isRef h rfl
/-- the same frame, seen from here: as if the method were called anew in this heap -/
theorem vx_rebase {T : State} (X : Stand p l e R s m args below meth c T locs cells slots) {R' : Room} (hf : R'.frames ≤ R.frames) (hl : R'.locals ≤ R.locals) (hc : cells + R'.cells ≤ R.cells) (hs : slots + R'.slots ≤ R.slots) :
    Stand p l e R' ((T.setVm s.vm).setFrames (.invoking m args :: below)) m args below meth c T [] 0 0 := by
  have htop : (T.setVm s.vm).topJava?.isSome := X.here.top
  have hF : ((T.setVm s.vm).setFrames (.invoking m args :: below)).frames = .invoking m args :: below := State.frames_setFrames _ (State.cur_lt_of_top htop)
  obtain ⟨g₀, hg0⟩ := Option.isSome_iff_exists.mp htop
  obtain ⟨r, hr⟩ := State.topJava?_eq_some.mp hg0
  have hl9 : e.platform.stackLimits (T.setVm s.vm).me = e.platform.stackLimits s.me := X.limits
  have hb9 : (T.setVm s.vm).me.stackBytes = s.me.stackBytes := X.bytes
  refine ⟨X.admits, X.cas, X.clock, hF, ?_, X.hears, X.method, X.code, X.here, X.tail, X.warmed, ?_, ?_, ?_⟩
  · have h := X.room
    have hU : ((T.setVm s.vm).setFrames (.invoking m args :: below)).localsInUse = s.localsInUse := by
      rw [State.localsInUse_invoking hF (meth := meth) (c := c) X.method X.code, State.localsInUse_invoking X.frames X.method X.code]
    simp only [State.hasRoom, Bool.and_eq_true, decide_eq_true_eq] at h ⊢
    obtain ⟨⟨⟨⟨h1, h2, h3, h4, h5, h6⟩, h7⟩, h8⟩, h9⟩ := h
    rw [X.frames, List.length_cons] at h2 h3
    have q1 := X.heapSize
    have q2 := X.used
    simp only [hF, hU, List.length_cons, State.stackLimits_setFrames, State.stackBytes_setFrames, hl9, hb9]
    refine ⟨⟨⟨⟨by omega, by omega, by omega, by omega, by omega, h6⟩, ?_⟩, ?_⟩, X.book⟩
    · show T.heap.size + R'.cells ≤ e.platform.maxCells
      omega
    · show T.slotsUsed + R'.slots ≤ e.platform.maxSlots
      omega
  · rw [State.stackLimits_setFrames]; rfl
  · rw [State.stackBytes_setFrames]; rfl
  · refine ⟨?_, Nat.le_refl _, Nat.le_refl _, ?_, ?_, fun a c9 h9 => ⟨c9, h9, rfl, rfl, fun _ _ => rfl⟩⟩
    · obtain ⟨t, ht, -⟩ := State.frames_cons hr
      show T.setVm s.vm = { ((T.setVm s.vm).setFrames (.invoking m args :: below)).setFrames (T.setVm s.vm).frames with heap := T.heap, slotsUsed := T.slotsUsed }
      rw [State.setFrames_setFrames, State.setFrames_self ht]
      rfl
    · show T.slotsUsed = T.slotsUsed + ((T.heap.toList.drop T.heap.size).map (·.slots.size)).sum
      rw [List.drop_eq_nil_of_le (Nat.le_of_eq Array.length_toList)]
      rfl
    · show ((T.heap.toList.drop T.heap.size).map (·.slots.size)).sum ≤ 0
      rw [List.drop_eq_nil_of_le (Nat.le_of_eq Array.length_toList)]
      exact Nat.le_refl _
/-- 'throw new E()': new; dup; invokespecial; athrow -/
theorem vx_throw0 {cc : ByteArray} {pc : Nat} (hexec : p.tables.exec = Jvm.exec) (hb : c.code = cc) (hl : l.stackTraces = false) {own cls : String} {names : List String} {ik ic mc ms : Nat} {A : Nat → Prop}
    (hown : s.vm.findClass own = some m.cls) (hcls : Jvm.Bundle.fit cls = true) (hnames : ∀ n ∈ names, Jvm.Bundle.fit n = true)
    (hk : (Cond.classLink own ik cls).before args s = true) (hini : (Cond.initialized cls).before args s = true) (hat : ∀ w ∈ vx_at0 own ic cls names, w.before args s = true)
    (hgood : ∀ w ∈ Cond.classLink own ik cls :: Cond.initialized cls :: vx_at0 own ic cls names, vx_ot w = true)
    (hU : vx_Zq Jvm.Bundle.tN "UNASSIGNED_STACK" Jvm.Bundle.steD A s s.heap) (hN : vx_Zq Jvm.Bundle.tN "SUPPRESSED_SENTINEL" Jvm.Bundle.listD A s s.heap) (hS : va_S A s.heap H locs) (hsize : ls.size = c.maxLocals)
    (d0 : decode cc pc = .ok (.new ik, 3)) (d3 : decode cc (pc + 3) = .ok (.dup, 1)) (d4 : decode cc (pc + 4) = .ok (.invokespecial ic, 3)) (d7 : decode cc (pc + 7) = .ok (.athrow, 1))
    (hout : ∀ x ∈ c.exceptionTable.toList, covers x (pc + 7) = false)
    (hRframes : names.length + 3 < R.frames) (hRlocals : (rest.map fun v => v.category).sum + (13 * (names.length + 1) + 42) ≤ R.locals) (hRcells : cells + 1 ≤ R.cells) (hRslots : slots + 6 ≤ R.slots) (hlocks : meth.locks = false)
    (hx : ∀ t : State, s.vm.Alike t.vm → H.size ≤ t.heap.size → (∀ q : Nat, q < H.size → t.heap[q]? = H[q]?) → XC cls s t)
    (hf : ∀ z ∈ locs, free z.base) (hc : cells + 1 ≤ mc) (hs : slots + 6 ≤ ms) :
    W p l e R s m args below meth c H locs cells slots (vx_MQ below Qc XC args s mc ms free) (F0 m pc ls rest) := by
  intro T hT X
  have htr : e.platform.stackTraces = false := (show e.platform.stackTraces = l.stackTraces by rw [X.admits.platform]).trans hl
  have Y := vx_rebase X (R' := { frames := R.frames, locals := R.locals, cells := 1, slots := 6 }) (Nat.le_refl _) (Nat.le_refl _) hRcells hRslots
  obtain ⟨s', hA⟩ : ∃ z, z = (T.setVm s.vm).setFrames (.invoking m args :: below) := ⟨_, rfl⟩
  rw [← hA] at Y
  have hvm : s'.vm = s.vm := by rw [hA]; rfl
  have hhp : s'.heap = H := by rw [hA]; exact hT
  have hW0 : s.WarmedH s'.vm := by rw [hvm]; exact State.WarmedH.refl s
  have hat' : ∀ w ∈ vx_at0 own ic cls names, w.before args s' = true := fun w hw => vx_ot_at hW0 hvm.symm (hgood w (List.mem_cons_of_mem _ (List.mem_cons_of_mem _ hw))) (hat w hw)
  have hk' : (Cond.classLink own ik cls).before args s' = true := vx_ot_at hW0 hvm.symm (hgood _ List.mem_cons_self) hk
  have hini' : (Cond.initialized cls).before args s' = true := vx_ot_at hW0 hvm.symm (hgood _ (List.mem_cons_of_mem _ List.mem_cons_self)) hini
  have hU' : vx_Zq Jvm.Bundle.tN "UNASSIGNED_STACK" Jvm.Bundle.steD A s' s'.heap := by rw [hhp]; exact vx_Zq.moved hW0.alike (hU.kept hS.2.1)
  have hN' : vx_Zq Jvm.Bundle.tN "SUPPRESSED_SENTINEL" Jvm.Bundle.listD A s' s'.heap := by rw [hhp]; exact vx_Zq.moved hW0.alike (hN.kept hS.2.1)
  have h : ∀ w ∈ Jvm.Bundle.ownAtoms0 own ic cls names, w.before args s' = true := vx_own hat' (vx_isRefq hU'.1) (vx_isRefq hN'.1) hU'.2.word hN'.2.word
  have hown' : s'.vm.findClass own = some m.cls := by rw [hvm]; exact hown
  have hins : (Cond.instantiable cls 6).before args s' = true := h _ (by simp [Jvm.Bundle.ownAtoms0])
  obtain ⟨vm₁, cX, kX, hfX, hkX, -, -, X₁, st1⟩ := Y.newCold hexec (own := own) (C := cls) (index := ik) (n := 6) hown' hk' hins hini'
    (g := F0 m pc ls rest) rfl (by rw [hb]; exact d0) (Nat.le_refl _) (Nat.le_refl _)
  generalize hT1 : (T.setVm vm₁).pushCell { cls := cX, slots := kX.instanceTypes.map defaultValue, vm := .none } = T1 at X₁ st1
  have hcat : (Value.ref T.heap.size).category = 1 := rfl
  have hcellA : T1.heap[T.heap.size]? = some (freshCell cX kX) := by rw [← hT1]; exact State.heap_pushCell_size _ _
  have d3' : decode c.code (pc + 3) = .ok (.dup, 1) := by rw [hb]; exact d3
  obtain ⟨U, hsteps, hrun, hend, hW, hsame, ce, hce, hO⟩ := X₁.ctorThrow0 hexec htr (own := own) (cls := cls) (names := names) (ic := ic) hown' hcls hnames h (fun x hx => nomatch hx) hfX hkX hcellA (by rw [hhp, hT]; exact Nat.le_refl _)
    (g := { method := m, pc := pc + 4, locals := ls, stack := .ref T.heap.size :: .ref T.heap.size :: rest, locked := none }) rfl hsize rfl rfl (rest := rest) rfl
    (by rw [hb]; exact d4) (by rw [hb]; exact d7) hout hRframes (by simp only [List.map_cons, List.sum_cons, hcat]; omega) hlocks
  obtain ⟨f1, f2⟩ := vx_frame hsame
  rw [hhp] at f1 f2
  have hWs : s.WarmedH U.vm := State.WarmedH.trans hW0 hW
  have hcl : s.vm.findClass cls = some ce.cls := by
    have h9 := hO.cls
    rw [hvm] at h9
    exact h9
  have hall : s.sameButNew ({ U with vm := s.vm } : State) locs mc ms := by
    subst hA
    obtain ⟨e1, e2⟩ := hsame
    rw [State.setFrames_setFrames] at e1
    have h2 : (T.setVm s.vm).sameButNew ({ U with vm := s.vm } : State) [] (0 + 1) (0 + 6) := ⟨e1, e2⟩
    have h3 := X.same.trans h2
    rw [List.append_nil] at h3
    exact h3.mono hc hs
  refine ⟨U, ?_, .threw T.heap.size, hrun, hend, Or.inr ⟨T.heap.size, rfl, cls, ce, locs, hx U hWs.alike f1 (fun q hq => f2 q hq (fun z hz => nomatch hz)), hce, hO.vm, hcl, hWs, hall, hf⟩⟩
  refine st1 _ ?_
  show Steps p.tables e below (T1.setTop { method := m, pc := pc + 3, locals := ls, stack := .ref T.heap.size :: rest, locked := none }) _
  jvm_step X₁.here [X₁.here.top, hexec, d3', Value.category]
  exact hsteps
/-- 'throw new E("text")': new; dup; ldc; invokespecial; athrow -/
theorem vx_throwS {cc : ByteArray} {pc : Nat} (hexec : p.tables.exec = Jvm.exec) (hb : c.code = cc) (hl : l.stackTraces = false) {own cls text : String} {names : List String} {ik is ic mc ms sa : Nat} {A : Nat → Prop}
    (hown : s.vm.findClass own = some m.cls) (hcls : Jvm.Bundle.fit cls = true) (hnames : ∀ n ∈ names, Jvm.Bundle.fit n = true)
    (hk : (Cond.classLink own ik cls).before args s = true) (hini : (Cond.initialized cls).before args s = true) (hstr : vk_R own is text sa s) (hat : ∀ w ∈ vx_atS own ic cls names, w.before args s = true)
    (hgood : ∀ w ∈ Cond.classLink own ik cls :: Cond.initialized cls :: vx_atS own ic cls names, vx_ot w = true)
    (hU : vx_Zq Jvm.Bundle.tN "UNASSIGNED_STACK" Jvm.Bundle.steD A s s.heap) (hN : vx_Zq Jvm.Bundle.tN "SUPPRESSED_SENTINEL" Jvm.Bundle.listD A s s.heap) (hS : va_S A s.heap H locs) (hsize : ls.size = c.maxLocals)
    (d0 : decode cc pc = .ok (.new ik, 3)) (d3 : decode cc (pc + 3) = .ok (.dup, 1)) (d4 : decode cc (pc + 4) = .ok (.ldc is, 2)) (d6 : decode cc (pc + 6) = .ok (.invokespecial ic, 3)) (d9 : decode cc (pc + 9) = .ok (.athrow, 1))
    (hout : ∀ x ∈ c.exceptionTable.toList, covers x (pc + 9) = false)
    (hRframes : names.length + 3 < R.frames) (hRlocals : (rest.map fun v => v.category).sum + (13 * (names.length + 1) + 43) ≤ R.locals) (hRcells : cells + 1 ≤ R.cells) (hRslots : slots + 6 ≤ R.slots) (hlocks : meth.locks = false)
    (hx : ∀ t : State, s.vm.Alike t.vm → H.size ≤ t.heap.size → (∀ q : Nat, q < H.size → t.heap[q]? = H[q]?) → XC cls s t)
    (hf : ∀ z ∈ locs, free z.base) (hc : cells + 1 ≤ mc) (hs : slots + 6 ≤ ms) :
    W p l e R s m args below meth c H locs cells slots (vx_MQ below Qc XC args s mc ms free) (F0 m pc ls rest) := by
  intro T hT X
  have htr : e.platform.stackTraces = false := (show e.platform.stackTraces = l.stackTraces by rw [X.admits.platform]).trans hl
  have Y := vx_rebase X (R' := { frames := R.frames, locals := R.locals, cells := 1, slots := 6 }) (Nat.le_refl _) (Nat.le_refl _) hRcells hRslots
  obtain ⟨s', hA⟩ : ∃ z, z = (T.setVm s.vm).setFrames (.invoking m args :: below) := ⟨_, rfl⟩
  rw [← hA] at Y
  have hvm : s'.vm = s.vm := by rw [hA]; rfl
  have hhp : s'.heap = H := by rw [hA]; exact hT
  have hW0 : s.WarmedH s'.vm := by rw [hvm]; exact State.WarmedH.refl s
  have hat' : ∀ w ∈ vx_atS own ic cls names, w.before args s' = true := fun w hw => vx_ot_at hW0 hvm.symm (hgood w (List.mem_cons_of_mem _ (List.mem_cons_of_mem _ hw))) (hat w hw)
  have hk' : (Cond.classLink own ik cls).before args s' = true := vx_ot_at hW0 hvm.symm (hgood _ List.mem_cons_self) hk
  have hini' : (Cond.initialized cls).before args s' = true := vx_ot_at hW0 hvm.symm (hgood _ (List.mem_cons_of_mem _ List.mem_cons_self)) hini
  have hU' : vx_Zq Jvm.Bundle.tN "UNASSIGNED_STACK" Jvm.Bundle.steD A s' s'.heap := by rw [hhp]; exact vx_Zq.moved hW0.alike (hU.kept hS.2.1)
  have hN' : vx_Zq Jvm.Bundle.tN "SUPPRESSED_SENTINEL" Jvm.Bundle.listD A s' s'.heap := by rw [hhp]; exact vx_Zq.moved hW0.alike (hN.kept hS.2.1)
  have h : ∀ w ∈ Jvm.Bundle.ownAtoms own ic cls names, w.before args s' = true := vx_own hat' (vx_isRefq hU'.1) (vx_isRefq hN'.1) hU'.2.word hN'.2.word
  have hown' : s'.vm.findClass own = some m.cls := by rw [hvm]; exact hown
  have hins : (Cond.instantiable cls 6).before args s' = true := h _ (by simp [Jvm.Bundle.ownAtoms])
  obtain ⟨vm₁, cX, kX, hfX, hkX, -, -, X₁, st1⟩ := Y.newCold hexec (own := own) (C := cls) (index := ik) (n := 6) hown' hk' hins hini'
    (g := F0 m pc ls rest) rfl (by rw [hb]; exact d0) (Nat.le_refl _) (Nat.le_refl _)
  generalize hT1 : (T.setVm vm₁).pushCell { cls := cX, slots := kX.instanceTypes.map defaultValue, vm := .none } = T1 at X₁ st1
  have hcat : (Value.ref T.heap.size).category = 1 := rfl
  have hcellA : T1.heap[T.heap.size]? = some (freshCell cX kX) := by rw [← hT1]; exact State.heap_pushCell_size _ _
  have d3' : decode c.code (pc + 3) = .ok (.dup, 1) := by rw [hb]; exact d3
  have d4' : decode c.code (pc + 4) = .ok (.ldc is, 2) := by rw [hb]; exact d4
  have hstr' : vk_R own is text sa s' := vk_R.warm hW0 hstr
  obtain ⟨U, hsteps, hrun, hend, hW, hsame, ce, hce, hO⟩ := X₁.ctorThrowS hexec htr (own := own) (cls := cls) (names := names) (ic := ic) hown' hcls hnames h (fun x hx => nomatch hx) hfX hkX hcellA (by rw [hhp, hT]; exact Nat.le_refl _) (msg := .ref sa) rfl
    (g := { method := m, pc := pc + 6, locals := ls, stack := .ref sa :: .ref T.heap.size :: .ref T.heap.size :: rest, locked := none }) rfl hsize rfl rfl (rest := rest) rfl
    (by rw [hb]; exact d6) (by rw [hb]; exact d9) hout hRframes (by simp only [List.map_cons, List.sum_cons, hcat]; omega) hlocks
  obtain ⟨f1, f2⟩ := vx_frame hsame
  rw [hhp] at f1 f2
  have hWs : s.WarmedH U.vm := State.WarmedH.trans hW0 hW
  have hcl : s.vm.findClass cls = some ce.cls := by
    have h9 := hO.cls
    rw [hvm] at h9
    exact h9
  have hall : s.sameButNew ({ U with vm := s.vm } : State) locs mc ms := by
    subst hA
    obtain ⟨e1, e2⟩ := hsame
    rw [State.setFrames_setFrames] at e1
    have h2 : (T.setVm s.vm).sameButNew ({ U with vm := s.vm } : State) [] (0 + 1) (0 + 6) := ⟨e1, e2⟩
    have h3 := X.same.trans h2
    rw [List.append_nil] at h3
    exact h3.mono hc hs
  refine ⟨U, ?_, .threw T.heap.size, hrun, hend, Or.inr ⟨T.heap.size, rfl, cls, ce, locs, hx U hWs.alike f1 (fun q hq => f2 q hq (fun z hz => nomatch hz)), hce, hO.vm, hcl, hWs, hall, hf⟩⟩
  refine st1 _ ?_
  show Steps p.tables e below (T1.setTop { method := m, pc := pc + 3, locals := ls, stack := .ref T.heap.size :: rest, locked := none }) _
  jvm_step X₁.here [X₁.here.top, hexec, d3', Value.category]
  exact X₁.ldcString hexec (own := own) (text := text) (index := is) (a := sa) hown' hstr'.1 hstr'.2
    (g := { method := m, pc := pc + 4, locals := ls, stack := .ref T.heap.size :: .ref T.heap.size :: rest, locked := none }) rfl d4' _ hsteps
/-- 'throw new E("text")', the text by a wide index -/
theorem vx_throwSW {cc : ByteArray} {pc : Nat} (hexec : p.tables.exec = Jvm.exec) (hb : c.code = cc) (hl : l.stackTraces = false) {own cls text : String} {names : List String} {ik is ic mc ms sa : Nat} {A : Nat → Prop}
    (hown : s.vm.findClass own = some m.cls) (hcls : Jvm.Bundle.fit cls = true) (hnames : ∀ n ∈ names, Jvm.Bundle.fit n = true)
    (hk : (Cond.classLink own ik cls).before args s = true) (hini : (Cond.initialized cls).before args s = true) (hstr : vk_R own is text sa s) (hat : ∀ w ∈ vx_atS own ic cls names, w.before args s = true)
    (hgood : ∀ w ∈ Cond.classLink own ik cls :: Cond.initialized cls :: vx_atS own ic cls names, vx_ot w = true)
    (hU : vx_Zq Jvm.Bundle.tN "UNASSIGNED_STACK" Jvm.Bundle.steD A s s.heap) (hN : vx_Zq Jvm.Bundle.tN "SUPPRESSED_SENTINEL" Jvm.Bundle.listD A s s.heap) (hS : va_S A s.heap H locs) (hsize : ls.size = c.maxLocals)
    (d0 : decode cc pc = .ok (.new ik, 3)) (d3 : decode cc (pc + 3) = .ok (.dup, 1)) (d4 : decode cc (pc + 4) = .ok (.ldc_w is, 3)) (d7 : decode cc (pc + 7) = .ok (.invokespecial ic, 3)) (d10 : decode cc (pc + 10) = .ok (.athrow, 1))
    (hout : ∀ x ∈ c.exceptionTable.toList, covers x (pc + 10) = false)
    (hRframes : names.length + 3 < R.frames) (hRlocals : (rest.map fun v => v.category).sum + (13 * (names.length + 1) + 43) ≤ R.locals) (hRcells : cells + 1 ≤ R.cells) (hRslots : slots + 6 ≤ R.slots) (hlocks : meth.locks = false)
    (hx : ∀ t : State, s.vm.Alike t.vm → H.size ≤ t.heap.size → (∀ q : Nat, q < H.size → t.heap[q]? = H[q]?) → XC cls s t)
    (hf : ∀ z ∈ locs, free z.base) (hc : cells + 1 ≤ mc) (hs : slots + 6 ≤ ms) :
    W p l e R s m args below meth c H locs cells slots (vx_MQ below Qc XC args s mc ms free) (F0 m pc ls rest) := by
  intro T hT X
  have htr : e.platform.stackTraces = false := (show e.platform.stackTraces = l.stackTraces by rw [X.admits.platform]).trans hl
  have Y := vx_rebase X (R' := { frames := R.frames, locals := R.locals, cells := 1, slots := 6 }) (Nat.le_refl _) (Nat.le_refl _) hRcells hRslots
  obtain ⟨s', hA⟩ : ∃ z, z = (T.setVm s.vm).setFrames (.invoking m args :: below) := ⟨_, rfl⟩
  rw [← hA] at Y
  have hvm : s'.vm = s.vm := by rw [hA]; rfl
  have hhp : s'.heap = H := by rw [hA]; exact hT
  have hW0 : s.WarmedH s'.vm := by rw [hvm]; exact State.WarmedH.refl s
  have hat' : ∀ w ∈ vx_atS own ic cls names, w.before args s' = true := fun w hw => vx_ot_at hW0 hvm.symm (hgood w (List.mem_cons_of_mem _ (List.mem_cons_of_mem _ hw))) (hat w hw)
  have hk' : (Cond.classLink own ik cls).before args s' = true := vx_ot_at hW0 hvm.symm (hgood _ List.mem_cons_self) hk
  have hini' : (Cond.initialized cls).before args s' = true := vx_ot_at hW0 hvm.symm (hgood _ (List.mem_cons_of_mem _ List.mem_cons_self)) hini
  have hU' : vx_Zq Jvm.Bundle.tN "UNASSIGNED_STACK" Jvm.Bundle.steD A s' s'.heap := by rw [hhp]; exact vx_Zq.moved hW0.alike (hU.kept hS.2.1)
  have hN' : vx_Zq Jvm.Bundle.tN "SUPPRESSED_SENTINEL" Jvm.Bundle.listD A s' s'.heap := by rw [hhp]; exact vx_Zq.moved hW0.alike (hN.kept hS.2.1)
  have h : ∀ w ∈ Jvm.Bundle.ownAtoms own ic cls names, w.before args s' = true := vx_own hat' (vx_isRefq hU'.1) (vx_isRefq hN'.1) hU'.2.word hN'.2.word
  have hown' : s'.vm.findClass own = some m.cls := by rw [hvm]; exact hown
  have hins : (Cond.instantiable cls 6).before args s' = true := h _ (by simp [Jvm.Bundle.ownAtoms])
  obtain ⟨vm₁, cX, kX, hfX, hkX, -, -, X₁, st1⟩ := Y.newCold hexec (own := own) (C := cls) (index := ik) (n := 6) hown' hk' hins hini'
    (g := F0 m pc ls rest) rfl (by rw [hb]; exact d0) (Nat.le_refl _) (Nat.le_refl _)
  generalize hT1 : (T.setVm vm₁).pushCell { cls := cX, slots := kX.instanceTypes.map defaultValue, vm := .none } = T1 at X₁ st1
  have hcat : (Value.ref T.heap.size).category = 1 := rfl
  have hcellA : T1.heap[T.heap.size]? = some (freshCell cX kX) := by rw [← hT1]; exact State.heap_pushCell_size _ _
  have d3' : decode c.code (pc + 3) = .ok (.dup, 1) := by rw [hb]; exact d3
  have d4' : decode c.code (pc + 4) = .ok (.ldc_w is, 3) := by rw [hb]; exact d4
  have hstr' : vk_R own is text sa s' := vk_R.warm hW0 hstr
  obtain ⟨U, hsteps, hrun, hend, hW, hsame, ce, hce, hO⟩ := X₁.ctorThrowS hexec htr (own := own) (cls := cls) (names := names) (ic := ic) hown' hcls hnames h (fun x hx => nomatch hx) hfX hkX hcellA (by rw [hhp, hT]; exact Nat.le_refl _) (msg := .ref sa) rfl
    (g := { method := m, pc := pc + 7, locals := ls, stack := .ref sa :: .ref T.heap.size :: .ref T.heap.size :: rest, locked := none }) rfl hsize rfl rfl (rest := rest) rfl
    (by rw [hb]; exact d7) (by rw [hb]; exact d10) hout hRframes (by simp only [List.map_cons, List.sum_cons, hcat]; omega) hlocks
  obtain ⟨f1, f2⟩ := vx_frame hsame
  rw [hhp] at f1 f2
  have hWs : s.WarmedH U.vm := State.WarmedH.trans hW0 hW
  have hcl : s.vm.findClass cls = some ce.cls := by
    have h9 := hO.cls
    rw [hvm] at h9
    exact h9
  have hall : s.sameButNew ({ U with vm := s.vm } : State) locs mc ms := by
    subst hA
    obtain ⟨e1, e2⟩ := hsame
    rw [State.setFrames_setFrames] at e1
    have h2 : (T.setVm s.vm).sameButNew ({ U with vm := s.vm } : State) [] (0 + 1) (0 + 6) := ⟨e1, e2⟩
    have h3 := X.same.trans h2
    rw [List.append_nil] at h3
    exact h3.mono hc hs
  refine ⟨U, ?_, .threw T.heap.size, hrun, hend, Or.inr ⟨T.heap.size, rfl, cls, ce, locs, hx U hWs.alike f1 (fun q hq => f2 q hq (fun z hz => nomatch hz)), hce, hO.vm, hcl, hWs, hall, hf⟩⟩
  refine st1 _ ?_
  show Steps p.tables e below (T1.setTop { method := m, pc := pc + 3, locals := ls, stack := .ref T.heap.size :: rest, locked := none }) _
  jvm_step X₁.here [X₁.here.top, hexec, d3', Value.category]
  exact X₁.ldcStringW hexec (own := own) (text := text) (index := is) (a := sa) hown' hstr'.1 hstr'.2
    (g := { method := m, pc := pc + 4, locals := ls, stack := .ref T.heap.size :: .ref T.heap.size :: rest, locked := none }) rfl d4' _ hsteps
end Ends
section Bodies
variable {l : Launch}
theorem vx_ofW {y : MethodName} {ws ws' : List Cond} {rm : Room} {Pc : Array Value → State → Prop} {Qc : Array Value → State → Outcome → State → Prop} {XC : String → State → State → Prop} {mc ms : Nat} {free : Addr → Prop} {cc : ByteArray} {maxL : Nat} {ret : Option FieldType}
    (hy : plainName y.cls = true) (hw : ws = Cond.code y cc maxL ret :: ws')
    (body : ∀ p e s m args below meth c s₁, BodyLoose p l y (headSpec ws rm) cc maxL ret e s m args below meth c s₁ → c.maxLocals = maxL → (∀ x ∈ c.exceptionTable.toList, False) → Pc args s →
      W p l e (headSpec ws rm).room s m args below meth c s.heap [] 0 0 (vx_MQ below Qc XC args s mc ms free) (entryFrame m args maxL)) : vx_Met l y ws rm Pc Qc XC mc ms free := by
  refine MetFree.of_bodyS (code := cc) (maxLocals := maxL) (ret := ret) hy ?_ ?_
  · intro args s m h hn
    obtain ⟨meth, c, h1, h2, h3, h4, h5, h6, -, -⟩ := Cond.code_spec hn (atoms_spec (ws := ws) h _ (by rw [hw]; exact List.mem_cons_self))
    exact ⟨meth, c, h1, h2, h3, h4, h5, h6⟩
  · intro p e s m args below meth c s₁ B hml hP _
    have hh0 : s₁.heap = s.heap := by rw [B.state]; rfl
    have ht : ∀ x ∈ c.exceptionTable.toList, False := by
      obtain ⟨meth9, c9, h1, h2, -, -, -, -, h7, -⟩ := Cond.code_spec B.named (atoms_spec (ws := ws) B.pre _ (by rw [hw]; exact List.mem_cons_self))
      cases Option.some.inj (h1.symm.trans B.method)
      cases Option.some.inj (h2.symm.trans (Stand.of_body B).code)
      intro x hx
      rw [Array.isEmpty_iff.mp h7] at hx
      cases hx
    obtain ⟨t, a1, o, b1, b2, b3⟩ := body p e s m args below meth c s₁ B hml ht hP s₁ hh0 (Stand.of_body B)
    exact ⟨t, o, a1, b1, b2, b3⟩
/-- the table of a body with handlers -/
theorem vx_table {p : Program} {x y : MethodName} {S : Spec} {cc bytes : ByteArray} {maxL maxL' : Nat} {ret ret' : Option FieldType} {e : Env} {s s₁ : State} {m : MethodId} {args : Array Value} {below : List Frame} {meth : Method} {c : Code} {hh : List (Nat × Nat × Nat × Nat)}
    (B : BodyLoose p l y S cc maxL ret e s m args below meth c s₁) (h : (Cond.codeWith y bytes maxL' ret' hh).before args s = true) : c.exceptionTable.toList = tableOf hh := by
  obtain ⟨m9, meth9, c9, hn9, h1, h2, -, -, h6, -⟩ := Cond.codeWith_spec h
  cases Option.some.inj (hn9.symm.trans B.named)
  cases Option.some.inj (h1.symm.trans B.method)
  cases Option.some.inj (h2.symm.trans (Stand.of_body B).code)
  rw [← h6, table_eq]
end Bodies
end VXA
/-! ===== END ===== -/
/-! ===== BEGIN a static call of a method with an exception table ===== -/
section VXS
variable {p : Program} {l : Launch} {e : Env} {R : Room} {s : State} {m : MethodId} {args : Array Value} {below : List Frame} {meth : Method} {c : Code} {T : State} {H : Heap} {locs : List Loc} {cells slots : Nat}
abbrev vx_CSW (R : Room) (s : State) (args : Array Value) (own : String) (index : Nat) (y : MethodName) (bytes : ByteArray) (maxL : Nat) (ret : Option FieldType) (hh : List (Nat × Nat × Nat × Nat)) (ws : List Cond) (rm : Room) (mc ms n : Nat) : Prop :=
  (rm.cells = mc ∧ rm.slots = ms ∧ rm.frames + 1 ≤ R.frames ∧ 8 + (maxL + 11) + rm.locals ≤ R.locals ∧ (∀ w ∈ ws, ∀ (a' : Array Value) (U : State), s.WarmedH U.vm → w.before a' U = true) ∧ Cond.codeWith y bytes maxL ret hh ∈ ws) ∧
  (Cond.codeWith y bytes maxL ret hh).before args s = true ∧ (Cond.initialized y.cls).before args s = true ∧ (y.cls ≠ "java/lang/invoke/MethodHandle" ∧ y.cls ≠ "java/lang/invoke/VarHandle") ∧
  (∀ sig, parseMethodDescriptor y.desc = some sig → n = sig.parameters.length) ∧ (Cond.methodLink own index y).before args s = true ∧ (Cond.static y).before args s = true
theorem vx_cwSW {own : String} {index maxL mc ms : Nat} {y : MethodName} {bytes : ByteArray} {ret : Option FieldType} {hh : List (Nat × Nat × Nat × Nat)} {Ts ws ws' : List Cond} {rm : Room} (n : Nat) (ht : ∀ w ∈ Ts, w.before args s = true) (hT : GoodIn Ts (va_wsS own index y ws)) (hw : ws = Cond.codeWith y bytes maxL ret hh :: ws') (hrc : rm.cells = mc) (hrs : rm.slots = ms)
    (hd : y.cls ≠ "java/lang/invoke/MethodHandle" ∧ y.cls ≠ "java/lang/invoke/VarHandle" ∧ (parseMethodDescriptor y.desc).map (fun d => d.parameters.length) = some n) (hR : rm.frames + 1 ≤ R.frames ∧ 8 + (maxL + 11) + rm.locals ≤ R.locals) :
    vx_CSW R s args own index y bytes maxL ret hh ws rm mc ms n := by
  have ok : ∀ w ∈ va_wsS own index y ws, w.before args s = true := fun w h => ht w (hT w h).1
  have hG : GoodIn Ts ws := fun w h => hT w (by unfold va_wsS; exact List.mem_append_right _ h)
  have hc : Cond.codeWith y bytes maxL ret hh ∈ ws := by rw [hw]; exact List.mem_cons_self
  refine ⟨⟨hrc, hrs, hR.1, hR.2, pay_in ht hG, hc⟩, ht _ (hG _ hc).1, ok _ (by simp [va_wsS]), ⟨hd.1, hd.2.1⟩, fun sig h => ?_, ok _ (by simp [va_wsS]), ok _ (by simp [va_wsS])⟩
  have h2 := hd.2.2
  rw [h] at h2
  exact (Option.some.inj h2).symm
theorem vx_callSW (X : Stand p l e R s m args below meth c T locs cells slots) (hexec : p.tables.exec = Jvm.exec) {own : String} {index : Nat} {y : MethodName} {bytes : ByteArray} {maxL : Nat} {ret : Option FieldType} {hh : List (Nat × Nat × Nat × Nat)}
    (hown : s.vm.findClass own = some m.cls) (hlink : (Cond.methodLink own index y).before args s = true) (hstat : (Cond.static y).before args s = true) (hinit : (Cond.initialized y.cls).before args s = true)
    (hcode : (Cond.codeWith y bytes maxL ret hh).before args s = true) (hy : y.cls ≠ "java/lang/invoke/MethodHandle" ∧ y.cls ≠ "java/lang/invoke/VarHandle")
    {W9 : Nat} {Pre : Pt → Array Value → Prop} {Post : Pt → Array Value → Option Value → Pt → Prop} (hK : Back l R p e below s args y 3 W9 Pre Post)
    {g : JFrame} (hg : g.method = m) (hsize : g.locals.size = c.maxLocals) {argsL rest : List Value} (hlen : ∀ sig, parseMethodDescriptor y.desc = some sig → argsL.length = sig.parameters.length)
    (hstack : g.stack = argsL.reverse ++ rest) (hW : 2 * g.monitorRoom + (rest.map fun v => v.category).sum ≤ W9) (hdg : decode c.code g.pc = .ok (.invokestatic index, 3))
    (hpre : ∀ vm₁, s.WarmedH vm₁ → Pre ⟨T.setVm vm₁, locs, cells, slots⟩ argsL.toArray) :
    ∃ (v : Option Value) (vm₁ : Vm) (B : Pt), s.WarmedH vm₁ ∧ Stand p l e R s m args below meth c B.U B.locs B.cells B.slots ∧ Post ⟨T.setVm vm₁, locs, cells, slots⟩ argsL.toArray v B ∧
      ∀ target, Steps p.tables e below (B.U.setTop { g with pc := g.pc + 3, stack := v.toList ++ rest }) target → Steps p.tables e below (T.setTop g) target := by
  obtain ⟨mk, methM, cM, hnamed, hmethM, -, -, -, -, -, -, hsigM⟩ := Cond.codeWith_spec hcode
  have hstatic : methM.isStatic = true := Cond.static_spec hnamed hmethM hstat
  obtain ⟨kP, hkP, -⟩ := className_of_methodNamed hnamed
  have hinitP : kP.init = .initialized := Cond.initialized_spec (findClass_of_methodNamed hnamed) hkP hinit
  obtain ⟨vm₁, X₁, hstep₁⟩ := X.invokestatic hexec hown hlink hnamed hmethM hstatic hkP hinitP hy (g := g) hg (argsL := argsL) (rest := rest) (hlen _ hsigM) hstack hdg
  obtain ⟨v, B, X', hpost, hsteps⟩ := hK m meth c ⟨T.setVm vm₁, locs, cells, slots⟩ { g with stack := rest } (.invokestatic index) mk argsL.toArray X₁ hg hsize hdg hW (X₁.named hnamed) (hpre vm₁ X₁.warmed)
  exact ⟨v, vm₁, B, X₁.warmed, X', hpost, fun target h => hstep₁ _ fun acts => by rw [doInvoke_state]; exact hsteps.trans h⟩
theorem vx_runSW {y : MethodName} {bytes cc : ByteArray} {maxL nL mc ms n index : Nat} {ret : Option FieldType} {hh : List (Nat × Nat × Nat × Nat)} {ws : List Cond} {rm : Room} {Pc : Array Value → State → Prop} {Qc : Array Value → State → Outcome → State → Prop} {free : Addr → Prop} {Ts : List Cond} {own : String} {As rest : List Value} {g : JFrame}
    (S : CallFix p m c cc nL s args Ts own) (hM : Met l y ws rm Pc Qc mc ms free) (cw : vx_CSW R s args own index y bytes maxL ret hh ws rm mc ms n) (hp : PreS s H Pc As)
    (hg : g.method = m) (hn : As.length = n) (hsize : g.locals.size = nL) (hstack : g.stack = As.reverse ++ rest) (hW : 2 * g.monitorRoom + (rest.map fun v => v.category).sum ≤ 8) (hdg : decode cc g.pc = .ok (.invokestatic index, 3)) (hf : cells + mc ≤ R.cells ∧ slots + ms ≤ R.slots) :
    va_Run p l e R s m args below meth c H locs cells slots mc ms g rest (Qc As.toArray) (free) := by
  obtain ⟨⟨hrc, hrs, hfr, hlo, hws, hcw⟩, hcode, hini, hy, hlen, hl, hstt⟩ := cw
  have hK : Back l R p e below s args y 3 8 (PreOf R mc ms Pc) (PostOf Qc mc ms free) := va_backW (hh := hh) (bytes := bytes) (maxL := maxL) (ret := ret) hM hp.1 hrc hrs hfr hlo hws hcw (fun a' U hW => word_at hW (Or.inl (by first | rfl | simp [Cond.onTables, Cond.keeps, Cond.steady])) hini)
  obtain ⟨hx, hb, hml, ho, -⟩ := S
  intro T hT X
  obtain ⟨v, vm₁, ⟨U', l2, c2, s2⟩, hW₁, X', ⟨g', mk, t, L, e1, e2, hq, h1, hL, h2, h3⟩, st⟩ := vx_callSW X hx (hh := hh) (bytes := bytes) (maxL := maxL) (ret := ret) ho hl hstt hini hcode hy hK hg (hsize.trans hml.symm) (argsL := As) (rest := rest) (fun sig h => hn.trans (hlen sig h)) hstack hW (by rw [hb]; exact hdg)
    (fun vm₁ hW₁ => ⟨hf.1, hf.2, hp.2 (T.setVm vm₁) hT hW₁⟩)
  dsimp only [Pt.U, Pt.locs, Pt.cells, Pt.slots] at X' e1 e2 h1 h2 h3 st
  subst h1; subst h2; subst h3
  exact ⟨v, (T.setVm vm₁).calling g' mk As.toArray, t, U', L, hT, X', hL, e1, e2, hq, st⟩
/-- not caught here, past rows that name other classes: it goes on to the caller -/
theorem vx_outP {p : Program} {l : Launch} {e : Env} {R : Room} {s : State} {m : MethodId} {args : Array Value} {below : List Frame} {meth : Method} {c : Code} {H : Heap} {locs : List Loc} {cells slots : Nat} {free : Addr → Prop} {ls : Array Slot} {rest : List Value} {Qc : Array Value → State → Outcome → State → Prop} {XC : String → State → State → Prop}
    {pc : Nat} {own E : String} {ce : Cell} {q : Addr} {mc ms : Nat} (hown : s.vm.findClass own = some m.cls) (hlocks : meth.locks = false)
    (hpass : ∀ z ∈ c.exceptionTable.toList, covers z pc = false ∨ (z.catchType ≠ 0 ∧ ∃ nm : String, (Cond.classLink own z.catchType nm).before args s = true ∧ va_Nc E nm s)) (hcell : H[q]? = some ce) (hv : ce.vm = .none) (hcl : s.vm.findClass E = some ce.cls)
    (hx : ∀ t : State, t.heap = H → s.vm.Alike t.vm → XC E s t) (hf : ∀ z ∈ locs, free z.base) (hc : cells ≤ mc) (hs : slots ≤ ms) :
    vx_W p l e R s m args below meth c H locs cells slots (vx_MQ below Qc XC args s mc ms free) (F0 m pc ls rest) q := by
  intro T hT X
  have hpl : e.platform.magicAccessors = ({} : Platform).magicAccessors := by rw [X.admits.platform]
  obtain ⟨vm', hW', X', st⟩ := X.outThrough hlocks q (g := F0 m pc ls rest) rfl rfl rfl (cell := ce) (by rw [hT]; exact hcell) (by rw [hv]; rfl)
    (by obtain ⟨k9, h9, -⟩ := Vm.findClass_spec hcl; exact ⟨k9, h9⟩) (fun z hz => by
      rcases hpass z hz with h | ⟨hz0, nm, hl1, hn1⟩
      · exact Or.inl h
      · obtain ⟨c6, hc6, hcl6⟩ := Cond.classLink_spec hown hl1 e.platform hpl
        obtain ⟨a8, b8, h1, h2, h3⟩ := hn1
        cases Option.some.inj (h1.symm.trans hcl)
        cases Option.some.inj (h2.symm.trans hc6)
        exact Or.inr ⟨hz0, _, hcl6, h3⟩)
  obtain ⟨g₀, hfr⟩ := X'.frames_eq
  have hcell9 : ((T.setVm vm').setFrames (.throwing q :: below)).heap[q]? = some ce := by
    show T.heap[q]? = some ce
    rw [hT]; exact hcell
  have hend : Ended ((T.setVm vm').setFrames (.throwing q :: below)) below (.threw q) := State.frames_setFrames _ (State.cur_lt_of_frames hfr)
  refine ⟨(T.setVm vm').setFrames (.throwing q :: below), ?_, .threw q, X'.here.running, hend, Or.inr ⟨q, rfl, E, ce, locs, hx _ hT (X'.ends _).1.alike, hcell9, hv, hcl, (X'.ends _).1, (X'.ends _).2.mono hc hs, hf⟩⟩
  rw [X.pushThrowing_eq]
  exact st
/-- a thing of a world lies in the heap -/
theorem vx_lt {D : va_G} {cl : List vw_C} {ws : va_W} {H1 : Heap} (h : va_P D cl ws H1) {k : Nat} {q : Nat × va_E} (hk : ws[k]? = some q) : q.1 < H1.size := (h k q hk).lt
end VXS
/-! ===== END ===== -/
/-! ===== BEGIN methods with a table of their own: called by a name, returning or throwing ===== -/
section VXH
/-! vx_backW, vx_callVX, vx_callSX, vx_callVW, vx_runVW, vx_runVX, vx_runSX, vx_ofWH follow the same proofs as their sisters above (Free/Laws.lean, Shelf42/LK1.lean); vx_outP calls Shelf42/NT130.lean (outThrough). -/
section
variable {l : Launch} {R : Room} {p : Program} {e : Env} {below : List Frame} {s : State} {sargs : Array Value} {y : MethodName} {len W9 : Nat}
theorem vx_backW {ws : List Cond} {rm : Room} {Pc : Array Value → State → Prop} {Qc : Array Value → State → Outcome → State → Prop} {XC : String → State → State → Prop} {mc ms : Nat} {free : Addr → Prop} {bytes : ByteArray} {maxL : Nat} {ret : Option FieldType} {hh : List (Nat × Nat × Nat × Nat)}
    (hM : vx_Met l y ws rm Pc Qc XC mc ms free) (hblind : FrameBlind Pc) (hrc : rm.cells = mc) (hrs : rm.slots = ms)
    (hframes : rm.frames + 1 ≤ R.frames) (hlocals : W9 + (maxL + 11) + rm.locals ≤ R.locals)
    (hws : ∀ w ∈ ws, ∀ a' U, s.WarmedH U.vm → w.before a' U = true) (hcode : Cond.codeWith y bytes maxL ret hh ∈ ws) (hinit : ∀ a' U, s.WarmedH U.vm → (Cond.initialized y.cls).before a' U = true) :
    vx_Back l R p e below s sargs y len W9 (PreOf R mc ms Pc) (PostOf Qc mc ms free) (vx_Post XC mc ms free) := by
  intro m meth c A g ig mk a X hg hsize hdg hW hn hp
  have h1 : (headSpec ws rm).pre.before a A.U = true := atoms_intro fun w hw => hws w hw _ _ X.warmed
  have h2 : (Cond.codeWith y bytes maxL ret hh).before a A.U = true := hws _ hcode _ _ X.warmed
  have h3 : (Cond.initialized y.cls).before a A.U = true := hinit _ _ X.warmed
  have h4 : A.cells + (headSpec ws rm).room.cells ≤ R.cells := by rw [show (headSpec ws rm).room.cells = mc from hrc]; exact hp.1
  have h5 : A.slots + (headSpec ws rm).room.slots ≤ R.slots := by rw [show (headSpec ws rm).room.slots = ms from hrs]; exact hp.2.1
  have hPc : Pc a (A.U.calling g mk a) := hblind _ _ _ _ hp.2.2
  obtain ⟨U, Ls, c0, s0⟩ := A
  dsimp only [Pt.U, Pt.locs, Pt.cells, Pt.slots] at h1 h2 h3 h4 h5 X hn hPc ⊢
  obtain ⟨m9, methY, cY, hn9, hmY, hcY, -, hlY, -⟩ := Cond.codeWith_spec h2
  cases Option.some.inj (hn9.symm.trans hn)
  obtain ⟨kY, hkY, -⟩ := className_of_methodNamed hn
  have hinitY : kY.init = .initialized := Cond.initialized_spec (findClass_of_methodNamed hn) hkY h3
  have h : At U g.method c below := by rw [hg]; exact X.here
  have hlocals9 : W9 + (maxL + 11) + (headSpec ws rm).room.locals ≤ R.locals := hlocals
  have happ : (headSpec ws rm).appliesLoose y e.platform (U.calling g mk a) = true :=
    Spec.appliesLoose_calling (g := g) h hdg hn hkY hinitY
      (X.room_calling (g := g) (R' := (headSpec ws rm).room) hsize hmY hcY hframes (by rw [hlY]; omega) h4 h5) h1
  obtain ⟨mid, hmid⟩ := h.above
  have hfr : (U.setTop g).frames = (.java g :: mid) ++ below := by rw [State.frames_setTop' g h.top, hmid]; rfl
  obtain ⟨o, s₂, hsteps, -, hend, hq⟩ := Steps.callFree hM p X.admits X.cas X.clock (acts := []) hfr happ hPc trivial
  have hq' : vx_Q Qc XC mc ms free a (U.calling g mk a) o s₂ := hq
  rw [State.frames_setTop' g h.top] at hend
  obtain ⟨g₀, hg0⟩ := Option.isSome_iff_exists.mp h.top
  obtain ⟨r, hr⟩ := State.topJava?_eq_some.mp hg0
  have hr' : (({ U with heap := s₂.heap, slotsUsed := s₂.slotsUsed } : State).setVm s₂.vm).frames = .java g₀ :: r := hr
  rcases hq' with ⟨hqc, L, hfe, hL⟩ | ⟨q, rfl, E, ce, L, hx, hce, hcv, hcl, hW₂, hsm, hL⟩
  · obtain ⟨⟨v, rfl⟩, hW₂, e2, q2, q3, q4, q5, q6⟩ := id hfe
    have e3 : s₂ = ({ (U.calling g mk a).setFrames s₂.frames with heap := s₂.heap, slotsUsed := s₂.slotsUsed } : State).setVm s₂.vm := by
      have : s₂ = ({ s₂ with vm := (U.calling g mk a).vm } : State).setVm s₂.vm := rfl
      rw [e2] at this
      exact this
    obtain ⟨c₂, i₂, len₂, hc₂, hd₂, hf₂⟩ := hend
    have hW' : U.WarmedH s₂.vm := hW₂
    have hcc : c₂ = c := by
      have h1 : s₂.code? g.method = U.code? g.method := by
        rw [State.code?_eq, State.code?_eq, hW'.alike.method?]
      exact Option.some.inj (hc₂.symm.trans (h1.trans h.code))
    subst hcc
    have hlen : len₂ = len := by rw [hdg] at hd₂; cases hd₂; rfl
    subst hlen
    have hs₂ : s₂ = (({ U with heap := s₂.heap, slotsUsed := s₂.slotsUsed } : State).setVm s₂.vm).setTop { g with pc := g.pc + len₂, stack := v.toList ++ g.stack } := by
      refine e3.trans ?_
      rw [hf₂, State.calling_eq h.top, State.setFrames_setFrames, State.setTop_of_frames _ hr', hr]
      rfl
    have hsame : U.sameButNew ({ U with heap := s₂.heap, slotsUsed := s₂.slotsUsed } : State) L mc ms := by
      refine ⟨?_, q2, q3, q4, q5, q6⟩
      obtain ⟨t, ht, -⟩ := State.frames_cons hr
      show ({ U with heap := s₂.heap, slotsUsed := s₂.slotsUsed } : State) = { U.setFrames U.frames with heap := s₂.heap, slotsUsed := s₂.slotsUsed }
      rw [State.setFrames_self ht]
    subst hg
    refine Or.inl ⟨v, ⟨(({ U with heap := s₂.heap, slotsUsed := s₂.slotsUsed } : State).setVm s₂.vm), Ls ++ L, c0 + mc, s0 + ms⟩,
      ⟨X.admits, X.cas, X.clock, X.frames, X.room, X.hears, X.method, X.code, (X.here.setHeapUsed s₂.heap s₂.slotsUsed).setVm hW'.alike, X.tail, State.WarmedH.trans X.warmed hW', X.limits, X.bytes, X.same.trans (hsame.setVm s.vm)⟩,
      ⟨g, mk, s₂, L, rfl, rfl, hqc, rfl, hL, rfl, rfl⟩, ?_⟩
    show Steps p.tables e below _ ((({ U with heap := s₂.heap, slotsUsed := s₂.slotsUsed } : State).setVm s₂.vm).setTop { g with pc := g.pc + len₂, stack := v.toList ++ g.stack })
    rw [← hs₂]
    exact hsteps
  · obtain ⟨e2, q2, q3, q4, q5, q6⟩ := id hsm
    have e3 : s₂ = ({ (U.calling g mk a).setFrames s₂.frames with heap := s₂.heap, slotsUsed := s₂.slotsUsed } : State).setVm s₂.vm := by
      have : s₂ = ({ s₂ with vm := (U.calling g mk a).vm } : State).setVm s₂.vm := rfl
      rw [e2] at this
      exact this
    have hf₂ : s₂.frames = .throwing q :: .java g :: U.frames.tail := hend
    have hW' : U.WarmedH s₂.vm := hW₂
    have hs₂ : s₂ = ((({ U with heap := s₂.heap, slotsUsed := s₂.slotsUsed } : State).setVm s₂.vm).setTop g).pushFrame (.throwing q) := by
      refine e3.trans ?_
      rw [hf₂, State.calling_eq h.top, State.setFrames_setFrames, State.pushFrame, State.frames_setTop _ hr', State.setTop_of_frames _ hr', State.setFrames_setFrames, hr]
      rfl
    have hsame : U.sameButNew ({ U with heap := s₂.heap, slotsUsed := s₂.slotsUsed } : State) L mc ms := by
      refine ⟨?_, q2, q3, q4, q5, q6⟩
      obtain ⟨t, ht, -⟩ := State.frames_cons hr
      show ({ U with heap := s₂.heap, slotsUsed := s₂.slotsUsed } : State) = { U.setFrames U.frames with heap := s₂.heap, slotsUsed := s₂.slotsUsed }
      rw [State.setFrames_self ht]
    subst hg
    refine Or.inr ⟨q, ⟨(({ U with heap := s₂.heap, slotsUsed := s₂.slotsUsed } : State).setVm s₂.vm), Ls ++ L, c0 + mc, s0 + ms⟩,
      ⟨X.admits, X.cas, X.clock, X.frames, X.room, X.hears, X.method, X.code, (X.here.setHeapUsed s₂.heap s₂.slotsUsed).setVm hW'.alike, X.tail, State.WarmedH.trans X.warmed hW', X.limits, X.bytes, X.same.trans (hsame.setVm s.vm)⟩,
      ⟨g, mk, s₂, L, E, ce, rfl, rfl, hx, hce, hcv, hcl, rfl, hL, rfl, rfl⟩, ?_⟩
    show Steps p.tables e below _ (((({ U with heap := s₂.heap, slotsUsed := s₂.slotsUsed } : State).setVm s₂.vm).setTop g).pushFrame (.throwing q))
    rw [← hs₂]
    exact hsteps
end
variable {p : Program} {l : Launch} {e : Env} {R : Room} {s : State} {m : MethodId} {args : Array Value} {below : List Frame} {meth : Method} {c : Code} {T : State} {H : Heap} {locs : List Loc} {cells slots : Nat}
theorem vx_callVX (X : Stand p l e R s m args below meth c T locs cells slots) (hexec : p.tables.exec = Jvm.exec) {own C : String} {index : Nat} {y : MethodName} {bytes : ByteArray} {maxL : Nat} {ret : Option FieldType} {hh : List (Nat × Nat × Nat × Nat)}
    (hown : s.vm.findClass own = some m.cls) (hlink : (Cond.methodLink own index y).before args s = true) (hinst : (Cond.instanceMethod y).before args s = true) (hsel : (Cond.selects C y y).before args s = true)
    (hcode : (Cond.codeWith y bytes maxL ret hh).before args s = true) (hy : y.cls ≠ "java/lang/invoke/MethodHandle" ∧ y.cls ≠ "java/lang/invoke/VarHandle")
    {W9 : Nat} {Pre : Pt → Array Value → Prop} {Post : Pt → Array Value → Option Value → Pt → Prop} {PostX : Pt → Array Value → Addr → Pt → Prop} (hK : vx_Back l R p e below s args y 3 W9 Pre Post PostX)
    {b : Addr} {cellB : Cell} (hcell : T.heap[b]? = some cellB) (hobj : cellB.vm.isStatics = false) (hcls : s.vm.findClass C = some cellB.cls)
    {g : JFrame} (hg : g.method = m) (hsize : g.locals.size = c.maxLocals) {argsL rest : List Value} (hlen : ∀ sig, parseMethodDescriptor y.desc = some sig → argsL.length = sig.parameters.length)
    (hstack : g.stack = argsL.reverse ++ .ref b :: rest) (hW : 2 * g.monitorRoom + (rest.map fun v => v.category).sum ≤ W9) (hdg : decode c.code g.pc = .ok (.invokevirtual index, 3))
    (hpre : ∀ vm₁, s.WarmedH vm₁ → Pre ⟨T.setVm vm₁, locs, cells, slots⟩ (Value.ref b :: argsL).toArray) :
    (∃ (v : Option Value) (vm₁ : Vm) (B : Pt), s.WarmedH vm₁ ∧ Stand p l e R s m args below meth c B.U B.locs B.cells B.slots ∧ Post ⟨T.setVm vm₁, locs, cells, slots⟩ (Value.ref b :: argsL).toArray v B ∧
      ∀ target, Steps p.tables e below (B.U.setTop { g with pc := g.pc + 3, stack := v.toList ++ rest }) target → Steps p.tables e below (T.setTop g) target) ∨
    (∃ (q : Addr) (vm₁ : Vm) (B : Pt), s.WarmedH vm₁ ∧ Stand p l e R s m args below meth c B.U B.locs B.cells B.slots ∧ PostX ⟨T.setVm vm₁, locs, cells, slots⟩ (Value.ref b :: argsL).toArray q B ∧
      Steps p.tables e below (T.setTop g) ((B.U.setTop { g with stack := rest }).pushFrame (.throwing q))) := by
  obtain ⟨mk, methM, hnamed, hmethM, hstM, habM⟩ := Cond.instanceMethod_spec hinst
  obtain ⟨m8, methM', cM, hn8, hmethM', -, -, -, -, -, -, hsigM⟩ := Cond.codeWith_spec hcode
  cases Option.some.inj (hn8.symm.trans hnamed)
  cases hmethM.symm.trans hmethM'
  obtain ⟨c2, r2, m2, q1, q2, q3, q4, kP, hkP, hkPi⟩ := Cond.selects_spec hsel
  cases hcls.symm.trans q1
  cases (State.methodFound?_of_named hnamed hy).symm.trans q2
  cases hnamed.symm.trans q3
  have hselP : selectMethod e.platform s.vm cellB.cls mk = .method mk := by rw [Launch.admits_selectMethod X.admits]; exact q4
  obtain ⟨vm₁, X₁, hstep₁⟩ := X.invokevirtual hexec hown hlink hnamed hmethM hstM hkP hkPi hy (a := b) (cell := cellB) hcell
    (fun z h => by rw [h] at hobj; cases hobj) hselP hmethM habM hkP hkPi (g := g) hg (argsL := argsL) (rest := rest) (hlen _ hsigM) hstack hdg
  rcases hK m meth c ⟨T.setVm vm₁, locs, cells, slots⟩ { g with stack := rest } (.invokevirtual index) mk (Value.ref b :: argsL).toArray X₁ hg hsize hdg hW (X₁.named hnamed) (hpre vm₁ X₁.warmed) with ⟨v, B, X', hpost, hsteps⟩ | ⟨q, B, X', hpost, hsteps⟩
  · exact Or.inl ⟨v, vm₁, B, X₁.warmed, X', hpost, fun target h => hstep₁ _ fun acts => by rw [doInvoke_state]; exact hsteps.trans h⟩
  · exact Or.inr ⟨q, vm₁, B, X₁.warmed, X', hpost, hstep₁ _ fun acts => by rw [doInvoke_state]; exact hsteps⟩
theorem vx_callSX (X : Stand p l e R s m args below meth c T locs cells slots) (hexec : p.tables.exec = Jvm.exec) {own : String} {index : Nat} {y : MethodName} {bytes : ByteArray} {maxL : Nat} {ret : Option FieldType} {hh : List (Nat × Nat × Nat × Nat)}
    (hown : s.vm.findClass own = some m.cls) (hlink : (Cond.methodLink own index y).before args s = true) (hstat : (Cond.static y).before args s = true) (hinit : (Cond.initialized y.cls).before args s = true)
    (hcode : (Cond.codeWith y bytes maxL ret hh).before args s = true) (hy : y.cls ≠ "java/lang/invoke/MethodHandle" ∧ y.cls ≠ "java/lang/invoke/VarHandle")
    {W9 : Nat} {Pre : Pt → Array Value → Prop} {Post : Pt → Array Value → Option Value → Pt → Prop} {PostX : Pt → Array Value → Addr → Pt → Prop} (hK : vx_Back l R p e below s args y 3 W9 Pre Post PostX)
    {g : JFrame} (hg : g.method = m) (hsize : g.locals.size = c.maxLocals) {argsL rest : List Value} (hlen : ∀ sig, parseMethodDescriptor y.desc = some sig → argsL.length = sig.parameters.length)
    (hstack : g.stack = argsL.reverse ++ rest) (hW : 2 * g.monitorRoom + (rest.map fun v => v.category).sum ≤ W9) (hdg : decode c.code g.pc = .ok (.invokestatic index, 3))
    (hpre : ∀ vm₁, s.WarmedH vm₁ → Pre ⟨T.setVm vm₁, locs, cells, slots⟩ argsL.toArray) :
    (∃ (v : Option Value) (vm₁ : Vm) (B : Pt), s.WarmedH vm₁ ∧ Stand p l e R s m args below meth c B.U B.locs B.cells B.slots ∧ Post ⟨T.setVm vm₁, locs, cells, slots⟩ argsL.toArray v B ∧
      ∀ target, Steps p.tables e below (B.U.setTop { g with pc := g.pc + 3, stack := v.toList ++ rest }) target → Steps p.tables e below (T.setTop g) target) ∨
    (∃ (q : Addr) (vm₁ : Vm) (B : Pt), s.WarmedH vm₁ ∧ Stand p l e R s m args below meth c B.U B.locs B.cells B.slots ∧ PostX ⟨T.setVm vm₁, locs, cells, slots⟩ argsL.toArray q B ∧
      Steps p.tables e below (T.setTop g) ((B.U.setTop { g with stack := rest }).pushFrame (.throwing q))) := by
  obtain ⟨mk, methM, cM, hnamed, hmethM, -, -, -, -, -, -, hsigM⟩ := Cond.codeWith_spec hcode
  have hstatic : methM.isStatic = true := Cond.static_spec hnamed hmethM hstat
  obtain ⟨kP, hkP, -⟩ := className_of_methodNamed hnamed
  have hinitP : kP.init = .initialized := Cond.initialized_spec (findClass_of_methodNamed hnamed) hkP hinit
  obtain ⟨vm₁, X₁, hstep₁⟩ := X.invokestatic hexec hown hlink hnamed hmethM hstatic hkP hinitP hy (g := g) hg (argsL := argsL) (rest := rest) (hlen _ hsigM) hstack hdg
  rcases hK m meth c ⟨T.setVm vm₁, locs, cells, slots⟩ { g with stack := rest } (.invokestatic index) mk argsL.toArray X₁ hg hsize hdg hW (X₁.named hnamed) (hpre vm₁ X₁.warmed) with ⟨v, B, X', hpost, hsteps⟩ | ⟨q, B, X', hpost, hsteps⟩
  · exact Or.inl ⟨v, vm₁, B, X₁.warmed, X', hpost, fun target h => hstep₁ _ fun acts => by rw [doInvoke_state]; exact hsteps.trans h⟩
  · exact Or.inr ⟨q, vm₁, B, X₁.warmed, X', hpost, hstep₁ _ fun acts => by rw [doInvoke_state]; exact hsteps⟩
theorem vx_callVW (X : Stand p l e R s m args below meth c T locs cells slots) (hexec : p.tables.exec = Jvm.exec) {own C : String} {index : Nat} {y : MethodName} {bytes : ByteArray} {maxL : Nat} {ret : Option FieldType} {hh : List (Nat × Nat × Nat × Nat)}
    (hown : s.vm.findClass own = some m.cls) (hlink : (Cond.methodLink own index y).before args s = true) (hinst : (Cond.instanceMethod y).before args s = true) (hsel : (Cond.selects C y y).before args s = true)
    (hcode : (Cond.codeWith y bytes maxL ret hh).before args s = true) (hy : y.cls ≠ "java/lang/invoke/MethodHandle" ∧ y.cls ≠ "java/lang/invoke/VarHandle")
    {W9 : Nat} {Pre : Pt → Array Value → Prop} {Post : Pt → Array Value → Option Value → Pt → Prop} (hK : Back l R p e below s args y 3 W9 Pre Post)
    {b : Addr} {cellB : Cell} (hcell : T.heap[b]? = some cellB) (hobj : cellB.vm.isStatics = false) (hcls : s.vm.findClass C = some cellB.cls)
    {g : JFrame} (hg : g.method = m) (hsize : g.locals.size = c.maxLocals) {argsL rest : List Value} (hlen : ∀ sig, parseMethodDescriptor y.desc = some sig → argsL.length = sig.parameters.length)
    (hstack : g.stack = argsL.reverse ++ .ref b :: rest) (hW : 2 * g.monitorRoom + (rest.map fun v => v.category).sum ≤ W9) (hdg : decode c.code g.pc = .ok (.invokevirtual index, 3))
    (hpre : ∀ vm₁, s.WarmedH vm₁ → Pre ⟨T.setVm vm₁, locs, cells, slots⟩ (Value.ref b :: argsL).toArray) :
    ∃ (v : Option Value) (vm₁ : Vm) (B : Pt), s.WarmedH vm₁ ∧ Stand p l e R s m args below meth c B.U B.locs B.cells B.slots ∧ Post ⟨T.setVm vm₁, locs, cells, slots⟩ (Value.ref b :: argsL).toArray v B ∧
      ∀ target, Steps p.tables e below (B.U.setTop { g with pc := g.pc + 3, stack := v.toList ++ rest }) target → Steps p.tables e below (T.setTop g) target := by
  obtain ⟨mk, methM, hnamed, hmethM, hstM, habM⟩ := Cond.instanceMethod_spec hinst
  obtain ⟨m8, methM', cM, hn8, hmethM', -, -, -, -, -, -, hsigM⟩ := Cond.codeWith_spec hcode
  cases Option.some.inj (hn8.symm.trans hnamed)
  cases hmethM.symm.trans hmethM'
  obtain ⟨c2, r2, m2, q1, q2, q3, q4, kP, hkP, hkPi⟩ := Cond.selects_spec hsel
  cases hcls.symm.trans q1
  cases (State.methodFound?_of_named hnamed hy).symm.trans q2
  cases hnamed.symm.trans q3
  have hselP : selectMethod e.platform s.vm cellB.cls mk = .method mk := by rw [Launch.admits_selectMethod X.admits]; exact q4
  obtain ⟨vm₁, X₁, hstep₁⟩ := X.invokevirtual hexec hown hlink hnamed hmethM hstM hkP hkPi hy (a := b) (cell := cellB) hcell
    (fun z h => by rw [h] at hobj; cases hobj) hselP hmethM habM hkP hkPi (g := g) hg (argsL := argsL) (rest := rest) (hlen _ hsigM) hstack hdg
  obtain ⟨v, B, X', hpost, hsteps⟩ := hK m meth c ⟨T.setVm vm₁, locs, cells, slots⟩ { g with stack := rest } (.invokevirtual index) mk (Value.ref b :: argsL).toArray X₁ hg hsize hdg hW (X₁.named hnamed) (hpre vm₁ X₁.warmed)
  exact ⟨v, vm₁, B, X₁.warmed, X', hpost, fun target h => hstep₁ _ fun acts => by rw [doInvoke_state]; exact hsteps.trans h⟩
abbrev vx_CVW (R : Room) (s : State) (args : Array Value) (own C : String) (index : Nat) (y : MethodName) (bytes : ByteArray) (maxL : Nat) (ret : Option FieldType) (hh : List (Nat × Nat × Nat × Nat)) (ws : List Cond) (rm : Room) (mc ms n : Nat) : Prop :=
  (rm.cells = mc ∧ rm.slots = ms ∧ rm.frames + 1 ≤ R.frames ∧ 8 + (maxL + 11) + rm.locals ≤ R.locals ∧ (∀ w ∈ ws, ∀ (a' : Array Value) (U : State), s.WarmedH U.vm → w.before a' U = true) ∧ Cond.codeWith y bytes maxL ret hh ∈ ws) ∧
  (Cond.codeWith y bytes maxL ret hh).before args s = true ∧ (Cond.initialized y.cls).before args s = true ∧ (y.cls ≠ "java/lang/invoke/MethodHandle" ∧ y.cls ≠ "java/lang/invoke/VarHandle") ∧
  (∀ sig, parseMethodDescriptor y.desc = some sig → n = sig.parameters.length) ∧ (Cond.methodLink own index y).before args s = true ∧ (Cond.instanceMethod y).before args s = true ∧ (Cond.selects C y y).before args s = true
theorem vx_cwVW {own C : String} {index maxL mc ms : Nat} {y : MethodName} {bytes : ByteArray} {ret : Option FieldType} {hh : List (Nat × Nat × Nat × Nat)} {Ts ws ws' : List Cond} {rm : Room} (n : Nat) (ht : ∀ w ∈ Ts, w.before args s = true) (hT : GoodIn Ts (wsV own index C y ws)) (hw : ws = Cond.codeWith y bytes maxL ret hh :: ws') (hrc : rm.cells = mc) (hrs : rm.slots = ms)
    (hd : y.cls = C ∧ y.cls ≠ "java/lang/invoke/MethodHandle" ∧ y.cls ≠ "java/lang/invoke/VarHandle" ∧ (parseMethodDescriptor y.desc).map (fun d => d.parameters.length) = some n) (hR : rm.frames + 1 ≤ R.frames ∧ 8 + (maxL + 11) + rm.locals ≤ R.locals) :
    vx_CVW R s args own C index y bytes maxL ret hh ws rm mc ms n := by
  obtain ⟨hC, hd⟩ := hd
  subst hC
  have ok : ∀ w ∈ wsV own index y.cls y ws, w.before args s = true := fun w h => ht w (hT w h).1
  have hG : GoodIn Ts ws := fun w h => hT w (by unfold wsV; exact List.mem_append_right _ h)
  have hc : Cond.codeWith y bytes maxL ret hh ∈ ws := by rw [hw]; exact List.mem_cons_self
  refine ⟨⟨hrc, hrs, hR.1, hR.2, pay_in ht hG, hc⟩, ht _ (hG _ hc).1, ok _ (by simp [wsV]), ⟨hd.1, hd.2.1⟩, fun sig h => ?_, ok _ (by simp [wsV]), ok _ (by simp [wsV]), ok _ (by simp [wsV])⟩
  have h2 := hd.2.2
  rw [h] at h2
  exact (Option.some.inj h2).symm
theorem vx_runVW {y : MethodName} {bytes cc : ByteArray} {maxL nL mc ms n index : Nat} {ret : Option FieldType} {hh : List (Nat × Nat × Nat × Nat)} {ws : List Cond} {rm : Room} {Pc : Array Value → State → Prop} {Qc : Array Value → State → Outcome → State → Prop} {free : Addr → Prop} {Ts : List Cond} {own C : String} {b : Addr} {As rest : List Value} {g : JFrame}
    (S : CallFix p m c cc nL s args Ts own) (hM : Met l y ws rm Pc Qc mc ms free) (cw : vx_CVW R s args own C index y bytes maxL ret hh ws rm mc ms n) (hp : PreV s H C b Pc As)
    (hg : g.method = m) (hn : As.length = n) (hsize : g.locals.size = nL) (hstack : g.stack = As.reverse ++ .ref b :: rest) (hW : 2 * g.monitorRoom + (rest.map fun v => v.category).sum ≤ 8) (hdg : decode cc g.pc = .ok (.invokevirtual index, 3)) (hf : cells + mc ≤ R.cells ∧ slots + ms ≤ R.slots) :
    va_Run p l e R s m args below meth c H locs cells slots mc ms g rest (Qc (Value.ref b :: As).toArray) free := by
  obtain ⟨⟨hrc, hrs, hfr, hlo, hws, hcw⟩, hcode, hini, hy, hlen, hl, hin, hse⟩ := cw
  have hK : Back l R p e below s args y 3 8 (PreOf R mc ms Pc) (PostOf Qc mc ms free) := va_backW (hh := hh) (bytes := bytes) (maxL := maxL) (ret := ret) hM hp.1 hrc hrs hfr hlo hws hcw (fun a' U hW => word_at hW (Or.inl (by first | rfl | simp [Cond.onTables, Cond.keeps, Cond.steady])) hini)
  obtain ⟨hx, hb, hml, ho, -⟩ := S
  obtain ⟨-, ⟨cellB, hcB, hoB, hclB⟩, hPc⟩ := hp
  intro T hT X
  obtain ⟨v, vm₁, ⟨U', l2, c2, s2⟩, hW₁, X', ⟨g', mk, t, L, e1, e2, hq, h1, hL, h2, h3⟩, st⟩ := vx_callVW X hx (C := C) (hh := hh) (bytes := bytes) (maxL := maxL) (ret := ret) ho hl hin hse hcode hy hK (by rw [hT]; exact hcB) hoB hclB hg (hsize.trans hml.symm) (argsL := As) (rest := rest) (fun sig h => hn.trans (hlen sig h)) hstack hW (by rw [hb]; exact hdg)
    (fun vm₁ hW₁ => ⟨hf.1, hf.2, hPc (T.setVm vm₁) hT hW₁⟩)
  dsimp only [Pt.U, Pt.locs, Pt.cells, Pt.slots] at X' e1 e2 h1 h2 h3 st
  subst h1; subst h2; subst h3
  exact ⟨v, (T.setVm vm₁).calling g' mk (Value.ref b :: As).toArray, t, U', L, hT, X', hL, e1, e2, hq, st⟩
section
variable {y : MethodName} {bytes cc : ByteArray} {maxL nL mc ms n index : Nat} {ret : Option FieldType} {ws : List Cond} {rm : Room} {Pc : Array Value → State → Prop} {Qc : Array Value → State → Outcome → State → Prop} {XC : String → State → State → Prop} {free : Addr → Prop} {Ts : List Cond} {own C : String} {b : Addr} {As rest : List Value} {g : JFrame}
theorem vx_runVX {hh : List (Nat × Nat × Nat × Nat)} (S : CallFix p m c cc nL s args Ts own) (hM : vx_Met l y ws rm Pc Qc XC mc ms free) (cw : vx_CVW R s args own C index y bytes maxL ret hh ws rm mc ms n) (hp : PreV s H C b Pc As)
    (hg : g.method = m) (hn : As.length = n) (hsize : g.locals.size = nL) (hstack : g.stack = As.reverse ++ .ref b :: rest) (hW : 2 * g.monitorRoom + (rest.map fun v => v.category).sum ≤ 8) (hdg : decode cc g.pc = .ok (.invokevirtual index, 3)) (hf : cells + mc ≤ R.cells ∧ slots + ms ≤ R.slots) :
    vx_Run p l e R s m args below meth c H locs cells slots mc ms g rest (Qc (Value.ref b :: As).toArray) XC free := by
  obtain ⟨⟨hrc, hrs, hfr, hlo, hws, hcw⟩, hcode, hini, hy, hlen, hl, hin, hse⟩ := cw
  have hK : vx_Back l R p e below s args y 3 8 (PreOf R mc ms Pc) (PostOf Qc mc ms free) (vx_Post XC mc ms free) := vx_backW (hh := hh) (bytes := bytes) (maxL := maxL) (ret := ret) hM hp.1 hrc hrs hfr hlo hws hcw (fun a' U hW => word_at hW (Or.inl (by first | rfl | simp [Cond.onTables, Cond.keeps, Cond.steady])) hini)
  obtain ⟨hx, hb, hml, ho, -⟩ := S
  obtain ⟨-, ⟨cellB, hcB, hoB, hclB⟩, hPc⟩ := hp
  intro T hT X
  rcases vx_callVX X hx (C := C) (hh := hh) (bytes := bytes) (maxL := maxL) (ret := ret) ho hl hin hse hcode hy hK (by rw [hT]; exact hcB) hoB hclB hg (hsize.trans hml.symm) (argsL := As) (rest := rest) (fun sig h => hn.trans (hlen sig h)) hstack hW (by rw [hb]; exact hdg)
    (fun vm₁ hW₁ => ⟨hf.1, hf.2, hPc (T.setVm vm₁) hT hW₁⟩) with ⟨v, vm₁, ⟨U', l2, c2, s2⟩, hW₁, X', ⟨g', mk, t, L, e1, e2, hq, h1, hL, h2, h3⟩, st⟩ | ⟨q, vm₁, ⟨U', l2, c2, s2⟩, hW₁, X', ⟨g', mk, t, L, E, ce, e1, e2, hq, hce, hcv, hcl, h1, hL, h2, h3⟩, st⟩
  · dsimp only [Pt.U, Pt.locs, Pt.cells, Pt.slots] at X' e1 e2 h1 h2 h3 st
    subst h1; subst h2; subst h3
    exact Or.inl ⟨v, (T.setVm vm₁).calling g' mk (Value.ref b :: As).toArray, t, U', L, hT, X', hL, e1, e2, hq, st⟩
  · dsimp only [Pt.U, Pt.locs, Pt.cells, Pt.slots] at X' e1 e2 h1 h2 h3 st hcl
    subst h1; subst h2; subst h3
    exact Or.inr ⟨q, (T.setVm vm₁).calling g' mk (Value.ref b :: As).toArray, t, U', L, E, ce, hT, X', hL, e1, e2, hq, hce, hcv, vx_cls hW₁ hcl, st⟩
theorem vx_runSX {hh : List (Nat × Nat × Nat × Nat)} (S : CallFix p m c cc nL s args Ts own) (hM : vx_Met l y ws rm Pc Qc XC mc ms free) (cw : vx_CSW R s args own index y bytes maxL ret hh ws rm mc ms n) (hp : PreS s H Pc As)
    (hg : g.method = m) (hn : As.length = n) (hsize : g.locals.size = nL) (hstack : g.stack = As.reverse ++ rest) (hW : 2 * g.monitorRoom + (rest.map fun v => v.category).sum ≤ 8) (hdg : decode cc g.pc = .ok (.invokestatic index, 3)) (hf : cells + mc ≤ R.cells ∧ slots + ms ≤ R.slots) :
    vx_Run p l e R s m args below meth c H locs cells slots mc ms g rest (Qc As.toArray) XC free := by
  obtain ⟨⟨hrc, hrs, hfr, hlo, hws, hcw⟩, hcode, hini, hy, hlen, hl, hstt⟩ := cw
  have hK : vx_Back l R p e below s args y 3 8 (PreOf R mc ms Pc) (PostOf Qc mc ms free) (vx_Post XC mc ms free) := vx_backW (hh := hh) (bytes := bytes) (maxL := maxL) (ret := ret) hM hp.1 hrc hrs hfr hlo hws hcw (fun a' U hW => word_at hW (Or.inl (by first | rfl | simp [Cond.onTables, Cond.keeps, Cond.steady])) hini)
  obtain ⟨hx, hb, hml, ho, -⟩ := S
  intro T hT X
  rcases vx_callSX X hx (hh := hh) (bytes := bytes) (maxL := maxL) (ret := ret) ho hl hstt hini hcode hy hK hg (hsize.trans hml.symm) (argsL := As) (rest := rest) (fun sig h => hn.trans (hlen sig h)) hstack hW (by rw [hb]; exact hdg)
    (fun vm₁ hW₁ => ⟨hf.1, hf.2, hp.2 (T.setVm vm₁) hT hW₁⟩) with ⟨v, vm₁, ⟨U', l2, c2, s2⟩, hW₁, X', ⟨g', mk, t, L, e1, e2, hq, h1, hL, h2, h3⟩, st⟩ | ⟨q, vm₁, ⟨U', l2, c2, s2⟩, hW₁, X', ⟨g', mk, t, L, E, ce, e1, e2, hq, hce, hcv, hcl, h1, hL, h2, h3⟩, st⟩
  · dsimp only [Pt.U, Pt.locs, Pt.cells, Pt.slots] at X' e1 e2 h1 h2 h3 st
    subst h1; subst h2; subst h3
    exact Or.inl ⟨v, (T.setVm vm₁).calling g' mk As.toArray, t, U', L, hT, X', hL, e1, e2, hq, st⟩
  · dsimp only [Pt.U, Pt.locs, Pt.cells, Pt.slots] at X' e1 e2 h1 h2 h3 st hcl
    subst h1; subst h2; subst h3
    exact Or.inr ⟨q, (T.setVm vm₁).calling g' mk As.toArray, t, U', L, E, ce, hT, X', hL, e1, e2, hq, hce, hcv, vx_cls hW₁ hcl, st⟩
end
end VXH
theorem vx_ofWH {l : Launch} {y : MethodName} {ws ws' : List Cond} {rm : Room} {Pc : Array Value → State → Prop} {Qc : Array Value → State → Outcome → State → Prop} {XC : String → State → State → Prop} {mc ms : Nat} {free : Addr → Prop} {cc : ByteArray} {maxL : Nat} {ret : Option FieldType} {hh : List (Nat × Nat × Nat × Nat)}
    (hy : plainName y.cls = true) (hw : ws = Cond.codeWith y cc maxL ret hh :: ws')
    (body : ∀ p e s m args below meth c s₁, BodyLoose p l y (headSpec ws rm) cc maxL ret e s m args below meth c s₁ → c.maxLocals = maxL → Pc args s →
      W p l e (headSpec ws rm).room s m args below meth c s.heap [] 0 0 (vx_MQ below Qc XC args s mc ms free) (entryFrame m args maxL)) : vx_Met l y ws rm Pc Qc XC mc ms free := by
  refine MetFree.of_bodyS (code := cc) (maxLocals := maxL) (ret := ret) hy ?_ ?_
  · intro args s m h hn
    obtain ⟨m9, meth, c, hn9, h1, h2, h3, h4, -, h5, h6, -⟩ := Cond.codeWith_spec (atoms_spec (ws := ws) h _ (by rw [hw]; exact List.mem_cons_self))
    cases hn.symm.trans hn9
    exact ⟨meth, c, h1, h2, h3, h4, h5, h6⟩
  · intro p e s m args below meth c s₁ B hml hP _
    have hh0 : s₁.heap = s.heap := by rw [B.state]; rfl
    obtain ⟨t, a1, o, b1, b2, b3⟩ := body p e s m args below meth c s₁ B hml hP s₁ hh0 (Stand.of_body B)
    exact ⟨t, o, a1, b1, b2, b3⟩
/-! ===== END ===== -/
end
section
/-! whole numbers as ints and as longs -/
def zI (z : Int) : Int32 := Int32.ofInt z
def zL (z : Int) : Int64 := Int64.ofInt z
abbrev inI (z : Int) : Prop := -2147483648 ≤ z ∧ z < 2147483648
abbrev inL (z : Int) : Prop := -9223372036854775808 ≤ z ∧ z < 9223372036854775808
theorem zI_toInt {z : Int} (h : inI z) : (zI z).toInt = z := Int32.toInt_ofInt_of_le (by have := h.1; omega) (by have := h.2; omega)
theorem zL_toInt {z : Int} (h : inL z) : (zL z).toInt = z := Int64.toInt_ofInt_of_le (by have := h.1; omega) (by have := h.2; omega)
theorem zI_of (x : Int32) : ∃ z : Int, inI z ∧ x = zI z := by
  refine ⟨x.toInt, ⟨?_, ?_⟩, (Int32.ofInt_toInt x).symm⟩
  · have := x.le_toInt; omega
  · have := x.toInt_lt; omega
theorem zL_of (x : Int64) : ∃ z : Int, inL z ∧ x = zL z := by
  refine ⟨x.toInt, ⟨?_, ?_⟩, (Int64.ofInt_toInt x).symm⟩
  · have := x.le_toInt; omega
  · have := x.toInt_lt; omega
theorem zI_add (a b : Int) : zI a + zI b = zI (a + b) := (Int32.ofInt_add a b).symm
theorem zI_sub (a b : Int) : zI a - zI b = zI (a - b) := (Int32.ofInt_sub a b).symm
theorem zI_mul (a b : Int) : zI a * zI b = zI (a * b) := (Int32.ofInt_mul a b).symm
theorem zI_neg (a : Int) : -zI a = zI (-a) := (Int32.ofInt_neg a).symm
theorem zL_add (a b : Int) : zL a + zL b = zL (a + b) := (Int64.ofInt_add a b).symm
theorem zL_sub (a b : Int) : zL a - zL b = zL (a - b) := (Int64.ofInt_sub a b).symm
theorem zL_mul (a b : Int) : zL a * zL b = zL (a * b) := (Int64.ofInt_mul a b).symm
theorem zL_neg (a : Int) : -zL a = zL (-a) := (Int64.ofInt_neg a).symm
theorem zI_lt {a b : Int} (ha : inI a) (hb : inI b) : zI a < zI b ↔ a < b := by
  rw [Int32.lt_iff_toInt_lt, zI_toInt ha, zI_toInt hb]
theorem zI_le {a b : Int} (ha : inI a) (hb : inI b) : zI a ≤ zI b ↔ a ≤ b := by
  rw [Int32.le_iff_toInt_le, zI_toInt ha, zI_toInt hb]
theorem zI_eq {a b : Int} (ha : inI a) (hb : inI b) : zI a = zI b ↔ a = b := by
  rw [← Int32.toInt_inj, zI_toInt ha, zI_toInt hb]
theorem zL_lt {a b : Int} (ha : inL a) (hb : inL b) : zL a < zL b ↔ a < b := by
  rw [Int64.lt_iff_toInt_lt, zL_toInt ha, zL_toInt hb]
theorem zL_le {a b : Int} (ha : inL a) (hb : inL b) : zL a ≤ zL b ↔ a ≤ b := by
  rw [Int64.le_iff_toInt_le, zL_toInt ha, zL_toInt hb]
theorem zL_eq {a b : Int} (ha : inL a) (hb : inL b) : zL a = zL b ↔ a = b := by
  rw [← Int64.toInt_inj, zL_toInt ha, zL_toInt hb]
theorem zI_0 : zI 0 = 0 := by decide +kernel
theorem zL_0 : zL 0 = 0 := by decide +kernel
theorem in0 : inI 0 := ⟨by decide, by decide⟩
theorem inL0 : inL 0 := ⟨by decide, by decide⟩
theorem zI_nz {b : Int} (hb : inI b) (h : b ≠ 0) : ¬ zI b = 0 := fun q => h ((zI_eq hb in0).mp (q.trans zI_0.symm))
theorem zL_nz {b : Int} (hb : inL b) (h : b ≠ 0) : ¬ zL b = 0 := fun q => h ((zL_eq hb inL0).mp (q.trans zL_0.symm))
theorem zI_div {a b : Int} (ha : inI a) (hb : inI b) (h0 : 0 ≤ a) (h1 : 0 < b) : zI a / zI b = zI (a / b) := by
  apply Int32.toInt_inj.mp
  have hne : zI b ≠ -1 := by
    intro h
    have h3 := congrArg Int32.toInt h
    rw [zI_toInt hb] at h3
    have h2 : (-1 : Int32).toInt = -1 := by decide +kernel
    omega
  have e1 := Int.ediv_nonneg h0 (Int.le_of_lt h1)
  have e2 := Int.ediv_le_self b h0
  rw [Int32.toInt_div_of_ne_right _ _ hne, zI_toInt ha, zI_toInt hb, Int.tdiv_eq_ediv_of_nonneg h0, zI_toInt]
  have := ha.2
  exact ⟨by omega, by omega⟩
theorem zL_div {a b : Int} (ha : inL a) (hb : inL b) (h0 : 0 ≤ a) (h1 : 0 < b) : zL a / zL b = zL (a / b) := by
  apply Int64.toInt_inj.mp
  have hne : zL b ≠ -1 := by
    intro h
    have h3 := congrArg Int64.toInt h
    rw [zL_toInt hb] at h3
    have h2 : (-1 : Int64).toInt = -1 := by decide +kernel
    omega
  have e1 := Int.ediv_nonneg h0 (Int.le_of_lt h1)
  have e2 := Int.ediv_le_self b h0
  rw [Int64.toInt_div_of_ne_right _ _ hne, zL_toInt ha, zL_toInt hb, Int.tdiv_eq_ediv_of_nonneg h0, zL_toInt]
  have := ha.2
  exact ⟨by omega, by omega⟩
theorem zI_rem {a b : Int} (ha : inI a) (hb : inI b) (h0 : 0 ≤ a) (h1 : 0 < b) : zI a - zI a / zI b * zI b = zI (a % b) := by
  rw [zI_div ha hb h0 h1, zI_mul, zI_sub, Int.emod_def, Int.mul_comm]
theorem zL_rem {a b : Int} (ha : inL a) (hb : inL b) (h0 : 0 ≤ a) (h1 : 0 < b) : zL a - zL a / zL b * zL b = zL (a % b) := by
  rw [zL_div ha hb h0 h1, zL_mul, zL_sub, Int.emod_def, Int.mul_comm]
theorem zI_i2l {a : Int} (ha : inI a) : (zI a).toInt64 = zL a := by
  apply Int64.toInt_inj.mp
  rw [Int32.toInt_toInt64, zI_toInt ha, zL_toInt ⟨by have := ha.1; omega, by have := ha.2; omega⟩]
theorem zL_l2i (a : Int) : (zL a).toInt32 = zI a := Int64.toInt32_ofInt
theorem zI_in {z : Int} {n : Nat} (h0 : 0 ≤ z) (h : z < n) (hn : n < 2147483648) : vp_in (zI z) n := by
  rw [vp_in_iff, zI_toInt ⟨by omega, by omega⟩]
  exact ⟨h0, h⟩
theorem zI_cl {z : Int} (h0 : 0 ≤ z) (h : z < 2147483648) : (zI z).toNatClampNeg = z.toNat := by
  show (zI z).toInt.toNat = _
  rw [zI_toInt ⟨by omega, h⟩]
theorem zI_nn {z : Int} (h0 : 0 ≤ z) (h : z < 2147483648) : ¬ zI z < 0 := by
  rw [← zI_0, zI_lt ⟨by omega, h⟩ in0]
  omega
theorem zI_max {a b : Int} (ha : inI a) (hb : inI b) : (if zI a < zI b then zI b else zI a) = zI (max a b) := by
  by_cases h : a < b
  · rw [if_pos ((zI_lt ha hb).mpr h), Int.max_eq_right (Int.le_of_lt h)]
  · rw [if_neg (fun q => h ((zI_lt ha hb).mp q)), Int.max_eq_left (by omega)]
theorem zI_min {a b : Int} (ha : inI a) (hb : inI b) : (if zI b < zI a then zI b else zI a) = zI (min a b) := by
  by_cases h : b < a
  · rw [if_pos ((zI_lt hb ha).mpr h), Int.min_eq_right (Int.le_of_lt h)]
  · rw [if_neg (fun q => h ((zI_lt hb ha).mp q)), Int.min_eq_left (by omega)]
theorem zI_8 {n : Int} (h0 : -128 ≤ n) (h : n < 128) : (Int8.ofInt n).toInt32 = zI n := by
  have h1 : Int8.minValue.toInt = -128 := by decide +kernel
  have h2 : Int8.maxValue.toInt = 127 := by decide +kernel
  exact Int8.toInt32_ofInt (by omega) (by omega)
theorem zI_16 {n : Int} (h0 : -32768 ≤ n) (h : n < 32768) : (Int16.ofInt n).toInt32 = zI n := by
  have h1 : Int16.minValue.toInt = -32768 := by decide +kernel
  have h2 : Int16.maxValue.toInt = 32767 := by decide +kernel
  exact Int16.toInt32_ofInt (by omega) (by omega)
/-- a function changed at a place -/
def zup {α : Type} (f : Int → α) (k : Int) (v : α) : Int → α := fun j => if j = k then v else f j
theorem zup_s {α : Type} {f : Int → α} {k : Int} {v : α} : zup f k v k = v := if_pos rfl
theorem zup_n {α : Type} {f : Int → α} {k j : Int} {v : α} (h : j ≠ k) : zup f k v j = f j := if_neg h
end
section
/-! rows over whole numbers -/
section ZR
variable {p : Program} {l : Launch} {e : Env} {R : Room} {s : State} {m : MethodId} {args : Array Value} {below : List Frame} {meth : Method} {c : Code} {H : Heap} {locs : List Loc} {cells slots : Nat} {Q : State → Prop} {cc : ByteArray} {pc : Nat} {ls : Array Slot} {rest : List Value}
theorem zr_iconst (hx : p.tables.exec = Jvm.exec) (hb : c.code = cc) {n : Int} (hdg : decode cc pc = .ok (.iconst n, 1)) (k : W p l e R s m args below meth c H locs cells slots Q (F0 m (pc + 1) ls (.int (zI n) :: rest))) : W p l e R s m args below meth c H locs cells slots Q (F0 m pc ls rest) := lv_iconst hx hb hdg rfl k
theorem zr_bipush (hx : p.tables.exec = Jvm.exec) (hb : c.code = cc) {n : Int} (hdg : decode cc pc = .ok (.bipush n, 2)) (h0 : -128 ≤ n ∧ n < 128) (k : W p l e R s m args below meth c H locs cells slots Q (F0 m (pc + 2) ls (.int (zI n) :: rest))) : W p l e R s m args below meth c H locs cells slots Q (F0 m pc ls rest) := lv_bipush hx hb hdg (zI_8 h0.1 h0.2) k
theorem zr_sipush (hx : p.tables.exec = Jvm.exec) (hb : c.code = cc) {n : Int} (hdg : decode cc pc = .ok (.sipush n, 3)) (h0 : -32768 ≤ n ∧ n < 32768) (k : W p l e R s m args below meth c H locs cells slots Q (F0 m (pc + 3) ls (.int (zI n) :: rest))) : W p l e R s m args below meth c H locs cells slots Q (F0 m pc ls rest) := lv_sipush hx hb hdg (zI_16 h0.1 h0.2) k
theorem zr_lconst0 (hx : p.tables.exec = Jvm.exec) (hb : c.code = cc)  (hdg : decode cc pc = .ok (.lconst 0, 1)) (k : W p l e R s m args below meth c H locs cells slots Q (F0 m (pc + 1) ls (.long (zL 0) :: rest))) : W p l e R s m args below meth c H locs cells slots Q (F0 m pc ls rest) := lv_lconst hx hb hdg (by decide +kernel) k
theorem zr_lconst1 (hx : p.tables.exec = Jvm.exec) (hb : c.code = cc)  (hdg : decode cc pc = .ok (.lconst 1, 1)) (k : W p l e R s m args below meth c H locs cells slots Q (F0 m (pc + 1) ls (.long (zL 1) :: rest))) : W p l e R s m args below meth c H locs cells slots Q (F0 m pc ls rest) := lv_lconst hx hb hdg (by decide +kernel) k
theorem zr_iadd (hx : p.tables.exec = Jvm.exec) (hb : c.code = cc) {a b : Int} (hdg : decode cc pc = .ok (.iadd, 1)) (k : W p l e R s m args below meth c H locs cells slots Q (F0 m (pc + 1) ls (.int (zI (a + b)) :: rest))) : W p l e R s m args below meth c H locs cells slots Q (F0 m pc ls (.int (zI b) :: .int (zI a) :: rest)) := lv_iadd hx hb hdg (by rw [zI_add]; exact k)
theorem zr_isub (hx : p.tables.exec = Jvm.exec) (hb : c.code = cc) {a b : Int} (hdg : decode cc pc = .ok (.isub, 1)) (k : W p l e R s m args below meth c H locs cells slots Q (F0 m (pc + 1) ls (.int (zI (a - b)) :: rest))) : W p l e R s m args below meth c H locs cells slots Q (F0 m pc ls (.int (zI b) :: .int (zI a) :: rest)) := lv_isub hx hb hdg (by rw [zI_sub]; exact k)
theorem zr_imul (hx : p.tables.exec = Jvm.exec) (hb : c.code = cc) {a b : Int} (hdg : decode cc pc = .ok (.imul, 1)) (k : W p l e R s m args below meth c H locs cells slots Q (F0 m (pc + 1) ls (.int (zI (a * b)) :: rest))) : W p l e R s m args below meth c H locs cells slots Q (F0 m pc ls (.int (zI b) :: .int (zI a) :: rest)) := lv_imul hx hb hdg (by rw [zI_mul]; exact k)
theorem zr_ladd (hx : p.tables.exec = Jvm.exec) (hb : c.code = cc) {a b : Int} (hdg : decode cc pc = .ok (.ladd, 1)) (k : W p l e R s m args below meth c H locs cells slots Q (F0 m (pc + 1) ls (.long (zL (a + b)) :: rest))) : W p l e R s m args below meth c H locs cells slots Q (F0 m pc ls (.long (zL b) :: .long (zL a) :: rest)) := lv_ladd hx hb hdg (by rw [zL_add]; exact k)
theorem zr_lsub (hx : p.tables.exec = Jvm.exec) (hb : c.code = cc) {a b : Int} (hdg : decode cc pc = .ok (.lsub, 1)) (k : W p l e R s m args below meth c H locs cells slots Q (F0 m (pc + 1) ls (.long (zL (a - b)) :: rest))) : W p l e R s m args below meth c H locs cells slots Q (F0 m pc ls (.long (zL b) :: .long (zL a) :: rest)) := lv_lsub hx hb hdg (by rw [zL_sub]; exact k)
theorem zr_lmul (hx : p.tables.exec = Jvm.exec) (hb : c.code = cc) {a b : Int} (hdg : decode cc pc = .ok (.lmul, 1)) (k : W p l e R s m args below meth c H locs cells slots Q (F0 m (pc + 1) ls (.long (zL (a * b)) :: rest))) : W p l e R s m args below meth c H locs cells slots Q (F0 m pc ls (.long (zL b) :: .long (zL a) :: rest)) := lv_lmul hx hb hdg (by rw [zL_mul]; exact k)
theorem zr_ineg (hx : p.tables.exec = Jvm.exec) (hb : c.code = cc) {a : Int} (hdg : decode cc pc = .ok (.ineg, 1)) (k : W p l e R s m args below meth c H locs cells slots Q (F0 m (pc + 1) ls (.int (zI (-a)) :: rest))) : W p l e R s m args below meth c H locs cells slots Q (F0 m pc ls (.int (zI a) :: rest)) := lv_ineg hx hb hdg (by rw [zI_neg]; exact k)
theorem zr_lneg (hx : p.tables.exec = Jvm.exec) (hb : c.code = cc) {a : Int} (hdg : decode cc pc = .ok (.lneg, 1)) (k : W p l e R s m args below meth c H locs cells slots Q (F0 m (pc + 1) ls (.long (zL (-a)) :: rest))) : W p l e R s m args below meth c H locs cells slots Q (F0 m pc ls (.long (zL a) :: rest)) := lv_lneg hx hb hdg (by rw [zL_neg]; exact k)
theorem zr_idiv (hx : p.tables.exec = Jvm.exec) (hb : c.code = cc) {a b : Int} (hdg : decode cc pc = .ok (.idiv, 1)) (ha9 : inI a) (hb9 : inI b) (h0 : 0 ≤ a) (h1 : 0 < b) (k : W p l e R s m args below meth c H locs cells slots Q (F0 m (pc + 1) ls (.int (zI (a / b)) :: rest))) : W p l e R s m args below meth c H locs cells slots Q (F0 m pc ls (.int (zI b) :: .int (zI a) :: rest)) := lv_idiv hx hb hdg (zI_nz hb9 (by omega)) (by rw [zI_div ha9 hb9 h0 h1]; exact k)
theorem zr_irem (hx : p.tables.exec = Jvm.exec) (hb : c.code = cc) {a b : Int} (hdg : decode cc pc = .ok (.irem, 1)) (ha9 : inI a) (hb9 : inI b) (h0 : 0 ≤ a) (h1 : 0 < b) (k : W p l e R s m args below meth c H locs cells slots Q (F0 m (pc + 1) ls (.int (zI (a % b)) :: rest))) : W p l e R s m args below meth c H locs cells slots Q (F0 m pc ls (.int (zI b) :: .int (zI a) :: rest)) := lv_irem hx hb hdg (zI_nz hb9 (by omega)) (by rw [zI_rem ha9 hb9 h0 h1]; exact k)
theorem zr_ldiv (hx : p.tables.exec = Jvm.exec) (hb : c.code = cc) {a b : Int} (hdg : decode cc pc = .ok (.ldiv, 1)) (ha9 : inL a) (hb9 : inL b) (h0 : 0 ≤ a) (h1 : 0 < b) (k : W p l e R s m args below meth c H locs cells slots Q (F0 m (pc + 1) ls (.long (zL (a / b)) :: rest))) : W p l e R s m args below meth c H locs cells slots Q (F0 m pc ls (.long (zL b) :: .long (zL a) :: rest)) := lv_ldiv hx hb hdg (zL_nz hb9 (by omega)) (by rw [zL_div ha9 hb9 h0 h1]; exact k)
theorem zr_lrem (hx : p.tables.exec = Jvm.exec) (hb : c.code = cc) {a b : Int} (hdg : decode cc pc = .ok (.lrem, 1)) (ha9 : inL a) (hb9 : inL b) (h0 : 0 ≤ a) (h1 : 0 < b) (k : W p l e R s m args below meth c H locs cells slots Q (F0 m (pc + 1) ls (.long (zL (a % b)) :: rest))) : W p l e R s m args below meth c H locs cells slots Q (F0 m pc ls (.long (zL b) :: .long (zL a) :: rest)) := lv_lrem hx hb hdg (zL_nz hb9 (by omega)) (by rw [zL_rem ha9 hb9 h0 h1]; exact k)
theorem zr_i2l (hx : p.tables.exec = Jvm.exec) (hb : c.code = cc) {a : Int} (hdg : decode cc pc = .ok (.i2l, 1)) (ha9 : inI a) (k : W p l e R s m args below meth c H locs cells slots Q (F0 m (pc + 1) ls (.long (zL a) :: rest))) : W p l e R s m args below meth c H locs cells slots Q (F0 m pc ls (.int (zI a) :: rest)) := lv_i2l hx hb hdg (zI_i2l ha9) k
theorem zr_l2i (hx : p.tables.exec = Jvm.exec) (hb : c.code = cc) {a : Int} (hdg : decode cc pc = .ok (.l2i, 1)) (k : W p l e R s m args below meth c H locs cells slots Q (F0 m (pc + 1) ls (.int (zI a) :: rest))) : W p l e R s m args below meth c H locs cells slots Q (F0 m pc ls (.long (zL a) :: rest)) := lv_l2i hx hb hdg (zL_l2i a) k
theorem zr_icmp_eq (hx : p.tables.exec = Jvm.exec) (hb : c.code = cc) {a b off : Int} {tgt : Nat} (ha9 : inI a) (hb9 : inI b) (hdg : decode cc pc = .ok (.if_icmp .eq off, 3)) (ht : (pc : Int) + off = (tgt : Int)) (kt : a = b → W p l e R s m args below meth c H locs cells slots Q (F0 m tgt ls rest)) (kf : ¬ a = b → W p l e R s m args below meth c H locs cells slots Q (F0 m (pc + 3) ls rest)) : W p l e R s m args below meth c H locs cells slots Q (F0 m pc ls (.int (zI b) :: .int (zI a) :: rest)) := by
  exact lv_icmp_eq hx hb hdg ht (fun h => kt ((zI_eq ha9 hb9).mp h)) (fun h => kf (fun q => h ((zI_eq ha9 hb9).mpr q)))
theorem zr_if_eq (hx : p.tables.exec = Jvm.exec) (hb : c.code = cc) {a off : Int} {tgt : Nat} (ha9 : inI a) (hdg : decode cc pc = .ok (.ifCond .eq off, 3)) (ht : (pc : Int) + off = (tgt : Int)) (kt : a = 0 → W p l e R s m args below meth c H locs cells slots Q (F0 m tgt ls rest)) (kf : ¬ a = 0 → W p l e R s m args below meth c H locs cells slots Q (F0 m (pc + 3) ls rest)) : W p l e R s m args below meth c H locs cells slots Q (F0 m pc ls (.int (zI a) :: rest)) := by
  have hb9 := in0
  refine lv_if_eq hx hb hdg ht (fun h => kt ?_) (fun h => kf ?_) <;> rw [← zI_0] at h
  · exact (zI_eq ha9 hb9).mp h
  · exact fun q => h ((zI_eq ha9 hb9).mpr q)
theorem zr_lcmp_eq (hx : p.tables.exec = Jvm.exec) (hb : c.code = cc) {a b off : Int} {tgt : Nat} (ha9 : inL a) (hb9 : inL b) (hd0 : decode cc pc = .ok (.lcmp, 1)) (hdg : decode cc (pc + 1) = .ok (.ifCond .eq off, 3)) (ht : ((pc + 1 : Nat) : Int) + off = (tgt : Int)) (kt : a = b → W p l e R s m args below meth c H locs cells slots Q (F0 m tgt ls rest)) (kf : ¬ a = b → W p l e R s m args below meth c H locs cells slots Q (F0 m (pc + 1 + 3) ls rest)) : W p l e R s m args below meth c H locs cells slots Q (F0 m pc ls (.long (zL b) :: .long (zL a) :: rest)) := by
  exact W.lcmp hx hb hd0 (lv_if_eq hx hb hdg ht (fun h => kt ((zL_eq ha9 hb9).mp ((lg_cmp_eq _ _).mp h))) (fun h => kf (fun q => h ((lg_cmp_eq _ _).mpr ((zL_eq ha9 hb9).mpr q)))))
theorem zr_icmp_ne (hx : p.tables.exec = Jvm.exec) (hb : c.code = cc) {a b off : Int} {tgt : Nat} (ha9 : inI a) (hb9 : inI b) (hdg : decode cc pc = .ok (.if_icmp .ne off, 3)) (ht : (pc : Int) + off = (tgt : Int)) (kt : ¬ a = b → W p l e R s m args below meth c H locs cells slots Q (F0 m tgt ls rest)) (kf : a = b → W p l e R s m args below meth c H locs cells slots Q (F0 m (pc + 3) ls rest)) : W p l e R s m args below meth c H locs cells slots Q (F0 m pc ls (.int (zI b) :: .int (zI a) :: rest)) := by
  exact lv_icmp_ne hx hb hdg ht (fun h => kt (fun q => h ((zI_eq ha9 hb9).mpr q))) (fun h => kf ((zI_eq ha9 hb9).mp h))
theorem zr_if_ne (hx : p.tables.exec = Jvm.exec) (hb : c.code = cc) {a off : Int} {tgt : Nat} (ha9 : inI a) (hdg : decode cc pc = .ok (.ifCond .ne off, 3)) (ht : (pc : Int) + off = (tgt : Int)) (kt : ¬ a = 0 → W p l e R s m args below meth c H locs cells slots Q (F0 m tgt ls rest)) (kf : a = 0 → W p l e R s m args below meth c H locs cells slots Q (F0 m (pc + 3) ls rest)) : W p l e R s m args below meth c H locs cells slots Q (F0 m pc ls (.int (zI a) :: rest)) := by
  have hb9 := in0
  refine lv_if_ne hx hb hdg ht (fun h => kt ?_) (fun h => kf ?_) <;> rw [← zI_0] at h
  · exact fun q => h ((zI_eq ha9 hb9).mpr q)
  · exact (zI_eq ha9 hb9).mp h
theorem zr_lcmp_ne (hx : p.tables.exec = Jvm.exec) (hb : c.code = cc) {a b off : Int} {tgt : Nat} (ha9 : inL a) (hb9 : inL b) (hd0 : decode cc pc = .ok (.lcmp, 1)) (hdg : decode cc (pc + 1) = .ok (.ifCond .ne off, 3)) (ht : ((pc + 1 : Nat) : Int) + off = (tgt : Int)) (kt : ¬ a = b → W p l e R s m args below meth c H locs cells slots Q (F0 m tgt ls rest)) (kf : a = b → W p l e R s m args below meth c H locs cells slots Q (F0 m (pc + 1 + 3) ls rest)) : W p l e R s m args below meth c H locs cells slots Q (F0 m pc ls (.long (zL b) :: .long (zL a) :: rest)) := by
  exact W.lcmp hx hb hd0 (lv_if_ne hx hb hdg ht (fun h => kt (fun q => h ((lg_cmp_eq _ _).mpr ((zL_eq ha9 hb9).mpr q)))) (fun h => kf ((zL_eq ha9 hb9).mp ((lg_cmp_eq _ _).mp h))))
theorem zr_icmp_lt (hx : p.tables.exec = Jvm.exec) (hb : c.code = cc) {a b off : Int} {tgt : Nat} (ha9 : inI a) (hb9 : inI b) (hdg : decode cc pc = .ok (.if_icmp .lt off, 3)) (ht : (pc : Int) + off = (tgt : Int)) (kt : a < b → W p l e R s m args below meth c H locs cells slots Q (F0 m tgt ls rest)) (kf : b ≤ a → W p l e R s m args below meth c H locs cells slots Q (F0 m (pc + 3) ls rest)) : W p l e R s m args below meth c H locs cells slots Q (F0 m pc ls (.int (zI b) :: .int (zI a) :: rest)) := by
  exact lv_icmp_lt hx hb hdg ht (fun h => kt ((zI_lt ha9 hb9).mp h)) (fun h => kf (Int.not_lt.mp fun q => h ((zI_lt ha9 hb9).mpr q)))
theorem zr_if_lt (hx : p.tables.exec = Jvm.exec) (hb : c.code = cc) {a off : Int} {tgt : Nat} (ha9 : inI a) (hdg : decode cc pc = .ok (.ifCond .lt off, 3)) (ht : (pc : Int) + off = (tgt : Int)) (kt : a < 0 → W p l e R s m args below meth c H locs cells slots Q (F0 m tgt ls rest)) (kf : 0 ≤ a → W p l e R s m args below meth c H locs cells slots Q (F0 m (pc + 3) ls rest)) : W p l e R s m args below meth c H locs cells slots Q (F0 m pc ls (.int (zI a) :: rest)) := by
  have hb9 := in0
  refine lv_if_lt hx hb hdg ht (fun h => kt ?_) (fun h => kf ?_) <;> rw [← zI_0] at h
  · exact (zI_lt ha9 hb9).mp h
  · exact Int.not_lt.mp fun q => h ((zI_lt ha9 hb9).mpr q)
theorem zr_lcmp_lt (hx : p.tables.exec = Jvm.exec) (hb : c.code = cc) {a b off : Int} {tgt : Nat} (ha9 : inL a) (hb9 : inL b) (hd0 : decode cc pc = .ok (.lcmp, 1)) (hdg : decode cc (pc + 1) = .ok (.ifCond .lt off, 3)) (ht : ((pc + 1 : Nat) : Int) + off = (tgt : Int)) (kt : a < b → W p l e R s m args below meth c H locs cells slots Q (F0 m tgt ls rest)) (kf : b ≤ a → W p l e R s m args below meth c H locs cells slots Q (F0 m (pc + 1 + 3) ls rest)) : W p l e R s m args below meth c H locs cells slots Q (F0 m pc ls (.long (zL b) :: .long (zL a) :: rest)) := by
  exact W.lcmp hx hb hd0 (lv_if_lt hx hb hdg ht (fun h => kt ((zL_lt ha9 hb9).mp ((lg_cmp_lt _ _).mp h))) (fun h => kf (Int.not_lt.mp fun q => h ((lg_cmp_lt _ _).mpr ((zL_lt ha9 hb9).mpr q)))))
theorem zr_icmp_ge (hx : p.tables.exec = Jvm.exec) (hb : c.code = cc) {a b off : Int} {tgt : Nat} (ha9 : inI a) (hb9 : inI b) (hdg : decode cc pc = .ok (.if_icmp .ge off, 3)) (ht : (pc : Int) + off = (tgt : Int)) (kt : b ≤ a → W p l e R s m args below meth c H locs cells slots Q (F0 m tgt ls rest)) (kf : a < b → W p l e R s m args below meth c H locs cells slots Q (F0 m (pc + 3) ls rest)) : W p l e R s m args below meth c H locs cells slots Q (F0 m pc ls (.int (zI b) :: .int (zI a) :: rest)) := by
  exact lv_icmp_ge hx hb hdg ht (fun h => kt ((zI_le hb9 ha9).mp h)) (fun h => kf (Int.not_le.mp fun q => h ((zI_le hb9 ha9).mpr q)))
theorem zr_if_ge (hx : p.tables.exec = Jvm.exec) (hb : c.code = cc) {a off : Int} {tgt : Nat} (ha9 : inI a) (hdg : decode cc pc = .ok (.ifCond .ge off, 3)) (ht : (pc : Int) + off = (tgt : Int)) (kt : 0 ≤ a → W p l e R s m args below meth c H locs cells slots Q (F0 m tgt ls rest)) (kf : a < 0 → W p l e R s m args below meth c H locs cells slots Q (F0 m (pc + 3) ls rest)) : W p l e R s m args below meth c H locs cells slots Q (F0 m pc ls (.int (zI a) :: rest)) := by
  have hb9 := in0
  refine lv_if_ge hx hb hdg ht (fun h => kt ?_) (fun h => kf ?_) <;> rw [← zI_0] at h
  · exact (zI_le hb9 ha9).mp h
  · exact Int.not_le.mp fun q => h ((zI_le hb9 ha9).mpr q)
theorem zr_lcmp_ge (hx : p.tables.exec = Jvm.exec) (hb : c.code = cc) {a b off : Int} {tgt : Nat} (ha9 : inL a) (hb9 : inL b) (hd0 : decode cc pc = .ok (.lcmp, 1)) (hdg : decode cc (pc + 1) = .ok (.ifCond .ge off, 3)) (ht : ((pc + 1 : Nat) : Int) + off = (tgt : Int)) (kt : b ≤ a → W p l e R s m args below meth c H locs cells slots Q (F0 m tgt ls rest)) (kf : a < b → W p l e R s m args below meth c H locs cells slots Q (F0 m (pc + 1 + 3) ls rest)) : W p l e R s m args below meth c H locs cells slots Q (F0 m pc ls (.long (zL b) :: .long (zL a) :: rest)) := by
  exact W.lcmp hx hb hd0 (lv_if_ge hx hb hdg ht (fun h => kt ((zL_le hb9 ha9).mp ((lg_cmp_ge _ _).mp h))) (fun h => kf (Int.not_le.mp fun q => h ((lg_cmp_ge _ _).mpr ((zL_le hb9 ha9).mpr q)))))
theorem zr_icmp_gt (hx : p.tables.exec = Jvm.exec) (hb : c.code = cc) {a b off : Int} {tgt : Nat} (ha9 : inI a) (hb9 : inI b) (hdg : decode cc pc = .ok (.if_icmp .gt off, 3)) (ht : (pc : Int) + off = (tgt : Int)) (kt : b < a → W p l e R s m args below meth c H locs cells slots Q (F0 m tgt ls rest)) (kf : a ≤ b → W p l e R s m args below meth c H locs cells slots Q (F0 m (pc + 3) ls rest)) : W p l e R s m args below meth c H locs cells slots Q (F0 m pc ls (.int (zI b) :: .int (zI a) :: rest)) := by
  exact lv_icmp_gt hx hb hdg ht (fun h => kt ((zI_lt hb9 ha9).mp h)) (fun h => kf (Int.not_lt.mp fun q => h ((zI_lt hb9 ha9).mpr q)))
theorem zr_if_gt (hx : p.tables.exec = Jvm.exec) (hb : c.code = cc) {a off : Int} {tgt : Nat} (ha9 : inI a) (hdg : decode cc pc = .ok (.ifCond .gt off, 3)) (ht : (pc : Int) + off = (tgt : Int)) (kt : 0 < a → W p l e R s m args below meth c H locs cells slots Q (F0 m tgt ls rest)) (kf : a ≤ 0 → W p l e R s m args below meth c H locs cells slots Q (F0 m (pc + 3) ls rest)) : W p l e R s m args below meth c H locs cells slots Q (F0 m pc ls (.int (zI a) :: rest)) := by
  have hb9 := in0
  refine lv_if_gt hx hb hdg ht (fun h => kt ?_) (fun h => kf ?_) <;> rw [← zI_0] at h
  · exact (zI_lt hb9 ha9).mp h
  · exact Int.not_lt.mp fun q => h ((zI_lt hb9 ha9).mpr q)
theorem zr_lcmp_gt (hx : p.tables.exec = Jvm.exec) (hb : c.code = cc) {a b off : Int} {tgt : Nat} (ha9 : inL a) (hb9 : inL b) (hd0 : decode cc pc = .ok (.lcmp, 1)) (hdg : decode cc (pc + 1) = .ok (.ifCond .gt off, 3)) (ht : ((pc + 1 : Nat) : Int) + off = (tgt : Int)) (kt : b < a → W p l e R s m args below meth c H locs cells slots Q (F0 m tgt ls rest)) (kf : a ≤ b → W p l e R s m args below meth c H locs cells slots Q (F0 m (pc + 1 + 3) ls rest)) : W p l e R s m args below meth c H locs cells slots Q (F0 m pc ls (.long (zL b) :: .long (zL a) :: rest)) := by
  exact W.lcmp hx hb hd0 (lv_if_gt hx hb hdg ht (fun h => kt ((zL_lt hb9 ha9).mp ((lg_cmp_gt _ _).mp h))) (fun h => kf (Int.not_lt.mp fun q => h ((lg_cmp_gt _ _).mpr ((zL_lt hb9 ha9).mpr q)))))
theorem zr_icmp_le (hx : p.tables.exec = Jvm.exec) (hb : c.code = cc) {a b off : Int} {tgt : Nat} (ha9 : inI a) (hb9 : inI b) (hdg : decode cc pc = .ok (.if_icmp .le off, 3)) (ht : (pc : Int) + off = (tgt : Int)) (kt : a ≤ b → W p l e R s m args below meth c H locs cells slots Q (F0 m tgt ls rest)) (kf : b < a → W p l e R s m args below meth c H locs cells slots Q (F0 m (pc + 3) ls rest)) : W p l e R s m args below meth c H locs cells slots Q (F0 m pc ls (.int (zI b) :: .int (zI a) :: rest)) := by
  exact lv_icmp_le hx hb hdg ht (fun h => kt ((zI_le ha9 hb9).mp h)) (fun h => kf (Int.not_le.mp fun q => h ((zI_le ha9 hb9).mpr q)))
theorem zr_if_le (hx : p.tables.exec = Jvm.exec) (hb : c.code = cc) {a off : Int} {tgt : Nat} (ha9 : inI a) (hdg : decode cc pc = .ok (.ifCond .le off, 3)) (ht : (pc : Int) + off = (tgt : Int)) (kt : a ≤ 0 → W p l e R s m args below meth c H locs cells slots Q (F0 m tgt ls rest)) (kf : 0 < a → W p l e R s m args below meth c H locs cells slots Q (F0 m (pc + 3) ls rest)) : W p l e R s m args below meth c H locs cells slots Q (F0 m pc ls (.int (zI a) :: rest)) := by
  have hb9 := in0
  refine lv_if_le hx hb hdg ht (fun h => kt ?_) (fun h => kf ?_) <;> rw [← zI_0] at h
  · exact (zI_le ha9 hb9).mp h
  · exact Int.not_le.mp fun q => h ((zI_le ha9 hb9).mpr q)
theorem zr_lcmp_le (hx : p.tables.exec = Jvm.exec) (hb : c.code = cc) {a b off : Int} {tgt : Nat} (ha9 : inL a) (hb9 : inL b) (hd0 : decode cc pc = .ok (.lcmp, 1)) (hdg : decode cc (pc + 1) = .ok (.ifCond .le off, 3)) (ht : ((pc + 1 : Nat) : Int) + off = (tgt : Int)) (kt : a ≤ b → W p l e R s m args below meth c H locs cells slots Q (F0 m tgt ls rest)) (kf : b < a → W p l e R s m args below meth c H locs cells slots Q (F0 m (pc + 1 + 3) ls rest)) : W p l e R s m args below meth c H locs cells slots Q (F0 m pc ls (.long (zL b) :: .long (zL a) :: rest)) := by
  exact W.lcmp hx hb hd0 (lv_if_le hx hb hdg ht (fun h => kt ((zL_le ha9 hb9).mp ((lg_cmp_le _ _).mp h))) (fun h => kf (Int.not_le.mp fun q => h ((lg_cmp_le _ _).mpr ((zL_le ha9 hb9).mpr q)))))
end ZR
/-! one world: N cells at the addresses AD with the contents C -/
def wl (N : Nat) (AD : Int → Nat) (C : Int → va_E) : va_W := (List.range N).map (fun k : Nat => (AD (k : Int), C (k : Int)))
theorem wl_get {N : Nat} {AD : Int → Nat} {C : Int → va_E} {k : Int} (h0 : 0 ≤ k) (h : k < N) : (wl N AD C)[k.toNat]? = some (AD k, C k) := by
  unfold wl
  rw [List.getElem?_map, List.getElem?_range (by omega), Option.map_some, Int.toNat_of_nonneg h0]
theorem wl_at {N : Nat} {AD : Int → Nat} {C : Int → va_E} {i : Nat} {q : Nat × va_E} (h : (wl N AD C)[i]? = some q) : i < N ∧ q = (AD (i : Int), C (i : Int)) := by
  unfold wl at h
  rw [List.getElem?_map] at h
  by_cases hi : i < N
  · rw [List.getElem?_range hi] at h
    exact ⟨hi, (Option.some.inj h).symm⟩
  · rw [List.getElem?_eq_none (by rw [List.length_range]; omega)] at h
    cases h
theorem wl_of {N : Nat} {AD : Int → Nat} {C : Int → va_E} {i : Nat} (h : i < N) : (wl N AD C)[i]? = some (AD (i : Int), C (i : Int)) := by
  unfold wl
  rw [List.getElem?_map, List.getElem?_range h]
  rfl
theorem wl_set {N : Nat} {AD : Int → Nat} {C : Int → va_E} {k : Int} (h0 : 0 ≤ k) (e : va_E) : (wl N AD C).set k.toNat (AD k, e) = wl N AD (zup C k e) := by
  apply List.ext_getElem?
  intro i
  rw [List.getElem?_set]
  by_cases hN : i < N
  · rw [wl_of hN, wl_of hN]
    by_cases hi : k.toNat = i
    · subst hi
      have hl : k.toNat < (wl N AD C).length := by unfold wl; rw [List.length_map, List.length_range]; exact hN
      rw [if_pos rfl, if_pos hl, Int.toNat_of_nonneg h0, zup_s]
    · rw [if_neg hi, zup_n (by omega)]
  · have e1 : ∀ C' : Int → va_E, (wl N AD C')[i]? = none := fun C' => List.getElem?_eq_none (by unfold wl; rw [List.length_map, List.length_range]; omega)
    rw [e1, e1]
    by_cases hi : k.toNat = i
    · have hl : ¬ i < (wl N AD C).length := by unfold wl; rw [List.length_map, List.length_range]; exact hN
      rw [if_pos hi, hi, if_neg hl]
    · rw [if_neg hi]
theorem wl_push {N : Nat} {AD : Int → Nat} {C : Int → va_E} {q : Nat} {e : va_E} : wl N AD C ++ [(q, e)] = wl (N + 1) (zup AD (N : Int) q) (zup C (N : Int) e) := by
  unfold wl
  rw [List.range_succ, List.map_append]
  congr 1
  · apply List.map_congr_left
    intro i hi
    have := List.mem_range.mp hi
    rw [zup_n (by omega), zup_n (by omega)]
  · rw [List.map_singleton, zup_s, zup_s]
/-- the world stands, its cells apart and in A; outside A nothing has changed since H0 -/
def WD (D : va_G) (cl : List vw_C) (A : Nat → Prop) (H0 H : Heap) (locs : List Loc) (N : Nat) (AD : Int → Nat) (C : Int → va_E) : Prop := va_P D cl (wl N AD C) H ∧ va_D A (wl N AD C) ∧ va_S A H0 H locs
/-- an array of ints, by whole numbers -/
abbrev aI (cA : ClassId) (n : Nat) (f : Int → Int) : va_E := .inl (cA, n, .inl (fun j : Nat => zI (f (j : Int))))
abbrev aL (cA : ClassId) (n : Nat) (f : Int → Int) : va_E := .inl (cA, n, .inr (.inl (fun j : Nat => zL (f (j : Int)))))
abbrev aQ (cA : ClassId) (n : Nat) (f : Int → Option Nat) : va_E := .inl (cA, n, .inr (.inr (.inr (.inr (fun j : Nat => f (j : Int))))))
theorem aI_up {cA : ClassId} {n : Nat} {f : Int → Int} {z v : Int} (h0 : 0 ≤ z) : (.inl (cA, n, .inl (upd (fun j : Nat => zI (f (j : Int))) z.toNat (zI v))) : va_E) = aI cA n (zup f z v) := by
  unfold aI
  congr 4
  funext j
  unfold upd zup
  by_cases h : j = z.toNat
  · subst h; rw [if_pos rfl, Int.toNat_of_nonneg h0, if_pos rfl]
  · rw [if_neg h, if_neg (by omega)]
theorem aL_up {cA : ClassId} {n : Nat} {f : Int → Int} {z v : Int} (h0 : 0 ≤ z) : (.inl (cA, n, .inr (.inl (vp_updL (fun j : Nat => zL (f (j : Int))) z.toNat (zL v)))) : va_E) = aL cA n (zup f z v) := by
  unfold aL
  congr 5
  funext j
  unfold vp_updL zup
  by_cases h : j = z.toNat
  · subst h; rw [if_pos rfl, Int.toNat_of_nonneg h0, if_pos rfl]
  · rw [if_neg h, if_neg (by omega)]
theorem aQ_up {cA : ClassId} {n : Nat} {f : Int → Option Nat} {z : Int} {v : Option Nat} (h0 : 0 ≤ z) : (.inl (cA, n, .inr (.inr (.inr (.inr (va_up (fun j : Nat => f (j : Int)) z.toNat v))))) : va_E) = aQ cA n (zup f z v) := by
  unfold aQ
  congr 8
  funext j
  unfold va_up zup
  by_cases h : j = z.toNat
  · subst h; rw [if_pos rfl, Int.toNat_of_nonneg h0, if_pos rfl]
  · rw [if_neg h, if_neg (by omega)]
section ZW
variable {p : Program} {l : Launch} {e : Env} {R : Room} {s : State} {m : MethodId} {args : Array Value} {below : List Frame} {meth : Method} {c : Code} {H : Heap} {locs : List Loc} {cells slots : Nat} {Q : State → Prop} {cc : ByteArray} {pc : Nat} {ls : Array Slot} {rest : List Value}
variable {D : va_G} {cl : List vw_C} {tys : List (ClassId × FieldType)} {A : Nat → Prop} {N : Nat} {AD : Int → Nat} {C : Int → va_E} {H0 : Heap}
theorem zr_get (hx : p.tables.exec = Jvm.exec) (hb : c.code = cc) {own ref Cn : String} {T : u_T} {n ci index : Nat} {Ts : List Cond} (hts : ∀ w ∈ Ts, w.before args s = true) (hin : ∀ w ∈ u_ws Cn T n, w ∈ Ts) (hown : s.vm.findClass own = some m.cls) (hK : va_K D cl tys s) (hw : WD D cl A H0 H locs N AD C) (k : Int) (hk : 0 ≤ k ∧ k < N) {fs : List Value} (hC : C k = .inr (ci, fs)) (hc : cl[ci]? = some (Cn, T, n)) (f : Nat) (hf : f < n) (hlink : (Cond.fieldLink own index ref (T f).2.1 (T f).2.2.1).before args s = true) (hsame : ∀ x, s.fieldFound? (T f).1 (T f).2.1 (T f).2.2.1 = some x → s.fieldFound? ref (T f).2.1 (T f).2.2.1 = some x) {v : Value} (hv : fs[f]? = some v) (hdg : decode cc pc = .ok (.getfield index, 3)) (kk : W p l e R s m args below meth c H locs cells slots Q (F0 m (pc + 3) ls (v :: rest))) : W p l e R s m args below meth c H locs cells slots Q (F0 m pc ls (.ref (AD k) :: rest)) :=
  va_get hx hb hts hin hown hK hw.1 k.toNat (by rw [wl_get hk.1 hk.2, hC]) hc f hf hlink hsame hv hdg kk
theorem zr_put (hx : p.tables.exec = Jvm.exec) (hb : c.code = cc) {own ref Cn : String} {T : u_T} {n ci index : Nat} {Ts : List Cond} (hts : ∀ w ∈ Ts, w.before args s = true) (hin : ∀ w ∈ u_ws Cn T n, w ∈ Ts) (ty0 : Nat → FieldType) (hty : ∀ k, k < n → parseFieldDescriptor (T k).2.2.1 = some (ty0 k)) (hnm : ∀ a, a < n → ∀ b, b < n → a ≠ b → (T a).2.1 ≠ (T b).2.1) (hown : s.vm.findClass own = some m.cls) (hK : va_K D cl tys s) (hw : WD D cl A H0 H locs N AD C) (k : Int) (hk : 0 ≤ k ∧ k < N) {fs : List Value} (hC : C k = .inr (ci, fs)) (hc : cl[ci]? = some (Cn, T, n)) (f : Nat) (hf : f < n) (hlink : (Cond.fieldLink own index ref (T f).2.1 (T f).2.2.1).before args s = true) (hsame : ∀ x, s.fieldFound? (T f).1 (T f).2.1 (T f).2.2.1 = some x → s.fieldFound? ref (T f).2.1 (T f).2.2.1 = some x) (hfin : (T f).2.2.2 = false) {ty : FieldType} {v : Value} (hd : parseFieldDescriptor (T f).2.2.1 = some ty) (hn : narrow ty v = v) (hfit : fits ty v = true) (hl : f < fs.length) (hdg : decode cc pc = .ok (.putfield index, 3)) (kk : ∀ (H1 : Heap) (locs1 : List Loc), WD D cl A H0 H1 locs1 N AD (zup C k (.inr (ci, fs.set f v))) → W p l e R s m args below meth c H1 locs1 cells slots Q (F0 m (pc + 3) ls rest)) : W p l e R s m args below meth c H locs cells slots Q (F0 m pc ls (v :: .ref (AD k) :: rest)) :=
  va_put hx hb hts hin ty0 hty hnm hown hK hw.1 hw.2.1 hw.2.2 k.toNat (by rw [wl_get hk.1 hk.2, hC]) hc f hf hlink hsame hfin hd hn hfit hl hdg (fun H1 locs1 h1 h2 h3 => kk H1 locs1 ⟨by rw [← wl_set hk.1]; exact h1, by rw [← wl_set hk.1]; exact h2, h3⟩)
theorem zr_putF (hx : p.tables.exec = Jvm.exec) (hb : c.code = cc) {own ref Cn : String} {T : u_T} {n ci index : Nat} {Ts : List Cond} (hts : ∀ w ∈ Ts, w.before args s = true) (hin : ∀ w ∈ u_ws Cn T n, w ∈ Ts) (ty0 : Nat → FieldType) (hty : ∀ k, k < n → parseFieldDescriptor (T k).2.2.1 = some (ty0 k)) (hnm : ∀ a, a < n → ∀ b, b < n → a ≠ b → (T a).2.1 ≠ (T b).2.1) (hown : s.vm.findClass own = some m.cls) (hK : va_K D cl tys s) (hw : WD D cl A H0 H locs N AD C) (k : Int) (hk : 0 ≤ k ∧ k < N) {fs : List Value} (hC : C k = .inr (ci, fs)) (hc : cl[ci]? = some (Cn, T, n)) (f : Nat) (hf : f < n) (hlink : (Cond.fieldLink own index ref (T f).2.1 (T f).2.2.1).before args s = true) (hsame : ∀ x, s.fieldFound? (T f).1 (T f).2.1 (T f).2.2.1 = some x → s.fieldFound? ref (T f).2.1 (T f).2.2.1 = some x) (hfin : (T f).2.2.2 = true) (hin2 : meth.name = "<init>") (hdecl : (T f).1 = own) {ty : FieldType} {v : Value} (hd : parseFieldDescriptor (T f).2.2.1 = some ty) (hn : narrow ty v = v) (hfit : fits ty v = true) (hl : f < fs.length) (hdg : decode cc pc = .ok (.putfield index, 3)) (kk : ∀ (H1 : Heap) (locs1 : List Loc), WD D cl A H0 H1 locs1 N AD (zup C k (.inr (ci, fs.set f v))) → W p l e R s m args below meth c H1 locs1 cells slots Q (F0 m (pc + 3) ls rest)) : W p l e R s m args below meth c H locs cells slots Q (F0 m pc ls (v :: .ref (AD k) :: rest)) :=
  va_putF hx hb hts hin ty0 hty hnm hown hK hw.1 hw.2.1 hw.2.2 k.toNat (by rw [wl_get hk.1 hk.2, hC]) hc f hf hlink hsame hfin hin2 hdecl hd hn hfit hl hdg (fun H1 locs1 h1 h2 h3 => kk H1 locs1 ⟨by rw [← wl_set hk.1]; exact h1, by rw [← wl_set hk.1]; exact h2, h3⟩)
theorem zr_iald (hx : p.tables.exec = Jvm.exec) (hb : c.code = cc) (hK : va_K D cl tys s) (hw : WD D cl A H0 H locs N AD C) (k : Int) (hk : 0 ≤ k ∧ k < N) (t0 : Nat) {cA : ClassId} {n : Nat} {f : Int → Int} (hC : C k = aI cA n f) (ht : tys[t0]? = some (cA, .int)) {z : Int} (hz : 0 ≤ z ∧ z < n) (hn : n < 2147483648) (hdg : decode cc pc = .ok (.iaload, 1)) (kk : W p l e R s m args below meth c H locs cells slots Q (F0 m (pc + 1) ls (.int (zI (f z)) :: rest))) : W p l e R s m args below meth c H locs cells slots Q (F0 m pc ls (.int (zI z) :: .ref (AD k) :: rest)) := by
  refine va_iald hx hb hK hw.1 k.toNat t0 (by rw [wl_get hk.1 hk.2, hC]) ht (zI_in hz.1 hz.2 hn) hdg ?_
  rw [zI_cl hz.1 (by omega), Int.toNat_of_nonneg hz.1]
  exact kk
theorem zr_zald (hx : p.tables.exec = Jvm.exec) (hb : c.code = cc) (hK : va_K D cl tys s) (hw : WD D cl A H0 H locs N AD C) (k : Int) (hk : 0 ≤ k ∧ k < N) (t0 : Nat) {cA : ClassId} {n : Nat} {f : Int → Int} (hC : C k = aI cA n f) (ht : tys[t0]? = some (cA, .boolean)) {z : Int} (hz : 0 ≤ z ∧ z < n) (hn : n < 2147483648) (hdg : decode cc pc = .ok (.baload, 1)) (kk : W p l e R s m args below meth c H locs cells slots Q (F0 m (pc + 1) ls (.int (zI (f z)) :: rest))) : W p l e R s m args below meth c H locs cells slots Q (F0 m pc ls (.int (zI z) :: .ref (AD k) :: rest)) := by
  refine va_zald hx hb hK hw.1 k.toNat t0 (by rw [wl_get hk.1 hk.2, hC]) ht (zI_in hz.1 hz.2 hn) hdg ?_
  rw [zI_cl hz.1 (by omega), Int.toNat_of_nonneg hz.1]
  exact kk
theorem zr_bald (hx : p.tables.exec = Jvm.exec) (hb : c.code = cc) (hK : va_K D cl tys s) (hw : WD D cl A H0 H locs N AD C) (k : Int) (hk : 0 ≤ k ∧ k < N) (t0 : Nat) {cA : ClassId} {n : Nat} {f : Int → Int} (hC : C k = aI cA n f) (ht : tys[t0]? = some (cA, .byte)) {z : Int} (hz : 0 ≤ z ∧ z < n) (hn : n < 2147483648) (hdg : decode cc pc = .ok (.baload, 1)) (kk : W p l e R s m args below meth c H locs cells slots Q (F0 m (pc + 1) ls (.int (zI (f z)) :: rest))) : W p l e R s m args below meth c H locs cells slots Q (F0 m pc ls (.int (zI z) :: .ref (AD k) :: rest)) := by
  refine va_bald hx hb hK hw.1 k.toNat t0 (by rw [wl_get hk.1 hk.2, hC]) ht (zI_in hz.1 hz.2 hn) hdg ?_
  rw [zI_cl hz.1 (by omega), Int.toNat_of_nonneg hz.1]
  exact kk
theorem zr_lald (hx : p.tables.exec = Jvm.exec) (hb : c.code = cc) (hK : va_K D cl tys s) (hw : WD D cl A H0 H locs N AD C) (k : Int) (hk : 0 ≤ k ∧ k < N) (t0 : Nat) {cA : ClassId} {n : Nat} {f : Int → Int} (hC : C k = aL cA n f) (ht : tys[t0]? = some (cA, .long)) {z : Int} (hz : 0 ≤ z ∧ z < n) (hn : n < 2147483648) (hdg : decode cc pc = .ok (.laload, 1)) (kk : W p l e R s m args below meth c H locs cells slots Q (F0 m (pc + 1) ls (.long (zL (f z)) :: rest))) : W p l e R s m args below meth c H locs cells slots Q (F0 m pc ls (.int (zI z) :: .ref (AD k) :: rest)) := by
  refine va_lald hx hb hK hw.1 k.toNat t0 (by rw [wl_get hk.1 hk.2, hC]) ht (zI_in hz.1 hz.2 hn) hdg ?_
  rw [zI_cl hz.1 (by omega), Int.toNat_of_nonneg hz.1]
  exact kk
theorem zr_aldq (hx : p.tables.exec = Jvm.exec) (hb : c.code = cc) (hK : va_K D cl tys s) (hw : WD D cl A H0 H locs N AD C) (k : Int) (hk : 0 ≤ k ∧ k < N) (t0 : Nat) {cA : ClassId} {Cn : String} {n : Nat} {f : Int → Option Nat} (hC : C k = aQ cA n f) (ht : tys[t0]? = some (cA, .object Cn)) {z : Int} (hz : 0 ≤ z ∧ z < n) (hn : n < 2147483648) {v : Nat} (hv : f z = some v) (hdg : decode cc pc = .ok (.aaload, 1)) (kk : W p l e R s m args below meth c H locs cells slots Q (F0 m (pc + 1) ls (.ref v :: rest))) : W p l e R s m args below meth c H locs cells slots Q (F0 m pc ls (.int (zI z) :: .ref (AD k) :: rest)) := by
  refine va_aldq hx hb hK hw.1 k.toNat t0 (by rw [wl_get hk.1 hk.2, hC]) ht (zI_in hz.1 hz.2 hn) hdg ?_
  rw [zI_cl hz.1 (by omega), Int.toNat_of_nonneg hz.1, hv]
  exact kk
theorem zr_iast (hx : p.tables.exec = Jvm.exec) (hb : c.code = cc) (hK : va_K D cl tys s) (hw : WD D cl A H0 H locs N AD C) (k : Int) (hk : 0 ≤ k ∧ k < N) (t0 : Nat) {cA : ClassId} {n : Nat} {f : Int → Int} (hC : C k = aI cA n f) (ht : tys[t0]? = some (cA, .int)) {z v : Int} (hz : 0 ≤ z ∧ z < n) (hn : n < 2147483648) (hdg : decode cc pc = .ok (.iastore, 1)) (kk : ∀ (H1 : Heap) (locs1 : List Loc), WD D cl A H0 H1 locs1 N AD (zup C k (aI cA n (zup f z v))) → W p l e R s m args below meth c H1 locs1 cells slots Q (F0 m (pc + 1) ls rest)) : W p l e R s m args below meth c H locs cells slots Q (F0 m pc ls (.int (zI v) :: .int (zI z) :: .ref (AD k) :: rest)) := by
  refine va_iast hx hb hK hw.1 hw.2.1 hw.2.2 k.toNat t0 (by rw [wl_get hk.1 hk.2, hC]) ht (zI_in hz.1 hz.2 hn) hdg (fun H1 locs1 h1 h2 h3 => kk H1 locs1 ?_)
  rw [zI_cl hz.1 (by omega), aI_up hz.1, wl_set hk.1] at h1 h2
  exact ⟨h1, h2, h3⟩
theorem zr_zast (hx : p.tables.exec = Jvm.exec) (hb : c.code = cc) (hK : va_K D cl tys s) (hw : WD D cl A H0 H locs N AD C) (k : Int) (hk : 0 ≤ k ∧ k < N) (t0 : Nat) {cA : ClassId} {n : Nat} {f : Int → Int} (hC : C k = aI cA n f) (ht : tys[t0]? = some (cA, .boolean)) {z v : Int} (hz : 0 ≤ z ∧ z < n) (hn : n < 2147483648) (hv : v = 0 ∨ v = 1) (hdg : decode cc pc = .ok (.bastore, 1)) (kk : ∀ (H1 : Heap) (locs1 : List Loc), WD D cl A H0 H1 locs1 N AD (zup C k (aI cA n (zup f z v))) → W p l e R s m args below meth c H1 locs1 cells slots Q (F0 m (pc + 1) ls rest)) : W p l e R s m args below meth c H locs cells slots Q (F0 m pc ls (.int (zI v) :: .int (zI z) :: .ref (AD k) :: rest)) := by
  have hv9 : vp_nar .boolean (zI v) = zI v := by rcases hv with rfl | rfl <;> decide +kernel
  refine va_zast hx hb hK hw.1 hw.2.1 hw.2.2 k.toNat t0 (by rw [wl_get hk.1 hk.2, hC]) ht (zI_in hz.1 hz.2 hn) hdg (fun H1 locs1 h1 h2 h3 => kk H1 locs1 ?_)
  rw [hv9, zI_cl hz.1 (by omega), aI_up hz.1, wl_set hk.1] at h1 h2
  exact ⟨h1, h2, h3⟩
theorem zr_last (hx : p.tables.exec = Jvm.exec) (hb : c.code = cc) (hK : va_K D cl tys s) (hw : WD D cl A H0 H locs N AD C) (k : Int) (hk : 0 ≤ k ∧ k < N) (t0 : Nat) {cA : ClassId} {n : Nat} {f : Int → Int} (hC : C k = aL cA n f) (ht : tys[t0]? = some (cA, .long)) {z v : Int} (hz : 0 ≤ z ∧ z < n) (hn : n < 2147483648) (hdg : decode cc pc = .ok (.lastore, 1)) (kk : ∀ (H1 : Heap) (locs1 : List Loc), WD D cl A H0 H1 locs1 N AD (zup C k (aL cA n (zup f z v))) → W p l e R s m args below meth c H1 locs1 cells slots Q (F0 m (pc + 1) ls rest)) : W p l e R s m args below meth c H locs cells slots Q (F0 m pc ls (.long (zL v) :: .int (zI z) :: .ref (AD k) :: rest)) := by
  refine va_last hx hb hK hw.1 hw.2.1 hw.2.2 k.toNat t0 (by rw [wl_get hk.1 hk.2, hC]) ht (zI_in hz.1 hz.2 hn) hdg (fun H1 locs1 h1 h2 h3 => kk H1 locs1 ?_)
  rw [zI_cl hz.1 (by omega), aL_up hz.1, wl_set hk.1] at h1 h2
  exact ⟨h1, h2, h3⟩
theorem zr_astq (hx : p.tables.exec = Jvm.exec) (hb : c.code = cc) (hK : va_K D cl tys s) (hw : WD D cl A H0 H locs N AD C) (k : Int) (hk : 0 ≤ k ∧ k < N) (t0 : Nat) (kv : Int) (hkv : 0 ≤ kv ∧ kv < N) (ci : Nat) {cA : ClassId} {r : vw_C} {n : Nat} {vs : List Value} {f : Int → Option Nat} (hC : C k = aQ cA n f) (ht : tys[t0]? = some (cA, .object r.1)) (hv : C kv = .inr (ci, vs)) (hc : cl[ci]? = some r) {z : Int} (hz : 0 ≤ z ∧ z < n) (hn : n < 2147483648) (hdg : decode cc pc = .ok (.aastore, 1)) (kk : ∀ (H1 : Heap) (locs1 : List Loc), WD D cl A H0 H1 locs1 N AD (zup C k (aQ cA n (zup f z (some (AD kv))))) → W p l e R s m args below meth c H1 locs1 cells slots Q (F0 m (pc + 1) ls rest)) : W p l e R s m args below meth c H locs cells slots Q (F0 m pc ls (.ref (AD kv) :: .int (zI z) :: .ref (AD k) :: rest)) := by
  refine va_astq hx hb hK hw.1 hw.2.1 hw.2.2 k.toNat t0 kv.toNat ci (by rw [wl_get hk.1 hk.2, hC]) ht (by rw [wl_get hkv.1 hkv.2, hv]) hc (zI_in hz.1 hz.2 hn) hdg (fun H1 locs1 h1 h2 h3 => kk H1 locs1 ?_)
  rw [zI_cl hz.1 (by omega), aQ_up hz.1, wl_set hk.1] at h1 h2
  exact ⟨h1, h2, h3⟩
theorem zr_alen (hx : p.tables.exec = Jvm.exec) (hb : c.code = cc) (hK : va_K D cl tys s) (hw : WD D cl A H0 H locs N AD C) (k : Int) (hk : 0 ≤ k ∧ k < N) (t0 : Nat) {cA : ClassId} {x : vp_A} {ty : FieldType} (hC : C k = .inl (cA, x)) (ht : tys[t0]? = some (cA, ty)) (hdg : decode cc pc = .ok (.arraylength, 1)) (kk : W p l e R s m args below meth c H locs cells slots Q (F0 m (pc + 1) ls (.int (zI (x.1 : Int)) :: rest))) : W p l e R s m args below meth c H locs cells slots Q (F0 m pc ls (.ref (AD k) :: rest)) :=
  va_alen hx hb hK hw.1 k.toNat t0 (by rw [wl_get hk.1 hk.2, hC]) ht (v := zI (x.1 : Int)) (Int32.ofInt_eq_ofNat).symm hdg kk
end ZW
end
section
/-! contracts over one world -/
def wA (N : Nat) (AD : Int → Nat) (sz : Nat) : Nat → Prop := fun q => (∃ k : Int, 0 ≤ k ∧ k < (N : Int) ∧ q = AD k) ∨ sz ≤ q
theorem wA_D {B : Nat → Prop} {N : Nat} {AD : Int → Nat} {C : Int → va_E} {sz : Nat} (h : va_D B (wl N AD C)) : va_D (wA N AD sz) (wl N AD C) := by
  refine ⟨h.1, fun k q hk => ?_⟩
  obtain ⟨h1, rfl⟩ := wl_at hk
  exact Or.inl ⟨(k : Int), by omega, by omega, rfl⟩
theorem wA_free {D : va_G} {cl : List vw_C} {A : Nat → Prop} {H0 H : Heap} {locs : List Loc} {N : Nat} {AD : Int → Nat} {C : Int → va_E} (hw : WD D cl A H0 H locs N AD C) (hA : ∀ q, H0.size ≤ q → A q) : ∀ q, wA N AD H.size q → A q := by
  intro q h
  rcases h with ⟨k, h0, h1, rfl⟩ | h
  · exact hw.2.1.2 k.toNat (AD k, C k) (wl_get h0 h1)
  · exact hA q (Nat.le_trans hw.2.2.1 h)
theorem wA_hi {N : Nat} {AD : Int → Nat} {sz : Nat} {s : State} (h : s.heap.size = sz) : ∀ q, s.heap.size ≤ q → wA N AD sz q := fun q hq => Or.inr (by omega)
def cPre (D : va_G) (cl : List vw_C) (tys : List (ClassId × FieldType)) (N : Nat) (AD : Int → Nat) (C : Int → va_E) (sz : Nat) : State → Prop := fun U => U.heap.size = sz ∧ va_P D cl (wl N AD C) U.heap ∧ va_K D cl tys U ∧ va_D (fun _ => True) (wl N AD C)
theorem cPre_blind {av : List Value} {D : va_G} {cl : List vw_C} {tys : List (ClassId × FieldType)} {N : Nat} {AD : Int → Nat} {C : Int → va_E} {sz : Nat} : FrameBlind (va_Pc av (cPre D cl tys N AD C sz)) := fun a U g mk q => by
  obtain ⟨q0, q1, qP, qK, qD⟩ := q
  exact ⟨q0, q1, qP, va_K.moved (u := U) (U := U.calling g mk a) (Vm.Alike.refl U.vm) qK, qD⟩
theorem cPre_all {s : State} {av : List Value} {D : va_G} {cl : List vw_C} {tys : List (ClassId × FieldType)} {A : Nat → Prop} {H0 H : Heap} {locs : List Loc} {N : Nat} {AD : Int → Nat} {C : Int → va_E} (hK : va_K D cl tys s) (hw : WD D cl A H0 H locs N AD C) : ∀ U : State, U.heap = H → s.WarmedH U.vm → va_Pc av (cPre D cl tys N AD C H.size) av.toArray U := fun U hU hW =>
  ⟨rfl, by rw [hU], by rw [hU]; exact hw.1, va_K.moved hW.alike hK, hw.2.1.weaken (fun _ _ _ _ => trivial)⟩
theorem cPre_V {s : State} {As : List Value} {D : va_G} {cl : List vw_C} {tys : List (ClassId × FieldType)} {A : Nat → Prop} {H0 H : Heap} {locs : List Loc} {N : Nat} {AD : Int → Nat} {C : Int → va_E} (hK : va_K D cl tys s) (hw : WD D cl A H0 H locs N AD C) (k : Int) (hk : 0 ≤ k ∧ k < N) {ci : Nat} {fs : List Value} (hC : C k = .inr (ci, fs)) {q : vw_C} (hc : cl[ci]? = some q) : PreV s H q.1 (AD k) (va_Pc (.ref (AD k) :: As) (cPre D cl tys N AD C H.size)) As :=
  ⟨cPre_blind, va_recv hK hw.1 hc (by rw [wl_get hk.1 hk.2, hC]), fun U hU hW => cPre_all hK hw U hU hW⟩
theorem cPre_S {s : State} {As : List Value} {D : va_G} {cl : List vw_C} {tys : List (ClassId × FieldType)} {A : Nat → Prop} {H0 H : Heap} {locs : List Loc} {N : Nat} {AD : Int → Nat} {C : Int → va_E} (hK : va_K D cl tys s) (hw : WD D cl A H0 H locs N AD C) : PreS s H (va_Pc As (cPre D cl tys N AD C H.size)) As :=
  ⟨cPre_blind, fun U hU hW => cPre_all hK hw U hU hW⟩
def cB (D : va_G) (cl : List vw_C) (tys : List (ClassId × FieldType)) (N : Nat) (AD : Int → Nat) (sz : Nat) : (Int → va_E) → State → Prop := fun C' t => va_P D cl (wl N AD C') t.heap ∧ va_K D cl tys t ∧ va_D (wA N AD sz) (wl N AD C')
def MI (l : Launch) (y : MethodName) (ws : List Cond) (rm : Room) (D : va_G) (cl : List vw_C) (tys : List (ClassId × FieldType)) (N : Nat) (AD : Int → Nat) (C : Int → va_E) (sz : Nat) (av : List Value) (post : Int32 → (Int → va_E) → Prop) : Prop := Met l y ws rm (va_Pc av (cPre D cl tys N AD C sz)) (va_Qi post (cB D cl tys N AD sz) (wA N AD sz)) 0 0 (wA N AD sz)
theorem MI.start {l : Launch} {y : MethodName} {ws ws' : List Cond} {rm : Room} {D : va_G} {cl : List vw_C} {tys : List (ClassId × FieldType)} {N : Nat} {AD : Int → Nat} {C : Int → va_E} {sz : Nat} {av : List Value} {post : Int32 → (Int → va_E) → Prop} {cc : ByteArray} {maxL : Nat} {rt : FieldType} (hy : plainName y.cls = true) (hws : ws = Cond.code y cc maxL (some rt) :: ws') (hlen : (lg_sl av).length ≤ maxL)
    (body : ∀ (p : Program) (e : Env) (s : State) (m : MethodId) (args : Array Value) (below : List Frame) (meth : Method) (c : Code) (Q : State → Prop) (ls : Array Slot), p.tables.exec = Jvm.exec → c.code = cc → c.maxLocals = maxL → s.vm.findClass y.cls = some m.cls → (∀ w ∈ ws', w.before args s = true) → va_K D cl tys s → s.heap.size = sz → WD D cl (wA N AD sz) s.heap s.heap [] N AD C → lv_has ls maxL (lv_args 0 av) →
      (∀ (r : Int32) (C' : Int → va_E) (H : Heap) (locs : List Loc) (pc : Nat) (ls : Array Slot), decode cc pc = .ok (.ireturn, 1) → WD D cl (wA N AD sz) s.heap H locs N AD C' → narrow rt (.int r) = .int r → post r C' → W p l e rm s m args below meth c H locs 0 0 Q (F0 m pc ls [.int r])) →
      W p l e rm s m args below meth c s.heap [] 0 0 Q (F0 m 0 ls [])) : MI l y ws rm D cl tys N AD C sz av post := by
  refine Met.ofW (cc := cc) (maxL := maxL) (ret := (some rt)) hy hws ?_
  intro p e s m args below meth c s₁ B hml hv
  obtain ⟨rfl, hsz, hP, hK, hD0⟩ := hv
  rw [lg_entry_eq]
  refine body p e s m _ below meth c _ _ B.exec B.bytes hml (findClass_of_methodNamed B.named) (fun w h => atoms_spec (ws := ws) B.pre w (by rw [hws]; exact List.mem_cons_of_mem _ h)) hK hsz ⟨hP, wA_D hD0, va_S.rf⟩ (lv_entry av (n := maxL) hlen) ?_
  intro r C' H locs pc ls hdg hw hn hp
  exact W.zret B.exec B.bytes B.returns hn (fun t ht hW => ⟨⟨r, C', rfl, hp, by rw [ht]; exact hw.1, va_K.moved hW.alike hK, hw.2.1⟩, hw.2.2.F ht⟩) hw.2.2.2.2 hdg B.notSynchronized
def ML (l : Launch) (y : MethodName) (ws : List Cond) (rm : Room) (D : va_G) (cl : List vw_C) (tys : List (ClassId × FieldType)) (N : Nat) (AD : Int → Nat) (C : Int → va_E) (sz : Nat) (av : List Value) (post : Int64 → (Int → va_E) → Prop) : Prop := Met l y ws rm (va_Pc av (cPre D cl tys N AD C sz)) (va_Ql post (cB D cl tys N AD sz) (wA N AD sz)) 0 0 (wA N AD sz)
theorem ML.start {l : Launch} {y : MethodName} {ws ws' : List Cond} {rm : Room} {D : va_G} {cl : List vw_C} {tys : List (ClassId × FieldType)} {N : Nat} {AD : Int → Nat} {C : Int → va_E} {sz : Nat} {av : List Value} {post : Int64 → (Int → va_E) → Prop} {cc : ByteArray} {maxL : Nat} (hy : plainName y.cls = true) (hws : ws = Cond.code y cc maxL (some .long) :: ws') (hlen : (lg_sl av).length ≤ maxL)
    (body : ∀ (p : Program) (e : Env) (s : State) (m : MethodId) (args : Array Value) (below : List Frame) (meth : Method) (c : Code) (Q : State → Prop) (ls : Array Slot), p.tables.exec = Jvm.exec → c.code = cc → c.maxLocals = maxL → s.vm.findClass y.cls = some m.cls → (∀ w ∈ ws', w.before args s = true) → va_K D cl tys s → s.heap.size = sz → WD D cl (wA N AD sz) s.heap s.heap [] N AD C → lv_has ls maxL (lv_args 0 av) →
      (∀ (r : Int64) (C' : Int → va_E) (H : Heap) (locs : List Loc) (pc : Nat) (ls : Array Slot), decode cc pc = .ok (.lreturn, 1) → WD D cl (wA N AD sz) s.heap H locs N AD C' → post r C' → W p l e rm s m args below meth c H locs 0 0 Q (F0 m pc ls [.long r])) →
      W p l e rm s m args below meth c s.heap [] 0 0 Q (F0 m 0 ls [])) : ML l y ws rm D cl tys N AD C sz av post := by
  refine Met.ofW (cc := cc) (maxL := maxL) (ret := (some .long)) hy hws ?_
  intro p e s m args below meth c s₁ B hml hv
  obtain ⟨rfl, hsz, hP, hK, hD0⟩ := hv
  rw [lg_entry_eq]
  refine body p e s m _ below meth c _ _ B.exec B.bytes hml (findClass_of_methodNamed B.named) (fun w h => atoms_spec (ws := ws) B.pre w (by rw [hws]; exact List.mem_cons_of_mem _ h)) hK hsz ⟨hP, wA_D hD0, va_S.rf⟩ (lv_entry av (n := maxL) hlen) ?_
  intro r C' H locs pc ls hdg hw hp
  exact W.lret B.exec B.bytes B.returns (fun t ht hW => ⟨⟨r, C', rfl, hp, by rw [ht]; exact hw.1, va_K.moved hW.alike hK, hw.2.1⟩, hw.2.2.F ht⟩) hw.2.2.2.2 hdg B.notSynchronized
def MV (l : Launch) (y : MethodName) (ws : List Cond) (rm : Room) (D : va_G) (cl : List vw_C) (tys : List (ClassId × FieldType)) (N : Nat) (AD : Int → Nat) (C : Int → va_E) (sz : Nat) (av : List Value) (post : (Int → va_E) → Prop) : Prop := Met l y ws rm (va_Pc av (cPre D cl tys N AD C sz)) (va_Qv post (cB D cl tys N AD sz) (wA N AD sz)) 0 0 (wA N AD sz)
theorem MV.start {l : Launch} {y : MethodName} {ws ws' : List Cond} {rm : Room} {D : va_G} {cl : List vw_C} {tys : List (ClassId × FieldType)} {N : Nat} {AD : Int → Nat} {C : Int → va_E} {sz : Nat} {av : List Value} {post : (Int → va_E) → Prop} {cc : ByteArray} {maxL : Nat} (hy : plainName y.cls = true) (hws : ws = Cond.code y cc maxL none :: ws') (hlen : (lg_sl av).length ≤ maxL)
    (body : ∀ (p : Program) (e : Env) (s : State) (m : MethodId) (args : Array Value) (below : List Frame) (meth : Method) (c : Code) (Q : State → Prop) (ls : Array Slot), p.tables.exec = Jvm.exec → c.code = cc → c.maxLocals = maxL → s.vm.findClass y.cls = some m.cls → (∀ w ∈ ws', w.before args s = true) → va_K D cl tys s → s.heap.size = sz → WD D cl (wA N AD sz) s.heap s.heap [] N AD C → lv_has ls maxL (lv_args 0 av) →
      (∀ (C' : Int → va_E) (H : Heap) (locs : List Loc) (pc : Nat) (ls : Array Slot), decode cc pc = .ok (.return_, 1) → WD D cl (wA N AD sz) s.heap H locs N AD C' → post C' → W p l e rm s m args below meth c H locs 0 0 Q (F0 m pc ls [])) →
      W p l e rm s m args below meth c s.heap [] 0 0 Q (F0 m 0 ls [])) : MV l y ws rm D cl tys N AD C sz av post := by
  refine Met.ofW (cc := cc) (maxL := maxL) (ret := none) hy hws ?_
  intro p e s m args below meth c s₁ B hml hv
  obtain ⟨rfl, hsz, hP, hK, hD0⟩ := hv
  rw [lg_entry_eq]
  refine body p e s m _ below meth c _ _ B.exec B.bytes hml (findClass_of_methodNamed B.named) (fun w h => atoms_spec (ws := ws) B.pre w (by rw [hws]; exact List.mem_cons_of_mem _ h)) hK hsz ⟨hP, wA_D hD0, va_S.rf⟩ (lv_entry av (n := maxL) hlen) ?_
  intro C' H locs pc ls hdg hw hp
  exact W.vret B.exec B.bytes B.returns (fun t ht hW => ⟨⟨C', rfl, hp, by rw [ht]; exact hw.1, va_K.moved hW.alike hK, hw.2.1⟩, hw.2.2.F ht⟩) hw.2.2.2.2 hdg B.notSynchronized
section ZC
variable {p : Program} {l : Launch} {e : Env} {R : Room} {s : State} {m : MethodId} {args : Array Value} {below : List Frame} {meth : Method} {c : Code} {H : Heap} {locs : List Loc} {cells slots : Nat} {Q : State → Prop} {pc : Nat} {ls : Array Slot} {rest st0 : List Value} {a : Array Value}
variable {D : va_G} {cl : List vw_C} {tys : List (ClassId × FieldType)} {A : Nat → Prop} {N : Nat} {AD : Int → Nat} {C : Int → va_E}
theorem zr_callI {post : Int32 → (Int → va_E) → Prop} (hr : va_Run p l e R s m args below meth c H locs cells slots 0 0 (F0 m pc ls st0) rest (va_Qi post (cB D cl tys N AD H.size) (wA N AD H.size) a) (wA N AD H.size)) (hw : WD D cl A s.heap H locs N AD C) (hA : ∀ q, s.heap.size ≤ q → A q)
    (kk : ∀ (r : Int32) (C' : Int → va_E) (H1 : Heap) (locs1 : List Loc), post r C' → WD D cl A s.heap H1 locs1 N AD C' → W p l e R s m args below meth c H1 locs1 cells slots Q (F0 m (pc + 3) ls (.int r :: rest))) : W p l e R s m args below meth c H locs cells slots Q (F0 m pc ls st0) := by
  have hF := wA_free hw hA
  refine va_calli hr hw.2.2 (fun q _ h => hF q h) hF (fun r C' t H1 locs1 ht hvm hp hB hz hk hS => ?_)
  exact kk r C' H1 locs1 hp ⟨by rw [← ht]; exact hB.1, hB.2.2.weaken (fun k q _ h => hF q.1 h), hS⟩
theorem zr_callL {post : Int64 → (Int → va_E) → Prop} (hr : va_Run p l e R s m args below meth c H locs cells slots 0 0 (F0 m pc ls st0) rest (va_Ql post (cB D cl tys N AD H.size) (wA N AD H.size) a) (wA N AD H.size)) (hw : WD D cl A s.heap H locs N AD C) (hA : ∀ q, s.heap.size ≤ q → A q)
    (kk : ∀ (r : Int64) (C' : Int → va_E) (H1 : Heap) (locs1 : List Loc), post r C' → WD D cl A s.heap H1 locs1 N AD C' → W p l e R s m args below meth c H1 locs1 cells slots Q (F0 m (pc + 3) ls (.long r :: rest))) : W p l e R s m args below meth c H locs cells slots Q (F0 m pc ls st0) := by
  have hF := wA_free hw hA
  refine va_calll hr hw.2.2 (fun q _ h => hF q h) hF (fun r C' t H1 locs1 ht hvm hp hB hz hk hS => ?_)
  exact kk r C' H1 locs1 hp ⟨by rw [← ht]; exact hB.1, hB.2.2.weaken (fun k q _ h => hF q.1 h), hS⟩
theorem zr_callV {post : (Int → va_E) → Prop} (hr : va_Run p l e R s m args below meth c H locs cells slots 0 0 (F0 m pc ls st0) rest (va_Qv post (cB D cl tys N AD H.size) (wA N AD H.size) a) (wA N AD H.size)) (hw : WD D cl A s.heap H locs N AD C) (hA : ∀ q, s.heap.size ≤ q → A q)
    (kk : ∀ (C' : Int → va_E) (H1 : Heap) (locs1 : List Loc), post C' → WD D cl A s.heap H1 locs1 N AD C' → W p l e R s m args below meth c H1 locs1 cells slots Q (F0 m (pc + 3) ls rest)) : W p l e R s m args below meth c H locs cells slots Q (F0 m pc ls st0) := by
  have hF := wA_free hw hA
  refine va_callv hr hw.2.2 (fun q _ h => hF q h) hF (fun C' t H1 locs1 ht hvm hp hB hz hk hS => ?_)
  exact kk C' H1 locs1 hp ⟨by rw [← ht]; exact hB.1, hB.2.2.weaken (fun k q _ h => hF q.1 h), hS⟩
end ZC
end
section
/-! new cells at the world's end: addresses are AD N, one behind the other -/
theorem wl_pushA {N : Nat} {AD : Int → Nat} {C : Int → va_E} {e : va_E} : wl N AD C ++ [(AD (N : Int), e)] = wl (N + 1) AD (zup C (N : Int) e) := by
  rw [wl_push]
  congr 1
  funext j
  unfold zup
  by_cases h : j = (N : Int)
  · rw [if_pos h, h]
  · rw [if_neg h]
theorem WD_push {D : va_G} {cl : List vw_C} {A : Nat → Prop} {H0 H H1 : Heap} {locs : List Loc} {N : Nat} {AD : Int → Nat} {C : Int → va_E} {e : va_E} (hw : WD D cl A H0 H locs N AD C) (hA : ∀ q, H0.size ≤ q → A q) (hsz : H.size = AD (N : Int)) (z1 : H1.size = AD (N : Int) + 1) (o1 : ∀ q, q < AD (N : Int) → H1[q]? = H[q]?) (he : va_at D cl (AD (N : Int), e) H1) : WD D cl A H0 H1 locs (N + 1) AD (zup C (N : Int) e) := by
  have hk : ∀ (k : Nat) (x : Nat × va_E), (wl N AD C)[k]? = some x → H1[x.1]? = H[x.1]? := fun k x hx => o1 x.1 (by rw [← hsz]; exact (hw.1 k x hx).lt)
  refine ⟨?_, ?_, ?_⟩
  · rw [← wl_pushA]
    refine (hw.1.kept hk).app (fun k x hx => ?_)
    have hz : k < 1 := (List.getElem?_eq_some_iff.mp hx).1
    rw [show k = 0 by omega] at hx
    cases hx
    exact he
  · rw [← wl_pushA]
    exact hw.2.1.push hw.1 hsz.symm (hA _ (by rw [← hsz]; exact hw.2.2.1))
  · exact ⟨by have := hw.2.2.1; omega, fun x h1 h2 => (o1 x (by have := hw.2.2.1; omega)).trans (hw.2.2.2.1 x h1 h2), hw.2.2.2.2⟩
section ZN
variable {p : Program} {l : Launch} {e : Env} {R : Room} {s : State} {m : MethodId} {args : Array Value} {below : List Frame} {meth : Method} {c : Code} {H : Heap} {locs : List Loc} {cells slots : Nat} {Q : State → Prop} {cc : ByteArray} {pc : Nat} {ls : Array Slot} {rest : List Value}
variable {D : va_G} {cl : List vw_C} {tys : List (ClassId × FieldType)} {A : Nat → Prop} {N : Nat} {AD : Int → Nat} {C : Int → va_E} {H0 : Heap}
theorem zr_new (hx : p.tables.exec = Jvm.exec) (hb : c.code = cc) {own Cn : String} {T : u_T} {n ci index : Nat} {Ts : List Cond} (hts : ∀ w ∈ Ts, w.before args s = true) (hin : ∀ w ∈ u_ws Cn T n, w ∈ Ts) (ty : Nat → FieldType) (hty : ∀ k, k < n → parseFieldDescriptor (T k).2.2.1 = some (ty k)) (hown : s.vm.findClass own = some m.cls) (hcl : (Cond.classLink own index Cn).before args s = true) (hinst : (Cond.instantiable Cn n).before args s = true) (hini : (Cond.initialized Cn).before args s = true)
    (hK : va_K D cl tys s) (hw : WD D cl A H0 H locs N AD C) (hA : ∀ q, H0.size ≤ q → A q) (hc : cl[ci]? = some (Cn, T, n)) {fs : List Value} (hfs : ∀ j, j < n → defaultValue (ty j) = vp_V fs j) (hcells : cells + 1 ≤ R.cells) (hslots : slots + n ≤ R.slots) (hsz : H.size = AD (N : Int)) (hdg : decode cc pc = .ok (.new index, 3))
    (kk : ∀ H1 : Heap, H1.size = AD (N : Int) + 1 → WD D cl A H0 H1 locs (N + 1) AD (zup C (N : Int) (.inr (ci, fs))) → W p l e R s m args below meth c H1 locs (cells + 1) (slots + n) Q (F0 m (pc + 3) ls (.ref (AD (N : Int)) :: rest))) : W p l e R s m args below meth c H locs cells slots Q (F0 m pc ls rest) := by
  have hKn := hK.1 ci _ hc
  refine W.newcK hx hb hown hcl hinst hini rfl hdg hcells hslots hKn.2.1 hsz fun H1 kC hkC e1 z1 o1 => ?_
  exact kk H1 z1 (WD_push hw hA hsz z1 o1 ⟨_, hc, (u_born ty hts hin hKn hkC e1 hty).to hfs⟩)
theorem zr_newI (hx : p.tables.exec = Jvm.exec) (hb : c.code = cc) (harr : (Cond.arrayClass .int).before args s = true) (hK : va_K D cl tys s) (t0 : Nat) {cA : ClassId} (ht : tys[t0]? = some (cA, .int)) (hw : WD D cl A H0 H locs N AD C) (hA : ∀ q, H0.size ≤ q → A q) {n : Nat} (hn : n ≤ 65536) (hcells : cells + 1 ≤ R.cells) (hslots : slots + n ≤ R.slots) (hsz : H.size = AD (N : Int)) (hdg : decode cc pc = .ok (.newarray .int, 2))
    (kk : ∀ H1 : Heap, H1.size = AD (N : Int) + 1 → WD D cl A H0 H1 locs (N + 1) AD (zup C (N : Int) (aI cA n (fun _ => 0))) → W p l e R s m args below meth c H1 locs (cells + 1) (slots + n) Q (F0 m (pc + 2) ls (.ref (AD (N : Int)) :: rest))) : W p l e R s m args below meth c H locs cells slots Q (F0 m pc ls (.int (zI (n : Int)) :: rest)) := by
  refine va_newaK (atype := .int) hx hb harr rfl hdg rfl (zI_nn (by omega) (by omega)) (N := n) (by rw [zI_cl (by omega) (by omega)]; omega) (by show n * 4 ≤ 536870912; omega) hcells hslots hsz fun H1 cB e1 z1 o1 hAr hNm => ?_
  have hcA : cB = cA := Option.some.inj (hNm.symm.trans (show s.vm.findClass _ = some cA from (hK.2 t0 _ ht).2))
  subst hcA
  refine kk H1 z1 (WD_push hw hA hsz z1 o1 ?_)
  show H1[AD (N : Int)]? = some (arrV cB n (fun _ => .int (zI 0)))
  rw [zI_0]
  exact e1
theorem zr_newZ (hx : p.tables.exec = Jvm.exec) (hb : c.code = cc) (harr : (Cond.arrayClass .boolean).before args s = true) (hK : va_K D cl tys s) (t0 : Nat) {cA : ClassId} (ht : tys[t0]? = some (cA, .boolean)) (hw : WD D cl A H0 H locs N AD C) (hA : ∀ q, H0.size ≤ q → A q) {n : Nat} (hn : n ≤ 65536) (hcells : cells + 1 ≤ R.cells) (hslots : slots + n ≤ R.slots) (hsz : H.size = AD (N : Int)) (hdg : decode cc pc = .ok (.newarray .boolean, 2))
    (kk : ∀ H1 : Heap, H1.size = AD (N : Int) + 1 → WD D cl A H0 H1 locs (N + 1) AD (zup C (N : Int) (aI cA n (fun _ => 0))) → W p l e R s m args below meth c H1 locs (cells + 1) (slots + n) Q (F0 m (pc + 2) ls (.ref (AD (N : Int)) :: rest))) : W p l e R s m args below meth c H locs cells slots Q (F0 m pc ls (.int (zI (n : Int)) :: rest)) := by
  refine va_newaK (atype := .boolean) hx hb harr rfl hdg rfl (zI_nn (by omega) (by omega)) (N := n) (by rw [zI_cl (by omega) (by omega)]; omega) (by show n * 1 ≤ 536870912; omega) hcells hslots hsz fun H1 cB e1 z1 o1 hAr hNm => ?_
  have hcA : cB = cA := Option.some.inj (hNm.symm.trans (show s.vm.findClass _ = some cA from (hK.2 t0 _ ht).2))
  subst hcA
  refine kk H1 z1 (WD_push hw hA hsz z1 o1 ?_)
  show H1[AD (N : Int)]? = some (arrV cB n (fun _ => .int (zI 0)))
  rw [zI_0]
  exact e1
theorem zr_newL (hx : p.tables.exec = Jvm.exec) (hb : c.code = cc) (harr : (Cond.arrayClass .long).before args s = true) (hK : va_K D cl tys s) (t0 : Nat) {cA : ClassId} (ht : tys[t0]? = some (cA, .long)) (hw : WD D cl A H0 H locs N AD C) (hA : ∀ q, H0.size ≤ q → A q) {n : Nat} (hn : n ≤ 65536) (hcells : cells + 1 ≤ R.cells) (hslots : slots + n ≤ R.slots) (hsz : H.size = AD (N : Int)) (hdg : decode cc pc = .ok (.newarray .long, 2))
    (kk : ∀ H1 : Heap, H1.size = AD (N : Int) + 1 → WD D cl A H0 H1 locs (N + 1) AD (zup C (N : Int) (aL cA n (fun _ => 0))) → W p l e R s m args below meth c H1 locs (cells + 1) (slots + n) Q (F0 m (pc + 2) ls (.ref (AD (N : Int)) :: rest))) : W p l e R s m args below meth c H locs cells slots Q (F0 m pc ls (.int (zI (n : Int)) :: rest)) := by
  refine va_newaK (atype := .long) hx hb harr rfl hdg rfl (zI_nn (by omega) (by omega)) (N := n) (by rw [zI_cl (by omega) (by omega)]; omega) (by show n * 8 ≤ 536870912; omega) hcells hslots hsz fun H1 cB e1 z1 o1 hAr hNm => ?_
  have hcA : cB = cA := Option.some.inj (hNm.symm.trans (show s.vm.findClass _ = some cA from (hK.2 t0 _ ht).2))
  subst hcA
  refine kk H1 z1 (WD_push hw hA hsz z1 o1 ?_)
  show H1[AD (N : Int)]? = some (arrV cB n (fun _ => .long (zL 0)))
  rw [zL_0]
  exact e1
theorem zr_newQ (hx : p.tables.exec = Jvm.exec) (hb : c.code = cc) {own Cn : String} {index : Nat} (hown : s.vm.findClass own = some m.cls) (hclink : (Cond.classLink own index Cn).before args s = true) (hover : (Cond.arrayOver (.object Cn)).before args s = true) (hK : va_K D cl tys s) (t0 : Nat) {cA : ClassId} (ht : tys[t0]? = some (cA, .object Cn)) (hw : WD D cl A H0 H locs N AD C) (hA : ∀ q, H0.size ≤ q → A q) {n : Nat} (hn : n ≤ 65536) (hcells : cells + 1 ≤ R.cells) (hslots : slots + n ≤ R.slots) (hsz : H.size = AD (N : Int)) (hdg : decode cc pc = .ok (.anewarray index, 3))
    (kk : ∀ H1 : Heap, H1.size = AD (N : Int) + 1 → WD D cl A H0 H1 locs (N + 1) AD (zup C (N : Int) (aQ cA n (fun _ => none))) → W p l e R s m args below meth c H1 locs (cells + 1) (slots + n) Q (F0 m (pc + 3) ls (.ref (AD (N : Int)) :: rest))) : W p l e R s m args below meth c H locs cells slots Q (F0 m pc ls (.int (zI (n : Int)) :: rest)) := by
  have hcl9 : (zI (n : Int)).toNatClampNeg = n := by rw [zI_cl (by omega) (by omega)]; omega
  refine W.anew hx hb hown hclink hover rfl hdg rfl (zI_nn (by omega) (by omega)) (by rw [hcl9]; omega) hcells (by rw [hcl9]; exact hslots) fun cB kA comp f1 f2 f3 f4 => ?_
  obtain ⟨kA', comp', g1, g2, g3, g4⟩ := (hK.2 t0 _ ht).2
  have hcA : cB = cA := Option.some.inj (f1.symm.trans g4)
  subst hcA
  rw [hcl9]
  generalize hH1 : H.push ({ cls := cB, slots := Array.replicate n .null, vm := .none } : Cell) = H1
  have z1 : H1.size = AD (N : Int) + 1 := by rw [← hH1, Array.size_push, hsz]
  have e1 : H1[AD (N : Int)]? = some (arrV cB n (fun _ => .null)) := by rw [← hH1, ← hsz, Array.getElem?_push_size, ← arrV_new]
  have o1 : ∀ q : Nat, q < AD (N : Int) → H1[q]? = H[q]? := fun q hq => by rw [← hH1, Array.getElem?_push, if_neg (by omega)]
  have h9 := kk H1 z1 (WD_push hw hA hsz z1 o1 (by show H1[AD (N : Int)]? = some (vp_cell _ _); rw [vp_cell_q]; exact e1))
  rw [← hsz] at h9
  exact h9
end ZN
end
section
def R_O : String := "RingMatches$Overlap"
def T_O : u_T := fun k => match k with
  | 0 => ("RingMatches$Overlap", "shift", "I", false)
  | 1 => ("RingMatches$Overlap", "pairs", "I", false)
  | 2 => ("RingMatches$Overlap", "correlation", "I", false)
  | 3 => ("RingMatches$Overlap", "steps", "I", false)
  | _ => ("RingMatches$Overlap", "agreement", "I", false)
def tyO : Nat → FieldType := fun k => match k with
  | 0 => .int
  | 1 => .int
  | 2 => .int
  | 3 => .int
  | _ => .int
theorem nmO : ∀ a, a < 5 → ∀ b, b < 5 → a ≠ b → (T_O a).2.1 ≠ (T_O b).2.1 := by decide +kernel
theorem tyO_ok : ∀ k, k < 5 → parseFieldDescriptor (T_O k).2.2.1 = some (tyO k) := by decide +kernel
def R_P : String := "RingMatches$Pad"
def T_P : u_T := fun k => match k with
  | 0 => ("RingMatches$Pad", "signs", "[I", true)
  | _ => ("RingMatches$Pad", "size", "I", false)
def tyP : Nat → FieldType := fun k => match k with
  | 0 => .array .int
  | _ => .int
theorem nmP : ∀ a, a < 2 → ∀ b, b < 2 → a ≠ b → (T_P a).2.1 ≠ (T_P b).2.1 := by decide +kernel
theorem tyP_ok : ∀ k, k < 2 → parseFieldDescriptor (T_P k).2.2.1 = some (tyP k) := by decide +kernel
def R_S : String := "RingMatches$Series"
def T_S : u_T := fun k => match k with
  | 0 => ("RingMatches$Series", "widths", "[I", true)
  | 1 => ("RingMatches$Series", "evens", "[I", true)
  | _ => ("RingMatches$Series", "size", "I", false)
def tyS : Nat → FieldType := fun k => match k with
  | 0 => .array .int
  | 1 => .array .int
  | _ => .int
theorem nmS : ∀ a, a < 3 → ∀ b, b < 3 → a ≠ b → (T_S a).2.1 ≠ (T_S b).2.1 := by decide +kernel
theorem tyS_ok : ∀ k, k < 3 → parseFieldDescriptor (T_S k).2.2.1 = some (tyS k) := by decide +kernel
def R_R : String := "RingMatches"
def T_R : u_T := fun k => match k with
  | 0 => ("RingMatches", "pad", "LRingMatches$Pad;", true)
  | 1 => ("RingMatches", "kept", "[LRingMatches$Series;", true)
  | 2 => ("RingMatches", "keptCount", "I", false)
  | 3 => ("RingMatches", "listed", "[LRingMatches$Overlap;", true)
  | 4 => ("RingMatches", "listedCount", "I", false)
  | 5 => ("RingMatches", "tries", "I", false)
  | 6 => ("RingMatches", "stretched", "LRingMatches$Series;", true)
  | 7 => ("RingMatches", "probe", "LRingMatches$Overlap;", true)
  | 8 => ("RingMatches", "member", "[Z", true)
  | _ => ("RingMatches", "asked", "[Z", true)
def tyR : Nat → FieldType := fun k => match k with
  | 0 => .object "RingMatches$Pad"
  | 1 => .array (.object "RingMatches$Series")
  | 2 => .int
  | 3 => .array (.object "RingMatches$Overlap")
  | 4 => .int
  | 5 => .int
  | 6 => .object "RingMatches$Series"
  | 7 => .object "RingMatches$Overlap"
  | 8 => .array .boolean
  | _ => .array .boolean
theorem nmR : ∀ a, a < 10 → ∀ b, b < 10 → a ≠ b → (T_R a).2.1 ≠ (T_R b).2.1 := by decide +kernel
theorem tyR_ok : ∀ k, k < 10 → parseFieldDescriptor (T_R k).2.2.1 = some (tyR k) := by decide +kernel
def R_M : String := "RingMatchesModel"
def T_M : u_T := fun k => match k with
  | 0 => ("RingMatchesModel", "thrown", "I", false)
  | 1 => ("RingMatchesModel", "padded", "I", false)
  | 2 => ("RingMatchesModel", "pad", "[I", true)
  | 3 => ("RingMatchesModel", "series", "I", false)
  | 4 => ("RingMatchesModel", "sizes", "[I", true)
  | 5 => ("RingMatchesModel", "widths", "[I", true)
  | 6 => ("RingMatchesModel", "tries", "I", false)
  | 7 => ("RingMatchesModel", "listed", "I", false)
  | 8 => ("RingMatchesModel", "first", "I", false)
  | 9 => ("RingMatchesModel", "second", "I", false)
  | 10 => ("RingMatchesModel", "shifts", "[I", true)
  | 11 => ("RingMatchesModel", "pairs", "[I", true)
  | 12 => ("RingMatchesModel", "ranks", "[I", true)
  | 13 => ("RingMatchesModel", "n", "I", false)
  | 14 => ("RingMatchesModel", "rises", "I", false)
  | 15 => ("RingMatchesModel", "agreed", "I", false)
  | 16 => ("RingMatchesModel", "above", "J", false)
  | _ => ("RingMatchesModel", "below", "J", false)
def tyM : Nat → FieldType := fun k => match k with
  | 0 => .int
  | 1 => .int
  | 2 => .array .int
  | 3 => .int
  | 4 => .array .int
  | 5 => .array .int
  | 6 => .int
  | 7 => .int
  | 8 => .int
  | 9 => .int
  | 10 => .array .int
  | 11 => .array .int
  | 12 => .array .int
  | 13 => .int
  | 14 => .int
  | 15 => .int
  | 16 => .long
  | _ => .long
theorem nmM : ∀ a, a < 18 → ∀ b, b < 18 → a ≠ b → (T_M a).2.1 ≠ (T_M b).2.1 := by decide +kernel
theorem tyM_ok : ∀ k, k < 18 → parseFieldDescriptor (T_M k).2.2.1 = some (tyM k) := by decide +kernel
abbrev clW : List vw_C := [(R_O, T_O, 5), (R_P, T_P, 2), (R_S, T_S, 3), (R_R, T_R, 10), (R_M, T_M, 18)]
abbrev tyW (k : Nat → ClassId) : List (ClassId × FieldType) := [(k 0, .int), (k 1, .boolean), (k 2, .long), (k 3, .object "RingMatches$Series"), (k 4, .object "RingMatches$Overlap")]
abbrev b_R_init : ByteArray := prog_1_method_1_code
def y_R_init : MethodName := ⟨"RingMatches", "<init>", "()V"⟩
abbrev b_R_unit : ByteArray := prog_1_method_2_code
def y_R_unit : MethodName := ⟨"RingMatches", "unit", "(II)I"⟩
abbrev b_R_read : ByteArray := prog_1_method_3_code
def y_R_read : MethodName := ⟨"RingMatches", "read", "()I"⟩
abbrev b_R_width : ByteArray := prog_1_method_4_code
def y_R_width : MethodName := ⟨"RingMatches", "width", "(II)I"⟩
abbrev b_R_written : ByteArray := prog_1_method_5_code
def y_R_written : MethodName := ⟨"RingMatches", "written", "(II)I"⟩
abbrev b_R_evened : ByteArray := prog_1_method_6_code
def y_R_evened : MethodName := ⟨"RingMatches", "evened", "(II)I"⟩
abbrev b_R_match : ByteArray := prog_1_method_7_code
def y_R_match : MethodName := ⟨"RingMatches", "match", "(III)I"⟩
abbrev b_R_overlap : ByteArray := prog_1_method_8_code
def y_R_overlap : MethodName := ⟨"RingMatches", "overlap", "(II)I"⟩
abbrev b_R_agree : ByteArray := prog_1_method_9_code
def y_R_agree : MethodName := ⟨"RingMatches", "agree", "(II)I"⟩
abbrev b_R_odds : ByteArray := prog_1_method_10_code
def y_R_odds : MethodName := ⟨"RingMatches", "odds", "(II)J"⟩
abbrev b_R_absent : ByteArray := prog_1_method_11_code
def y_R_absent : MethodName := ⟨"RingMatches", "absent", "(III)I"⟩
abbrev b_R_core : ByteArray := prog_1_method_12_code
def y_R_core : MethodName := ⟨"RingMatches", "core", "(III)I"⟩
abbrev b_R_group : ByteArray := prog_1_method_13_code
def y_R_group : MethodName := ⟨"RingMatches", "group", "(III)I"⟩
abbrev b_R_count : ByteArray := prog_1_method_14_code
def y_R_count : MethodName := ⟨"RingMatches", "count", "(I)I"⟩
abbrev b_R_seriesAt : ByteArray := prog_1_method_15_code
def y_R_seriesAt : MethodName := ⟨"RingMatches", "seriesAt", "(I)LRingMatches$Series;"⟩
abbrev b_R_overlapAt : ByteArray := prog_1_method_16_code
def y_R_overlapAt : MethodName := ⟨"RingMatches", "overlapAt", "(I)LRingMatches$Overlap;"⟩
abbrev b_R_requireLeast : ByteArray := prog_1_method_17_code
def y_R_requireLeast : MethodName := ⟨"RingMatches", "requireLeast", "(I)V"⟩
abbrev b_R_requirePart : ByteArray := prog_1_method_18_code
def y_R_requirePart : MethodName := ⟨"RingMatches", "requirePart", "(I)V"⟩
abbrev b_R_keepNext : ByteArray := prog_1_method_19_code
def y_R_keepNext : MethodName := ⟨"RingMatches", "keepNext", "()I"⟩
abbrev b_R_rankNewest : ByteArray := prog_1_method_20_code
def y_R_rankNewest : MethodName := ⟨"RingMatches", "rankNewest", "()V"⟩
abbrev b_R_memberNotAsked : ByteArray := prog_1_method_21_code
def y_R_memberNotAsked : MethodName := ⟨"RingMatches", "memberNotAsked", "()I"⟩
abbrev b_R_addJoinedTo : ByteArray := prog_1_method_22_code
def y_R_addJoinedTo : MethodName := ⟨"RingMatches", "addJoinedTo", "(III)V"⟩
abbrev b_R_areJoined : ByteArray := prog_1_method_23_code
def y_R_areJoined : MethodName := ⟨"RingMatches", "areJoined", "(LRingMatches$Series;LRingMatches$Series;II)Z"⟩
abbrev b_R_leastMember : ByteArray := prog_1_method_24_code
def y_R_leastMember : MethodName := ⟨"RingMatches", "leastMember", "()I"⟩
abbrev b_R_mean : ByteArray := prog_1_method_25_code
def y_R_mean : MethodName := ⟨"RingMatches", "mean", "(II)I"⟩
abbrev b_R_waysToTake : ByteArray := prog_1_method_26_code
def y_R_waysToTake : MethodName := ⟨"RingMatches", "waysToTake", "(II)J"⟩
abbrev b_R_lessened : ByteArray := prog_1_method_27_code
def y_R_lessened : MethodName := ⟨"RingMatches", "lessened", "(JJI)J"⟩
abbrev b_R_greatestDivisor : ByteArray := prog_1_method_28_code
def y_R_greatestDivisor : MethodName := ⟨"RingMatches", "greatestDivisor", "(JJ)J"⟩
abbrev b_M_init : ByteArray := prog_6_method_1_code
def y_M_init : MethodName := ⟨"RingMatchesModel", "<init>", "()V"⟩
abbrev b_M_thrown : ByteArray := prog_6_method_2_code
def y_M_thrown : MethodName := ⟨"RingMatchesModel", "thrown", "()I"⟩
abbrev b_M_goes : ByteArray := prog_6_method_3_code
def y_M_goes : MethodName := ⟨"RingMatchesModel", "goes", "(ZZZ)Z"⟩
abbrev b_M_within : ByteArray := prog_6_method_4_code
def y_M_within : MethodName := ⟨"RingMatchesModel", "within", "(III)Z"⟩
abbrev b_M_isSeries : ByteArray := prog_6_method_5_code
def y_M_isSeries : MethodName := ⟨"RingMatchesModel", "isSeries", "(I)Z"⟩
abbrev b_M_signs : ByteArray := prog_6_method_6_code
def y_M_signs : MethodName := ⟨"RingMatchesModel", "signs", "(I)I"⟩
abbrev b_M_plain : ByteArray := prog_6_method_7_code
def y_M_plain : MethodName := ⟨"RingMatchesModel", "plain", "(I)Z"⟩
abbrev b_M_push : ByteArray := prog_6_method_8_code
def y_M_push : MethodName := ⟨"RingMatchesModel", "push", "(I)V"⟩
abbrev b_M_unit : ByteArray := prog_6_method_9_code
def y_M_unit : MethodName := ⟨"RingMatchesModel", "unit", "(II)I"⟩
abbrev b_M_fault : ByteArray := prog_6_method_10_code
def y_M_fault : MethodName := ⟨"RingMatchesModel", "fault", "()I"⟩
abbrev b_M_read : ByteArray := prog_6_method_11_code
def y_M_read : MethodName := ⟨"RingMatchesModel", "read", "()I"⟩
abbrev b_M_widthOf : ByteArray := prog_6_method_12_code
def y_M_widthOf : MethodName := ⟨"RingMatchesModel", "widthOf", "(II)I"⟩
abbrev b_M_width : ByteArray := prog_6_method_13_code
def y_M_width : MethodName := ⟨"RingMatchesModel", "width", "(II)I"⟩
abbrev b_M_room : ByteArray := prog_6_method_14_code
def y_M_room : MethodName := ⟨"RingMatchesModel", "room", "(II)I"⟩
abbrev b_M_written : ByteArray := prog_6_method_15_code
def y_M_written : MethodName := ⟨"RingMatchesModel", "written", "(II)I"⟩
abbrev b_M_even : ByteArray := prog_6_method_16_code
def y_M_even : MethodName := ⟨"RingMatchesModel", "even", "(II)I"⟩
abbrev b_M_evened : ByteArray := prog_6_method_17_code
def y_M_evened : MethodName := ⟨"RingMatchesModel", "evened", "(II)I"⟩
abbrev b_M_isPair : ByteArray := prog_6_method_18_code
def y_M_isPair : MethodName := ⟨"RingMatchesModel", "isPair", "(IIII)Z"⟩
abbrev b_M_correlate : ByteArray := prog_6_method_19_code
def y_M_correlate : MethodName := ⟨"RingMatchesModel", "correlate", "(III)I"⟩
abbrev b_M_rise : ByteArray := prog_6_method_20_code
def y_M_rise : MethodName := ⟨"RingMatchesModel", "rise", "(II)I"⟩
abbrev b_M_alike : ByteArray := prog_6_method_21_code
def y_M_alike : MethodName := ⟨"RingMatchesModel", "alike", "(II)I"⟩
abbrev b_M_isAhead : ByteArray := prog_6_method_22_code
def y_M_isAhead : MethodName := ⟨"RingMatchesModel", "isAhead", "(IIII)Z"⟩
abbrev b_M_match : ByteArray := prog_6_method_23_code
def y_M_match : MethodName := ⟨"RingMatchesModel", "match", "(III)I"⟩
abbrev b_M_isListed : ByteArray := prog_6_method_24_code
def y_M_isListed : MethodName := ⟨"RingMatchesModel", "isListed", "(III)Z"⟩
abbrev b_M_overlap : ByteArray := prog_6_method_25_code
def y_M_overlap : MethodName := ⟨"RingMatchesModel", "overlap", "(II)I"⟩
abbrev b_M_fraction : ByteArray := prog_6_method_26_code
def y_M_fraction : MethodName := ⟨"RingMatchesModel", "fraction", "(JJ)V"⟩
abbrev b_M_agree : ByteArray := prog_6_method_27_code
def y_M_agree : MethodName := ⟨"RingMatchesModel", "agree", "(II)I"⟩
abbrev b_M_odds : ByteArray := prog_6_method_28_code
def y_M_odds : MethodName := ⟨"RingMatchesModel", "odds", "(II)J"⟩
abbrev b_M_absent : ByteArray := prog_6_method_29_code
def y_M_absent : MethodName := ⟨"RingMatchesModel", "absent", "(III)I"⟩
abbrev b_M_at : ByteArray := prog_6_method_30_code
def y_M_at : MethodName := ⟨"RingMatchesModel", "at", "(II)I"⟩
abbrev b_M_core : ByteArray := prog_6_method_31_code
def y_M_core : MethodName := ⟨"RingMatchesModel", "core", "(III)I"⟩
abbrev b_M_joined : ByteArray := prog_6_method_32_code
def y_M_joined : MethodName := ⟨"RingMatchesModel", "joined", "(IIII)Z"⟩
abbrev b_M_group : ByteArray := prog_6_method_33_code
def y_M_group : MethodName := ⟨"RingMatchesModel", "group", "(III)I"⟩
abbrev b_M_count : ByteArray := prog_6_method_34_code
def y_M_count : MethodName := ⟨"RingMatchesModel", "count", "(I)I"⟩
abbrev b_O_init : ByteArray := prog_2_method_1_code
def y_O_init : MethodName := ⟨"RingMatches$Overlap", "<init>", "()V"⟩
abbrev b_O_lay : ByteArray := prog_2_method_2_code
def y_O_lay : MethodName := ⟨"RingMatches$Overlap", "lay", "(LRingMatches$Series;LRingMatches$Series;I)V"⟩
abbrev b_O_hundredths : ByteArray := prog_2_method_3_code
def y_O_hundredths : MethodName := ⟨"RingMatches$Overlap", "hundredths", "(JJJ)I"⟩
abbrev b_O_compareRises : ByteArray := prog_2_method_4_code
def y_O_compareRises : MethodName := ⟨"RingMatches$Overlap", "compareRises", "(LRingMatches$Series;LRingMatches$Series;)V"⟩
abbrev b_O_isPair : ByteArray := prog_2_method_5_code
def y_O_isPair : MethodName := ⟨"RingMatches$Overlap", "isPair", "(LRingMatches$Series;LRingMatches$Series;I)Z"⟩
abbrev b_O_rise : ByteArray := prog_2_method_6_code
def y_O_rise : MethodName := ⟨"RingMatches$Overlap", "rise", "(LRingMatches$Series;I)I"⟩
abbrev b_O_likeness : ByteArray := prog_2_method_7_code
def y_O_likeness : MethodName := ⟨"RingMatches$Overlap", "likeness", "(II)I"⟩
abbrev b_O_outranks : ByteArray := prog_2_method_8_code
def y_O_outranks : MethodName := ⟨"RingMatches$Overlap", "outranks", "(LRingMatches$Overlap;)Z"⟩
abbrev b_P_init : ByteArray := prog_3_method_1_code
def y_P_init : MethodName := ⟨"RingMatches$Pad", "<init>", "()V"⟩
abbrev b_P_signOf : ByteArray := prog_3_method_2_code
def y_P_signOf : MethodName := ⟨"RingMatches$Pad", "signOf", "(II)I"⟩
abbrev b_P_takes : ByteArray := prog_3_method_3_code
def y_P_takes : MethodName := ⟨"RingMatches$Pad", "takes", "(I)Z"⟩
abbrev b_P_signsIn : ByteArray := prog_3_method_4_code
def y_P_signsIn : MethodName := ⟨"RingMatches$Pad", "signsIn", "(I)I"⟩
abbrev b_P_put : ByteArray := prog_3_method_5_code
def y_P_put : MethodName := ⟨"RingMatches$Pad", "put", "(I)V"⟩
abbrev b_P_parseInto : ByteArray := prog_3_method_6_code
def y_P_parseInto : MethodName := ⟨"RingMatches$Pad", "parseInto", "(LRingMatches$Series;)I"⟩
abbrev b_P_grown : ByteArray := prog_3_method_7_code
def y_P_grown : MethodName := ⟨"RingMatches$Pad", "grown", "(II)I"⟩
abbrev b_S_init : ByteArray := prog_4_method_1_code
def y_S_init : MethodName := ⟨"RingMatches$Series", "<init>", "()V"⟩
abbrev b_S_has : ByteArray := prog_4_method_2_code
def y_S_has : MethodName := ⟨"RingMatches$Series", "has", "(I)Z"⟩
abbrev b_S_widthAt : ByteArray := prog_4_method_3_code
def y_S_widthAt : MethodName := ⟨"RingMatches$Series", "widthAt", "(I)I"⟩
abbrev b_S_evenAt : ByteArray := prog_4_method_4_code
def y_S_evenAt : MethodName := ⟨"RingMatches$Series", "evenAt", "(I)I"⟩
abbrev b_S_add : ByteArray := prog_4_method_5_code
def y_S_add : MethodName := ⟨"RingMatches$Series", "add", "(I)V"⟩
abbrev b_S_copyWithGap : ByteArray := prog_4_method_6_code
def y_S_copyWithGap : MethodName := ⟨"RingMatches$Series", "copyWithGap", "(LRingMatches$Series;I)V"⟩
abbrev b_S_makeEven : ByteArray := prog_4_method_7_code
def y_S_makeEven : MethodName := ⟨"RingMatches$Series", "makeEven", "()V"⟩
abbrev b_S_evenedFromWidths : ByteArray := prog_4_method_8_code
def y_S_evenedFromWidths : MethodName := ⟨"RingMatches$Series", "evenedFromWidths", "(I)I"⟩
abbrev b_S_textLength : ByteArray := prog_4_method_9_code
def y_S_textLength : MethodName := ⟨"RingMatches$Series", "textLength", "()I"⟩
abbrev b_S_textSign : ByteArray := prog_4_method_10_code
def y_S_textSign : MethodName := ⟨"RingMatches$Series", "textSign", "(I)I"⟩
abbrev b_S_signsFor : ByteArray := prog_4_method_11_code
def y_S_signsFor : MethodName := ⟨"RingMatches$Series", "signsFor", "(I)I"⟩
abbrev b_S_signFor : ByteArray := prog_4_method_12_code
def y_S_signFor : MethodName := ⟨"RingMatches$Series", "signFor", "(II)I"⟩
abbrev b_L_unit : ByteArray := method_3_code
def y_L_unit : MethodName := ⟨"RingMatchesLaw", "unit", "(LRingMatches;II[J)I"⟩
abbrev b_L_read : ByteArray := method_4_code
def y_L_read : MethodName := ⟨"RingMatchesLaw", "read", "(LRingMatches;[J)I"⟩
abbrev b_L_width : ByteArray := method_5_code
def y_L_width : MethodName := ⟨"RingMatchesLaw", "width", "(LRingMatches;II[J)I"⟩
abbrev b_L_written : ByteArray := method_6_code
def y_L_written : MethodName := ⟨"RingMatchesLaw", "written", "(LRingMatches;II[J)I"⟩
abbrev b_L_evened : ByteArray := method_7_code
def y_L_evened : MethodName := ⟨"RingMatchesLaw", "evened", "(LRingMatches;II[J)I"⟩
abbrev b_L_match : ByteArray := method_8_code
def y_L_match : MethodName := ⟨"RingMatchesLaw", "match", "(LRingMatches;III[J)I"⟩
abbrev b_L_overlap : ByteArray := method_9_code
def y_L_overlap : MethodName := ⟨"RingMatchesLaw", "overlap", "(LRingMatches;II[J)I"⟩
abbrev b_L_agree : ByteArray := method_10_code
def y_L_agree : MethodName := ⟨"RingMatchesLaw", "agree", "(LRingMatches;II[J)I"⟩
abbrev b_L_odds : ByteArray := method_11_code
def y_L_odds : MethodName := ⟨"RingMatchesLaw", "odds", "(LRingMatches;II[J)I"⟩
abbrev b_L_absent : ByteArray := method_12_code
def y_L_absent : MethodName := ⟨"RingMatchesLaw", "absent", "(LRingMatches;III[J)I"⟩
abbrev b_L_core : ByteArray := method_13_code
def y_L_core : MethodName := ⟨"RingMatchesLaw", "core", "(LRingMatches;III[J)I"⟩
abbrev b_L_group : ByteArray := method_14_code
def y_L_group : MethodName := ⟨"RingMatchesLaw", "group", "(LRingMatches;III[J)I"⟩
abbrev b_L_count : ByteArray := method_15_code
def y_L_count : MethodName := ⟨"RingMatchesLaw", "count", "(LRingMatches;I[J)I"⟩
abbrev b_L_law : ByteArray := code
def WS : List Cond := lw_tbl.filter goodWord
theorem WS_in {w : Cond} (i : Nat) (h : lw_tbl[i]? = some w) (hg : goodWord w = true) : w ∈ WS := List.mem_filter.mpr ⟨List.mem_of_getElem? h, hg⟩
theorem WS_good {w : Cond} (h : w ∈ WS) : w ∈ WS ∧ ((w.onTables && w.keeps) = true ∨ ∃ ty, w = .arrayClass ty) := ⟨h, good_of_word (List.mem_filter.mp h).2⟩
theorem WS_c {w : Cond} (h : w ∈ WS) : GoodIn WS (w :: WS) := fun v hv => (List.mem_cons.mp hv).elim (fun e => by rw [e]; exact WS_good h) WS_good
theorem good_V {own : String} {idx : Nat} {C : String} {y : MethodName} {w : Cond} (h1 : Cond.methodLink own idx y ∈ WS) (h2 : Cond.instanceMethod y ∈ WS) (h3 : Cond.selects C y y ∈ WS) (h4 : Cond.initialized C ∈ WS) (h5 : w ∈ WS) : GoodIn WS (wsV own idx C y (w :: WS)) := fun v hv => by
  rcases List.mem_append.mp hv with h | h
  · simp only [List.mem_cons, List.not_mem_nil, or_false] at h
    rcases h with rfl | rfl | rfl | rfl
    · exact WS_good h1
    · exact WS_good h2
    · exact WS_good h3
    · exact WS_good h4
  · exact WS_c h5 v h
theorem good_S {own : String} {idx : Nat} {y : MethodName} {w : Cond} (h1 : Cond.methodLink own idx y ∈ WS) (h2 : Cond.static y ∈ WS) (h4 : Cond.initialized y.cls ∈ WS) (h5 : w ∈ WS) : GoodIn WS (va_wsS own idx y (w :: WS)) := fun v hv => by
  rcases List.mem_append.mp hv with h | h
  · simp only [List.mem_cons, List.not_mem_nil, or_false] at h
    rcases h with rfl | rfl | rfl
    · exact WS_good h1
    · exact WS_good h2
    · exact WS_good h4
  · exact WS_c h5 v h
theorem wk_1 : (Cond.selects "RingMatches$Series" y_S_evenedFromWidths y_S_evenedFromWidths) ∈ WS := WS_in 1 (by decide +kernel) (by decide +kernel)
theorem wk_2 : (Cond.selects "RingMatches" y_R_keepNext y_R_keepNext) ∈ WS := WS_in 2 (by decide +kernel) (by decide +kernel)
theorem wk_3 : (Cond.selects "RingMatches" y_R_seriesAt y_R_seriesAt) ∈ WS := WS_in 3 (by decide +kernel) (by decide +kernel)
theorem wk_4 : (Cond.selects "RingMatches$Overlap" y_O_isPair y_O_isPair) ∈ WS := WS_in 4 (by decide +kernel) (by decide +kernel)
theorem wk_5 : (Cond.selects "RingMatches" y_R_rankNewest y_R_rankNewest) ∈ WS := WS_in 5 (by decide +kernel) (by decide +kernel)
theorem wk_6 : (Cond.selects "RingMatches" y_R_overlapAt y_R_overlapAt) ∈ WS := WS_in 6 (by decide +kernel) (by decide +kernel)
theorem wk_7 : (Cond.selects "RingMatches" y_R_memberNotAsked y_R_memberNotAsked) ∈ WS := WS_in 7 (by decide +kernel) (by decide +kernel)
theorem wk_8 : (Cond.selects "RingMatches" y_R_addJoinedTo y_R_addJoinedTo) ∈ WS := WS_in 8 (by decide +kernel) (by decide +kernel)
theorem wk_9 : (Cond.selects "RingMatches" y_R_areJoined y_R_areJoined) ∈ WS := WS_in 9 (by decide +kernel) (by decide +kernel)
theorem wk_10 : (Cond.selects "RingMatches" y_R_leastMember y_R_leastMember) ∈ WS := WS_in 10 (by decide +kernel) (by decide +kernel)
theorem wk_11 : (Cond.selects "RingMatchesModel" y_M_goes y_M_goes) ∈ WS := WS_in 11 (by decide +kernel) (by decide +kernel)
theorem wk_12 : (Cond.selects "RingMatchesModel" y_M_push y_M_push) ∈ WS := WS_in 12 (by decide +kernel) (by decide +kernel)
theorem wk_13 : (Cond.selects "RingMatchesModel" y_M_fault y_M_fault) ∈ WS := WS_in 13 (by decide +kernel) (by decide +kernel)
theorem wk_14 : (Cond.selects "RingMatchesModel" y_M_isSeries y_M_isSeries) ∈ WS := WS_in 14 (by decide +kernel) (by decide +kernel)
theorem wk_15 : (Cond.selects "RingMatchesModel" y_M_widthOf y_M_widthOf) ∈ WS := WS_in 15 (by decide +kernel) (by decide +kernel)
theorem wk_16 : (Cond.selects "RingMatchesModel" y_M_room y_M_room) ∈ WS := WS_in 16 (by decide +kernel) (by decide +kernel)
theorem wk_17 : (Cond.selects "RingMatchesModel" y_M_even y_M_even) ∈ WS := WS_in 17 (by decide +kernel) (by decide +kernel)
theorem wk_18 : (Cond.selects "RingMatchesModel" y_M_correlate y_M_correlate) ∈ WS := WS_in 18 (by decide +kernel) (by decide +kernel)
theorem wk_19 : (Cond.selects "RingMatchesModel" y_M_isPair y_M_isPair) ∈ WS := WS_in 19 (by decide +kernel) (by decide +kernel)
theorem wk_20 : (Cond.selects "RingMatchesModel" y_M_rise y_M_rise) ∈ WS := WS_in 20 (by decide +kernel) (by decide +kernel)
theorem wk_21 : (Cond.selects "RingMatchesModel" y_M_isAhead y_M_isAhead) ∈ WS := WS_in 21 (by decide +kernel) (by decide +kernel)
theorem wk_22 : (Cond.selects "RingMatchesModel" y_M_isListed y_M_isListed) ∈ WS := WS_in 22 (by decide +kernel) (by decide +kernel)
theorem wk_23 : (Cond.selects "RingMatchesModel" y_M_fraction y_M_fraction) ∈ WS := WS_in 23 (by decide +kernel) (by decide +kernel)
theorem wk_24 : (Cond.selects "RingMatchesModel" y_M_at y_M_at) ∈ WS := WS_in 24 (by decide +kernel) (by decide +kernel)
theorem wk_25 : (Cond.selects "RingMatchesModel" y_M_joined y_M_joined) ∈ WS := WS_in 25 (by decide +kernel) (by decide +kernel)
theorem wk_26 : (Cond.initialized "RingMatchesLaw") ∈ WS := WS_in 26 (by decide +kernel) (by decide +kernel)
theorem wk_27 : (Cond.initialized "RingMatches") ∈ WS := WS_in 27 (by decide +kernel) (by decide +kernel)
theorem wk_28 : (Cond.initialized "RingMatches$Pad") ∈ WS := WS_in 28 (by decide +kernel) (by decide +kernel)
theorem wk_29 : (Cond.initialized "RingMatches$Series") ∈ WS := WS_in 29 (by decide +kernel) (by decide +kernel)
theorem wk_30 : (Cond.initialized "RingMatches$Overlap") ∈ WS := WS_in 30 (by decide +kernel) (by decide +kernel)
theorem wk_31 : (Cond.initialized "RingMatchesModel") ∈ WS := WS_in 31 (by decide +kernel) (by decide +kernel)
theorem wk_32 : (Cond.initialized "java/lang/Throwable") ∈ WS := WS_in 32 (by decide +kernel) (by decide +kernel)
theorem wk_33 : (Cond.initialized "java/lang/Exception") ∈ WS := WS_in 33 (by decide +kernel) (by decide +kernel)
theorem wk_34 : (Cond.initialized "java/lang/RuntimeException") ∈ WS := WS_in 34 (by decide +kernel) (by decide +kernel)
theorem wk_35 : (Cond.initialized "java/lang/IllegalArgumentException") ∈ WS := WS_in 35 (by decide +kernel) (by decide +kernel)
theorem wk_36 : (Cond.initialized "java/lang/IllegalStateException") ∈ WS := WS_in 36 (by decide +kernel) (by decide +kernel)
theorem wk_37 : (Cond.initialized "java/lang/Math") ∈ WS := WS_in 37 (by decide +kernel) (by decide +kernel)
theorem wk_38 : (Cond.initialized "java/lang/IndexOutOfBoundsException") ∈ WS := WS_in 38 (by decide +kernel) (by decide +kernel)
theorem wk_39 : (Cond.classLink "RingMatchesLaw" 8 "RingMatches") ∈ WS := WS_in 39 (by decide +kernel) (by decide +kernel)
theorem wk_40 : (Cond.instantiable "RingMatches" 10) ∈ WS := WS_in 40 (by decide +kernel) (by decide +kernel)
theorem wk_41 : (Cond.methodLink "RingMatchesLaw" 59 y_R_init) ∈ WS := WS_in 41 (by decide +kernel) (by decide +kernel)
theorem wk_42 : (Cond.instanceMethod y_R_init) ∈ WS := WS_in 42 (by decide +kernel) (by decide +kernel)
theorem wk_43 : (Cond.code y_R_init b_R_init 2 (Option.none : Option Jvm.ClassFile.FieldType)) ∈ WS := WS_in 43 (by decide +kernel) (by decide +kernel)
theorem wk_44 : (Cond.methodLink "RingMatches" 3 ⟨"java/lang/Object", "<init>", "()V"⟩) ∈ WS := WS_in 44 (by decide +kernel) (by decide +kernel)
theorem wk_45 : (Cond.instanceMethod ⟨"java/lang/Object", "<init>", "()V"⟩) ∈ WS := WS_in 45 (by decide +kernel) (by decide +kernel)
theorem wk_46 : (Cond.code ⟨"java/lang/Object", "<init>", "()V"⟩ object_method_1_code 1 (Option.none : Option Jvm.ClassFile.FieldType)) ∈ WS := WS_in 46 (by decide +kernel) (by decide +kernel)
theorem wk_47 : (Cond.classLink "RingMatches" 9 "RingMatches$Pad") ∈ WS := WS_in 47 (by decide +kernel) (by decide +kernel)
theorem wk_48 : (Cond.instantiable "RingMatches$Pad" 2) ∈ WS := WS_in 48 (by decide +kernel) (by decide +kernel)
theorem wk_49 : (Cond.methodLink "RingMatches" 11 y_P_init) ∈ WS := WS_in 49 (by decide +kernel) (by decide +kernel)
theorem wk_50 : (Cond.instanceMethod y_P_init) ∈ WS := WS_in 50 (by decide +kernel) (by decide +kernel)
theorem wk_51 : (Cond.code y_P_init b_P_init 1 (Option.none : Option Jvm.ClassFile.FieldType)) ∈ WS := WS_in 51 (by decide +kernel) (by decide +kernel)
theorem wk_52 : (Cond.methodLink "RingMatches$Pad" 3 ⟨"java/lang/Object", "<init>", "()V"⟩) ∈ WS := WS_in 52 (by decide +kernel) (by decide +kernel)
theorem wk_53 : (Cond.fieldLink "RingMatches$Pad" 9 "RingMatches$Pad" "signs" "[I") ∈ WS := WS_in 53 (by decide +kernel) (by decide +kernel)
theorem wk_54 : (Cond.fieldLink "RingMatches" 56 "RingMatches$Pad" "size" "I") ∈ WS := WS_in 54 (by decide +kernel) (by decide +kernel)
theorem wk_55 : (Cond.fieldLink "RingMatches$Pad" 19 "RingMatches$Pad" "size" "I") ∈ WS := WS_in 55 (by decide +kernel) (by decide +kernel)
theorem wk_61 : (Cond.arrayClass .int) ∈ WS := WS_in 61 (by decide +kernel) (by decide +kernel)
theorem wk_62 : (Cond.classLink "RingMatches" 16 "RingMatches$Series") ∈ WS := WS_in 62 (by decide +kernel) (by decide +kernel)
theorem wk_64 : (Cond.instantiable "RingMatches$Series" 3) ∈ WS := WS_in 64 (by decide +kernel) (by decide +kernel)
theorem wk_65 : (Cond.methodLink "RingMatches" 22 y_S_init) ∈ WS := WS_in 65 (by decide +kernel) (by decide +kernel)
theorem wk_66 : (Cond.instanceMethod y_S_init) ∈ WS := WS_in 66 (by decide +kernel) (by decide +kernel)
theorem wk_67 : (Cond.code y_S_init b_S_init 1 (Option.none : Option Jvm.ClassFile.FieldType)) ∈ WS := WS_in 67 (by decide +kernel) (by decide +kernel)
theorem wk_68 : (Cond.methodLink "RingMatches$Series" 3 ⟨"java/lang/Object", "<init>", "()V"⟩) ∈ WS := WS_in 68 (by decide +kernel) (by decide +kernel)
theorem wk_69 : (Cond.fieldLink "RingMatches$Series" 9 "RingMatches$Series" "widths" "[I") ∈ WS := WS_in 69 (by decide +kernel) (by decide +kernel)
theorem wk_70 : (Cond.fieldLink "RingMatches$Series" 15 "RingMatches$Series" "evens" "[I") ∈ WS := WS_in 70 (by decide +kernel) (by decide +kernel)
theorem wk_71 : (Cond.fieldLink "RingMatches$Series" 18 "RingMatches$Series" "size" "I") ∈ WS := WS_in 71 (by decide +kernel) (by decide +kernel)
theorem wk_72 : (Cond.fieldLink "RingMatches$Overlap" 9 "RingMatches$Series" "size" "I") ∈ WS := WS_in 72 (by decide +kernel) (by decide +kernel)
theorem wk_73 : (Cond.fieldLink "RingMatches" 90 "RingMatches$Series" "size" "I") ∈ WS := WS_in 73 (by decide +kernel) (by decide +kernel)
theorem wk_74 : (Cond.fieldLink "RingMatches$Pad" 23 "RingMatches$Series" "size" "I") ∈ WS := WS_in 74 (by decide +kernel) (by decide +kernel)
theorem wk_82 : (Cond.classLink "RingMatches" 23 "RingMatches$Overlap") ∈ WS := WS_in 82 (by decide +kernel) (by decide +kernel)
theorem wk_84 : (Cond.instantiable "RingMatches$Overlap" 5) ∈ WS := WS_in 84 (by decide +kernel) (by decide +kernel)
theorem wk_85 : (Cond.methodLink "RingMatches" 29 y_O_init) ∈ WS := WS_in 85 (by decide +kernel) (by decide +kernel)
theorem wk_86 : (Cond.instanceMethod y_O_init) ∈ WS := WS_in 86 (by decide +kernel) (by decide +kernel)
theorem wk_87 : (Cond.code y_O_init b_O_init 1 (Option.none : Option Jvm.ClassFile.FieldType)) ∈ WS := WS_in 87 (by decide +kernel) (by decide +kernel)
theorem wk_88 : (Cond.methodLink "RingMatches$Overlap" 3 ⟨"java/lang/Object", "<init>", "()V"⟩) ∈ WS := WS_in 88 (by decide +kernel) (by decide +kernel)
theorem wk_89 : (Cond.fieldLink "RingMatches$Overlap" 28 "RingMatches$Overlap" "shift" "I") ∈ WS := WS_in 89 (by decide +kernel) (by decide +kernel)
theorem wk_90 : (Cond.fieldLink "RingMatches" 140 "RingMatches$Overlap" "shift" "I") ∈ WS := WS_in 90 (by decide +kernel) (by decide +kernel)
theorem wk_91 : (Cond.fieldLink "RingMatches$Overlap" 33 "RingMatches$Overlap" "pairs" "I") ∈ WS := WS_in 91 (by decide +kernel) (by decide +kernel)
theorem wk_92 : (Cond.fieldLink "RingMatches" 126 "RingMatches$Overlap" "pairs" "I") ∈ WS := WS_in 92 (by decide +kernel) (by decide +kernel)
theorem wk_93 : (Cond.fieldLink "RingMatches$Overlap" 40 "RingMatches$Overlap" "correlation" "I") ∈ WS := WS_in 93 (by decide +kernel) (by decide +kernel)
theorem wk_94 : (Cond.fieldLink "RingMatches" 143 "RingMatches$Overlap" "correlation" "I") ∈ WS := WS_in 94 (by decide +kernel) (by decide +kernel)
theorem wk_95 : (Cond.fieldLink "RingMatches$Overlap" 45 "RingMatches$Overlap" "steps" "I") ∈ WS := WS_in 95 (by decide +kernel) (by decide +kernel)
theorem wk_96 : (Cond.fieldLink "RingMatches" 151 "RingMatches$Overlap" "steps" "I") ∈ WS := WS_in 96 (by decide +kernel) (by decide +kernel)
theorem wk_97 : (Cond.fieldLink "RingMatches$Overlap" 48 "RingMatches$Overlap" "agreement" "I") ∈ WS := WS_in 97 (by decide +kernel) (by decide +kernel)
theorem wk_98 : (Cond.fieldLink "RingMatches" 154 "RingMatches$Overlap" "agreement" "I") ∈ WS := WS_in 98 (by decide +kernel) (by decide +kernel)
theorem wk_110 : (Cond.fieldLink "RingMatches" 12 "RingMatches" "pad" "LRingMatches$Pad;") ∈ WS := WS_in 110 (by decide +kernel) (by decide +kernel)
theorem wk_111 : (Cond.fieldLink "RingMatches" 18 "RingMatches" "kept" "[LRingMatches$Series;") ∈ WS := WS_in 111 (by decide +kernel) (by decide +kernel)
theorem wk_112 : (Cond.fieldLink "RingMatches" 73 "RingMatches" "keptCount" "I") ∈ WS := WS_in 112 (by decide +kernel) (by decide +kernel)
theorem wk_113 : (Cond.fieldLink "RingMatches" 25 "RingMatches" "listed" "[LRingMatches$Overlap;") ∈ WS := WS_in 113 (by decide +kernel) (by decide +kernel)
theorem wk_114 : (Cond.fieldLink "RingMatches" 116 "RingMatches" "listedCount" "I") ∈ WS := WS_in 114 (by decide +kernel) (by decide +kernel)
theorem wk_115 : (Cond.fieldLink "RingMatches" 119 "RingMatches" "tries" "I") ∈ WS := WS_in 115 (by decide +kernel) (by decide +kernel)
theorem wk_116 : (Cond.fieldLink "RingMatches" 30 "RingMatches" "stretched" "LRingMatches$Series;") ∈ WS := WS_in 116 (by decide +kernel) (by decide +kernel)
theorem wk_117 : (Cond.fieldLink "RingMatches" 34 "RingMatches" "probe" "LRingMatches$Overlap;") ∈ WS := WS_in 117 (by decide +kernel) (by decide +kernel)
theorem wk_118 : (Cond.fieldLink "RingMatches" 38 "RingMatches" "member" "[Z") ∈ WS := WS_in 118 (by decide +kernel) (by decide +kernel)
theorem wk_119 : (Cond.fieldLink "RingMatches" 42 "RingMatches" "asked" "[Z") ∈ WS := WS_in 119 (by decide +kernel) (by decide +kernel)
theorem wk_141 : (Cond.arrayClass .boolean) ∈ WS := WS_in 141 (by decide +kernel) (by decide +kernel)
theorem wk_142 : (Cond.methodLink "RingMatchesLaw" 63 y_L_unit) ∈ WS := WS_in 142 (by decide +kernel) (by decide +kernel)
theorem wk_143 : (Cond.static y_L_unit) ∈ WS := WS_in 143 (by decide +kernel) (by decide +kernel)
theorem wk_144 : (Cond.codeWith y_L_unit b_L_unit 5 (Option.some Jvm.ClassFile.FieldType.int) [((0 : Nat), (10 : Nat), (13 : Nat), (13 : Nat)), ((0 : Nat), (10 : Nat), (17 : Nat), (15 : Nat))]) ∈ WS := WS_in 144 (by decide +kernel) (by decide +kernel)
theorem wk_145 : (Cond.classLink "RingMatchesLaw" 13 "java/lang/IllegalArgumentException") ∈ WS := WS_in 145 (by decide +kernel) (by decide +kernel)
theorem wk_146 : (Cond.classLink "RingMatchesLaw" 15 "java/lang/IllegalStateException") ∈ WS := WS_in 146 (by decide +kernel) (by decide +kernel)
theorem wk_147 : (Cond.methodLink "RingMatchesLaw" 7 y_R_unit) ∈ WS := WS_in 147 (by decide +kernel) (by decide +kernel)
theorem wk_148 : (Cond.instanceMethod y_R_unit) ∈ WS := WS_in 148 (by decide +kernel) (by decide +kernel)
theorem wk_149 : (Cond.selects "RingMatches" y_R_unit y_R_unit) ∈ WS := WS_in 149 (by decide +kernel) (by decide +kernel)
theorem wk_150 : (Cond.code y_R_unit b_R_unit 3 (Option.some Jvm.ClassFile.FieldType.int)) ∈ WS := WS_in 150 (by decide +kernel) (by decide +kernel)
theorem wk_151 : (Cond.methodLink "RingMatches" 45 y_P_takes) ∈ WS := WS_in 151 (by decide +kernel) (by decide +kernel)
theorem wk_152 : (Cond.static y_P_takes) ∈ WS := WS_in 152 (by decide +kernel) (by decide +kernel)
theorem wk_153 : (Cond.code y_P_takes b_P_takes 3 (Option.some Jvm.ClassFile.FieldType.boolean)) ∈ WS := WS_in 153 (by decide +kernel) (by decide +kernel)
theorem wk_154 : (Cond.methodLink "RingMatches$Pad" 15 y_P_signOf) ∈ WS := WS_in 154 (by decide +kernel) (by decide +kernel)
theorem wk_155 : (Cond.static y_P_signOf) ∈ WS := WS_in 155 (by decide +kernel) (by decide +kernel)
theorem wk_156 : (Cond.code y_P_signOf b_P_signOf 2 (Option.some Jvm.ClassFile.FieldType.int)) ∈ WS := WS_in 156 (by decide +kernel) (by decide +kernel)
theorem wk_157 : (Cond.classLink "RingMatches" 49 "java/lang/IllegalArgumentException") ∈ WS := WS_in 157 (by decide +kernel) (by decide +kernel)
theorem wk_158 : (Cond.instantiable "java/lang/IllegalArgumentException" 6) ∈ WS := WS_in 158 (by decide +kernel) (by decide +kernel)
theorem wk_196 : (Cond.instantiable "java/lang/Throwable" 6) ∈ WS := WS_in 196 (by decide +kernel) (by decide +kernel)
theorem wk_199 : (Cond.methodLink "RingMatches" 53 ⟨"java/lang/IllegalArgumentException", "<init>", "(Ljava/lang/String;)V"⟩) ∈ WS := WS_in 199 (by decide +kernel) (by decide +kernel)
theorem wk_224 : (Cond.arrayClass .byte) ∈ WS := WS_in 224 (by decide +kernel) (by decide +kernel)
theorem wk_225 : (Cond.methodLink "RingMatches" 60 y_P_signsIn) ∈ WS := WS_in 225 (by decide +kernel) (by decide +kernel)
theorem wk_226 : (Cond.static y_P_signsIn) ∈ WS := WS_in 226 (by decide +kernel) (by decide +kernel)
theorem wk_227 : (Cond.code y_P_signsIn b_P_signsIn 3 (Option.some Jvm.ClassFile.FieldType.int)) ∈ WS := WS_in 227 (by decide +kernel) (by decide +kernel)
theorem wk_228 : (Cond.classLink "RingMatches" 64 "java/lang/IllegalStateException") ∈ WS := WS_in 228 (by decide +kernel) (by decide +kernel)
theorem wk_229 : (Cond.instantiable "java/lang/IllegalStateException" 6) ∈ WS := WS_in 229 (by decide +kernel) (by decide +kernel)
theorem wk_238 : (Cond.methodLink "RingMatches" 68 ⟨"java/lang/IllegalStateException", "<init>", "(Ljava/lang/String;)V"⟩) ∈ WS := WS_in 238 (by decide +kernel) (by decide +kernel)
theorem wk_244 : (Cond.methodLink "RingMatches" 69 y_P_put) ∈ WS := WS_in 244 (by decide +kernel) (by decide +kernel)
theorem wk_245 : (Cond.instanceMethod y_P_put) ∈ WS := WS_in 245 (by decide +kernel) (by decide +kernel)
theorem wk_246 : (Cond.selects "RingMatches$Pad" y_P_put y_P_put) ∈ WS := WS_in 246 (by decide +kernel) (by decide +kernel)
theorem wk_247 : (Cond.code y_P_put b_P_put 4 (Option.none : Option Jvm.ClassFile.FieldType)) ∈ WS := WS_in 247 (by decide +kernel) (by decide +kernel)
theorem wk_248 : (Cond.methodLink "RingMatchesLaw" 72 y_L_read) ∈ WS := WS_in 248 (by decide +kernel) (by decide +kernel)
theorem wk_249 : (Cond.static y_L_read) ∈ WS := WS_in 249 (by decide +kernel) (by decide +kernel)
theorem wk_250 : (Cond.codeWith y_L_read b_L_read 3 (Option.some Jvm.ClassFile.FieldType.int) [((0 : Nat), (8 : Nat), (11 : Nat), (15 : Nat))]) ∈ WS := WS_in 250 (by decide +kernel) (by decide +kernel)
theorem wk_251 : (Cond.methodLink "RingMatchesLaw" 17 y_R_read) ∈ WS := WS_in 251 (by decide +kernel) (by decide +kernel)
theorem wk_252 : (Cond.instanceMethod y_R_read) ∈ WS := WS_in 252 (by decide +kernel) (by decide +kernel)
theorem wk_253 : (Cond.selects "RingMatches" y_R_read y_R_read) ∈ WS := WS_in 253 (by decide +kernel) (by decide +kernel)
theorem wk_254 : (Cond.code y_R_read b_R_read 2 (Option.some Jvm.ClassFile.FieldType.int)) ∈ WS := WS_in 254 (by decide +kernel) (by decide +kernel)
theorem wk_256 : (Cond.methodLink "RingMatches" 78 y_P_parseInto) ∈ WS := WS_in 256 (by decide +kernel) (by decide +kernel)
theorem wk_257 : (Cond.instanceMethod y_P_parseInto) ∈ WS := WS_in 257 (by decide +kernel) (by decide +kernel)
theorem wk_258 : (Cond.selects "RingMatches$Pad" y_P_parseInto y_P_parseInto) ∈ WS := WS_in 258 (by decide +kernel) (by decide +kernel)
theorem wk_259 : (Cond.code y_P_parseInto b_P_parseInto 4 (Option.some Jvm.ClassFile.FieldType.int)) ∈ WS := WS_in 259 (by decide +kernel) (by decide +kernel)
theorem wk_260 : (Cond.methodLink "RingMatches$Pad" 26 y_S_add) ∈ WS := WS_in 260 (by decide +kernel) (by decide +kernel)
theorem wk_261 : (Cond.instanceMethod y_S_add) ∈ WS := WS_in 261 (by decide +kernel) (by decide +kernel)
theorem wk_262 : (Cond.selects "RingMatches$Series" y_S_add y_S_add) ∈ WS := WS_in 262 (by decide +kernel) (by decide +kernel)
theorem wk_263 : (Cond.code y_S_add b_S_add 2 (Option.none : Option Jvm.ClassFile.FieldType)) ∈ WS := WS_in 263 (by decide +kernel) (by decide +kernel)
theorem wk_264 : (Cond.methodLink "RingMatches$Pad" 30 y_P_grown) ∈ WS := WS_in 264 (by decide +kernel) (by decide +kernel)
theorem wk_265 : (Cond.static y_P_grown) ∈ WS := WS_in 265 (by decide +kernel) (by decide +kernel)
theorem wk_266 : (Cond.code y_P_grown b_P_grown 3 (Option.some Jvm.ClassFile.FieldType.int)) ∈ WS := WS_in 266 (by decide +kernel) (by decide +kernel)
theorem wk_267 : (Cond.methodLink "RingMatches$Pad" 33 y_S_makeEven) ∈ WS := WS_in 267 (by decide +kernel) (by decide +kernel)
theorem wk_268 : (Cond.instanceMethod y_S_makeEven) ∈ WS := WS_in 268 (by decide +kernel) (by decide +kernel)
theorem wk_269 : (Cond.selects "RingMatches$Series" y_S_makeEven y_S_makeEven) ∈ WS := WS_in 269 (by decide +kernel) (by decide +kernel)
theorem wk_270 : (Cond.code y_S_makeEven b_S_makeEven 2 (Option.none : Option Jvm.ClassFile.FieldType)) ∈ WS := WS_in 270 (by decide +kernel) (by decide +kernel)
theorem wk_271 : (Cond.methodLink "RingMatches$Series" 37 y_S_evenedFromWidths) ∈ WS := WS_in 271 (by decide +kernel) (by decide +kernel)
theorem wk_273 : (Cond.instanceMethod y_S_evenedFromWidths) ∈ WS := WS_in 273 (by decide +kernel) (by decide +kernel)
theorem wk_274 : (Cond.code y_S_evenedFromWidths b_S_evenedFromWidths 6 (Option.some Jvm.ClassFile.FieldType.int)) ∈ WS := WS_in 274 (by decide +kernel) (by decide +kernel)
theorem wk_275 : (Cond.methodLink "RingMatches$Series" 30 y_S_widthAt) ∈ WS := WS_in 275 (by decide +kernel) (by decide +kernel)
theorem wk_276 : (Cond.instanceMethod y_S_widthAt) ∈ WS := WS_in 276 (by decide +kernel) (by decide +kernel)
theorem wk_277 : (Cond.selects "RingMatches$Series" y_S_widthAt y_S_widthAt) ∈ WS := WS_in 277 (by decide +kernel) (by decide +kernel)
theorem wk_278 : (Cond.code y_S_widthAt b_S_widthAt 2 (Option.some Jvm.ClassFile.FieldType.int)) ∈ WS := WS_in 278 (by decide +kernel) (by decide +kernel)
theorem wk_279 : (Cond.methodLink "RingMatches$Series" 22 y_S_has) ∈ WS := WS_in 279 (by decide +kernel) (by decide +kernel)
theorem wk_280 : (Cond.instanceMethod y_S_has) ∈ WS := WS_in 280 (by decide +kernel) (by decide +kernel)
theorem wk_281 : (Cond.selects "RingMatches$Series" y_S_has y_S_has) ∈ WS := WS_in 281 (by decide +kernel) (by decide +kernel)
theorem wk_282 : (Cond.code y_S_has b_S_has 2 (Option.some Jvm.ClassFile.FieldType.boolean)) ∈ WS := WS_in 282 (by decide +kernel) (by decide +kernel)
theorem wk_283 : (Cond.methodLink "RingMatches$Series" 40 ⟨"java/lang/Math", "min", "(II)I"⟩) ∈ WS := WS_in 283 (by decide +kernel) (by decide +kernel)
theorem wk_284 : (Cond.static ⟨"java/lang/Math", "min", "(II)I"⟩) ∈ WS := WS_in 284 (by decide +kernel) (by decide +kernel)
theorem wk_285 : (Cond.code ⟨"java/lang/Math", "min", "(II)I"⟩ prog_11_method_69_code 2 (Option.some Jvm.ClassFile.FieldType.int)) ∈ WS := WS_in 285 (by decide +kernel) (by decide +kernel)
theorem wk_286 : (Cond.methodLink "RingMatches" 82 y_R_keepNext) ∈ WS := WS_in 286 (by decide +kernel) (by decide +kernel)
theorem wk_288 : (Cond.instanceMethod y_R_keepNext) ∈ WS := WS_in 288 (by decide +kernel) (by decide +kernel)
theorem wk_289 : (Cond.code y_R_keepNext b_R_keepNext 2 (Option.some Jvm.ClassFile.FieldType.int)) ∈ WS := WS_in 289 (by decide +kernel) (by decide +kernel)
theorem wk_290 : (Cond.methodLink "RingMatchesLaw" 76 y_L_width) ∈ WS := WS_in 290 (by decide +kernel) (by decide +kernel)
theorem wk_291 : (Cond.static y_L_width) ∈ WS := WS_in 291 (by decide +kernel) (by decide +kernel)
theorem wk_292 : (Cond.codeWith y_L_width b_L_width 5 (Option.some Jvm.ClassFile.FieldType.int) [((0 : Nat), (10 : Nat), (13 : Nat), (24 : Nat))]) ∈ WS := WS_in 292 (by decide +kernel) (by decide +kernel)
theorem wk_293 : (Cond.classLink "RingMatchesLaw" 24 "java/lang/IndexOutOfBoundsException") ∈ WS := WS_in 293 (by decide +kernel) (by decide +kernel)
theorem wk_294 : (Cond.methodLink "RingMatchesLaw" 21 y_R_width) ∈ WS := WS_in 294 (by decide +kernel) (by decide +kernel)
theorem wk_295 : (Cond.instanceMethod y_R_width) ∈ WS := WS_in 295 (by decide +kernel) (by decide +kernel)
theorem wk_296 : (Cond.selects "RingMatches" y_R_width y_R_width) ∈ WS := WS_in 296 (by decide +kernel) (by decide +kernel)
theorem wk_297 : (Cond.code y_R_width b_R_width 4 (Option.some Jvm.ClassFile.FieldType.int)) ∈ WS := WS_in 297 (by decide +kernel) (by decide +kernel)
theorem wk_298 : (Cond.methodLink "RingMatches" 86 y_R_seriesAt) ∈ WS := WS_in 298 (by decide +kernel) (by decide +kernel)
theorem wk_300 : (Cond.instanceMethod y_R_seriesAt) ∈ WS := WS_in 300 (by decide +kernel) (by decide +kernel)
theorem wk_301 : (Cond.code y_R_seriesAt b_R_seriesAt 2 (Option.some (Jvm.ClassFile.FieldType.object "RingMatches$Series"))) ∈ WS := WS_in 301 (by decide +kernel) (by decide +kernel)
theorem wk_302 : (Cond.classLink "RingMatches" 94 "java/lang/IndexOutOfBoundsException") ∈ WS := WS_in 302 (by decide +kernel) (by decide +kernel)
theorem wk_303 : (Cond.instantiable "java/lang/IndexOutOfBoundsException" 6) ∈ WS := WS_in 303 (by decide +kernel) (by decide +kernel)
theorem wk_312 : (Cond.methodLink "RingMatches" 98 ⟨"java/lang/IndexOutOfBoundsException", "<init>", "(Ljava/lang/String;)V"⟩) ∈ WS := WS_in 312 (by decide +kernel) (by decide +kernel)
theorem wk_318 : (Cond.methodLink "RingMatches" 91 y_S_has) ∈ WS := WS_in 318 (by decide +kernel) (by decide +kernel)
theorem wk_320 : (Cond.methodLink "RingMatches" 99 y_S_widthAt) ∈ WS := WS_in 320 (by decide +kernel) (by decide +kernel)
theorem wk_321 : (Cond.methodLink "RingMatchesLaw" 79 y_L_written) ∈ WS := WS_in 321 (by decide +kernel) (by decide +kernel)
theorem wk_322 : (Cond.static y_L_written) ∈ WS := WS_in 322 (by decide +kernel) (by decide +kernel)
theorem wk_323 : (Cond.codeWith y_L_written b_L_written 5 (Option.some Jvm.ClassFile.FieldType.int) [((0 : Nat), (10 : Nat), (13 : Nat), (24 : Nat))]) ∈ WS := WS_in 323 (by decide +kernel) (by decide +kernel)
theorem wk_324 : (Cond.methodLink "RingMatchesLaw" 26 y_R_written) ∈ WS := WS_in 324 (by decide +kernel) (by decide +kernel)
theorem wk_325 : (Cond.instanceMethod y_R_written) ∈ WS := WS_in 325 (by decide +kernel) (by decide +kernel)
theorem wk_326 : (Cond.selects "RingMatches" y_R_written y_R_written) ∈ WS := WS_in 326 (by decide +kernel) (by decide +kernel)
theorem wk_327 : (Cond.code y_R_written b_R_written 5 (Option.some Jvm.ClassFile.FieldType.int)) ∈ WS := WS_in 327 (by decide +kernel) (by decide +kernel)
theorem wk_328 : (Cond.methodLink "RingMatches" 102 y_S_textLength) ∈ WS := WS_in 328 (by decide +kernel) (by decide +kernel)
theorem wk_329 : (Cond.instanceMethod y_S_textLength) ∈ WS := WS_in 329 (by decide +kernel) (by decide +kernel)
theorem wk_330 : (Cond.selects "RingMatches$Series" y_S_textLength y_S_textLength) ∈ WS := WS_in 330 (by decide +kernel) (by decide +kernel)
theorem wk_331 : (Cond.code y_S_textLength b_S_textLength 3 (Option.some Jvm.ClassFile.FieldType.int)) ∈ WS := WS_in 331 (by decide +kernel) (by decide +kernel)
theorem wk_332 : (Cond.methodLink "RingMatches$Series" 46 y_S_signsFor) ∈ WS := WS_in 332 (by decide +kernel) (by decide +kernel)
theorem wk_333 : (Cond.static y_S_signsFor) ∈ WS := WS_in 333 (by decide +kernel) (by decide +kernel)
theorem wk_334 : (Cond.code y_S_signsFor b_S_signsFor 1 (Option.some Jvm.ClassFile.FieldType.int)) ∈ WS := WS_in 334 (by decide +kernel) (by decide +kernel)
theorem wk_336 : (Cond.methodLink "RingMatches" 107 y_S_textSign) ∈ WS := WS_in 336 (by decide +kernel) (by decide +kernel)
theorem wk_337 : (Cond.instanceMethod y_S_textSign) ∈ WS := WS_in 337 (by decide +kernel) (by decide +kernel)
theorem wk_338 : (Cond.selects "RingMatches$Series" y_S_textSign y_S_textSign) ∈ WS := WS_in 338 (by decide +kernel) (by decide +kernel)
theorem wk_339 : (Cond.code y_S_textSign b_S_textSign 5 (Option.some Jvm.ClassFile.FieldType.int)) ∈ WS := WS_in 339 (by decide +kernel) (by decide +kernel)
theorem wk_340 : (Cond.methodLink "RingMatches$Series" 49 y_S_signFor) ∈ WS := WS_in 340 (by decide +kernel) (by decide +kernel)
theorem wk_341 : (Cond.static y_S_signFor) ∈ WS := WS_in 341 (by decide +kernel) (by decide +kernel)
theorem wk_342 : (Cond.code y_S_signFor b_S_signFor 4 (Option.some Jvm.ClassFile.FieldType.int)) ∈ WS := WS_in 342 (by decide +kernel) (by decide +kernel)
theorem wk_343 : (Cond.methodLink "RingMatchesLaw" 82 y_L_evened) ∈ WS := WS_in 343 (by decide +kernel) (by decide +kernel)
theorem wk_344 : (Cond.static y_L_evened) ∈ WS := WS_in 344 (by decide +kernel) (by decide +kernel)
theorem wk_345 : (Cond.codeWith y_L_evened b_L_evened 5 (Option.some Jvm.ClassFile.FieldType.int) [((0 : Nat), (10 : Nat), (13 : Nat), (24 : Nat))]) ∈ WS := WS_in 345 (by decide +kernel) (by decide +kernel)
theorem wk_346 : (Cond.methodLink "RingMatchesLaw" 29 y_R_evened) ∈ WS := WS_in 346 (by decide +kernel) (by decide +kernel)
theorem wk_347 : (Cond.instanceMethod y_R_evened) ∈ WS := WS_in 347 (by decide +kernel) (by decide +kernel)
theorem wk_348 : (Cond.selects "RingMatches" y_R_evened y_R_evened) ∈ WS := WS_in 348 (by decide +kernel) (by decide +kernel)
theorem wk_349 : (Cond.code y_R_evened b_R_evened 4 (Option.some Jvm.ClassFile.FieldType.int)) ∈ WS := WS_in 349 (by decide +kernel) (by decide +kernel)
theorem wk_350 : (Cond.methodLink "RingMatches" 110 y_S_evenAt) ∈ WS := WS_in 350 (by decide +kernel) (by decide +kernel)
theorem wk_351 : (Cond.instanceMethod y_S_evenAt) ∈ WS := WS_in 351 (by decide +kernel) (by decide +kernel)
theorem wk_352 : (Cond.selects "RingMatches$Series" y_S_evenAt y_S_evenAt) ∈ WS := WS_in 352 (by decide +kernel) (by decide +kernel)
theorem wk_353 : (Cond.code y_S_evenAt b_S_evenAt 2 (Option.some Jvm.ClassFile.FieldType.int)) ∈ WS := WS_in 353 (by decide +kernel) (by decide +kernel)
theorem wk_354 : (Cond.methodLink "RingMatchesLaw" 85 y_L_match) ∈ WS := WS_in 354 (by decide +kernel) (by decide +kernel)
theorem wk_355 : (Cond.static y_L_match) ∈ WS := WS_in 355 (by decide +kernel) (by decide +kernel)
theorem wk_356 : (Cond.codeWith y_L_match b_L_match 6 (Option.some Jvm.ClassFile.FieldType.int) [((0 : Nat), (12 : Nat), (15 : Nat), (24 : Nat)), ((0 : Nat), (12 : Nat), (19 : Nat), (13 : Nat))]) ∈ WS := WS_in 356 (by decide +kernel) (by decide +kernel)
theorem wk_357 : (Cond.methodLink "RingMatchesLaw" 32 y_R_match) ∈ WS := WS_in 357 (by decide +kernel) (by decide +kernel)
theorem wk_358 : (Cond.instanceMethod y_R_match) ∈ WS := WS_in 358 (by decide +kernel) (by decide +kernel)
theorem wk_359 : (Cond.selects "RingMatches" y_R_match y_R_match) ∈ WS := WS_in 359 (by decide +kernel) (by decide +kernel)
theorem wk_360 : (Cond.code y_R_match b_R_match 8 (Option.some Jvm.ClassFile.FieldType.int)) ∈ WS := WS_in 360 (by decide +kernel) (by decide +kernel)
theorem wk_361 : (Cond.methodLink "RingMatches" 113 y_R_requireLeast) ∈ WS := WS_in 361 (by decide +kernel) (by decide +kernel)
theorem wk_362 : (Cond.static y_R_requireLeast) ∈ WS := WS_in 362 (by decide +kernel) (by decide +kernel)
theorem wk_363 : (Cond.code y_R_requireLeast b_R_requireLeast 1 (Option.none : Option Jvm.ClassFile.FieldType)) ∈ WS := WS_in 363 (by decide +kernel) (by decide +kernel)
theorem wk_365 : (Cond.methodLink "RingMatches" 122 y_O_lay) ∈ WS := WS_in 365 (by decide +kernel) (by decide +kernel)
theorem wk_366 : (Cond.instanceMethod y_O_lay) ∈ WS := WS_in 366 (by decide +kernel) (by decide +kernel)
theorem wk_367 : (Cond.selects "RingMatches$Overlap" y_O_lay y_O_lay) ∈ WS := WS_in 367 (by decide +kernel) (by decide +kernel)
theorem wk_368 : (Cond.code y_O_lay b_O_lay 19 (Option.none : Option Jvm.ClassFile.FieldType)) ∈ WS := WS_in 368 (by decide +kernel) (by decide +kernel)
theorem wk_369 : (Cond.methodLink "RingMatches$Overlap" 15 ⟨"java/lang/Math", "min", "(II)I"⟩) ∈ WS := WS_in 369 (by decide +kernel) (by decide +kernel)
theorem wk_370 : (Cond.methodLink "RingMatches$Overlap" 21 ⟨"java/lang/Math", "max", "(II)I"⟩) ∈ WS := WS_in 370 (by decide +kernel) (by decide +kernel)
theorem wk_371 : (Cond.static ⟨"java/lang/Math", "max", "(II)I"⟩) ∈ WS := WS_in 371 (by decide +kernel) (by decide +kernel)
theorem wk_372 : (Cond.code ⟨"java/lang/Math", "max", "(II)I"⟩ prog_11_method_65_code 2 (Option.some Jvm.ClassFile.FieldType.int)) ∈ WS := WS_in 372 (by decide +kernel) (by decide +kernel)
theorem wk_373 : (Cond.methodLink "RingMatches$Overlap" 24 y_S_evenAt) ∈ WS := WS_in 373 (by decide +kernel) (by decide +kernel)
theorem wk_374 : (Cond.methodLink "RingMatches$Overlap" 36 y_O_hundredths) ∈ WS := WS_in 374 (by decide +kernel) (by decide +kernel)
theorem wk_375 : (Cond.static y_O_hundredths) ∈ WS := WS_in 375 (by decide +kernel) (by decide +kernel)
theorem wk_376 : (Cond.code y_O_hundredths b_O_hundredths 13 (Option.some Jvm.ClassFile.FieldType.int)) ∈ WS := WS_in 376 (by decide +kernel) (by decide +kernel)
theorem wk_377 : (Cond.constantLong "RingMatches$Overlap" 43 10000) ∈ WS := WS_in 377 (by decide +kernel) (by decide +kernel)
theorem wk_378 : (Cond.methodLink "RingMatches" 129 y_O_compareRises) ∈ WS := WS_in 378 (by decide +kernel) (by decide +kernel)
theorem wk_379 : (Cond.instanceMethod y_O_compareRises) ∈ WS := WS_in 379 (by decide +kernel) (by decide +kernel)
theorem wk_380 : (Cond.selects "RingMatches$Overlap" y_O_compareRises y_O_compareRises) ∈ WS := WS_in 380 (by decide +kernel) (by decide +kernel)
theorem wk_381 : (Cond.code y_O_compareRises b_O_compareRises 5 (Option.none : Option Jvm.ClassFile.FieldType)) ∈ WS := WS_in 381 (by decide +kernel) (by decide +kernel)
theorem wk_382 : (Cond.methodLink "RingMatches$Overlap" 51 y_O_isPair) ∈ WS := WS_in 382 (by decide +kernel) (by decide +kernel)
theorem wk_384 : (Cond.instanceMethod y_O_isPair) ∈ WS := WS_in 384 (by decide +kernel) (by decide +kernel)
theorem wk_385 : (Cond.code y_O_isPair b_O_isPair 4 (Option.some Jvm.ClassFile.FieldType.boolean)) ∈ WS := WS_in 385 (by decide +kernel) (by decide +kernel)
theorem wk_386 : (Cond.methodLink "RingMatches$Overlap" 62 y_S_widthAt) ∈ WS := WS_in 386 (by decide +kernel) (by decide +kernel)
theorem wk_387 : (Cond.methodLink "RingMatches$Overlap" 55 y_O_rise) ∈ WS := WS_in 387 (by decide +kernel) (by decide +kernel)
theorem wk_388 : (Cond.static y_O_rise) ∈ WS := WS_in 388 (by decide +kernel) (by decide +kernel)
theorem wk_389 : (Cond.code y_O_rise b_O_rise 4 (Option.some Jvm.ClassFile.FieldType.int)) ∈ WS := WS_in 389 (by decide +kernel) (by decide +kernel)
theorem wk_390 : (Cond.methodLink "RingMatches$Overlap" 59 y_O_likeness) ∈ WS := WS_in 390 (by decide +kernel) (by decide +kernel)
theorem wk_391 : (Cond.static y_O_likeness) ∈ WS := WS_in 391 (by decide +kernel) (by decide +kernel)
theorem wk_392 : (Cond.code y_O_likeness b_O_likeness 2 (Option.some Jvm.ClassFile.FieldType.int)) ∈ WS := WS_in 392 (by decide +kernel) (by decide +kernel)
theorem wk_393 : (Cond.methodLink "RingMatches" 133 y_R_rankNewest) ∈ WS := WS_in 393 (by decide +kernel) (by decide +kernel)
theorem wk_395 : (Cond.instanceMethod y_R_rankNewest) ∈ WS := WS_in 395 (by decide +kernel) (by decide +kernel)
theorem wk_396 : (Cond.code y_R_rankNewest b_R_rankNewest 3 (Option.none : Option Jvm.ClassFile.FieldType)) ∈ WS := WS_in 396 (by decide +kernel) (by decide +kernel)
theorem wk_397 : (Cond.methodLink "RingMatches" 209 y_O_outranks) ∈ WS := WS_in 397 (by decide +kernel) (by decide +kernel)
theorem wk_398 : (Cond.instanceMethod y_O_outranks) ∈ WS := WS_in 398 (by decide +kernel) (by decide +kernel)
theorem wk_399 : (Cond.selects "RingMatches$Overlap" y_O_outranks y_O_outranks) ∈ WS := WS_in 399 (by decide +kernel) (by decide +kernel)
theorem wk_400 : (Cond.code y_O_outranks b_O_outranks 2 (Option.some Jvm.ClassFile.FieldType.boolean)) ∈ WS := WS_in 400 (by decide +kernel) (by decide +kernel)
theorem wk_401 : (Cond.methodLink "RingMatchesLaw" 89 y_L_overlap) ∈ WS := WS_in 401 (by decide +kernel) (by decide +kernel)
theorem wk_402 : (Cond.static y_L_overlap) ∈ WS := WS_in 402 (by decide +kernel) (by decide +kernel)
theorem wk_403 : (Cond.codeWith y_L_overlap b_L_overlap 5 (Option.some Jvm.ClassFile.FieldType.int) [((0 : Nat), (10 : Nat), (13 : Nat), (24 : Nat))]) ∈ WS := WS_in 403 (by decide +kernel) (by decide +kernel)
theorem wk_404 : (Cond.methodLink "RingMatchesLaw" 36 y_R_overlap) ∈ WS := WS_in 404 (by decide +kernel) (by decide +kernel)
theorem wk_405 : (Cond.instanceMethod y_R_overlap) ∈ WS := WS_in 405 (by decide +kernel) (by decide +kernel)
theorem wk_406 : (Cond.selects "RingMatches" y_R_overlap y_R_overlap) ∈ WS := WS_in 406 (by decide +kernel) (by decide +kernel)
theorem wk_407 : (Cond.code y_R_overlap b_R_overlap 4 (Option.some Jvm.ClassFile.FieldType.int)) ∈ WS := WS_in 407 (by decide +kernel) (by decide +kernel)
theorem wk_408 : (Cond.methodLink "RingMatches" 136 y_R_overlapAt) ∈ WS := WS_in 408 (by decide +kernel) (by decide +kernel)
theorem wk_410 : (Cond.instanceMethod y_R_overlapAt) ∈ WS := WS_in 410 (by decide +kernel) (by decide +kernel)
theorem wk_411 : (Cond.code y_R_overlapAt b_R_overlapAt 2 (Option.some (Jvm.ClassFile.FieldType.object "RingMatches$Overlap"))) ∈ WS := WS_in 411 (by decide +kernel) (by decide +kernel)
theorem wk_414 : (Cond.methodLink "RingMatchesLaw" 92 y_L_agree) ∈ WS := WS_in 414 (by decide +kernel) (by decide +kernel)
theorem wk_415 : (Cond.static y_L_agree) ∈ WS := WS_in 415 (by decide +kernel) (by decide +kernel)
theorem wk_416 : (Cond.codeWith y_L_agree b_L_agree 5 (Option.some Jvm.ClassFile.FieldType.int) [((0 : Nat), (10 : Nat), (13 : Nat), (24 : Nat))]) ∈ WS := WS_in 416 (by decide +kernel) (by decide +kernel)
theorem wk_417 : (Cond.methodLink "RingMatchesLaw" 39 y_R_agree) ∈ WS := WS_in 417 (by decide +kernel) (by decide +kernel)
theorem wk_418 : (Cond.instanceMethod y_R_agree) ∈ WS := WS_in 418 (by decide +kernel) (by decide +kernel)
theorem wk_419 : (Cond.selects "RingMatches" y_R_agree y_R_agree) ∈ WS := WS_in 419 (by decide +kernel) (by decide +kernel)
theorem wk_420 : (Cond.code y_R_agree b_R_agree 5 (Option.some Jvm.ClassFile.FieldType.int)) ∈ WS := WS_in 420 (by decide +kernel) (by decide +kernel)
theorem wk_421 : (Cond.methodLink "RingMatches" 148 y_R_requirePart) ∈ WS := WS_in 421 (by decide +kernel) (by decide +kernel)
theorem wk_422 : (Cond.static y_R_requirePart) ∈ WS := WS_in 422 (by decide +kernel) (by decide +kernel)
theorem wk_423 : (Cond.code y_R_requirePart b_R_requirePart 1 (Option.none : Option Jvm.ClassFile.FieldType)) ∈ WS := WS_in 423 (by decide +kernel) (by decide +kernel)
theorem wk_425 : (Cond.methodLink "RingMatches" 157 y_R_lessened) ∈ WS := WS_in 425 (by decide +kernel) (by decide +kernel)
theorem wk_426 : (Cond.static y_R_lessened) ∈ WS := WS_in 426 (by decide +kernel) (by decide +kernel)
theorem wk_427 : (Cond.code y_R_lessened b_R_lessened 7 (Option.some Jvm.ClassFile.FieldType.long)) ∈ WS := WS_in 427 (by decide +kernel) (by decide +kernel)
theorem wk_428 : (Cond.methodLink "RingMatches" 217 y_R_greatestDivisor) ∈ WS := WS_in 428 (by decide +kernel) (by decide +kernel)
theorem wk_429 : (Cond.static y_R_greatestDivisor) ∈ WS := WS_in 429 (by decide +kernel) (by decide +kernel)
theorem wk_430 : (Cond.code y_R_greatestDivisor b_R_greatestDivisor 11 (Option.some Jvm.ClassFile.FieldType.long)) ∈ WS := WS_in 430 (by decide +kernel) (by decide +kernel)
theorem wk_431 : (Cond.methodLink "RingMatchesLaw" 95 y_L_odds) ∈ WS := WS_in 431 (by decide +kernel) (by decide +kernel)
theorem wk_432 : (Cond.static y_L_odds) ∈ WS := WS_in 432 (by decide +kernel) (by decide +kernel)
theorem wk_433 : (Cond.codeWith y_L_odds b_L_odds 5 (Option.some Jvm.ClassFile.FieldType.int) [((0 : Nat), (9 : Nat), (12 : Nat), (24 : Nat))]) ∈ WS := WS_in 433 (by decide +kernel) (by decide +kernel)
theorem wk_434 : (Cond.methodLink "RingMatchesLaw" 42 y_R_odds) ∈ WS := WS_in 434 (by decide +kernel) (by decide +kernel)
theorem wk_435 : (Cond.instanceMethod y_R_odds) ∈ WS := WS_in 435 (by decide +kernel) (by decide +kernel)
theorem wk_436 : (Cond.selects "RingMatches" y_R_odds y_R_odds) ∈ WS := WS_in 436 (by decide +kernel) (by decide +kernel)
theorem wk_437 : (Cond.code y_R_odds b_R_odds 8 (Option.some Jvm.ClassFile.FieldType.long)) ∈ WS := WS_in 437 (by decide +kernel) (by decide +kernel)
theorem wk_438 : (Cond.methodLink "RingMatches" 161 y_R_waysToTake) ∈ WS := WS_in 438 (by decide +kernel) (by decide +kernel)
theorem wk_439 : (Cond.static y_R_waysToTake) ∈ WS := WS_in 439 (by decide +kernel) (by decide +kernel)
theorem wk_440 : (Cond.code y_R_waysToTake b_R_waysToTake 7 (Option.some Jvm.ClassFile.FieldType.long)) ∈ WS := WS_in 440 (by decide +kernel) (by decide +kernel)
theorem wk_441 : (Cond.methodLink "RingMatchesLaw" 98 y_L_absent) ∈ WS := WS_in 441 (by decide +kernel) (by decide +kernel)
theorem wk_442 : (Cond.static y_L_absent) ∈ WS := WS_in 442 (by decide +kernel) (by decide +kernel)
theorem wk_443 : (Cond.codeWith y_L_absent b_L_absent 6 (Option.some Jvm.ClassFile.FieldType.int) [((0 : Nat), (12 : Nat), (15 : Nat), (24 : Nat)), ((0 : Nat), (12 : Nat), (19 : Nat), (13 : Nat))]) ∈ WS := WS_in 443 (by decide +kernel) (by decide +kernel)
theorem wk_444 : (Cond.methodLink "RingMatchesLaw" 46 y_R_absent) ∈ WS := WS_in 444 (by decide +kernel) (by decide +kernel)
theorem wk_445 : (Cond.instanceMethod y_R_absent) ∈ WS := WS_in 445 (by decide +kernel) (by decide +kernel)
theorem wk_446 : (Cond.selects "RingMatches" y_R_absent y_R_absent) ∈ WS := WS_in 446 (by decide +kernel) (by decide +kernel)
theorem wk_447 : (Cond.code y_R_absent b_R_absent 9 (Option.some Jvm.ClassFile.FieldType.int)) ∈ WS := WS_in 447 (by decide +kernel) (by decide +kernel)
theorem wk_450 : (Cond.methodLink "RingMatches" 169 y_S_copyWithGap) ∈ WS := WS_in 450 (by decide +kernel) (by decide +kernel)
theorem wk_451 : (Cond.instanceMethod y_S_copyWithGap) ∈ WS := WS_in 451 (by decide +kernel) (by decide +kernel)
theorem wk_452 : (Cond.selects "RingMatches$Series" y_S_copyWithGap y_S_copyWithGap) ∈ WS := WS_in 452 (by decide +kernel) (by decide +kernel)
theorem wk_453 : (Cond.code y_S_copyWithGap b_S_copyWithGap 4 (Option.none : Option Jvm.ClassFile.FieldType)) ∈ WS := WS_in 453 (by decide +kernel) (by decide +kernel)
theorem wk_454 : (Cond.methodLink "RingMatches$Series" 26 y_S_add) ∈ WS := WS_in 454 (by decide +kernel) (by decide +kernel)
theorem wk_455 : (Cond.methodLink "RingMatches$Series" 34 y_S_makeEven) ∈ WS := WS_in 455 (by decide +kernel) (by decide +kernel)
theorem wk_456 : (Cond.methodLink "RingMatchesLaw" 101 y_L_core) ∈ WS := WS_in 456 (by decide +kernel) (by decide +kernel)
theorem wk_457 : (Cond.static y_L_core) ∈ WS := WS_in 457 (by decide +kernel) (by decide +kernel)
theorem wk_458 : (Cond.codeWith y_L_core b_L_core 6 (Option.some Jvm.ClassFile.FieldType.int) [((0 : Nat), (12 : Nat), (15 : Nat), (24 : Nat)), ((0 : Nat), (12 : Nat), (19 : Nat), (15 : Nat))]) ∈ WS := WS_in 458 (by decide +kernel) (by decide +kernel)
theorem wk_459 : (Cond.methodLink "RingMatchesLaw" 49 y_R_core) ∈ WS := WS_in 459 (by decide +kernel) (by decide +kernel)
theorem wk_460 : (Cond.instanceMethod y_R_core) ∈ WS := WS_in 460 (by decide +kernel) (by decide +kernel)
theorem wk_461 : (Cond.selects "RingMatches" y_R_core y_R_core) ∈ WS := WS_in 461 (by decide +kernel) (by decide +kernel)
theorem wk_462 : (Cond.code y_R_core b_R_core 10 (Option.some Jvm.ClassFile.FieldType.int)) ∈ WS := WS_in 462 (by decide +kernel) (by decide +kernel)
theorem wk_463 : (Cond.methodLink "RingMatches" 173 ⟨"java/lang/Math", "min", "(II)I"⟩) ∈ WS := WS_in 463 (by decide +kernel) (by decide +kernel)
theorem wk_464 : (Cond.methodLink "RingMatches" 179 ⟨"java/lang/Math", "max", "(II)I"⟩) ∈ WS := WS_in 464 (by decide +kernel) (by decide +kernel)
theorem wk_465 : (Cond.methodLink "RingMatches" 182 y_R_mean) ∈ WS := WS_in 465 (by decide +kernel) (by decide +kernel)
theorem wk_466 : (Cond.static y_R_mean) ∈ WS := WS_in 466 (by decide +kernel) (by decide +kernel)
theorem wk_467 : (Cond.code y_R_mean b_R_mean 2 (Option.some Jvm.ClassFile.FieldType.int)) ∈ WS := WS_in 467 (by decide +kernel) (by decide +kernel)
theorem wk_468 : (Cond.methodLink "RingMatches" 185 y_S_add) ∈ WS := WS_in 468 (by decide +kernel) (by decide +kernel)
theorem wk_469 : (Cond.methodLink "RingMatches" 188 y_S_makeEven) ∈ WS := WS_in 469 (by decide +kernel) (by decide +kernel)
theorem wk_470 : (Cond.methodLink "RingMatchesLaw" 104 y_L_group) ∈ WS := WS_in 470 (by decide +kernel) (by decide +kernel)
theorem wk_471 : (Cond.static y_L_group) ∈ WS := WS_in 471 (by decide +kernel) (by decide +kernel)
theorem wk_472 : (Cond.codeWith y_L_group b_L_group 6 (Option.some Jvm.ClassFile.FieldType.int) [((0 : Nat), (12 : Nat), (15 : Nat), (24 : Nat)), ((0 : Nat), (12 : Nat), (19 : Nat), (13 : Nat))]) ∈ WS := WS_in 472 (by decide +kernel) (by decide +kernel)
theorem wk_473 : (Cond.methodLink "RingMatchesLaw" 52 y_R_group) ∈ WS := WS_in 473 (by decide +kernel) (by decide +kernel)
theorem wk_474 : (Cond.instanceMethod y_R_group) ∈ WS := WS_in 474 (by decide +kernel) (by decide +kernel)
theorem wk_475 : (Cond.selects "RingMatches" y_R_group y_R_group) ∈ WS := WS_in 475 (by decide +kernel) (by decide +kernel)
theorem wk_476 : (Cond.code y_R_group b_R_group 6 (Option.some Jvm.ClassFile.FieldType.int)) ∈ WS := WS_in 476 (by decide +kernel) (by decide +kernel)
theorem wk_477 : (Cond.methodLink "RingMatches" 191 y_R_memberNotAsked) ∈ WS := WS_in 477 (by decide +kernel) (by decide +kernel)
theorem wk_479 : (Cond.instanceMethod y_R_memberNotAsked) ∈ WS := WS_in 479 (by decide +kernel) (by decide +kernel)
theorem wk_480 : (Cond.code y_R_memberNotAsked b_R_memberNotAsked 2 (Option.some Jvm.ClassFile.FieldType.int)) ∈ WS := WS_in 480 (by decide +kernel) (by decide +kernel)
theorem wk_481 : (Cond.methodLink "RingMatches" 194 y_R_addJoinedTo) ∈ WS := WS_in 481 (by decide +kernel) (by decide +kernel)
theorem wk_483 : (Cond.instanceMethod y_R_addJoinedTo) ∈ WS := WS_in 483 (by decide +kernel) (by decide +kernel)
theorem wk_484 : (Cond.code y_R_addJoinedTo b_R_addJoinedTo 5 (Option.none : Option Jvm.ClassFile.FieldType)) ∈ WS := WS_in 484 (by decide +kernel) (by decide +kernel)
theorem wk_485 : (Cond.methodLink "RingMatches" 213 y_R_areJoined) ∈ WS := WS_in 485 (by decide +kernel) (by decide +kernel)
theorem wk_487 : (Cond.instanceMethod y_R_areJoined) ∈ WS := WS_in 487 (by decide +kernel) (by decide +kernel)
theorem wk_488 : (Cond.code y_R_areJoined b_R_areJoined 6 (Option.some Jvm.ClassFile.FieldType.boolean)) ∈ WS := WS_in 488 (by decide +kernel) (by decide +kernel)
theorem wk_489 : (Cond.methodLink "RingMatches" 198 y_R_leastMember) ∈ WS := WS_in 489 (by decide +kernel) (by decide +kernel)
theorem wk_491 : (Cond.instanceMethod y_R_leastMember) ∈ WS := WS_in 491 (by decide +kernel) (by decide +kernel)
theorem wk_492 : (Cond.code y_R_leastMember b_R_leastMember 2 (Option.some Jvm.ClassFile.FieldType.int)) ∈ WS := WS_in 492 (by decide +kernel) (by decide +kernel)
theorem wk_493 : (Cond.methodLink "RingMatchesLaw" 107 y_L_count) ∈ WS := WS_in 493 (by decide +kernel) (by decide +kernel)
theorem wk_494 : (Cond.static y_L_count) ∈ WS := WS_in 494 (by decide +kernel) (by decide +kernel)
theorem wk_495 : (Cond.codeWith y_L_count b_L_count 4 (Option.some Jvm.ClassFile.FieldType.int) [((0 : Nat), (9 : Nat), (12 : Nat), (24 : Nat))]) ∈ WS := WS_in 495 (by decide +kernel) (by decide +kernel)
theorem wk_496 : (Cond.methodLink "RingMatchesLaw" 55 y_R_count) ∈ WS := WS_in 496 (by decide +kernel) (by decide +kernel)
theorem wk_497 : (Cond.instanceMethod y_R_count) ∈ WS := WS_in 497 (by decide +kernel) (by decide +kernel)
theorem wk_498 : (Cond.selects "RingMatches" y_R_count y_R_count) ∈ WS := WS_in 498 (by decide +kernel) (by decide +kernel)
theorem wk_499 : (Cond.code y_R_count b_R_count 2 (Option.some Jvm.ClassFile.FieldType.int)) ∈ WS := WS_in 499 (by decide +kernel) (by decide +kernel)
theorem wk_500 : (Cond.classLink "RingMatchesLaw" 60 "RingMatchesModel") ∈ WS := WS_in 500 (by decide +kernel) (by decide +kernel)
theorem wk_501 : (Cond.instantiable "RingMatchesModel" 18) ∈ WS := WS_in 501 (by decide +kernel) (by decide +kernel)
theorem wk_502 : (Cond.methodLink "RingMatchesLaw" 62 y_M_init) ∈ WS := WS_in 502 (by decide +kernel) (by decide +kernel)
theorem wk_503 : (Cond.instanceMethod y_M_init) ∈ WS := WS_in 503 (by decide +kernel) (by decide +kernel)
theorem wk_504 : (Cond.code y_M_init b_M_init 1 (Option.none : Option Jvm.ClassFile.FieldType)) ∈ WS := WS_in 504 (by decide +kernel) (by decide +kernel)
theorem wk_505 : (Cond.methodLink "RingMatchesModel" 1 ⟨"java/lang/Object", "<init>", "()V"⟩) ∈ WS := WS_in 505 (by decide +kernel) (by decide +kernel)
theorem wk_506 : (Cond.fieldLink "RingMatchesModel" 28 "RingMatchesModel" "thrown" "I") ∈ WS := WS_in 506 (by decide +kernel) (by decide +kernel)
theorem wk_507 : (Cond.fieldLink "RingMatchesModel" 39 "RingMatchesModel" "padded" "I") ∈ WS := WS_in 507 (by decide +kernel) (by decide +kernel)
theorem wk_508 : (Cond.fieldLink "RingMatchesModel" 7 "RingMatchesModel" "pad" "[I") ∈ WS := WS_in 508 (by decide +kernel) (by decide +kernel)
theorem wk_509 : (Cond.fieldLink "RingMatchesModel" 32 "RingMatchesModel" "series" "I") ∈ WS := WS_in 509 (by decide +kernel) (by decide +kernel)
theorem wk_510 : (Cond.fieldLink "RingMatchesModel" 13 "RingMatchesModel" "sizes" "[I") ∈ WS := WS_in 510 (by decide +kernel) (by decide +kernel)
theorem wk_511 : (Cond.fieldLink "RingMatchesModel" 16 "RingMatchesModel" "widths" "[I") ∈ WS := WS_in 511 (by decide +kernel) (by decide +kernel)
theorem wk_512 : (Cond.fieldLink "RingMatchesModel" 109 "RingMatchesModel" "tries" "I") ∈ WS := WS_in 512 (by decide +kernel) (by decide +kernel)
theorem wk_513 : (Cond.fieldLink "RingMatchesModel" 102 "RingMatchesModel" "listed" "I") ∈ WS := WS_in 513 (by decide +kernel) (by decide +kernel)
theorem wk_514 : (Cond.fieldLink "RingMatchesModel" 96 "RingMatchesModel" "first" "I") ∈ WS := WS_in 514 (by decide +kernel) (by decide +kernel)
theorem wk_515 : (Cond.fieldLink "RingMatchesModel" 99 "RingMatchesModel" "second" "I") ∈ WS := WS_in 515 (by decide +kernel) (by decide +kernel)
theorem wk_516 : (Cond.fieldLink "RingMatchesModel" 19 "RingMatchesModel" "shifts" "[I") ∈ WS := WS_in 516 (by decide +kernel) (by decide +kernel)
theorem wk_517 : (Cond.fieldLink "RingMatchesModel" 22 "RingMatchesModel" "pairs" "[I") ∈ WS := WS_in 517 (by decide +kernel) (by decide +kernel)
theorem wk_518 : (Cond.fieldLink "RingMatchesModel" 25 "RingMatchesModel" "ranks" "[I") ∈ WS := WS_in 518 (by decide +kernel) (by decide +kernel)
theorem wk_519 : (Cond.fieldLink "RingMatchesModel" 75 "RingMatchesModel" "n" "I") ∈ WS := WS_in 519 (by decide +kernel) (by decide +kernel)
theorem wk_520 : (Cond.fieldLink "RingMatchesModel" 78 "RingMatchesModel" "rises" "I") ∈ WS := WS_in 520 (by decide +kernel) (by decide +kernel)
theorem wk_521 : (Cond.fieldLink "RingMatchesModel" 81 "RingMatchesModel" "agreed" "I") ∈ WS := WS_in 521 (by decide +kernel) (by decide +kernel)
theorem wk_522 : (Cond.fieldLink "RingMatchesModel" 118 "RingMatchesModel" "above" "J") ∈ WS := WS_in 522 (by decide +kernel) (by decide +kernel)
theorem wk_523 : (Cond.fieldLink "RingMatchesModel" 122 "RingMatchesModel" "below" "J") ∈ WS := WS_in 523 (by decide +kernel) (by decide +kernel)
theorem wk_561 : (Cond.methodLink "RingMatchesLaw" 69 y_M_thrown) ∈ WS := WS_in 561 (by decide +kernel) (by decide +kernel)
theorem wk_562 : (Cond.instanceMethod y_M_thrown) ∈ WS := WS_in 562 (by decide +kernel) (by decide +kernel)
theorem wk_563 : (Cond.selects "RingMatchesModel" y_M_thrown y_M_thrown) ∈ WS := WS_in 563 (by decide +kernel) (by decide +kernel)
theorem wk_564 : (Cond.code y_M_thrown b_M_thrown 1 (Option.some Jvm.ClassFile.FieldType.int)) ∈ WS := WS_in 564 (by decide +kernel) (by decide +kernel)
theorem wk_565 : (Cond.methodLink "RingMatchesLaw" 68 y_M_unit) ∈ WS := WS_in 565 (by decide +kernel) (by decide +kernel)
theorem wk_566 : (Cond.instanceMethod y_M_unit) ∈ WS := WS_in 566 (by decide +kernel) (by decide +kernel)
theorem wk_567 : (Cond.selects "RingMatchesModel" y_M_unit y_M_unit) ∈ WS := WS_in 567 (by decide +kernel) (by decide +kernel)
theorem wk_568 : (Cond.code y_M_unit b_M_unit 3 (Option.some Jvm.ClassFile.FieldType.int)) ∈ WS := WS_in 568 (by decide +kernel) (by decide +kernel)
theorem wk_569 : (Cond.methodLink "RingMatchesModel" 42 y_M_plain) ∈ WS := WS_in 569 (by decide +kernel) (by decide +kernel)
theorem wk_570 : (Cond.static y_M_plain) ∈ WS := WS_in 570 (by decide +kernel) (by decide +kernel)
theorem wk_571 : (Cond.code y_M_plain b_M_plain 4 (Option.some Jvm.ClassFile.FieldType.boolean)) ∈ WS := WS_in 571 (by decide +kernel) (by decide +kernel)
theorem wk_572 : (Cond.methodLink "RingMatchesModel" 35 y_M_within) ∈ WS := WS_in 572 (by decide +kernel) (by decide +kernel)
theorem wk_573 : (Cond.static y_M_within) ∈ WS := WS_in 573 (by decide +kernel) (by decide +kernel)
theorem wk_574 : (Cond.code y_M_within b_M_within 3 (Option.some Jvm.ClassFile.FieldType.boolean)) ∈ WS := WS_in 574 (by decide +kernel) (by decide +kernel)
theorem wk_575 : (Cond.methodLink "RingMatchesModel" 46 y_M_signs) ∈ WS := WS_in 575 (by decide +kernel) (by decide +kernel)
theorem wk_576 : (Cond.static y_M_signs) ∈ WS := WS_in 576 (by decide +kernel) (by decide +kernel)
theorem wk_577 : (Cond.code y_M_signs b_M_signs 3 (Option.some Jvm.ClassFile.FieldType.int)) ∈ WS := WS_in 577 (by decide +kernel) (by decide +kernel)
theorem wk_578 : (Cond.methodLink "RingMatchesModel" 50 y_M_goes) ∈ WS := WS_in 578 (by decide +kernel) (by decide +kernel)
theorem wk_580 : (Cond.instanceMethod y_M_goes) ∈ WS := WS_in 580 (by decide +kernel) (by decide +kernel)
theorem wk_581 : (Cond.code y_M_goes b_M_goes 4 (Option.some Jvm.ClassFile.FieldType.boolean)) ∈ WS := WS_in 581 (by decide +kernel) (by decide +kernel)
theorem wk_582 : (Cond.methodLink "RingMatchesModel" 54 y_M_push) ∈ WS := WS_in 582 (by decide +kernel) (by decide +kernel)
theorem wk_584 : (Cond.instanceMethod y_M_push) ∈ WS := WS_in 584 (by decide +kernel) (by decide +kernel)
theorem wk_585 : (Cond.code y_M_push b_M_push 4 (Option.none : Option Jvm.ClassFile.FieldType)) ∈ WS := WS_in 585 (by decide +kernel) (by decide +kernel)
theorem wk_586 : (Cond.methodLink "RingMatchesLaw" 75 y_M_read) ∈ WS := WS_in 586 (by decide +kernel) (by decide +kernel)
theorem wk_587 : (Cond.instanceMethod y_M_read) ∈ WS := WS_in 587 (by decide +kernel) (by decide +kernel)
theorem wk_588 : (Cond.selects "RingMatchesModel" y_M_read y_M_read) ∈ WS := WS_in 588 (by decide +kernel) (by decide +kernel)
theorem wk_589 : (Cond.code y_M_read b_M_read 2 (Option.some Jvm.ClassFile.FieldType.int)) ∈ WS := WS_in 589 (by decide +kernel) (by decide +kernel)
theorem wk_590 : (Cond.methodLink "RingMatchesModel" 58 y_M_fault) ∈ WS := WS_in 590 (by decide +kernel) (by decide +kernel)
theorem wk_592 : (Cond.instanceMethod y_M_fault) ∈ WS := WS_in 592 (by decide +kernel) (by decide +kernel)
theorem wk_593 : (Cond.code y_M_fault b_M_fault 6 (Option.some Jvm.ClassFile.FieldType.int)) ∈ WS := WS_in 593 (by decide +kernel) (by decide +kernel)
theorem wk_594 : (Cond.methodLink "RingMatchesLaw" 78 y_M_width) ∈ WS := WS_in 594 (by decide +kernel) (by decide +kernel)
theorem wk_595 : (Cond.instanceMethod y_M_width) ∈ WS := WS_in 595 (by decide +kernel) (by decide +kernel)
theorem wk_596 : (Cond.selects "RingMatchesModel" y_M_width y_M_width) ∈ WS := WS_in 596 (by decide +kernel) (by decide +kernel)
theorem wk_597 : (Cond.code y_M_width b_M_width 3 (Option.some Jvm.ClassFile.FieldType.int)) ∈ WS := WS_in 597 (by decide +kernel) (by decide +kernel)
theorem wk_598 : (Cond.methodLink "RingMatchesModel" 62 y_M_isSeries) ∈ WS := WS_in 598 (by decide +kernel) (by decide +kernel)
theorem wk_600 : (Cond.instanceMethod y_M_isSeries) ∈ WS := WS_in 600 (by decide +kernel) (by decide +kernel)
theorem wk_601 : (Cond.code y_M_isSeries b_M_isSeries 2 (Option.some Jvm.ClassFile.FieldType.boolean)) ∈ WS := WS_in 601 (by decide +kernel) (by decide +kernel)
theorem wk_602 : (Cond.methodLink "RingMatchesModel" 65 y_M_widthOf) ∈ WS := WS_in 602 (by decide +kernel) (by decide +kernel)
theorem wk_604 : (Cond.instanceMethod y_M_widthOf) ∈ WS := WS_in 604 (by decide +kernel) (by decide +kernel)
theorem wk_605 : (Cond.code y_M_widthOf b_M_widthOf 3 (Option.some Jvm.ClassFile.FieldType.int)) ∈ WS := WS_in 605 (by decide +kernel) (by decide +kernel)
theorem wk_606 : (Cond.methodLink "RingMatchesLaw" 81 y_M_written) ∈ WS := WS_in 606 (by decide +kernel) (by decide +kernel)
theorem wk_607 : (Cond.instanceMethod y_M_written) ∈ WS := WS_in 607 (by decide +kernel) (by decide +kernel)
theorem wk_608 : (Cond.selects "RingMatchesModel" y_M_written y_M_written) ∈ WS := WS_in 608 (by decide +kernel) (by decide +kernel)
theorem wk_609 : (Cond.code y_M_written b_M_written 9 (Option.some Jvm.ClassFile.FieldType.int)) ∈ WS := WS_in 609 (by decide +kernel) (by decide +kernel)
theorem wk_610 : (Cond.methodLink "RingMatchesModel" 69 y_M_room) ∈ WS := WS_in 610 (by decide +kernel) (by decide +kernel)
theorem wk_612 : (Cond.instanceMethod y_M_room) ∈ WS := WS_in 612 (by decide +kernel) (by decide +kernel)
theorem wk_613 : (Cond.code y_M_room b_M_room 4 (Option.some Jvm.ClassFile.FieldType.int)) ∈ WS := WS_in 613 (by decide +kernel) (by decide +kernel)
theorem wk_614 : (Cond.methodLink "RingMatchesLaw" 84 y_M_evened) ∈ WS := WS_in 614 (by decide +kernel) (by decide +kernel)
theorem wk_615 : (Cond.instanceMethod y_M_evened) ∈ WS := WS_in 615 (by decide +kernel) (by decide +kernel)
theorem wk_616 : (Cond.selects "RingMatchesModel" y_M_evened y_M_evened) ∈ WS := WS_in 616 (by decide +kernel) (by decide +kernel)
theorem wk_617 : (Cond.code y_M_evened b_M_evened 3 (Option.some Jvm.ClassFile.FieldType.int)) ∈ WS := WS_in 617 (by decide +kernel) (by decide +kernel)
theorem wk_618 : (Cond.methodLink "RingMatchesModel" 72 y_M_even) ∈ WS := WS_in 618 (by decide +kernel) (by decide +kernel)
theorem wk_620 : (Cond.instanceMethod y_M_even) ∈ WS := WS_in 620 (by decide +kernel) (by decide +kernel)
theorem wk_621 : (Cond.code y_M_even b_M_even 7 (Option.some Jvm.ClassFile.FieldType.int)) ∈ WS := WS_in 621 (by decide +kernel) (by decide +kernel)
theorem wk_622 : (Cond.methodLink "RingMatchesLaw" 88 y_M_match) ∈ WS := WS_in 622 (by decide +kernel) (by decide +kernel)
theorem wk_623 : (Cond.instanceMethod y_M_match) ∈ WS := WS_in 623 (by decide +kernel) (by decide +kernel)
theorem wk_624 : (Cond.selects "RingMatchesModel" y_M_match y_M_match) ∈ WS := WS_in 624 (by decide +kernel) (by decide +kernel)
theorem wk_625 : (Cond.code y_M_match b_M_match 7 (Option.some Jvm.ClassFile.FieldType.int)) ∈ WS := WS_in 625 (by decide +kernel) (by decide +kernel)
theorem wk_626 : (Cond.methodLink "RingMatchesModel" 105 y_M_correlate) ∈ WS := WS_in 626 (by decide +kernel) (by decide +kernel)
theorem wk_628 : (Cond.instanceMethod y_M_correlate) ∈ WS := WS_in 628 (by decide +kernel) (by decide +kernel)
theorem wk_629 : (Cond.code y_M_correlate b_M_correlate 21 (Option.some Jvm.ClassFile.FieldType.int)) ∈ WS := WS_in 629 (by decide +kernel) (by decide +kernel)
theorem wk_630 : (Cond.methodLink "RingMatchesModel" 84 y_M_isPair) ∈ WS := WS_in 630 (by decide +kernel) (by decide +kernel)
theorem wk_632 : (Cond.instanceMethod y_M_isPair) ∈ WS := WS_in 632 (by decide +kernel) (by decide +kernel)
theorem wk_633 : (Cond.code y_M_isPair b_M_isPair 6 (Option.some Jvm.ClassFile.FieldType.boolean)) ∈ WS := WS_in 633 (by decide +kernel) (by decide +kernel)
theorem wk_634 : (Cond.methodLink "RingMatchesModel" 88 y_M_rise) ∈ WS := WS_in 634 (by decide +kernel) (by decide +kernel)
theorem wk_636 : (Cond.instanceMethod y_M_rise) ∈ WS := WS_in 636 (by decide +kernel) (by decide +kernel)
theorem wk_637 : (Cond.code y_M_rise b_M_rise 4 (Option.some Jvm.ClassFile.FieldType.int)) ∈ WS := WS_in 637 (by decide +kernel) (by decide +kernel)
theorem wk_638 : (Cond.methodLink "RingMatchesModel" 91 y_M_alike) ∈ WS := WS_in 638 (by decide +kernel) (by decide +kernel)
theorem wk_639 : (Cond.static y_M_alike) ∈ WS := WS_in 639 (by decide +kernel) (by decide +kernel)
theorem wk_640 : (Cond.code y_M_alike b_M_alike 2 (Option.some Jvm.ClassFile.FieldType.int)) ∈ WS := WS_in 640 (by decide +kernel) (by decide +kernel)
theorem wk_641 : (Cond.constantLong "RingMatchesModel" 94 10000) ∈ WS := WS_in 641 (by decide +kernel) (by decide +kernel)
theorem wk_642 : (Cond.methodLink "RingMatchesModel" 112 y_M_isAhead) ∈ WS := WS_in 642 (by decide +kernel) (by decide +kernel)
theorem wk_644 : (Cond.instanceMethod y_M_isAhead) ∈ WS := WS_in 644 (by decide +kernel) (by decide +kernel)
theorem wk_645 : (Cond.code y_M_isAhead b_M_isAhead 5 (Option.some Jvm.ClassFile.FieldType.boolean)) ∈ WS := WS_in 645 (by decide +kernel) (by decide +kernel)
theorem wk_646 : (Cond.methodLink "RingMatchesLaw" 91 y_M_overlap) ∈ WS := WS_in 646 (by decide +kernel) (by decide +kernel)
theorem wk_647 : (Cond.instanceMethod y_M_overlap) ∈ WS := WS_in 647 (by decide +kernel) (by decide +kernel)
theorem wk_648 : (Cond.selects "RingMatchesModel" y_M_overlap y_M_overlap) ∈ WS := WS_in 648 (by decide +kernel) (by decide +kernel)
theorem wk_649 : (Cond.code y_M_overlap b_M_overlap 3 (Option.some Jvm.ClassFile.FieldType.int)) ∈ WS := WS_in 649 (by decide +kernel) (by decide +kernel)
theorem wk_650 : (Cond.methodLink "RingMatchesModel" 115 y_M_isListed) ∈ WS := WS_in 650 (by decide +kernel) (by decide +kernel)
theorem wk_652 : (Cond.instanceMethod y_M_isListed) ∈ WS := WS_in 652 (by decide +kernel) (by decide +kernel)
theorem wk_653 : (Cond.code y_M_isListed b_M_isListed 4 (Option.some Jvm.ClassFile.FieldType.boolean)) ∈ WS := WS_in 653 (by decide +kernel) (by decide +kernel)
theorem wk_654 : (Cond.methodLink "RingMatchesLaw" 94 y_M_agree) ∈ WS := WS_in 654 (by decide +kernel) (by decide +kernel)
theorem wk_655 : (Cond.instanceMethod y_M_agree) ∈ WS := WS_in 655 (by decide +kernel) (by decide +kernel)
theorem wk_656 : (Cond.selects "RingMatchesModel" y_M_agree y_M_agree) ∈ WS := WS_in 656 (by decide +kernel) (by decide +kernel)
theorem wk_657 : (Cond.code y_M_agree b_M_agree 3 (Option.some Jvm.ClassFile.FieldType.int)) ∈ WS := WS_in 657 (by decide +kernel) (by decide +kernel)
theorem wk_658 : (Cond.constantLong "RingMatchesModel" 125 2) ∈ WS := WS_in 658 (by decide +kernel) (by decide +kernel)
theorem wk_659 : (Cond.methodLink "RingMatchesModel" 127 y_M_fraction) ∈ WS := WS_in 659 (by decide +kernel) (by decide +kernel)
theorem wk_661 : (Cond.instanceMethod y_M_fraction) ∈ WS := WS_in 661 (by decide +kernel) (by decide +kernel)
theorem wk_662 : (Cond.code y_M_fraction b_M_fraction 11 (Option.none : Option Jvm.ClassFile.FieldType)) ∈ WS := WS_in 662 (by decide +kernel) (by decide +kernel)
theorem wk_663 : (Cond.methodLink "RingMatchesLaw" 97 y_M_odds) ∈ WS := WS_in 663 (by decide +kernel) (by decide +kernel)
theorem wk_664 : (Cond.instanceMethod y_M_odds) ∈ WS := WS_in 664 (by decide +kernel) (by decide +kernel)
theorem wk_665 : (Cond.selects "RingMatchesModel" y_M_odds y_M_odds) ∈ WS := WS_in 665 (by decide +kernel) (by decide +kernel)
theorem wk_666 : (Cond.code y_M_odds b_M_odds 11 (Option.some Jvm.ClassFile.FieldType.long)) ∈ WS := WS_in 666 (by decide +kernel) (by decide +kernel)
theorem wk_667 : (Cond.methodLink "RingMatchesLaw" 100 y_M_absent) ∈ WS := WS_in 667 (by decide +kernel) (by decide +kernel)
theorem wk_668 : (Cond.instanceMethod y_M_absent) ∈ WS := WS_in 668 (by decide +kernel) (by decide +kernel)
theorem wk_669 : (Cond.selects "RingMatchesModel" y_M_absent y_M_absent) ∈ WS := WS_in 669 (by decide +kernel) (by decide +kernel)
theorem wk_670 : (Cond.code y_M_absent b_M_absent 9 (Option.some Jvm.ClassFile.FieldType.int)) ∈ WS := WS_in 670 (by decide +kernel) (by decide +kernel)
theorem wk_671 : (Cond.methodLink "RingMatchesLaw" 103 y_M_core) ∈ WS := WS_in 671 (by decide +kernel) (by decide +kernel)
theorem wk_672 : (Cond.instanceMethod y_M_core) ∈ WS := WS_in 672 (by decide +kernel) (by decide +kernel)
theorem wk_673 : (Cond.selects "RingMatchesModel" y_M_core y_M_core) ∈ WS := WS_in 673 (by decide +kernel) (by decide +kernel)
theorem wk_674 : (Cond.code y_M_core b_M_core 9 (Option.some Jvm.ClassFile.FieldType.int)) ∈ WS := WS_in 674 (by decide +kernel) (by decide +kernel)
theorem wk_675 : (Cond.methodLink "RingMatchesModel" 131 y_M_at) ∈ WS := WS_in 675 (by decide +kernel) (by decide +kernel)
theorem wk_677 : (Cond.instanceMethod y_M_at) ∈ WS := WS_in 677 (by decide +kernel) (by decide +kernel)
theorem wk_678 : (Cond.code y_M_at b_M_at 3 (Option.some Jvm.ClassFile.FieldType.int)) ∈ WS := WS_in 678 (by decide +kernel) (by decide +kernel)
theorem wk_679 : (Cond.methodLink "RingMatchesLaw" 106 y_M_group) ∈ WS := WS_in 679 (by decide +kernel) (by decide +kernel)
theorem wk_680 : (Cond.instanceMethod y_M_group) ∈ WS := WS_in 680 (by decide +kernel) (by decide +kernel)
theorem wk_681 : (Cond.selects "RingMatchesModel" y_M_group y_M_group) ∈ WS := WS_in 681 (by decide +kernel) (by decide +kernel)
theorem wk_682 : (Cond.code y_M_group b_M_group 9 (Option.some Jvm.ClassFile.FieldType.int)) ∈ WS := WS_in 682 (by decide +kernel) (by decide +kernel)
theorem wk_683 : (Cond.methodLink "RingMatchesModel" 134 y_M_joined) ∈ WS := WS_in 683 (by decide +kernel) (by decide +kernel)
theorem wk_685 : (Cond.instanceMethod y_M_joined) ∈ WS := WS_in 685 (by decide +kernel) (by decide +kernel)
theorem wk_686 : (Cond.code y_M_joined b_M_joined 8 (Option.some Jvm.ClassFile.FieldType.boolean)) ∈ WS := WS_in 686 (by decide +kernel) (by decide +kernel)
theorem wk_687 : (Cond.methodLink "RingMatchesLaw" 110 y_M_count) ∈ WS := WS_in 687 (by decide +kernel) (by decide +kernel)
theorem wk_688 : (Cond.instanceMethod y_M_count) ∈ WS := WS_in 688 (by decide +kernel) (by decide +kernel)
theorem wk_689 : (Cond.selects "RingMatchesModel" y_M_count y_M_count) ∈ WS := WS_in 689 (by decide +kernel) (by decide +kernel)
theorem wk_690 : (Cond.code y_M_count b_M_count 2 (Option.some Jvm.ClassFile.FieldType.int)) ∈ WS := WS_in 690 (by decide +kernel) (by decide +kernel)
theorem wk_691 : (Cond.arrayClass .long) ∈ WS := WS_in 691 (by decide +kernel) (by decide +kernel)
theorem iw_O : ∀ w ∈ u_ws R_O T_O 5, w ∈ WS := by decide +kernel
theorem iw_P : ∀ w ∈ u_ws R_P T_P 2, w ∈ WS := by decide +kernel
theorem iw_S : ∀ w ∈ u_ws R_S T_S 3, w ∈ WS := by decide +kernel
theorem iw_R : ∀ w ∈ u_ws R_R T_R 10, w ∈ WS := by decide +kernel
theorem iw_M : ∀ w ∈ u_ws R_M T_M 18, w ∈ WS := by decide +kernel
end
section
theorem d_P_init_0 : decode b_P_init 0 = .ok (.aload_n 0, 1) := by decide +kernel
theorem d_P_init_1 : decode b_P_init 1 = .ok (.invokespecial 3, 3) := by decide +kernel
theorem d_P_init_4 : decode b_P_init 4 = .ok (.aload_n 0, 1) := by decide +kernel
theorem d_P_init_5 : decode b_P_init 5 = .ok (.bipush 100, 2) := by decide +kernel
theorem d_P_init_7 : decode b_P_init 7 = .ok (.newarray .int, 2) := by decide +kernel
theorem d_P_init_9 : decode b_P_init 9 = .ok (.putfield 9, 3) := by decide +kernel
theorem d_P_init_12 : decode b_P_init 12 = .ok (.return_, 1) := by decide +kernel
theorem d_P_signOf_0 : decode b_P_signOf 0 = .ok (.iload_n 0, 1) := by decide +kernel
theorem d_P_signOf_1 : decode b_P_signOf 1 = .ok (.bipush 8, 2) := by decide +kernel
theorem d_P_signOf_3 : decode b_P_signOf 3 = .ok (.iload_n 1, 1) := by decide +kernel
theorem d_P_signOf_4 : decode b_P_signOf 4 = .ok (.imul, 1) := by decide +kernel
theorem d_P_signOf_5 : decode b_P_signOf 5 = .ok (.iushr, 1) := by decide +kernel
theorem d_P_signOf_6 : decode b_P_signOf 6 = .ok (.sipush 255, 3) := by decide +kernel
theorem d_P_signOf_9 : decode b_P_signOf 9 = .ok (.iand, 1) := by decide +kernel
theorem d_P_signOf_10 : decode b_P_signOf 10 = .ok (.ireturn, 1) := by decide +kernel
theorem d_P_takes_0 : decode b_P_takes 0 = .ok (.iconst 0, 1) := by decide +kernel
theorem d_P_takes_1 : decode b_P_takes 1 = .ok (.istore_n 1, 1) := by decide +kernel
theorem d_P_takes_2 : decode b_P_takes 2 = .ok (.iload_n 1, 1) := by decide +kernel
theorem d_P_takes_3 : decode b_P_takes 3 = .ok (.iconst 4, 1) := by decide +kernel
theorem d_P_takes_4 : decode b_P_takes 4 = .ok (.if_icmp .ge 33, 3) := by decide +kernel
theorem d_P_takes_7 : decode b_P_takes 7 = .ok (.iload_n 0, 1) := by decide +kernel
theorem d_P_takes_8 : decode b_P_takes 8 = .ok (.iload_n 1, 1) := by decide +kernel
theorem d_P_takes_9 : decode b_P_takes 9 = .ok (.invokestatic 15, 3) := by decide +kernel
theorem d_P_takes_12 : decode b_P_takes 12 = .ok (.istore_n 2, 1) := by decide +kernel
theorem d_P_takes_13 : decode b_P_takes 13 = .ok (.iload_n 2, 1) := by decide +kernel
theorem d_P_takes_14 : decode b_P_takes 14 = .ok (.ifCond .eq 17, 3) := by decide +kernel
theorem d_P_takes_17 : decode b_P_takes 17 = .ok (.iload_n 2, 1) := by decide +kernel
theorem d_P_takes_18 : decode b_P_takes 18 = .ok (.bipush 32, 2) := by decide +kernel
theorem d_P_takes_20 : decode b_P_takes 20 = .ok (.if_icmp .lt 9, 3) := by decide +kernel
theorem d_P_takes_23 : decode b_P_takes 23 = .ok (.iload_n 2, 1) := by decide +kernel
theorem d_P_takes_24 : decode b_P_takes 24 = .ok (.bipush 126, 2) := by decide +kernel
theorem d_P_takes_26 : decode b_P_takes 26 = .ok (.if_icmp .le 5, 3) := by decide +kernel
theorem d_P_takes_29 : decode b_P_takes 29 = .ok (.iconst 0, 1) := by decide +kernel
theorem d_P_takes_30 : decode b_P_takes 30 = .ok (.ireturn, 1) := by decide +kernel
theorem d_P_takes_31 : decode b_P_takes 31 = .ok (.iinc 1 1, 3) := by decide +kernel
theorem d_P_takes_34 : decode b_P_takes 34 = .ok (.goto (-32), 3) := by decide +kernel
theorem d_P_takes_37 : decode b_P_takes 37 = .ok (.iconst 1, 1) := by decide +kernel
theorem d_P_takes_38 : decode b_P_takes 38 = .ok (.ireturn, 1) := by decide +kernel
theorem d_P_signsIn_0 : decode b_P_signsIn 0 = .ok (.iconst 0, 1) := by decide +kernel
theorem d_P_signsIn_1 : decode b_P_signsIn 1 = .ok (.istore_n 1, 1) := by decide +kernel
theorem d_P_signsIn_2 : decode b_P_signsIn 2 = .ok (.iconst 0, 1) := by decide +kernel
theorem d_P_signsIn_3 : decode b_P_signsIn 3 = .ok (.istore_n 2, 1) := by decide +kernel
theorem d_P_signsIn_4 : decode b_P_signsIn 4 = .ok (.iload_n 2, 1) := by decide +kernel
theorem d_P_signsIn_5 : decode b_P_signsIn 5 = .ok (.iconst 4, 1) := by decide +kernel
theorem d_P_signsIn_6 : decode b_P_signsIn 6 = .ok (.if_icmp .ge 20, 3) := by decide +kernel
theorem d_P_signsIn_9 : decode b_P_signsIn 9 = .ok (.iload_n 0, 1) := by decide +kernel
theorem d_P_signsIn_10 : decode b_P_signsIn 10 = .ok (.iload_n 2, 1) := by decide +kernel
theorem d_P_signsIn_11 : decode b_P_signsIn 11 = .ok (.invokestatic 15, 3) := by decide +kernel
theorem d_P_signsIn_14 : decode b_P_signsIn 14 = .ok (.ifCond .eq 6, 3) := by decide +kernel
theorem d_P_signsIn_17 : decode b_P_signsIn 17 = .ok (.iinc 1 1, 3) := by decide +kernel
theorem d_P_signsIn_20 : decode b_P_signsIn 20 = .ok (.iinc 2 1, 3) := by decide +kernel
theorem d_P_signsIn_23 : decode b_P_signsIn 23 = .ok (.goto (-19), 3) := by decide +kernel
theorem d_P_signsIn_26 : decode b_P_signsIn 26 = .ok (.iload_n 1, 1) := by decide +kernel
theorem d_P_signsIn_27 : decode b_P_signsIn 27 = .ok (.ireturn, 1) := by decide +kernel
theorem d_P_put_0 : decode b_P_put 0 = .ok (.iconst 0, 1) := by decide +kernel
theorem d_P_put_1 : decode b_P_put 1 = .ok (.istore_n 2, 1) := by decide +kernel
theorem d_P_put_2 : decode b_P_put 2 = .ok (.iload_n 2, 1) := by decide +kernel
theorem d_P_put_3 : decode b_P_put 3 = .ok (.iconst 4, 1) := by decide +kernel
theorem d_P_put_4 : decode b_P_put 4 = .ok (.if_icmp .ge 51, 3) := by decide +kernel
theorem d_P_put_7 : decode b_P_put 7 = .ok (.iload_n 1, 1) := by decide +kernel
theorem d_P_put_8 : decode b_P_put 8 = .ok (.iload_n 2, 1) := by decide +kernel
theorem d_P_put_9 : decode b_P_put 9 = .ok (.invokestatic 15, 3) := by decide +kernel
theorem d_P_put_12 : decode b_P_put 12 = .ok (.istore_n 3, 1) := by decide +kernel
theorem d_P_put_13 : decode b_P_put 13 = .ok (.iload_n 3, 1) := by decide +kernel
theorem d_P_put_14 : decode b_P_put 14 = .ok (.ifCond .eq 35, 3) := by decide +kernel
theorem d_P_put_17 : decode b_P_put 17 = .ok (.aload_n 0, 1) := by decide +kernel
theorem d_P_put_18 : decode b_P_put 18 = .ok (.getfield 19, 3) := by decide +kernel
theorem d_P_put_21 : decode b_P_put 21 = .ok (.aload_n 0, 1) := by decide +kernel
theorem d_P_put_22 : decode b_P_put 22 = .ok (.getfield 9, 3) := by decide +kernel
theorem d_P_put_25 : decode b_P_put 25 = .ok (.arraylength, 1) := by decide +kernel
theorem d_P_put_26 : decode b_P_put 26 = .ok (.if_icmp .ge 23, 3) := by decide +kernel
theorem d_P_put_29 : decode b_P_put 29 = .ok (.aload_n 0, 1) := by decide +kernel
theorem d_P_put_30 : decode b_P_put 30 = .ok (.getfield 9, 3) := by decide +kernel
theorem d_P_put_33 : decode b_P_put 33 = .ok (.aload_n 0, 1) := by decide +kernel
theorem d_P_put_34 : decode b_P_put 34 = .ok (.getfield 19, 3) := by decide +kernel
theorem d_P_put_37 : decode b_P_put 37 = .ok (.iload_n 3, 1) := by decide +kernel
theorem d_P_put_38 : decode b_P_put 38 = .ok (.iastore, 1) := by decide +kernel
theorem d_P_put_39 : decode b_P_put 39 = .ok (.aload_n 0, 1) := by decide +kernel
theorem d_P_put_40 : decode b_P_put 40 = .ok (.dup, 1) := by decide +kernel
theorem d_P_put_41 : decode b_P_put 41 = .ok (.getfield 19, 3) := by decide +kernel
theorem d_P_put_44 : decode b_P_put 44 = .ok (.iconst 1, 1) := by decide +kernel
theorem d_P_put_45 : decode b_P_put 45 = .ok (.iadd, 1) := by decide +kernel
theorem d_P_put_46 : decode b_P_put 46 = .ok (.putfield 19, 3) := by decide +kernel
theorem d_P_put_49 : decode b_P_put 49 = .ok (.iinc 2 1, 3) := by decide +kernel
theorem d_P_put_52 : decode b_P_put 52 = .ok (.goto (-50), 3) := by decide +kernel
theorem d_P_put_55 : decode b_P_put 55 = .ok (.return_, 1) := by decide +kernel
theorem d_P_parseInto_0 : decode b_P_parseInto 0 = .ok (.aload_n 1, 1) := by decide +kernel
theorem d_P_parseInto_1 : decode b_P_parseInto 1 = .ok (.iconst 0, 1) := by decide +kernel
theorem d_P_parseInto_2 : decode b_P_parseInto 2 = .ok (.putfield 23, 3) := by decide +kernel
theorem d_P_parseInto_5 : decode b_P_parseInto 5 = .ok (.iconst 0, 1) := by decide +kernel
theorem d_P_parseInto_6 : decode b_P_parseInto 6 = .ok (.istore_n 2, 1) := by decide +kernel
theorem d_P_parseInto_7 : decode b_P_parseInto 7 = .ok (.iconst 0, 1) := by decide +kernel
theorem d_P_parseInto_8 : decode b_P_parseInto 8 = .ok (.istore_n 3, 1) := by decide +kernel
theorem d_P_parseInto_9 : decode b_P_parseInto 9 = .ok (.iload_n 3, 1) := by decide +kernel
theorem d_P_parseInto_10 : decode b_P_parseInto 10 = .ok (.aload_n 0, 1) := by decide +kernel
theorem d_P_parseInto_11 : decode b_P_parseInto 11 = .ok (.getfield 19, 3) := by decide +kernel
theorem d_P_parseInto_14 : decode b_P_parseInto 14 = .ok (.if_icmp .ge 62, 3) := by decide +kernel
theorem d_P_parseInto_17 : decode b_P_parseInto 17 = .ok (.aload_n 0, 1) := by decide +kernel
theorem d_P_parseInto_18 : decode b_P_parseInto 18 = .ok (.getfield 9, 3) := by decide +kernel
theorem d_P_parseInto_21 : decode b_P_parseInto 21 = .ok (.iload_n 3, 1) := by decide +kernel
theorem d_P_parseInto_22 : decode b_P_parseInto 22 = .ok (.iaload, 1) := by decide +kernel
theorem d_P_parseInto_23 : decode b_P_parseInto 23 = .ok (.bipush 32, 2) := by decide +kernel
theorem d_P_parseInto_25 : decode b_P_parseInto 25 = .ok (.if_icmp .ne 26, 3) := by decide +kernel
theorem d_P_parseInto_28 : decode b_P_parseInto 28 = .ok (.iload_n 2, 1) := by decide +kernel
theorem d_P_parseInto_29 : decode b_P_parseInto 29 = .ok (.ifCond .eq 22, 3) := by decide +kernel
theorem d_P_parseInto_32 : decode b_P_parseInto 32 = .ok (.aload_n 1, 1) := by decide +kernel
theorem d_P_parseInto_33 : decode b_P_parseInto 33 = .ok (.getfield 23, 3) := by decide +kernel
theorem d_P_parseInto_36 : decode b_P_parseInto 36 = .ok (.bipush 23, 2) := by decide +kernel
theorem d_P_parseInto_38 : decode b_P_parseInto 38 = .ok (.if_icmp .ge 13, 3) := by decide +kernel
theorem d_P_parseInto_41 : decode b_P_parseInto 41 = .ok (.aload_n 1, 1) := by decide +kernel
theorem d_P_parseInto_42 : decode b_P_parseInto 42 = .ok (.iload_n 2, 1) := by decide +kernel
theorem d_P_parseInto_43 : decode b_P_parseInto 43 = .ok (.invokevirtual 26, 3) := by decide +kernel
theorem d_P_parseInto_46 : decode b_P_parseInto 46 = .ok (.iconst 0, 1) := by decide +kernel
theorem d_P_parseInto_47 : decode b_P_parseInto 47 = .ok (.istore_n 2, 1) := by decide +kernel
theorem d_P_parseInto_48 : decode b_P_parseInto 48 = .ok (.goto 22, 3) := by decide +kernel
theorem d_P_parseInto_51 : decode b_P_parseInto 51 = .ok (.iload_n 2, 1) := by decide +kernel
theorem d_P_parseInto_52 : decode b_P_parseInto 52 = .ok (.aload_n 0, 1) := by decide +kernel
theorem d_P_parseInto_53 : decode b_P_parseInto 53 = .ok (.getfield 9, 3) := by decide +kernel
theorem d_P_parseInto_56 : decode b_P_parseInto 56 = .ok (.iload_n 3, 1) := by decide +kernel
theorem d_P_parseInto_57 : decode b_P_parseInto 57 = .ok (.iaload, 1) := by decide +kernel
theorem d_P_parseInto_58 : decode b_P_parseInto 58 = .ok (.invokestatic 30, 3) := by decide +kernel
theorem d_P_parseInto_61 : decode b_P_parseInto 61 = .ok (.istore_n 2, 1) := by decide +kernel
theorem d_P_parseInto_62 : decode b_P_parseInto 62 = .ok (.iload_n 2, 1) := by decide +kernel
theorem d_P_parseInto_63 : decode b_P_parseInto 63 = .ok (.bipush (-2), 2) := by decide +kernel
theorem d_P_parseInto_65 : decode b_P_parseInto 65 = .ok (.if_icmp .ne 5, 3) := by decide +kernel
theorem d_P_parseInto_68 : decode b_P_parseInto 68 = .ok (.iload_n 3, 1) := by decide +kernel
theorem d_P_parseInto_69 : decode b_P_parseInto 69 = .ok (.ireturn, 1) := by decide +kernel
theorem d_P_parseInto_70 : decode b_P_parseInto 70 = .ok (.iinc 3 1, 3) := by decide +kernel
theorem d_P_parseInto_73 : decode b_P_parseInto 73 = .ok (.goto (-64), 3) := by decide +kernel
theorem d_P_parseInto_76 : decode b_P_parseInto 76 = .ok (.iload_n 2, 1) := by decide +kernel
theorem d_P_parseInto_77 : decode b_P_parseInto 77 = .ok (.ifCond .ne 8, 3) := by decide +kernel
theorem d_P_parseInto_80 : decode b_P_parseInto 80 = .ok (.aload_n 0, 1) := by decide +kernel
theorem d_P_parseInto_81 : decode b_P_parseInto 81 = .ok (.getfield 19, 3) := by decide +kernel
theorem d_P_parseInto_84 : decode b_P_parseInto 84 = .ok (.ireturn, 1) := by decide +kernel
theorem d_P_parseInto_85 : decode b_P_parseInto 85 = .ok (.aload_n 1, 1) := by decide +kernel
theorem d_P_parseInto_86 : decode b_P_parseInto 86 = .ok (.iload_n 2, 1) := by decide +kernel
theorem d_P_parseInto_87 : decode b_P_parseInto 87 = .ok (.invokevirtual 26, 3) := by decide +kernel
theorem d_P_parseInto_90 : decode b_P_parseInto 90 = .ok (.aload_n 1, 1) := by decide +kernel
theorem d_P_parseInto_91 : decode b_P_parseInto 91 = .ok (.invokevirtual 33, 3) := by decide +kernel
theorem d_P_parseInto_94 : decode b_P_parseInto 94 = .ok (.iconst (-1), 1) := by decide +kernel
theorem d_P_parseInto_95 : decode b_P_parseInto 95 = .ok (.ireturn, 1) := by decide +kernel
theorem d_P_grown_0 : decode b_P_grown 0 = .ok (.iload_n 1, 1) := by decide +kernel
theorem d_P_grown_1 : decode b_P_grown 1 = .ok (.bipush 45, 2) := by decide +kernel
theorem d_P_grown_3 : decode b_P_grown 3 = .ok (.if_icmp .ne 14, 3) := by decide +kernel
theorem d_P_grown_6 : decode b_P_grown 6 = .ok (.iload_n 0, 1) := by decide +kernel
theorem d_P_grown_7 : decode b_P_grown 7 = .ok (.ifCond .ne 7, 3) := by decide +kernel
theorem d_P_grown_10 : decode b_P_grown 10 = .ok (.iconst (-1), 1) := by decide +kernel
theorem d_P_grown_11 : decode b_P_grown 11 = .ok (.goto 5, 3) := by decide +kernel
theorem d_P_grown_14 : decode b_P_grown 14 = .ok (.bipush (-2), 2) := by decide +kernel
theorem d_P_grown_16 : decode b_P_grown 16 = .ok (.ireturn, 1) := by decide +kernel
theorem d_P_grown_17 : decode b_P_grown 17 = .ok (.iload_n 1, 1) := by decide +kernel
theorem d_P_grown_18 : decode b_P_grown 18 = .ok (.bipush 48, 2) := by decide +kernel
theorem d_P_grown_20 : decode b_P_grown 20 = .ok (.if_icmp .lt 14, 3) := by decide +kernel
theorem d_P_grown_23 : decode b_P_grown 23 = .ok (.iload_n 1, 1) := by decide +kernel
theorem d_P_grown_24 : decode b_P_grown 24 = .ok (.bipush 57, 2) := by decide +kernel
theorem d_P_grown_26 : decode b_P_grown 26 = .ok (.if_icmp .gt 8, 3) := by decide +kernel
theorem d_P_grown_29 : decode b_P_grown 29 = .ok (.iload_n 0, 1) := by decide +kernel
theorem d_P_grown_30 : decode b_P_grown 30 = .ok (.iconst (-1), 1) := by decide +kernel
theorem d_P_grown_31 : decode b_P_grown 31 = .ok (.if_icmp .ne 6, 3) := by decide +kernel
theorem d_P_grown_34 : decode b_P_grown 34 = .ok (.bipush (-2), 2) := by decide +kernel
theorem d_P_grown_36 : decode b_P_grown 36 = .ok (.ireturn, 1) := by decide +kernel
theorem d_P_grown_37 : decode b_P_grown 37 = .ok (.bipush 10, 2) := by decide +kernel
theorem d_P_grown_39 : decode b_P_grown 39 = .ok (.iload_n 0, 1) := by decide +kernel
theorem d_P_grown_40 : decode b_P_grown 40 = .ok (.imul, 1) := by decide +kernel
theorem d_P_grown_41 : decode b_P_grown 41 = .ok (.iload_n 1, 1) := by decide +kernel
theorem d_P_grown_42 : decode b_P_grown 42 = .ok (.iadd, 1) := by decide +kernel
theorem d_P_grown_43 : decode b_P_grown 43 = .ok (.bipush 48, 2) := by decide +kernel
theorem d_P_grown_45 : decode b_P_grown 45 = .ok (.isub, 1) := by decide +kernel
theorem d_P_grown_46 : decode b_P_grown 46 = .ok (.istore_n 2, 1) := by decide +kernel
theorem d_P_grown_47 : decode b_P_grown 47 = .ok (.iload_n 2, 1) := by decide +kernel
theorem d_P_grown_48 : decode b_P_grown 48 = .ok (.iconst 1, 1) := by decide +kernel
theorem d_P_grown_49 : decode b_P_grown 49 = .ok (.if_icmp .lt 14, 3) := by decide +kernel
theorem d_P_grown_52 : decode b_P_grown 52 = .ok (.iload_n 2, 1) := by decide +kernel
theorem d_P_grown_53 : decode b_P_grown 53 = .ok (.sipush 500, 3) := by decide +kernel
theorem d_P_grown_56 : decode b_P_grown 56 = .ok (.if_icmp .gt 7, 3) := by decide +kernel
theorem d_P_grown_59 : decode b_P_grown 59 = .ok (.iload_n 2, 1) := by decide +kernel
theorem d_P_grown_60 : decode b_P_grown 60 = .ok (.goto 5, 3) := by decide +kernel
theorem d_P_grown_63 : decode b_P_grown 63 = .ok (.bipush (-2), 2) := by decide +kernel
theorem d_P_grown_65 : decode b_P_grown 65 = .ok (.ireturn, 1) := by decide +kernel
theorem d_S_init_0 : decode b_S_init 0 = .ok (.aload_n 0, 1) := by decide +kernel
theorem d_S_init_1 : decode b_S_init 1 = .ok (.invokespecial 3, 3) := by decide +kernel
theorem d_S_init_4 : decode b_S_init 4 = .ok (.aload_n 0, 1) := by decide +kernel
theorem d_S_init_5 : decode b_S_init 5 = .ok (.bipush 24, 2) := by decide +kernel
theorem d_S_init_7 : decode b_S_init 7 = .ok (.newarray .int, 2) := by decide +kernel
theorem d_S_init_9 : decode b_S_init 9 = .ok (.putfield 9, 3) := by decide +kernel
theorem d_S_init_12 : decode b_S_init 12 = .ok (.aload_n 0, 1) := by decide +kernel
theorem d_S_init_13 : decode b_S_init 13 = .ok (.bipush 24, 2) := by decide +kernel
theorem d_S_init_15 : decode b_S_init 15 = .ok (.newarray .int, 2) := by decide +kernel
theorem d_S_init_17 : decode b_S_init 17 = .ok (.putfield 15, 3) := by decide +kernel
theorem d_S_init_20 : decode b_S_init 20 = .ok (.return_, 1) := by decide +kernel
theorem d_S_has_0 : decode b_S_has 0 = .ok (.iload_n 1, 1) := by decide +kernel
theorem d_S_has_1 : decode b_S_has 1 = .ok (.ifCond .lt 15, 3) := by decide +kernel
theorem d_S_has_4 : decode b_S_has 4 = .ok (.iload_n 1, 1) := by decide +kernel
theorem d_S_has_5 : decode b_S_has 5 = .ok (.aload_n 0, 1) := by decide +kernel
theorem d_S_has_6 : decode b_S_has 6 = .ok (.getfield 18, 3) := by decide +kernel
theorem d_S_has_9 : decode b_S_has 9 = .ok (.if_icmp .ge 7, 3) := by decide +kernel
theorem d_S_has_12 : decode b_S_has 12 = .ok (.iconst 1, 1) := by decide +kernel
theorem d_S_has_13 : decode b_S_has 13 = .ok (.goto 4, 3) := by decide +kernel
theorem d_S_has_16 : decode b_S_has 16 = .ok (.iconst 0, 1) := by decide +kernel
theorem d_S_has_17 : decode b_S_has 17 = .ok (.ireturn, 1) := by decide +kernel
theorem d_S_widthAt_0 : decode b_S_widthAt 0 = .ok (.aload_n 0, 1) := by decide +kernel
theorem d_S_widthAt_1 : decode b_S_widthAt 1 = .ok (.iload_n 1, 1) := by decide +kernel
theorem d_S_widthAt_2 : decode b_S_widthAt 2 = .ok (.invokevirtual 22, 3) := by decide +kernel
theorem d_S_widthAt_5 : decode b_S_widthAt 5 = .ok (.ifCond .eq 12, 3) := by decide +kernel
theorem d_S_widthAt_8 : decode b_S_widthAt 8 = .ok (.aload_n 0, 1) := by decide +kernel
theorem d_S_widthAt_9 : decode b_S_widthAt 9 = .ok (.getfield 9, 3) := by decide +kernel
theorem d_S_widthAt_12 : decode b_S_widthAt 12 = .ok (.iload_n 1, 1) := by decide +kernel
theorem d_S_widthAt_13 : decode b_S_widthAt 13 = .ok (.iaload, 1) := by decide +kernel
theorem d_S_widthAt_14 : decode b_S_widthAt 14 = .ok (.goto 4, 3) := by decide +kernel
theorem d_S_widthAt_17 : decode b_S_widthAt 17 = .ok (.iconst (-1), 1) := by decide +kernel
theorem d_S_widthAt_18 : decode b_S_widthAt 18 = .ok (.ireturn, 1) := by decide +kernel
theorem d_S_evenAt_0 : decode b_S_evenAt 0 = .ok (.aload_n 0, 1) := by decide +kernel
theorem d_S_evenAt_1 : decode b_S_evenAt 1 = .ok (.iload_n 1, 1) := by decide +kernel
theorem d_S_evenAt_2 : decode b_S_evenAt 2 = .ok (.invokevirtual 22, 3) := by decide +kernel
theorem d_S_evenAt_5 : decode b_S_evenAt 5 = .ok (.ifCond .eq 12, 3) := by decide +kernel
theorem d_S_evenAt_8 : decode b_S_evenAt 8 = .ok (.aload_n 0, 1) := by decide +kernel
theorem d_S_evenAt_9 : decode b_S_evenAt 9 = .ok (.getfield 15, 3) := by decide +kernel
theorem d_S_evenAt_12 : decode b_S_evenAt 12 = .ok (.iload_n 1, 1) := by decide +kernel
theorem d_S_evenAt_13 : decode b_S_evenAt 13 = .ok (.iaload, 1) := by decide +kernel
theorem d_S_evenAt_14 : decode b_S_evenAt 14 = .ok (.goto 4, 3) := by decide +kernel
theorem d_S_evenAt_17 : decode b_S_evenAt 17 = .ok (.iconst (-1), 1) := by decide +kernel
theorem d_S_evenAt_18 : decode b_S_evenAt 18 = .ok (.ireturn, 1) := by decide +kernel
theorem d_S_add_0 : decode b_S_add 0 = .ok (.aload_n 0, 1) := by decide +kernel
theorem d_S_add_1 : decode b_S_add 1 = .ok (.getfield 18, 3) := by decide +kernel
theorem d_S_add_4 : decode b_S_add 4 = .ok (.aload_n 0, 1) := by decide +kernel
theorem d_S_add_5 : decode b_S_add 5 = .ok (.getfield 9, 3) := by decide +kernel
theorem d_S_add_8 : decode b_S_add 8 = .ok (.arraylength, 1) := by decide +kernel
theorem d_S_add_9 : decode b_S_add 9 = .ok (.if_icmp .ge 23, 3) := by decide +kernel
theorem d_S_add_12 : decode b_S_add 12 = .ok (.aload_n 0, 1) := by decide +kernel
theorem d_S_add_13 : decode b_S_add 13 = .ok (.getfield 9, 3) := by decide +kernel
theorem d_S_add_16 : decode b_S_add 16 = .ok (.aload_n 0, 1) := by decide +kernel
theorem d_S_add_17 : decode b_S_add 17 = .ok (.getfield 18, 3) := by decide +kernel
theorem d_S_add_20 : decode b_S_add 20 = .ok (.iload_n 1, 1) := by decide +kernel
theorem d_S_add_21 : decode b_S_add 21 = .ok (.iastore, 1) := by decide +kernel
theorem d_S_add_22 : decode b_S_add 22 = .ok (.aload_n 0, 1) := by decide +kernel
theorem d_S_add_23 : decode b_S_add 23 = .ok (.dup, 1) := by decide +kernel
theorem d_S_add_24 : decode b_S_add 24 = .ok (.getfield 18, 3) := by decide +kernel
theorem d_S_add_27 : decode b_S_add 27 = .ok (.iconst 1, 1) := by decide +kernel
theorem d_S_add_28 : decode b_S_add 28 = .ok (.iadd, 1) := by decide +kernel
theorem d_S_add_29 : decode b_S_add 29 = .ok (.putfield 18, 3) := by decide +kernel
theorem d_S_add_32 : decode b_S_add 32 = .ok (.return_, 1) := by decide +kernel
theorem d_S_copyWithGap_0 : decode b_S_copyWithGap 0 = .ok (.aload_n 0, 1) := by decide +kernel
theorem d_S_copyWithGap_1 : decode b_S_copyWithGap 1 = .ok (.iconst 0, 1) := by decide +kernel
theorem d_S_copyWithGap_2 : decode b_S_copyWithGap 2 = .ok (.putfield 18, 3) := by decide +kernel
theorem d_S_copyWithGap_5 : decode b_S_copyWithGap 5 = .ok (.iconst 0, 1) := by decide +kernel
theorem d_S_copyWithGap_6 : decode b_S_copyWithGap 6 = .ok (.istore_n 3, 1) := by decide +kernel
theorem d_S_copyWithGap_7 : decode b_S_copyWithGap 7 = .ok (.iload_n 3, 1) := by decide +kernel
theorem d_S_copyWithGap_8 : decode b_S_copyWithGap 8 = .ok (.aload_n 1, 1) := by decide +kernel
theorem d_S_copyWithGap_9 : decode b_S_copyWithGap 9 = .ok (.getfield 18, 3) := by decide +kernel
theorem d_S_copyWithGap_12 : decode b_S_copyWithGap 12 = .ok (.if_icmp .ge 28, 3) := by decide +kernel
theorem d_S_copyWithGap_15 : decode b_S_copyWithGap 15 = .ok (.iload_n 3, 1) := by decide +kernel
theorem d_S_copyWithGap_16 : decode b_S_copyWithGap 16 = .ok (.iload_n 2, 1) := by decide +kernel
theorem d_S_copyWithGap_17 : decode b_S_copyWithGap 17 = .ok (.if_icmp .ne 8, 3) := by decide +kernel
theorem d_S_copyWithGap_20 : decode b_S_copyWithGap 20 = .ok (.aload_n 0, 1) := by decide +kernel
theorem d_S_copyWithGap_21 : decode b_S_copyWithGap 21 = .ok (.iconst (-1), 1) := by decide +kernel
theorem d_S_copyWithGap_22 : decode b_S_copyWithGap 22 = .ok (.invokevirtual 26, 3) := by decide +kernel
theorem d_S_copyWithGap_25 : decode b_S_copyWithGap 25 = .ok (.aload_n 0, 1) := by decide +kernel
theorem d_S_copyWithGap_26 : decode b_S_copyWithGap 26 = .ok (.aload_n 1, 1) := by decide +kernel
theorem d_S_copyWithGap_27 : decode b_S_copyWithGap 27 = .ok (.iload_n 3, 1) := by decide +kernel
theorem d_S_copyWithGap_28 : decode b_S_copyWithGap 28 = .ok (.invokevirtual 30, 3) := by decide +kernel
theorem d_S_copyWithGap_31 : decode b_S_copyWithGap 31 = .ok (.invokevirtual 26, 3) := by decide +kernel
theorem d_S_copyWithGap_34 : decode b_S_copyWithGap 34 = .ok (.iinc 3 1, 3) := by decide +kernel
theorem d_S_copyWithGap_37 : decode b_S_copyWithGap 37 = .ok (.goto (-30), 3) := by decide +kernel
theorem d_S_copyWithGap_40 : decode b_S_copyWithGap 40 = .ok (.iload_n 2, 1) := by decide +kernel
theorem d_S_copyWithGap_41 : decode b_S_copyWithGap 41 = .ok (.aload_n 1, 1) := by decide +kernel
theorem d_S_copyWithGap_42 : decode b_S_copyWithGap 42 = .ok (.getfield 18, 3) := by decide +kernel
theorem d_S_copyWithGap_45 : decode b_S_copyWithGap 45 = .ok (.if_icmp .ne 8, 3) := by decide +kernel
theorem d_S_copyWithGap_48 : decode b_S_copyWithGap 48 = .ok (.aload_n 0, 1) := by decide +kernel
theorem d_S_copyWithGap_49 : decode b_S_copyWithGap 49 = .ok (.iconst (-1), 1) := by decide +kernel
theorem d_S_copyWithGap_50 : decode b_S_copyWithGap 50 = .ok (.invokevirtual 26, 3) := by decide +kernel
theorem d_S_copyWithGap_53 : decode b_S_copyWithGap 53 = .ok (.aload_n 0, 1) := by decide +kernel
theorem d_S_copyWithGap_54 : decode b_S_copyWithGap 54 = .ok (.invokevirtual 34, 3) := by decide +kernel
theorem d_S_copyWithGap_57 : decode b_S_copyWithGap 57 = .ok (.return_, 1) := by decide +kernel
theorem d_S_makeEven_0 : decode b_S_makeEven 0 = .ok (.iconst 0, 1) := by decide +kernel
theorem d_S_makeEven_1 : decode b_S_makeEven 1 = .ok (.istore_n 1, 1) := by decide +kernel
theorem d_S_makeEven_2 : decode b_S_makeEven 2 = .ok (.iload_n 1, 1) := by decide +kernel
theorem d_S_makeEven_3 : decode b_S_makeEven 3 = .ok (.aload_n 0, 1) := by decide +kernel
theorem d_S_makeEven_4 : decode b_S_makeEven 4 = .ok (.getfield 18, 3) := by decide +kernel
theorem d_S_makeEven_7 : decode b_S_makeEven 7 = .ok (.if_icmp .ge 20, 3) := by decide +kernel
theorem d_S_makeEven_10 : decode b_S_makeEven 10 = .ok (.aload_n 0, 1) := by decide +kernel
theorem d_S_makeEven_11 : decode b_S_makeEven 11 = .ok (.getfield 15, 3) := by decide +kernel
theorem d_S_makeEven_14 : decode b_S_makeEven 14 = .ok (.iload_n 1, 1) := by decide +kernel
theorem d_S_makeEven_15 : decode b_S_makeEven 15 = .ok (.aload_n 0, 1) := by decide +kernel
theorem d_S_makeEven_16 : decode b_S_makeEven 16 = .ok (.iload_n 1, 1) := by decide +kernel
theorem d_S_makeEven_17 : decode b_S_makeEven 17 = .ok (.invokevirtual 37, 3) := by decide +kernel
theorem d_S_makeEven_20 : decode b_S_makeEven 20 = .ok (.iastore, 1) := by decide +kernel
theorem d_S_makeEven_21 : decode b_S_makeEven 21 = .ok (.iinc 1 1, 3) := by decide +kernel
theorem d_S_makeEven_24 : decode b_S_makeEven 24 = .ok (.goto (-22), 3) := by decide +kernel
theorem d_S_makeEven_27 : decode b_S_makeEven 27 = .ok (.return_, 1) := by decide +kernel
theorem d_S_evenedFromWidths_0 : decode b_S_evenedFromWidths 0 = .ok (.aload_n 0, 1) := by decide +kernel
theorem d_S_evenedFromWidths_1 : decode b_S_evenedFromWidths 1 = .ok (.getfield 9, 3) := by decide +kernel
theorem d_S_evenedFromWidths_4 : decode b_S_evenedFromWidths 4 = .ok (.iload_n 1, 1) := by decide +kernel
theorem d_S_evenedFromWidths_5 : decode b_S_evenedFromWidths 5 = .ok (.iaload, 1) := by decide +kernel
theorem d_S_evenedFromWidths_6 : decode b_S_evenedFromWidths 6 = .ok (.iconst (-1), 1) := by decide +kernel
theorem d_S_evenedFromWidths_7 : decode b_S_evenedFromWidths 7 = .ok (.if_icmp .ne 5, 3) := by decide +kernel
theorem d_S_evenedFromWidths_10 : decode b_S_evenedFromWidths 10 = .ok (.iconst (-1), 1) := by decide +kernel
theorem d_S_evenedFromWidths_11 : decode b_S_evenedFromWidths 11 = .ok (.ireturn, 1) := by decide +kernel
theorem d_S_evenedFromWidths_12 : decode b_S_evenedFromWidths 12 = .ok (.iconst 0, 1) := by decide +kernel
theorem d_S_evenedFromWidths_13 : decode b_S_evenedFromWidths 13 = .ok (.istore_n 2, 1) := by decide +kernel
theorem d_S_evenedFromWidths_14 : decode b_S_evenedFromWidths 14 = .ok (.iconst 0, 1) := by decide +kernel
theorem d_S_evenedFromWidths_15 : decode b_S_evenedFromWidths 15 = .ok (.istore_n 3, 1) := by decide +kernel
theorem d_S_evenedFromWidths_16 : decode b_S_evenedFromWidths 16 = .ok (.iload_n 1, 1) := by decide +kernel
theorem d_S_evenedFromWidths_17 : decode b_S_evenedFromWidths 17 = .ok (.iconst 2, 1) := by decide +kernel
theorem d_S_evenedFromWidths_18 : decode b_S_evenedFromWidths 18 = .ok (.isub, 1) := by decide +kernel
theorem d_S_evenedFromWidths_19 : decode b_S_evenedFromWidths 19 = .ok (.istore 4, 2) := by decide +kernel
theorem d_S_evenedFromWidths_21 : decode b_S_evenedFromWidths 21 = .ok (.iload 4, 2) := by decide +kernel
theorem d_S_evenedFromWidths_23 : decode b_S_evenedFromWidths 23 = .ok (.iload_n 1, 1) := by decide +kernel
theorem d_S_evenedFromWidths_24 : decode b_S_evenedFromWidths 24 = .ok (.iconst 2, 1) := by decide +kernel
theorem d_S_evenedFromWidths_25 : decode b_S_evenedFromWidths 25 = .ok (.iadd, 1) := by decide +kernel
theorem d_S_evenedFromWidths_26 : decode b_S_evenedFromWidths 26 = .ok (.if_icmp .gt 31, 3) := by decide +kernel
theorem d_S_evenedFromWidths_29 : decode b_S_evenedFromWidths 29 = .ok (.aload_n 0, 1) := by decide +kernel
theorem d_S_evenedFromWidths_30 : decode b_S_evenedFromWidths 30 = .ok (.iload 4, 2) := by decide +kernel
theorem d_S_evenedFromWidths_32 : decode b_S_evenedFromWidths 32 = .ok (.invokevirtual 30, 3) := by decide +kernel
theorem d_S_evenedFromWidths_35 : decode b_S_evenedFromWidths 35 = .ok (.istore 5, 2) := by decide +kernel
theorem d_S_evenedFromWidths_37 : decode b_S_evenedFromWidths 37 = .ok (.iload 5, 2) := by decide +kernel
theorem d_S_evenedFromWidths_39 : decode b_S_evenedFromWidths 39 = .ok (.iconst (-1), 1) := by decide +kernel
theorem d_S_evenedFromWidths_40 : decode b_S_evenedFromWidths 40 = .ok (.if_icmp .eq 11, 3) := by decide +kernel
theorem d_S_evenedFromWidths_43 : decode b_S_evenedFromWidths 43 = .ok (.iload_n 2, 1) := by decide +kernel
theorem d_S_evenedFromWidths_44 : decode b_S_evenedFromWidths 44 = .ok (.iload 5, 2) := by decide +kernel
theorem d_S_evenedFromWidths_46 : decode b_S_evenedFromWidths 46 = .ok (.iadd, 1) := by decide +kernel
theorem d_S_evenedFromWidths_47 : decode b_S_evenedFromWidths 47 = .ok (.istore_n 2, 1) := by decide +kernel
theorem d_S_evenedFromWidths_48 : decode b_S_evenedFromWidths 48 = .ok (.iinc 3 1, 3) := by decide +kernel
theorem d_S_evenedFromWidths_51 : decode b_S_evenedFromWidths 51 = .ok (.iinc 4 1, 3) := by decide +kernel
theorem d_S_evenedFromWidths_54 : decode b_S_evenedFromWidths 54 = .ok (.goto (-33), 3) := by decide +kernel
theorem d_S_evenedFromWidths_57 : decode b_S_evenedFromWidths 57 = .ok (.iload_n 2, 1) := by decide +kernel
theorem d_S_evenedFromWidths_58 : decode b_S_evenedFromWidths 58 = .ok (.ifCond .le 25, 3) := by decide +kernel
theorem d_S_evenedFromWidths_61 : decode b_S_evenedFromWidths 61 = .ok (.sipush 200, 3) := by decide +kernel
theorem d_S_evenedFromWidths_64 : decode b_S_evenedFromWidths 64 = .ok (.bipush 100, 2) := by decide +kernel
theorem d_S_evenedFromWidths_66 : decode b_S_evenedFromWidths 66 = .ok (.aload_n 0, 1) := by decide +kernel
theorem d_S_evenedFromWidths_67 : decode b_S_evenedFromWidths 67 = .ok (.getfield 9, 3) := by decide +kernel
theorem d_S_evenedFromWidths_70 : decode b_S_evenedFromWidths 70 = .ok (.iload_n 1, 1) := by decide +kernel
theorem d_S_evenedFromWidths_71 : decode b_S_evenedFromWidths 71 = .ok (.iaload, 1) := by decide +kernel
theorem d_S_evenedFromWidths_72 : decode b_S_evenedFromWidths 72 = .ok (.imul, 1) := by decide +kernel
theorem d_S_evenedFromWidths_73 : decode b_S_evenedFromWidths 73 = .ok (.iload_n 3, 1) := by decide +kernel
theorem d_S_evenedFromWidths_74 : decode b_S_evenedFromWidths 74 = .ok (.imul, 1) := by decide +kernel
theorem d_S_evenedFromWidths_75 : decode b_S_evenedFromWidths 75 = .ok (.iload_n 2, 1) := by decide +kernel
theorem d_S_evenedFromWidths_76 : decode b_S_evenedFromWidths 76 = .ok (.idiv, 1) := by decide +kernel
theorem d_S_evenedFromWidths_77 : decode b_S_evenedFromWidths 77 = .ok (.invokestatic 40, 3) := by decide +kernel
theorem d_S_evenedFromWidths_80 : decode b_S_evenedFromWidths 80 = .ok (.goto 4, 3) := by decide +kernel
theorem d_S_evenedFromWidths_83 : decode b_S_evenedFromWidths 83 = .ok (.iconst (-1), 1) := by decide +kernel
theorem d_S_evenedFromWidths_84 : decode b_S_evenedFromWidths 84 = .ok (.ireturn, 1) := by decide +kernel
theorem d_S_textLength_0 : decode b_S_textLength 0 = .ok (.aload_n 0, 1) := by decide +kernel
theorem d_S_textLength_1 : decode b_S_textLength 1 = .ok (.getfield 18, 3) := by decide +kernel
theorem d_S_textLength_4 : decode b_S_textLength 4 = .ok (.iconst 1, 1) := by decide +kernel
theorem d_S_textLength_5 : decode b_S_textLength 5 = .ok (.isub, 1) := by decide +kernel
theorem d_S_textLength_6 : decode b_S_textLength 6 = .ok (.istore_n 1, 1) := by decide +kernel
theorem d_S_textLength_7 : decode b_S_textLength 7 = .ok (.iconst 0, 1) := by decide +kernel
theorem d_S_textLength_8 : decode b_S_textLength 8 = .ok (.istore_n 2, 1) := by decide +kernel
theorem d_S_textLength_9 : decode b_S_textLength 9 = .ok (.iload_n 2, 1) := by decide +kernel
theorem d_S_textLength_10 : decode b_S_textLength 10 = .ok (.aload_n 0, 1) := by decide +kernel
theorem d_S_textLength_11 : decode b_S_textLength 11 = .ok (.getfield 18, 3) := by decide +kernel
theorem d_S_textLength_14 : decode b_S_textLength 14 = .ok (.if_icmp .ge 21, 3) := by decide +kernel
theorem d_S_textLength_17 : decode b_S_textLength 17 = .ok (.iload_n 1, 1) := by decide +kernel
theorem d_S_textLength_18 : decode b_S_textLength 18 = .ok (.aload_n 0, 1) := by decide +kernel
theorem d_S_textLength_19 : decode b_S_textLength 19 = .ok (.getfield 9, 3) := by decide +kernel
theorem d_S_textLength_22 : decode b_S_textLength 22 = .ok (.iload_n 2, 1) := by decide +kernel
theorem d_S_textLength_23 : decode b_S_textLength 23 = .ok (.iaload, 1) := by decide +kernel
theorem d_S_textLength_24 : decode b_S_textLength 24 = .ok (.invokestatic 46, 3) := by decide +kernel
theorem d_S_textLength_27 : decode b_S_textLength 27 = .ok (.iadd, 1) := by decide +kernel
theorem d_S_textLength_28 : decode b_S_textLength 28 = .ok (.istore_n 1, 1) := by decide +kernel
theorem d_S_textLength_29 : decode b_S_textLength 29 = .ok (.iinc 2 1, 3) := by decide +kernel
theorem d_S_textLength_32 : decode b_S_textLength 32 = .ok (.goto (-23), 3) := by decide +kernel
theorem d_S_textLength_35 : decode b_S_textLength 35 = .ok (.iload_n 1, 1) := by decide +kernel
theorem d_S_textLength_36 : decode b_S_textLength 36 = .ok (.ireturn, 1) := by decide +kernel
theorem d_S_textSign_0 : decode b_S_textSign 0 = .ok (.iload_n 1, 1) := by decide +kernel
theorem d_S_textSign_1 : decode b_S_textSign 1 = .ok (.istore_n 2, 1) := by decide +kernel
theorem d_S_textSign_2 : decode b_S_textSign 2 = .ok (.iconst 0, 1) := by decide +kernel
theorem d_S_textSign_3 : decode b_S_textSign 3 = .ok (.istore_n 3, 1) := by decide +kernel
theorem d_S_textSign_4 : decode b_S_textSign 4 = .ok (.iload_n 3, 1) := by decide +kernel
theorem d_S_textSign_5 : decode b_S_textSign 5 = .ok (.aload_n 0, 1) := by decide +kernel
theorem d_S_textSign_6 : decode b_S_textSign 6 = .ok (.getfield 18, 3) := by decide +kernel
theorem d_S_textSign_9 : decode b_S_textSign 9 = .ok (.if_icmp .ge 57, 3) := by decide +kernel
theorem d_S_textSign_12 : decode b_S_textSign 12 = .ok (.aload_n 0, 1) := by decide +kernel
theorem d_S_textSign_13 : decode b_S_textSign 13 = .ok (.getfield 9, 3) := by decide +kernel
theorem d_S_textSign_16 : decode b_S_textSign 16 = .ok (.iload_n 3, 1) := by decide +kernel
theorem d_S_textSign_17 : decode b_S_textSign 17 = .ok (.iaload, 1) := by decide +kernel
theorem d_S_textSign_18 : decode b_S_textSign 18 = .ok (.invokestatic 46, 3) := by decide +kernel
theorem d_S_textSign_21 : decode b_S_textSign 21 = .ok (.istore 4, 2) := by decide +kernel
theorem d_S_textSign_23 : decode b_S_textSign 23 = .ok (.iload_n 2, 1) := by decide +kernel
theorem d_S_textSign_24 : decode b_S_textSign 24 = .ok (.iload 4, 2) := by decide +kernel
theorem d_S_textSign_26 : decode b_S_textSign 26 = .ok (.if_icmp .ge 19, 3) := by decide +kernel
theorem d_S_textSign_29 : decode b_S_textSign 29 = .ok (.aload_n 0, 1) := by decide +kernel
theorem d_S_textSign_30 : decode b_S_textSign 30 = .ok (.getfield 9, 3) := by decide +kernel
theorem d_S_textSign_33 : decode b_S_textSign 33 = .ok (.iload_n 3, 1) := by decide +kernel
theorem d_S_textSign_34 : decode b_S_textSign 34 = .ok (.iaload, 1) := by decide +kernel
theorem d_S_textSign_35 : decode b_S_textSign 35 = .ok (.iload 4, 2) := by decide +kernel
theorem d_S_textSign_37 : decode b_S_textSign 37 = .ok (.iconst 1, 1) := by decide +kernel
theorem d_S_textSign_38 : decode b_S_textSign 38 = .ok (.isub, 1) := by decide +kernel
theorem d_S_textSign_39 : decode b_S_textSign 39 = .ok (.iload_n 2, 1) := by decide +kernel
theorem d_S_textSign_40 : decode b_S_textSign 40 = .ok (.isub, 1) := by decide +kernel
theorem d_S_textSign_41 : decode b_S_textSign 41 = .ok (.invokestatic 49, 3) := by decide +kernel
theorem d_S_textSign_44 : decode b_S_textSign 44 = .ok (.ireturn, 1) := by decide +kernel
theorem d_S_textSign_45 : decode b_S_textSign 45 = .ok (.iload_n 2, 1) := by decide +kernel
theorem d_S_textSign_46 : decode b_S_textSign 46 = .ok (.iload 4, 2) := by decide +kernel
theorem d_S_textSign_48 : decode b_S_textSign 48 = .ok (.isub, 1) := by decide +kernel
theorem d_S_textSign_49 : decode b_S_textSign 49 = .ok (.istore_n 2, 1) := by decide +kernel
theorem d_S_textSign_50 : decode b_S_textSign 50 = .ok (.iload_n 2, 1) := by decide +kernel
theorem d_S_textSign_51 : decode b_S_textSign 51 = .ok (.ifCond .ne 6, 3) := by decide +kernel
theorem d_S_textSign_54 : decode b_S_textSign 54 = .ok (.bipush 32, 2) := by decide +kernel
theorem d_S_textSign_56 : decode b_S_textSign 56 = .ok (.ireturn, 1) := by decide +kernel
theorem d_S_textSign_57 : decode b_S_textSign 57 = .ok (.iinc 2 (-1), 3) := by decide +kernel
theorem d_S_textSign_60 : decode b_S_textSign 60 = .ok (.iinc 3 1, 3) := by decide +kernel
theorem d_S_textSign_63 : decode b_S_textSign 63 = .ok (.goto (-59), 3) := by decide +kernel
theorem d_S_textSign_66 : decode b_S_textSign 66 = .ok (.iconst (-1), 1) := by decide +kernel
theorem d_S_textSign_67 : decode b_S_textSign 67 = .ok (.ireturn, 1) := by decide +kernel
theorem d_S_signsFor_0 : decode b_S_signsFor 0 = .ok (.iload_n 0, 1) := by decide +kernel
theorem d_S_signsFor_1 : decode b_S_signsFor 1 = .ok (.bipush 10, 2) := by decide +kernel
theorem d_S_signsFor_3 : decode b_S_signsFor 3 = .ok (.if_icmp .ge 5, 3) := by decide +kernel
theorem d_S_signsFor_6 : decode b_S_signsFor 6 = .ok (.iconst 1, 1) := by decide +kernel
theorem d_S_signsFor_7 : decode b_S_signsFor 7 = .ok (.ireturn, 1) := by decide +kernel
theorem d_S_signsFor_8 : decode b_S_signsFor 8 = .ok (.iload_n 0, 1) := by decide +kernel
theorem d_S_signsFor_9 : decode b_S_signsFor 9 = .ok (.bipush 100, 2) := by decide +kernel
theorem d_S_signsFor_11 : decode b_S_signsFor 11 = .ok (.if_icmp .ge 7, 3) := by decide +kernel
theorem d_S_signsFor_14 : decode b_S_signsFor 14 = .ok (.iconst 2, 1) := by decide +kernel
theorem d_S_signsFor_15 : decode b_S_signsFor 15 = .ok (.goto 4, 3) := by decide +kernel
theorem d_S_signsFor_18 : decode b_S_signsFor 18 = .ok (.iconst 3, 1) := by decide +kernel
theorem d_S_signsFor_19 : decode b_S_signsFor 19 = .ok (.ireturn, 1) := by decide +kernel
theorem d_S_signFor_0 : decode b_S_signFor 0 = .ok (.iload_n 0, 1) := by decide +kernel
theorem d_S_signFor_1 : decode b_S_signFor 1 = .ok (.iconst (-1), 1) := by decide +kernel
theorem d_S_signFor_2 : decode b_S_signFor 2 = .ok (.if_icmp .ne 6, 3) := by decide +kernel
theorem d_S_signFor_5 : decode b_S_signFor 5 = .ok (.bipush 45, 2) := by decide +kernel
theorem d_S_signFor_7 : decode b_S_signFor 7 = .ok (.ireturn, 1) := by decide +kernel
theorem d_S_signFor_8 : decode b_S_signFor 8 = .ok (.iload_n 0, 1) := by decide +kernel
theorem d_S_signFor_9 : decode b_S_signFor 9 = .ok (.istore_n 2, 1) := by decide +kernel
theorem d_S_signFor_10 : decode b_S_signFor 10 = .ok (.iconst 0, 1) := by decide +kernel
theorem d_S_signFor_11 : decode b_S_signFor 11 = .ok (.istore_n 3, 1) := by decide +kernel
theorem d_S_signFor_12 : decode b_S_signFor 12 = .ok (.iload_n 3, 1) := by decide +kernel
theorem d_S_signFor_13 : decode b_S_signFor 13 = .ok (.iload_n 1, 1) := by decide +kernel
theorem d_S_signFor_14 : decode b_S_signFor 14 = .ok (.if_icmp .ge 14, 3) := by decide +kernel
theorem d_S_signFor_17 : decode b_S_signFor 17 = .ok (.iload_n 2, 1) := by decide +kernel
theorem d_S_signFor_18 : decode b_S_signFor 18 = .ok (.bipush 10, 2) := by decide +kernel
theorem d_S_signFor_20 : decode b_S_signFor 20 = .ok (.idiv, 1) := by decide +kernel
theorem d_S_signFor_21 : decode b_S_signFor 21 = .ok (.istore_n 2, 1) := by decide +kernel
theorem d_S_signFor_22 : decode b_S_signFor 22 = .ok (.iinc 3 1, 3) := by decide +kernel
theorem d_S_signFor_25 : decode b_S_signFor 25 = .ok (.goto (-13), 3) := by decide +kernel
theorem d_S_signFor_28 : decode b_S_signFor 28 = .ok (.bipush 48, 2) := by decide +kernel
theorem d_S_signFor_30 : decode b_S_signFor 30 = .ok (.iload_n 2, 1) := by decide +kernel
theorem d_S_signFor_31 : decode b_S_signFor 31 = .ok (.bipush 10, 2) := by decide +kernel
theorem d_S_signFor_33 : decode b_S_signFor 33 = .ok (.irem, 1) := by decide +kernel
theorem d_S_signFor_34 : decode b_S_signFor 34 = .ok (.iadd, 1) := by decide +kernel
theorem d_S_signFor_35 : decode b_S_signFor 35 = .ok (.ireturn, 1) := by decide +kernel
end
section
theorem d_R_init_0 : decode b_R_init 0 = .ok (.aload_n 0, 1) := by decide +kernel
theorem d_R_init_1 : decode b_R_init 1 = .ok (.invokespecial 3, 3) := by decide +kernel
theorem d_R_init_4 : decode b_R_init 4 = .ok (.aload_n 0, 1) := by decide +kernel
theorem d_R_init_5 : decode b_R_init 5 = .ok (.new 9, 3) := by decide +kernel
theorem d_R_init_8 : decode b_R_init 8 = .ok (.dup, 1) := by decide +kernel
theorem d_R_init_9 : decode b_R_init 9 = .ok (.invokespecial 11, 3) := by decide +kernel
theorem d_R_init_12 : decode b_R_init 12 = .ok (.putfield 12, 3) := by decide +kernel
theorem d_R_init_15 : decode b_R_init 15 = .ok (.aload_n 0, 1) := by decide +kernel
theorem d_R_init_16 : decode b_R_init 16 = .ok (.bipush 8, 2) := by decide +kernel
theorem d_R_init_18 : decode b_R_init 18 = .ok (.anewarray 16, 3) := by decide +kernel
theorem d_R_init_21 : decode b_R_init 21 = .ok (.putfield 18, 3) := by decide +kernel
theorem d_R_init_24 : decode b_R_init 24 = .ok (.iconst 0, 1) := by decide +kernel
theorem d_R_init_25 : decode b_R_init 25 = .ok (.istore_n 1, 1) := by decide +kernel
theorem d_R_init_26 : decode b_R_init 26 = .ok (.iload_n 1, 1) := by decide +kernel
theorem d_R_init_27 : decode b_R_init 27 = .ok (.aload_n 0, 1) := by decide +kernel
theorem d_R_init_28 : decode b_R_init 28 = .ok (.getfield 18, 3) := by decide +kernel
theorem d_R_init_31 : decode b_R_init 31 = .ok (.arraylength, 1) := by decide +kernel
theorem d_R_init_32 : decode b_R_init 32 = .ok (.if_icmp .ge 22, 3) := by decide +kernel
theorem d_R_init_35 : decode b_R_init 35 = .ok (.aload_n 0, 1) := by decide +kernel
theorem d_R_init_36 : decode b_R_init 36 = .ok (.getfield 18, 3) := by decide +kernel
theorem d_R_init_39 : decode b_R_init 39 = .ok (.iload_n 1, 1) := by decide +kernel
theorem d_R_init_40 : decode b_R_init 40 = .ok (.new 16, 3) := by decide +kernel
theorem d_R_init_43 : decode b_R_init 43 = .ok (.dup, 1) := by decide +kernel
theorem d_R_init_44 : decode b_R_init 44 = .ok (.invokespecial 22, 3) := by decide +kernel
theorem d_R_init_47 : decode b_R_init 47 = .ok (.aastore, 1) := by decide +kernel
theorem d_R_init_48 : decode b_R_init 48 = .ok (.iinc 1 1, 3) := by decide +kernel
theorem d_R_init_51 : decode b_R_init 51 = .ok (.goto (-25), 3) := by decide +kernel
theorem d_R_init_54 : decode b_R_init 54 = .ok (.aload_n 0, 1) := by decide +kernel
theorem d_R_init_55 : decode b_R_init 55 = .ok (.bipush 47, 2) := by decide +kernel
theorem d_R_init_57 : decode b_R_init 57 = .ok (.anewarray 23, 3) := by decide +kernel
theorem d_R_init_60 : decode b_R_init 60 = .ok (.putfield 25, 3) := by decide +kernel
theorem d_R_init_63 : decode b_R_init 63 = .ok (.iconst 0, 1) := by decide +kernel
theorem d_R_init_64 : decode b_R_init 64 = .ok (.istore_n 1, 1) := by decide +kernel
theorem d_R_init_65 : decode b_R_init 65 = .ok (.iload_n 1, 1) := by decide +kernel
theorem d_R_init_66 : decode b_R_init 66 = .ok (.aload_n 0, 1) := by decide +kernel
theorem d_R_init_67 : decode b_R_init 67 = .ok (.getfield 25, 3) := by decide +kernel
theorem d_R_init_70 : decode b_R_init 70 = .ok (.arraylength, 1) := by decide +kernel
theorem d_R_init_71 : decode b_R_init 71 = .ok (.if_icmp .ge 22, 3) := by decide +kernel
theorem d_R_init_74 : decode b_R_init 74 = .ok (.aload_n 0, 1) := by decide +kernel
theorem d_R_init_75 : decode b_R_init 75 = .ok (.getfield 25, 3) := by decide +kernel
theorem d_R_init_78 : decode b_R_init 78 = .ok (.iload_n 1, 1) := by decide +kernel
theorem d_R_init_79 : decode b_R_init 79 = .ok (.new 23, 3) := by decide +kernel
theorem d_R_init_82 : decode b_R_init 82 = .ok (.dup, 1) := by decide +kernel
theorem d_R_init_83 : decode b_R_init 83 = .ok (.invokespecial 29, 3) := by decide +kernel
theorem d_R_init_86 : decode b_R_init 86 = .ok (.aastore, 1) := by decide +kernel
theorem d_R_init_87 : decode b_R_init 87 = .ok (.iinc 1 1, 3) := by decide +kernel
theorem d_R_init_90 : decode b_R_init 90 = .ok (.goto (-25), 3) := by decide +kernel
theorem d_R_init_93 : decode b_R_init 93 = .ok (.aload_n 0, 1) := by decide +kernel
theorem d_R_init_94 : decode b_R_init 94 = .ok (.new 16, 3) := by decide +kernel
theorem d_R_init_97 : decode b_R_init 97 = .ok (.dup, 1) := by decide +kernel
theorem d_R_init_98 : decode b_R_init 98 = .ok (.invokespecial 22, 3) := by decide +kernel
theorem d_R_init_101 : decode b_R_init 101 = .ok (.putfield 30, 3) := by decide +kernel
theorem d_R_init_104 : decode b_R_init 104 = .ok (.aload_n 0, 1) := by decide +kernel
theorem d_R_init_105 : decode b_R_init 105 = .ok (.new 23, 3) := by decide +kernel
theorem d_R_init_108 : decode b_R_init 108 = .ok (.dup, 1) := by decide +kernel
theorem d_R_init_109 : decode b_R_init 109 = .ok (.invokespecial 29, 3) := by decide +kernel
theorem d_R_init_112 : decode b_R_init 112 = .ok (.putfield 34, 3) := by decide +kernel
theorem d_R_init_115 : decode b_R_init 115 = .ok (.aload_n 0, 1) := by decide +kernel
theorem d_R_init_116 : decode b_R_init 116 = .ok (.bipush 8, 2) := by decide +kernel
theorem d_R_init_118 : decode b_R_init 118 = .ok (.newarray .boolean, 2) := by decide +kernel
theorem d_R_init_120 : decode b_R_init 120 = .ok (.putfield 38, 3) := by decide +kernel
theorem d_R_init_123 : decode b_R_init 123 = .ok (.aload_n 0, 1) := by decide +kernel
theorem d_R_init_124 : decode b_R_init 124 = .ok (.bipush 8, 2) := by decide +kernel
theorem d_R_init_126 : decode b_R_init 126 = .ok (.newarray .boolean, 2) := by decide +kernel
theorem d_R_init_128 : decode b_R_init 128 = .ok (.putfield 42, 3) := by decide +kernel
theorem d_R_init_131 : decode b_R_init 131 = .ok (.return_, 1) := by decide +kernel
theorem d_R_unit_0 : decode b_R_unit 0 = .ok (.iload_n 1, 1) := by decide +kernel
theorem d_R_unit_1 : decode b_R_unit 1 = .ok (.invokestatic 45, 3) := by decide +kernel
theorem d_R_unit_4 : decode b_R_unit 4 = .ok (.ifCond .eq 10, 3) := by decide +kernel
theorem d_R_unit_7 : decode b_R_unit 7 = .ok (.iload_n 2, 1) := by decide +kernel
theorem d_R_unit_8 : decode b_R_unit 8 = .ok (.invokestatic 45, 3) := by decide +kernel
theorem d_R_unit_11 : decode b_R_unit 11 = .ok (.ifCond .ne 13, 3) := by decide +kernel
theorem d_R_unit_14 : decode b_R_unit 14 = .ok (.new 49, 3) := by decide +kernel
theorem d_R_unit_17 : decode b_R_unit 17 = .ok (.dup, 1) := by decide +kernel
theorem d_R_unit_18 : decode b_R_unit 18 = .ok (.ldc 51, 2) := by decide +kernel
theorem d_R_unit_20 : decode b_R_unit 20 = .ok (.invokespecial 53, 3) := by decide +kernel
theorem d_R_unit_23 : decode b_R_unit 23 = .ok (.athrow, 1) := by decide +kernel
theorem d_R_unit_24 : decode b_R_unit 24 = .ok (.aload_n 0, 1) := by decide +kernel
theorem d_R_unit_25 : decode b_R_unit 25 = .ok (.getfield 12, 3) := by decide +kernel
theorem d_R_unit_28 : decode b_R_unit 28 = .ok (.getfield 56, 3) := by decide +kernel
theorem d_R_unit_31 : decode b_R_unit 31 = .ok (.iload_n 1, 1) := by decide +kernel
theorem d_R_unit_32 : decode b_R_unit 32 = .ok (.invokestatic 60, 3) := by decide +kernel
theorem d_R_unit_35 : decode b_R_unit 35 = .ok (.iadd, 1) := by decide +kernel
theorem d_R_unit_36 : decode b_R_unit 36 = .ok (.iload_n 2, 1) := by decide +kernel
theorem d_R_unit_37 : decode b_R_unit 37 = .ok (.invokestatic 60, 3) := by decide +kernel
theorem d_R_unit_40 : decode b_R_unit 40 = .ok (.iadd, 1) := by decide +kernel
theorem d_R_unit_41 : decode b_R_unit 41 = .ok (.bipush 100, 2) := by decide +kernel
theorem d_R_unit_43 : decode b_R_unit 43 = .ok (.if_icmp .le 13, 3) := by decide +kernel
theorem d_R_unit_46 : decode b_R_unit 46 = .ok (.new 64, 3) := by decide +kernel
theorem d_R_unit_49 : decode b_R_unit 49 = .ok (.dup, 1) := by decide +kernel
theorem d_R_unit_50 : decode b_R_unit 50 = .ok (.ldc 66, 2) := by decide +kernel
theorem d_R_unit_52 : decode b_R_unit 52 = .ok (.invokespecial 68, 3) := by decide +kernel
theorem d_R_unit_55 : decode b_R_unit 55 = .ok (.athrow, 1) := by decide +kernel
theorem d_R_unit_56 : decode b_R_unit 56 = .ok (.aload_n 0, 1) := by decide +kernel
theorem d_R_unit_57 : decode b_R_unit 57 = .ok (.getfield 12, 3) := by decide +kernel
theorem d_R_unit_60 : decode b_R_unit 60 = .ok (.iload_n 1, 1) := by decide +kernel
theorem d_R_unit_61 : decode b_R_unit 61 = .ok (.invokevirtual 69, 3) := by decide +kernel
theorem d_R_unit_64 : decode b_R_unit 64 = .ok (.aload_n 0, 1) := by decide +kernel
theorem d_R_unit_65 : decode b_R_unit 65 = .ok (.getfield 12, 3) := by decide +kernel
theorem d_R_unit_68 : decode b_R_unit 68 = .ok (.iload_n 2, 1) := by decide +kernel
theorem d_R_unit_69 : decode b_R_unit 69 = .ok (.invokevirtual 69, 3) := by decide +kernel
theorem d_R_unit_72 : decode b_R_unit 72 = .ok (.aload_n 0, 1) := by decide +kernel
theorem d_R_unit_73 : decode b_R_unit 73 = .ok (.getfield 12, 3) := by decide +kernel
theorem d_R_unit_76 : decode b_R_unit 76 = .ok (.getfield 56, 3) := by decide +kernel
theorem d_R_unit_79 : decode b_R_unit 79 = .ok (.ireturn, 1) := by decide +kernel
theorem d_R_read_0 : decode b_R_read 0 = .ok (.aload_n 0, 1) := by decide +kernel
theorem d_R_read_1 : decode b_R_read 1 = .ok (.getfield 73, 3) := by decide +kernel
theorem d_R_read_4 : decode b_R_read 4 = .ok (.bipush 8, 2) := by decide +kernel
theorem d_R_read_6 : decode b_R_read 6 = .ok (.if_icmp .lt 13, 3) := by decide +kernel
theorem d_R_read_9 : decode b_R_read 9 = .ok (.new 64, 3) := by decide +kernel
theorem d_R_read_12 : decode b_R_read 12 = .ok (.dup, 1) := by decide +kernel
theorem d_R_read_13 : decode b_R_read 13 = .ok (.ldc 76, 2) := by decide +kernel
theorem d_R_read_15 : decode b_R_read 15 = .ok (.invokespecial 68, 3) := by decide +kernel
theorem d_R_read_18 : decode b_R_read 18 = .ok (.athrow, 1) := by decide +kernel
theorem d_R_read_19 : decode b_R_read 19 = .ok (.aload_n 0, 1) := by decide +kernel
theorem d_R_read_20 : decode b_R_read 20 = .ok (.getfield 12, 3) := by decide +kernel
theorem d_R_read_23 : decode b_R_read 23 = .ok (.aload_n 0, 1) := by decide +kernel
theorem d_R_read_24 : decode b_R_read 24 = .ok (.getfield 18, 3) := by decide +kernel
theorem d_R_read_27 : decode b_R_read 27 = .ok (.aload_n 0, 1) := by decide +kernel
theorem d_R_read_28 : decode b_R_read 28 = .ok (.getfield 73, 3) := by decide +kernel
theorem d_R_read_31 : decode b_R_read 31 = .ok (.aaload, 1) := by decide +kernel
theorem d_R_read_32 : decode b_R_read 32 = .ok (.invokevirtual 78, 3) := by decide +kernel
theorem d_R_read_35 : decode b_R_read 35 = .ok (.istore_n 1, 1) := by decide +kernel
theorem d_R_read_36 : decode b_R_read 36 = .ok (.aload_n 0, 1) := by decide +kernel
theorem d_R_read_37 : decode b_R_read 37 = .ok (.getfield 12, 3) := by decide +kernel
theorem d_R_read_40 : decode b_R_read 40 = .ok (.iconst 0, 1) := by decide +kernel
theorem d_R_read_41 : decode b_R_read 41 = .ok (.putfield 56, 3) := by decide +kernel
theorem d_R_read_44 : decode b_R_read 44 = .ok (.iload_n 1, 1) := by decide +kernel
theorem d_R_read_45 : decode b_R_read 45 = .ok (.iconst (-1), 1) := by decide +kernel
theorem d_R_read_46 : decode b_R_read 46 = .ok (.if_icmp .ne 10, 3) := by decide +kernel
theorem d_R_read_49 : decode b_R_read 49 = .ok (.aload_n 0, 1) := by decide +kernel
theorem d_R_read_50 : decode b_R_read 50 = .ok (.invokevirtual 82, 3) := by decide +kernel
theorem d_R_read_53 : decode b_R_read 53 = .ok (.goto 6, 3) := by decide +kernel
theorem d_R_read_56 : decode b_R_read 56 = .ok (.iconst (-1), 1) := by decide +kernel
theorem d_R_read_57 : decode b_R_read 57 = .ok (.iload_n 1, 1) := by decide +kernel
theorem d_R_read_58 : decode b_R_read 58 = .ok (.isub, 1) := by decide +kernel
theorem d_R_read_59 : decode b_R_read 59 = .ok (.ireturn, 1) := by decide +kernel
theorem d_R_width_0 : decode b_R_width 0 = .ok (.aload_n 0, 1) := by decide +kernel
theorem d_R_width_1 : decode b_R_width 1 = .ok (.iload_n 1, 1) := by decide +kernel
theorem d_R_width_2 : decode b_R_width 2 = .ok (.invokevirtual 86, 3) := by decide +kernel
theorem d_R_width_5 : decode b_R_width 5 = .ok (.astore_n 3, 1) := by decide +kernel
theorem d_R_width_6 : decode b_R_width 6 = .ok (.iload_n 2, 1) := by decide +kernel
theorem d_R_width_7 : decode b_R_width 7 = .ok (.iconst (-1), 1) := by decide +kernel
theorem d_R_width_8 : decode b_R_width 8 = .ok (.if_icmp .ne 8, 3) := by decide +kernel
theorem d_R_width_11 : decode b_R_width 11 = .ok (.aload_n 3, 1) := by decide +kernel
theorem d_R_width_12 : decode b_R_width 12 = .ok (.getfield 90, 3) := by decide +kernel
theorem d_R_width_15 : decode b_R_width 15 = .ok (.ireturn, 1) := by decide +kernel
theorem d_R_width_16 : decode b_R_width 16 = .ok (.aload_n 3, 1) := by decide +kernel
theorem d_R_width_17 : decode b_R_width 17 = .ok (.iload_n 2, 1) := by decide +kernel
theorem d_R_width_18 : decode b_R_width 18 = .ok (.invokevirtual 91, 3) := by decide +kernel
theorem d_R_width_21 : decode b_R_width 21 = .ok (.ifCond .ne 13, 3) := by decide +kernel
theorem d_R_width_24 : decode b_R_width 24 = .ok (.new 94, 3) := by decide +kernel
theorem d_R_width_27 : decode b_R_width 27 = .ok (.dup, 1) := by decide +kernel
theorem d_R_width_28 : decode b_R_width 28 = .ok (.ldc 96, 2) := by decide +kernel
theorem d_R_width_30 : decode b_R_width 30 = .ok (.invokespecial 98, 3) := by decide +kernel
theorem d_R_width_33 : decode b_R_width 33 = .ok (.athrow, 1) := by decide +kernel
theorem d_R_width_34 : decode b_R_width 34 = .ok (.aload_n 3, 1) := by decide +kernel
theorem d_R_width_35 : decode b_R_width 35 = .ok (.iload_n 2, 1) := by decide +kernel
theorem d_R_width_36 : decode b_R_width 36 = .ok (.invokevirtual 99, 3) := by decide +kernel
theorem d_R_width_39 : decode b_R_width 39 = .ok (.ireturn, 1) := by decide +kernel
theorem d_R_written_0 : decode b_R_written 0 = .ok (.aload_n 0, 1) := by decide +kernel
theorem d_R_written_1 : decode b_R_written 1 = .ok (.iload_n 1, 1) := by decide +kernel
theorem d_R_written_2 : decode b_R_written 2 = .ok (.invokevirtual 86, 3) := by decide +kernel
theorem d_R_written_5 : decode b_R_written 5 = .ok (.astore_n 3, 1) := by decide +kernel
theorem d_R_written_6 : decode b_R_written 6 = .ok (.aload_n 3, 1) := by decide +kernel
theorem d_R_written_7 : decode b_R_written 7 = .ok (.invokevirtual 102, 3) := by decide +kernel
theorem d_R_written_10 : decode b_R_written 10 = .ok (.istore 4, 2) := by decide +kernel
theorem d_R_written_12 : decode b_R_written 12 = .ok (.iload_n 2, 1) := by decide +kernel
theorem d_R_written_13 : decode b_R_written 13 = .ok (.iconst (-1), 1) := by decide +kernel
theorem d_R_written_14 : decode b_R_written 14 = .ok (.if_icmp .ne 6, 3) := by decide +kernel
theorem d_R_written_17 : decode b_R_written 17 = .ok (.iload 4, 2) := by decide +kernel
theorem d_R_written_19 : decode b_R_written 19 = .ok (.ireturn, 1) := by decide +kernel
theorem d_R_written_20 : decode b_R_written 20 = .ok (.iload_n 2, 1) := by decide +kernel
theorem d_R_written_21 : decode b_R_written 21 = .ok (.ifCond .lt 9, 3) := by decide +kernel
theorem d_R_written_24 : decode b_R_written 24 = .ok (.iload_n 2, 1) := by decide +kernel
theorem d_R_written_25 : decode b_R_written 25 = .ok (.iload 4, 2) := by decide +kernel
theorem d_R_written_27 : decode b_R_written 27 = .ok (.if_icmp .lt 13, 3) := by decide +kernel
theorem d_R_written_30 : decode b_R_written 30 = .ok (.new 94, 3) := by decide +kernel
theorem d_R_written_33 : decode b_R_written 33 = .ok (.dup, 1) := by decide +kernel
theorem d_R_written_34 : decode b_R_written 34 = .ok (.ldc 105, 2) := by decide +kernel
theorem d_R_written_36 : decode b_R_written 36 = .ok (.invokespecial 98, 3) := by decide +kernel
theorem d_R_written_39 : decode b_R_written 39 = .ok (.athrow, 1) := by decide +kernel
theorem d_R_written_40 : decode b_R_written 40 = .ok (.aload_n 3, 1) := by decide +kernel
theorem d_R_written_41 : decode b_R_written 41 = .ok (.iload_n 2, 1) := by decide +kernel
theorem d_R_written_42 : decode b_R_written 42 = .ok (.invokevirtual 107, 3) := by decide +kernel
theorem d_R_written_45 : decode b_R_written 45 = .ok (.ireturn, 1) := by decide +kernel
theorem d_R_evened_0 : decode b_R_evened 0 = .ok (.aload_n 0, 1) := by decide +kernel
theorem d_R_evened_1 : decode b_R_evened 1 = .ok (.iload_n 1, 1) := by decide +kernel
theorem d_R_evened_2 : decode b_R_evened 2 = .ok (.invokevirtual 86, 3) := by decide +kernel
theorem d_R_evened_5 : decode b_R_evened 5 = .ok (.astore_n 3, 1) := by decide +kernel
theorem d_R_evened_6 : decode b_R_evened 6 = .ok (.aload_n 3, 1) := by decide +kernel
theorem d_R_evened_7 : decode b_R_evened 7 = .ok (.iload_n 2, 1) := by decide +kernel
theorem d_R_evened_8 : decode b_R_evened 8 = .ok (.invokevirtual 91, 3) := by decide +kernel
theorem d_R_evened_11 : decode b_R_evened 11 = .ok (.ifCond .ne 13, 3) := by decide +kernel
theorem d_R_evened_14 : decode b_R_evened 14 = .ok (.new 94, 3) := by decide +kernel
theorem d_R_evened_17 : decode b_R_evened 17 = .ok (.dup, 1) := by decide +kernel
theorem d_R_evened_18 : decode b_R_evened 18 = .ok (.ldc 96, 2) := by decide +kernel
theorem d_R_evened_20 : decode b_R_evened 20 = .ok (.invokespecial 98, 3) := by decide +kernel
theorem d_R_evened_23 : decode b_R_evened 23 = .ok (.athrow, 1) := by decide +kernel
theorem d_R_evened_24 : decode b_R_evened 24 = .ok (.aload_n 3, 1) := by decide +kernel
theorem d_R_evened_25 : decode b_R_evened 25 = .ok (.iload_n 2, 1) := by decide +kernel
theorem d_R_evened_26 : decode b_R_evened 26 = .ok (.invokevirtual 110, 3) := by decide +kernel
theorem d_R_evened_29 : decode b_R_evened 29 = .ok (.ireturn, 1) := by decide +kernel
theorem d_R_match_0 : decode b_R_match 0 = .ok (.aload_n 0, 1) := by decide +kernel
theorem d_R_match_1 : decode b_R_match 1 = .ok (.iload_n 1, 1) := by decide +kernel
theorem d_R_match_2 : decode b_R_match 2 = .ok (.invokevirtual 86, 3) := by decide +kernel
theorem d_R_match_5 : decode b_R_match 5 = .ok (.astore 4, 2) := by decide +kernel
theorem d_R_match_7 : decode b_R_match 7 = .ok (.aload_n 0, 1) := by decide +kernel
theorem d_R_match_8 : decode b_R_match 8 = .ok (.iload_n 2, 1) := by decide +kernel
theorem d_R_match_9 : decode b_R_match 9 = .ok (.invokevirtual 86, 3) := by decide +kernel
theorem d_R_match_12 : decode b_R_match 12 = .ok (.astore 5, 2) := by decide +kernel
theorem d_R_match_14 : decode b_R_match 14 = .ok (.iload_n 3, 1) := by decide +kernel
theorem d_R_match_15 : decode b_R_match 15 = .ok (.invokestatic 113, 3) := by decide +kernel
theorem d_R_match_18 : decode b_R_match 18 = .ok (.aload_n 0, 1) := by decide +kernel
theorem d_R_match_19 : decode b_R_match 19 = .ok (.iconst 0, 1) := by decide +kernel
theorem d_R_match_20 : decode b_R_match 20 = .ok (.putfield 116, 3) := by decide +kernel
theorem d_R_match_23 : decode b_R_match 23 = .ok (.iconst 1, 1) := by decide +kernel
theorem d_R_match_24 : decode b_R_match 24 = .ok (.aload 5, 2) := by decide +kernel
theorem d_R_match_26 : decode b_R_match 26 = .ok (.getfield 90, 3) := by decide +kernel
theorem d_R_match_29 : decode b_R_match 29 = .ok (.isub, 1) := by decide +kernel
theorem d_R_match_30 : decode b_R_match 30 = .ok (.istore 6, 2) := by decide +kernel
theorem d_R_match_32 : decode b_R_match 32 = .ok (.iload 6, 2) := by decide +kernel
theorem d_R_match_34 : decode b_R_match 34 = .ok (.aload 4, 2) := by decide +kernel
theorem d_R_match_36 : decode b_R_match 36 = .ok (.getfield 90, 3) := by decide +kernel
theorem d_R_match_39 : decode b_R_match 39 = .ok (.if_icmp .ge 75, 3) := by decide +kernel
theorem d_R_match_42 : decode b_R_match 42 = .ok (.aload_n 0, 1) := by decide +kernel
theorem d_R_match_43 : decode b_R_match 43 = .ok (.getfield 116, 3) := by decide +kernel
theorem d_R_match_46 : decode b_R_match 46 = .ok (.aload_n 0, 1) := by decide +kernel
theorem d_R_match_47 : decode b_R_match 47 = .ok (.getfield 25, 3) := by decide +kernel
theorem d_R_match_50 : decode b_R_match 50 = .ok (.arraylength, 1) := by decide +kernel
theorem d_R_match_51 : decode b_R_match 51 = .ok (.if_icmp .ge 63, 3) := by decide +kernel
theorem d_R_match_54 : decode b_R_match 54 = .ok (.aload_n 0, 1) := by decide +kernel
theorem d_R_match_55 : decode b_R_match 55 = .ok (.dup, 1) := by decide +kernel
theorem d_R_match_56 : decode b_R_match 56 = .ok (.getfield 119, 3) := by decide +kernel
theorem d_R_match_59 : decode b_R_match 59 = .ok (.iconst 1, 1) := by decide +kernel
theorem d_R_match_60 : decode b_R_match 60 = .ok (.iadd, 1) := by decide +kernel
theorem d_R_match_61 : decode b_R_match 61 = .ok (.putfield 119, 3) := by decide +kernel
theorem d_R_match_64 : decode b_R_match 64 = .ok (.aload_n 0, 1) := by decide +kernel
theorem d_R_match_65 : decode b_R_match 65 = .ok (.getfield 25, 3) := by decide +kernel
theorem d_R_match_68 : decode b_R_match 68 = .ok (.aload_n 0, 1) := by decide +kernel
theorem d_R_match_69 : decode b_R_match 69 = .ok (.getfield 116, 3) := by decide +kernel
theorem d_R_match_72 : decode b_R_match 72 = .ok (.aaload, 1) := by decide +kernel
theorem d_R_match_73 : decode b_R_match 73 = .ok (.astore 7, 2) := by decide +kernel
theorem d_R_match_75 : decode b_R_match 75 = .ok (.aload 7, 2) := by decide +kernel
theorem d_R_match_77 : decode b_R_match 77 = .ok (.aload 4, 2) := by decide +kernel
theorem d_R_match_79 : decode b_R_match 79 = .ok (.aload 5, 2) := by decide +kernel
theorem d_R_match_81 : decode b_R_match 81 = .ok (.iload 6, 2) := by decide +kernel
theorem d_R_match_83 : decode b_R_match 83 = .ok (.invokevirtual 122, 3) := by decide +kernel
theorem d_R_match_86 : decode b_R_match 86 = .ok (.aload 7, 2) := by decide +kernel
theorem d_R_match_88 : decode b_R_match 88 = .ok (.getfield 126, 3) := by decide +kernel
theorem d_R_match_91 : decode b_R_match 91 = .ok (.iload_n 3, 1) := by decide +kernel
theorem d_R_match_92 : decode b_R_match 92 = .ok (.if_icmp .lt 16, 3) := by decide +kernel
theorem d_R_match_95 : decode b_R_match 95 = .ok (.aload 7, 2) := by decide +kernel
theorem d_R_match_97 : decode b_R_match 97 = .ok (.aload 4, 2) := by decide +kernel
theorem d_R_match_99 : decode b_R_match 99 = .ok (.aload 5, 2) := by decide +kernel
theorem d_R_match_101 : decode b_R_match 101 = .ok (.invokevirtual 129, 3) := by decide +kernel
theorem d_R_match_104 : decode b_R_match 104 = .ok (.aload_n 0, 1) := by decide +kernel
theorem d_R_match_105 : decode b_R_match 105 = .ok (.invokevirtual 133, 3) := by decide +kernel
theorem d_R_match_108 : decode b_R_match 108 = .ok (.iinc 6 1, 3) := by decide +kernel
theorem d_R_match_111 : decode b_R_match 111 = .ok (.goto (-79), 3) := by decide +kernel
theorem d_R_match_114 : decode b_R_match 114 = .ok (.aload_n 0, 1) := by decide +kernel
theorem d_R_match_115 : decode b_R_match 115 = .ok (.getfield 116, 3) := by decide +kernel
theorem d_R_match_118 : decode b_R_match 118 = .ok (.ireturn, 1) := by decide +kernel
theorem d_R_overlap_0 : decode b_R_overlap 0 = .ok (.aload_n 0, 1) := by decide +kernel
theorem d_R_overlap_1 : decode b_R_overlap 1 = .ok (.iload_n 1, 1) := by decide +kernel
theorem d_R_overlap_2 : decode b_R_overlap 2 = .ok (.invokevirtual 136, 3) := by decide +kernel
theorem d_R_overlap_5 : decode b_R_overlap 5 = .ok (.astore_n 3, 1) := by decide +kernel
theorem d_R_overlap_6 : decode b_R_overlap 6 = .ok (.iload_n 2, 1) := by decide +kernel
theorem d_R_overlap_7 : decode b_R_overlap 7 = .ok (.tableswitch 40 0 2 #[25, 30, 35], 25) := by decide +kernel
theorem d_R_overlap_32 : decode b_R_overlap 32 = .ok (.aload_n 3, 1) := by decide +kernel
theorem d_R_overlap_33 : decode b_R_overlap 33 = .ok (.getfield 140, 3) := by decide +kernel
theorem d_R_overlap_36 : decode b_R_overlap 36 = .ok (.ireturn, 1) := by decide +kernel
theorem d_R_overlap_37 : decode b_R_overlap 37 = .ok (.aload_n 3, 1) := by decide +kernel
theorem d_R_overlap_38 : decode b_R_overlap 38 = .ok (.getfield 126, 3) := by decide +kernel
theorem d_R_overlap_41 : decode b_R_overlap 41 = .ok (.ireturn, 1) := by decide +kernel
theorem d_R_overlap_42 : decode b_R_overlap 42 = .ok (.aload_n 3, 1) := by decide +kernel
theorem d_R_overlap_43 : decode b_R_overlap 43 = .ok (.getfield 143, 3) := by decide +kernel
theorem d_R_overlap_46 : decode b_R_overlap 46 = .ok (.ireturn, 1) := by decide +kernel
theorem d_R_overlap_47 : decode b_R_overlap 47 = .ok (.new 94, 3) := by decide +kernel
theorem d_R_overlap_50 : decode b_R_overlap 50 = .ok (.dup, 1) := by decide +kernel
theorem d_R_overlap_51 : decode b_R_overlap 51 = .ok (.ldc 146, 2) := by decide +kernel
theorem d_R_overlap_53 : decode b_R_overlap 53 = .ok (.invokespecial 98, 3) := by decide +kernel
theorem d_R_overlap_56 : decode b_R_overlap 56 = .ok (.athrow, 1) := by decide +kernel
theorem d_R_agree_0 : decode b_R_agree 0 = .ok (.aload_n 0, 1) := by decide +kernel
theorem d_R_agree_1 : decode b_R_agree 1 = .ok (.iload_n 1, 1) := by decide +kernel
theorem d_R_agree_2 : decode b_R_agree 2 = .ok (.invokevirtual 136, 3) := by decide +kernel
theorem d_R_agree_5 : decode b_R_agree 5 = .ok (.astore_n 3, 1) := by decide +kernel
theorem d_R_agree_6 : decode b_R_agree 6 = .ok (.iload_n 2, 1) := by decide +kernel
theorem d_R_agree_7 : decode b_R_agree 7 = .ok (.invokestatic 148, 3) := by decide +kernel
theorem d_R_agree_10 : decode b_R_agree 10 = .ok (.aload_n 3, 1) := by decide +kernel
theorem d_R_agree_11 : decode b_R_agree 11 = .ok (.getfield 151, 3) := by decide +kernel
theorem d_R_agree_14 : decode b_R_agree 14 = .ok (.ifCond .ne 7, 3) := by decide +kernel
theorem d_R_agree_17 : decode b_R_agree 17 = .ok (.iconst 1, 1) := by decide +kernel
theorem d_R_agree_18 : decode b_R_agree 18 = .ok (.goto 9, 3) := by decide +kernel
theorem d_R_agree_21 : decode b_R_agree 21 = .ok (.iconst 2, 1) := by decide +kernel
theorem d_R_agree_22 : decode b_R_agree 22 = .ok (.aload_n 3, 1) := by decide +kernel
theorem d_R_agree_23 : decode b_R_agree 23 = .ok (.getfield 151, 3) := by decide +kernel
theorem d_R_agree_26 : decode b_R_agree 26 = .ok (.imul, 1) := by decide +kernel
theorem d_R_agree_27 : decode b_R_agree 27 = .ok (.istore 4, 2) := by decide +kernel
theorem d_R_agree_29 : decode b_R_agree 29 = .ok (.aload_n 3, 1) := by decide +kernel
theorem d_R_agree_30 : decode b_R_agree 30 = .ok (.getfield 154, 3) := by decide +kernel
theorem d_R_agree_33 : decode b_R_agree 33 = .ok (.i2l, 1) := by decide +kernel
theorem d_R_agree_34 : decode b_R_agree 34 = .ok (.iload 4, 2) := by decide +kernel
theorem d_R_agree_36 : decode b_R_agree 36 = .ok (.i2l, 1) := by decide +kernel
theorem d_R_agree_37 : decode b_R_agree 37 = .ok (.iload_n 2, 1) := by decide +kernel
theorem d_R_agree_38 : decode b_R_agree 38 = .ok (.invokestatic 157, 3) := by decide +kernel
theorem d_R_agree_41 : decode b_R_agree 41 = .ok (.l2i, 1) := by decide +kernel
theorem d_R_agree_42 : decode b_R_agree 42 = .ok (.ireturn, 1) := by decide +kernel
theorem d_R_odds_0 : decode b_R_odds 0 = .ok (.aload_n 0, 1) := by decide +kernel
theorem d_R_odds_1 : decode b_R_odds 1 = .ok (.iload_n 1, 1) := by decide +kernel
theorem d_R_odds_2 : decode b_R_odds 2 = .ok (.invokevirtual 136, 3) := by decide +kernel
theorem d_R_odds_5 : decode b_R_odds 5 = .ok (.astore_n 3, 1) := by decide +kernel
theorem d_R_odds_6 : decode b_R_odds 6 = .ok (.iload_n 2, 1) := by decide +kernel
theorem d_R_odds_7 : decode b_R_odds 7 = .ok (.invokestatic 148, 3) := by decide +kernel
theorem d_R_odds_10 : decode b_R_odds 10 = .ok (.aload_n 3, 1) := by decide +kernel
theorem d_R_odds_11 : decode b_R_odds 11 = .ok (.getfield 154, 3) := by decide +kernel
theorem d_R_odds_14 : decode b_R_odds 14 = .ok (.iconst 1, 1) := by decide +kernel
theorem d_R_odds_15 : decode b_R_odds 15 = .ok (.iadd, 1) := by decide +kernel
theorem d_R_odds_16 : decode b_R_odds 16 = .ok (.iconst 2, 1) := by decide +kernel
theorem d_R_odds_17 : decode b_R_odds 17 = .ok (.idiv, 1) := by decide +kernel
theorem d_R_odds_18 : decode b_R_odds 18 = .ok (.aload_n 3, 1) := by decide +kernel
theorem d_R_odds_19 : decode b_R_odds 19 = .ok (.getfield 151, 3) := by decide +kernel
theorem d_R_odds_22 : decode b_R_odds 22 = .ok (.invokestatic 161, 3) := by decide +kernel
theorem d_R_odds_25 : decode b_R_odds 25 = .ok (.aload_n 0, 1) := by decide +kernel
theorem d_R_odds_26 : decode b_R_odds 26 = .ok (.getfield 119, 3) := by decide +kernel
theorem d_R_odds_29 : decode b_R_odds 29 = .ok (.i2l, 1) := by decide +kernel
theorem d_R_odds_30 : decode b_R_odds 30 = .ok (.lmul, 1) := by decide +kernel
theorem d_R_odds_31 : decode b_R_odds 31 = .ok (.lstore 4, 2) := by decide +kernel
theorem d_R_odds_33 : decode b_R_odds 33 = .ok (.lconst 1, 1) := by decide +kernel
theorem d_R_odds_34 : decode b_R_odds 34 = .ok (.aload_n 3, 1) := by decide +kernel
theorem d_R_odds_35 : decode b_R_odds 35 = .ok (.getfield 151, 3) := by decide +kernel
theorem d_R_odds_38 : decode b_R_odds 38 = .ok (.lshl, 1) := by decide +kernel
theorem d_R_odds_39 : decode b_R_odds 39 = .ok (.lstore 6, 2) := by decide +kernel
theorem d_R_odds_41 : decode b_R_odds 41 = .ok (.lload 4, 2) := by decide +kernel
theorem d_R_odds_43 : decode b_R_odds 43 = .ok (.lload 6, 2) := by decide +kernel
theorem d_R_odds_45 : decode b_R_odds 45 = .ok (.lcmp, 1) := by decide +kernel
theorem d_R_odds_46 : decode b_R_odds 46 = .ok (.ifCond .lt 5, 3) := by decide +kernel
theorem d_R_odds_49 : decode b_R_odds 49 = .ok (.lconst 1, 1) := by decide +kernel
theorem d_R_odds_50 : decode b_R_odds 50 = .ok (.lreturn, 1) := by decide +kernel
theorem d_R_odds_51 : decode b_R_odds 51 = .ok (.lload 4, 2) := by decide +kernel
theorem d_R_odds_53 : decode b_R_odds 53 = .ok (.lload 6, 2) := by decide +kernel
theorem d_R_odds_55 : decode b_R_odds 55 = .ok (.iload_n 2, 1) := by decide +kernel
theorem d_R_odds_56 : decode b_R_odds 56 = .ok (.invokestatic 157, 3) := by decide +kernel
theorem d_R_odds_59 : decode b_R_odds 59 = .ok (.lreturn, 1) := by decide +kernel
theorem d_R_absent_0 : decode b_R_absent 0 = .ok (.aload_n 0, 1) := by decide +kernel
theorem d_R_absent_1 : decode b_R_absent 1 = .ok (.iload_n 1, 1) := by decide +kernel
theorem d_R_absent_2 : decode b_R_absent 2 = .ok (.invokevirtual 86, 3) := by decide +kernel
theorem d_R_absent_5 : decode b_R_absent 5 = .ok (.astore 4, 2) := by decide +kernel
theorem d_R_absent_7 : decode b_R_absent 7 = .ok (.aload_n 0, 1) := by decide +kernel
theorem d_R_absent_8 : decode b_R_absent 8 = .ok (.iload_n 2, 1) := by decide +kernel
theorem d_R_absent_9 : decode b_R_absent 9 = .ok (.invokevirtual 86, 3) := by decide +kernel
theorem d_R_absent_12 : decode b_R_absent 12 = .ok (.astore 5, 2) := by decide +kernel
theorem d_R_absent_14 : decode b_R_absent 14 = .ok (.aload 5, 2) := by decide +kernel
theorem d_R_absent_16 : decode b_R_absent 16 = .ok (.getfield 90, 3) := by decide +kernel
theorem d_R_absent_19 : decode b_R_absent 19 = .ok (.bipush 24, 2) := by decide +kernel
theorem d_R_absent_21 : decode b_R_absent 21 = .ok (.if_icmp .lt 13, 3) := by decide +kernel
theorem d_R_absent_24 : decode b_R_absent 24 = .ok (.new 49, 3) := by decide +kernel
theorem d_R_absent_27 : decode b_R_absent 27 = .ok (.dup, 1) := by decide +kernel
theorem d_R_absent_28 : decode b_R_absent 28 = .ok (.ldc 165, 2) := by decide +kernel
theorem d_R_absent_30 : decode b_R_absent 30 = .ok (.invokespecial 53, 3) := by decide +kernel
theorem d_R_absent_33 : decode b_R_absent 33 = .ok (.athrow, 1) := by decide +kernel
theorem d_R_absent_34 : decode b_R_absent 34 = .ok (.iload_n 3, 1) := by decide +kernel
theorem d_R_absent_35 : decode b_R_absent 35 = .ok (.bipush (-24), 2) := by decide +kernel
theorem d_R_absent_37 : decode b_R_absent 37 = .ok (.if_icmp .lt 9, 3) := by decide +kernel
theorem d_R_absent_40 : decode b_R_absent 40 = .ok (.iload_n 3, 1) := by decide +kernel
theorem d_R_absent_41 : decode b_R_absent 41 = .ok (.bipush 24, 2) := by decide +kernel
theorem d_R_absent_43 : decode b_R_absent 43 = .ok (.if_icmp .le 13, 3) := by decide +kernel
theorem d_R_absent_46 : decode b_R_absent 46 = .ok (.new 49, 3) := by decide +kernel
theorem d_R_absent_49 : decode b_R_absent 49 = .ok (.dup, 1) := by decide +kernel
theorem d_R_absent_50 : decode b_R_absent 50 = .ok (.ldc 167, 2) := by decide +kernel
theorem d_R_absent_52 : decode b_R_absent 52 = .ok (.invokespecial 53, 3) := by decide +kernel
theorem d_R_absent_55 : decode b_R_absent 55 = .ok (.athrow, 1) := by decide +kernel
theorem d_R_absent_56 : decode b_R_absent 56 = .ok (.iconst (-1), 1) := by decide +kernel
theorem d_R_absent_57 : decode b_R_absent 57 = .ok (.istore 6, 2) := by decide +kernel
theorem d_R_absent_59 : decode b_R_absent 59 = .ok (.iconst 0, 1) := by decide +kernel
theorem d_R_absent_60 : decode b_R_absent 60 = .ok (.istore 7, 2) := by decide +kernel
theorem d_R_absent_62 : decode b_R_absent 62 = .ok (.iconst 0, 1) := by decide +kernel
theorem d_R_absent_63 : decode b_R_absent 63 = .ok (.istore 8, 2) := by decide +kernel
theorem d_R_absent_65 : decode b_R_absent 65 = .ok (.iload 8, 2) := by decide +kernel
theorem d_R_absent_67 : decode b_R_absent 67 = .ok (.aload 5, 2) := by decide +kernel
theorem d_R_absent_69 : decode b_R_absent 69 = .ok (.getfield 90, 3) := by decide +kernel
theorem d_R_absent_72 : decode b_R_absent 72 = .ok (.if_icmp .gt 76, 3) := by decide +kernel
theorem d_R_absent_75 : decode b_R_absent 75 = .ok (.aload_n 0, 1) := by decide +kernel
theorem d_R_absent_76 : decode b_R_absent 76 = .ok (.getfield 30, 3) := by decide +kernel
theorem d_R_absent_79 : decode b_R_absent 79 = .ok (.aload 5, 2) := by decide +kernel
theorem d_R_absent_81 : decode b_R_absent 81 = .ok (.iload 8, 2) := by decide +kernel
theorem d_R_absent_83 : decode b_R_absent 83 = .ok (.invokevirtual 169, 3) := by decide +kernel
theorem d_R_absent_86 : decode b_R_absent 86 = .ok (.aload_n 0, 1) := by decide +kernel
theorem d_R_absent_87 : decode b_R_absent 87 = .ok (.getfield 34, 3) := by decide +kernel
theorem d_R_absent_90 : decode b_R_absent 90 = .ok (.aload 4, 2) := by decide +kernel
theorem d_R_absent_92 : decode b_R_absent 92 = .ok (.aload_n 0, 1) := by decide +kernel
theorem d_R_absent_93 : decode b_R_absent 93 = .ok (.getfield 30, 3) := by decide +kernel
theorem d_R_absent_96 : decode b_R_absent 96 = .ok (.iload_n 3, 1) := by decide +kernel
theorem d_R_absent_97 : decode b_R_absent 97 = .ok (.invokevirtual 122, 3) := by decide +kernel
theorem d_R_absent_100 : decode b_R_absent 100 = .ok (.aload_n 0, 1) := by decide +kernel
theorem d_R_absent_101 : decode b_R_absent 101 = .ok (.getfield 34, 3) := by decide +kernel
theorem d_R_absent_104 : decode b_R_absent 104 = .ok (.getfield 126, 3) := by decide +kernel
theorem d_R_absent_107 : decode b_R_absent 107 = .ok (.iconst 3, 1) := by decide +kernel
theorem d_R_absent_108 : decode b_R_absent 108 = .ok (.if_icmp .lt 34, 3) := by decide +kernel
theorem d_R_absent_111 : decode b_R_absent 111 = .ok (.iload 6, 2) := by decide +kernel
theorem d_R_absent_113 : decode b_R_absent 113 = .ok (.iconst (-1), 1) := by decide +kernel
theorem d_R_absent_114 : decode b_R_absent 114 = .ok (.if_icmp .eq 15, 3) := by decide +kernel
theorem d_R_absent_117 : decode b_R_absent 117 = .ok (.aload_n 0, 1) := by decide +kernel
theorem d_R_absent_118 : decode b_R_absent 118 = .ok (.getfield 34, 3) := by decide +kernel
theorem d_R_absent_121 : decode b_R_absent 121 = .ok (.getfield 143, 3) := by decide +kernel
theorem d_R_absent_124 : decode b_R_absent 124 = .ok (.iload 7, 2) := by decide +kernel
theorem d_R_absent_126 : decode b_R_absent 126 = .ok (.if_icmp .le 16, 3) := by decide +kernel
theorem d_R_absent_129 : decode b_R_absent 129 = .ok (.iload 8, 2) := by decide +kernel
theorem d_R_absent_131 : decode b_R_absent 131 = .ok (.istore 6, 2) := by decide +kernel
theorem d_R_absent_133 : decode b_R_absent 133 = .ok (.aload_n 0, 1) := by decide +kernel
theorem d_R_absent_134 : decode b_R_absent 134 = .ok (.getfield 34, 3) := by decide +kernel
theorem d_R_absent_137 : decode b_R_absent 137 = .ok (.getfield 143, 3) := by decide +kernel
theorem d_R_absent_140 : decode b_R_absent 140 = .ok (.istore 7, 2) := by decide +kernel
theorem d_R_absent_142 : decode b_R_absent 142 = .ok (.iinc 8 1, 3) := by decide +kernel
theorem d_R_absent_145 : decode b_R_absent 145 = .ok (.goto (-80), 3) := by decide +kernel
theorem d_R_absent_148 : decode b_R_absent 148 = .ok (.iload 6, 2) := by decide +kernel
theorem d_R_absent_150 : decode b_R_absent 150 = .ok (.ireturn, 1) := by decide +kernel
theorem d_R_core_0 : decode b_R_core 0 = .ok (.aload_n 0, 1) := by decide +kernel
theorem d_R_core_1 : decode b_R_core 1 = .ok (.iload_n 1, 1) := by decide +kernel
theorem d_R_core_2 : decode b_R_core 2 = .ok (.invokevirtual 86, 3) := by decide +kernel
theorem d_R_core_5 : decode b_R_core 5 = .ok (.astore 4, 2) := by decide +kernel
theorem d_R_core_7 : decode b_R_core 7 = .ok (.aload_n 0, 1) := by decide +kernel
theorem d_R_core_8 : decode b_R_core 8 = .ok (.iload_n 2, 1) := by decide +kernel
theorem d_R_core_9 : decode b_R_core 9 = .ok (.invokevirtual 86, 3) := by decide +kernel
theorem d_R_core_12 : decode b_R_core 12 = .ok (.astore 5, 2) := by decide +kernel
theorem d_R_core_14 : decode b_R_core 14 = .ok (.aload_n 0, 1) := by decide +kernel
theorem d_R_core_15 : decode b_R_core 15 = .ok (.getfield 73, 3) := by decide +kernel
theorem d_R_core_18 : decode b_R_core 18 = .ok (.bipush 8, 2) := by decide +kernel
theorem d_R_core_20 : decode b_R_core 20 = .ok (.if_icmp .lt 13, 3) := by decide +kernel
theorem d_R_core_23 : decode b_R_core 23 = .ok (.new 64, 3) := by decide +kernel
theorem d_R_core_26 : decode b_R_core 26 = .ok (.dup, 1) := by decide +kernel
theorem d_R_core_27 : decode b_R_core 27 = .ok (.ldc 76, 2) := by decide +kernel
theorem d_R_core_29 : decode b_R_core 29 = .ok (.invokespecial 68, 3) := by decide +kernel
theorem d_R_core_32 : decode b_R_core 32 = .ok (.athrow, 1) := by decide +kernel
theorem d_R_core_33 : decode b_R_core 33 = .ok (.iload_n 3, 1) := by decide +kernel
theorem d_R_core_34 : decode b_R_core 34 = .ok (.aload 5, 2) := by decide +kernel
theorem d_R_core_36 : decode b_R_core 36 = .ok (.getfield 90, 3) := by decide +kernel
theorem d_R_core_39 : decode b_R_core 39 = .ok (.ineg, 1) := by decide +kernel
theorem d_R_core_40 : decode b_R_core 40 = .ok (.if_icmp .le 12, 3) := by decide +kernel
theorem d_R_core_43 : decode b_R_core 43 = .ok (.iload_n 3, 1) := by decide +kernel
theorem d_R_core_44 : decode b_R_core 44 = .ok (.aload 4, 2) := by decide +kernel
theorem d_R_core_46 : decode b_R_core 46 = .ok (.getfield 90, 3) := by decide +kernel
theorem d_R_core_49 : decode b_R_core 49 = .ok (.if_icmp .lt 5, 3) := by decide +kernel
theorem d_R_core_52 : decode b_R_core 52 = .ok (.iconst (-1), 1) := by decide +kernel
theorem d_R_core_53 : decode b_R_core 53 = .ok (.ireturn, 1) := by decide +kernel
theorem d_R_core_54 : decode b_R_core 54 = .ok (.iconst 0, 1) := by decide +kernel
theorem d_R_core_55 : decode b_R_core 55 = .ok (.iload_n 3, 1) := by decide +kernel
theorem d_R_core_56 : decode b_R_core 56 = .ok (.invokestatic 173, 3) := by decide +kernel
theorem d_R_core_59 : decode b_R_core 59 = .ok (.istore 6, 2) := by decide +kernel
theorem d_R_core_61 : decode b_R_core 61 = .ok (.aload 4, 2) := by decide +kernel
theorem d_R_core_63 : decode b_R_core 63 = .ok (.getfield 90, 3) := by decide +kernel
theorem d_R_core_66 : decode b_R_core 66 = .ok (.aload 5, 2) := by decide +kernel
theorem d_R_core_68 : decode b_R_core 68 = .ok (.getfield 90, 3) := by decide +kernel
theorem d_R_core_71 : decode b_R_core 71 = .ok (.iload_n 3, 1) := by decide +kernel
theorem d_R_core_72 : decode b_R_core 72 = .ok (.iadd, 1) := by decide +kernel
theorem d_R_core_73 : decode b_R_core 73 = .ok (.invokestatic 179, 3) := by decide +kernel
theorem d_R_core_76 : decode b_R_core 76 = .ok (.istore 7, 2) := by decide +kernel
theorem d_R_core_78 : decode b_R_core 78 = .ok (.iload 7, 2) := by decide +kernel
theorem d_R_core_80 : decode b_R_core 80 = .ok (.iload 6, 2) := by decide +kernel
theorem d_R_core_82 : decode b_R_core 82 = .ok (.isub, 1) := by decide +kernel
theorem d_R_core_83 : decode b_R_core 83 = .ok (.bipush 24, 2) := by decide +kernel
theorem d_R_core_85 : decode b_R_core 85 = .ok (.if_icmp .le 5, 3) := by decide +kernel
theorem d_R_core_88 : decode b_R_core 88 = .ok (.iconst (-1), 1) := by decide +kernel
theorem d_R_core_89 : decode b_R_core 89 = .ok (.ireturn, 1) := by decide +kernel
theorem d_R_core_90 : decode b_R_core 90 = .ok (.aload_n 0, 1) := by decide +kernel
theorem d_R_core_91 : decode b_R_core 91 = .ok (.getfield 18, 3) := by decide +kernel
theorem d_R_core_94 : decode b_R_core 94 = .ok (.aload_n 0, 1) := by decide +kernel
theorem d_R_core_95 : decode b_R_core 95 = .ok (.getfield 73, 3) := by decide +kernel
theorem d_R_core_98 : decode b_R_core 98 = .ok (.aaload, 1) := by decide +kernel
theorem d_R_core_99 : decode b_R_core 99 = .ok (.astore 8, 2) := by decide +kernel
theorem d_R_core_101 : decode b_R_core 101 = .ok (.aload 8, 2) := by decide +kernel
theorem d_R_core_103 : decode b_R_core 103 = .ok (.iconst 0, 1) := by decide +kernel
theorem d_R_core_104 : decode b_R_core 104 = .ok (.putfield 90, 3) := by decide +kernel
theorem d_R_core_107 : decode b_R_core 107 = .ok (.iload 6, 2) := by decide +kernel
theorem d_R_core_109 : decode b_R_core 109 = .ok (.istore 9, 2) := by decide +kernel
theorem d_R_core_111 : decode b_R_core 111 = .ok (.iload 9, 2) := by decide +kernel
theorem d_R_core_113 : decode b_R_core 113 = .ok (.iload 7, 2) := by decide +kernel
theorem d_R_core_115 : decode b_R_core 115 = .ok (.if_icmp .ge 33, 3) := by decide +kernel
theorem d_R_core_118 : decode b_R_core 118 = .ok (.aload 8, 2) := by decide +kernel
theorem d_R_core_120 : decode b_R_core 120 = .ok (.aload 4, 2) := by decide +kernel
theorem d_R_core_122 : decode b_R_core 122 = .ok (.iload 9, 2) := by decide +kernel
theorem d_R_core_124 : decode b_R_core 124 = .ok (.invokevirtual 99, 3) := by decide +kernel
theorem d_R_core_127 : decode b_R_core 127 = .ok (.aload 5, 2) := by decide +kernel
theorem d_R_core_129 : decode b_R_core 129 = .ok (.iload 9, 2) := by decide +kernel
theorem d_R_core_131 : decode b_R_core 131 = .ok (.iload_n 3, 1) := by decide +kernel
theorem d_R_core_132 : decode b_R_core 132 = .ok (.isub, 1) := by decide +kernel
theorem d_R_core_133 : decode b_R_core 133 = .ok (.invokevirtual 99, 3) := by decide +kernel
theorem d_R_core_136 : decode b_R_core 136 = .ok (.invokestatic 182, 3) := by decide +kernel
theorem d_R_core_139 : decode b_R_core 139 = .ok (.invokevirtual 185, 3) := by decide +kernel
theorem d_R_core_142 : decode b_R_core 142 = .ok (.iinc 9 1, 3) := by decide +kernel
theorem d_R_core_145 : decode b_R_core 145 = .ok (.goto (-34), 3) := by decide +kernel
theorem d_R_core_148 : decode b_R_core 148 = .ok (.aload 8, 2) := by decide +kernel
theorem d_R_core_150 : decode b_R_core 150 = .ok (.invokevirtual 188, 3) := by decide +kernel
theorem d_R_core_153 : decode b_R_core 153 = .ok (.aload_n 0, 1) := by decide +kernel
theorem d_R_core_154 : decode b_R_core 154 = .ok (.invokevirtual 82, 3) := by decide +kernel
theorem d_R_core_157 : decode b_R_core 157 = .ok (.ireturn, 1) := by decide +kernel
theorem d_R_group_0 : decode b_R_group 0 = .ok (.aload_n 0, 1) := by decide +kernel
theorem d_R_group_1 : decode b_R_group 1 = .ok (.iload_n 1, 1) := by decide +kernel
theorem d_R_group_2 : decode b_R_group 2 = .ok (.invokevirtual 86, 3) := by decide +kernel
theorem d_R_group_5 : decode b_R_group 5 = .ok (.pop, 1) := by decide +kernel
end
section
theorem d_R_group_6 : decode b_R_group 6 = .ok (.iload_n 2, 1) := by decide +kernel
theorem d_R_group_7 : decode b_R_group 7 = .ok (.invokestatic 113, 3) := by decide +kernel
theorem d_R_group_10 : decode b_R_group 10 = .ok (.iconst 0, 1) := by decide +kernel
theorem d_R_group_11 : decode b_R_group 11 = .ok (.istore 4, 2) := by decide +kernel
theorem d_R_group_13 : decode b_R_group 13 = .ok (.iload 4, 2) := by decide +kernel
theorem d_R_group_15 : decode b_R_group 15 = .ok (.bipush 8, 2) := by decide +kernel
theorem d_R_group_17 : decode b_R_group 17 = .ok (.if_icmp .ge 35, 3) := by decide +kernel
theorem d_R_group_20 : decode b_R_group 20 = .ok (.aload_n 0, 1) := by decide +kernel
theorem d_R_group_21 : decode b_R_group 21 = .ok (.getfield 38, 3) := by decide +kernel
theorem d_R_group_24 : decode b_R_group 24 = .ok (.iload 4, 2) := by decide +kernel
theorem d_R_group_26 : decode b_R_group 26 = .ok (.iload 4, 2) := by decide +kernel
theorem d_R_group_28 : decode b_R_group 28 = .ok (.iload_n 1, 1) := by decide +kernel
theorem d_R_group_29 : decode b_R_group 29 = .ok (.if_icmp .ne 7, 3) := by decide +kernel
theorem d_R_group_32 : decode b_R_group 32 = .ok (.iconst 1, 1) := by decide +kernel
theorem d_R_group_33 : decode b_R_group 33 = .ok (.goto 4, 3) := by decide +kernel
theorem d_R_group_36 : decode b_R_group 36 = .ok (.iconst 0, 1) := by decide +kernel
theorem d_R_group_37 : decode b_R_group 37 = .ok (.bastore, 1) := by decide +kernel
theorem d_R_group_38 : decode b_R_group 38 = .ok (.aload_n 0, 1) := by decide +kernel
theorem d_R_group_39 : decode b_R_group 39 = .ok (.getfield 42, 3) := by decide +kernel
theorem d_R_group_42 : decode b_R_group 42 = .ok (.iload 4, 2) := by decide +kernel
theorem d_R_group_44 : decode b_R_group 44 = .ok (.iconst 0, 1) := by decide +kernel
theorem d_R_group_45 : decode b_R_group 45 = .ok (.bastore, 1) := by decide +kernel
theorem d_R_group_46 : decode b_R_group 46 = .ok (.iinc 4 1, 3) := by decide +kernel
theorem d_R_group_49 : decode b_R_group 49 = .ok (.goto (-36), 3) := by decide +kernel
theorem d_R_group_52 : decode b_R_group 52 = .ok (.iconst 0, 1) := by decide +kernel
theorem d_R_group_53 : decode b_R_group 53 = .ok (.istore 4, 2) := by decide +kernel
theorem d_R_group_55 : decode b_R_group 55 = .ok (.iload 4, 2) := by decide +kernel
theorem d_R_group_57 : decode b_R_group 57 = .ok (.aload_n 0, 1) := by decide +kernel
theorem d_R_group_58 : decode b_R_group 58 = .ok (.getfield 73, 3) := by decide +kernel
theorem d_R_group_61 : decode b_R_group 61 = .ok (.if_icmp .ge 40, 3) := by decide +kernel
theorem d_R_group_64 : decode b_R_group 64 = .ok (.aload_n 0, 1) := by decide +kernel
theorem d_R_group_65 : decode b_R_group 65 = .ok (.invokevirtual 191, 3) := by decide +kernel
theorem d_R_group_68 : decode b_R_group 68 = .ok (.istore 5, 2) := by decide +kernel
theorem d_R_group_70 : decode b_R_group 70 = .ok (.iload 5, 2) := by decide +kernel
theorem d_R_group_72 : decode b_R_group 72 = .ok (.iconst (-1), 1) := by decide +kernel
theorem d_R_group_73 : decode b_R_group 73 = .ok (.if_icmp .ne 6, 3) := by decide +kernel
theorem d_R_group_76 : decode b_R_group 76 = .ok (.goto 25, 3) := by decide +kernel
theorem d_R_group_79 : decode b_R_group 79 = .ok (.aload_n 0, 1) := by decide +kernel
theorem d_R_group_80 : decode b_R_group 80 = .ok (.getfield 42, 3) := by decide +kernel
theorem d_R_group_83 : decode b_R_group 83 = .ok (.iload 5, 2) := by decide +kernel
theorem d_R_group_85 : decode b_R_group 85 = .ok (.iconst 1, 1) := by decide +kernel
theorem d_R_group_86 : decode b_R_group 86 = .ok (.bastore, 1) := by decide +kernel
theorem d_R_group_87 : decode b_R_group 87 = .ok (.aload_n 0, 1) := by decide +kernel
theorem d_R_group_88 : decode b_R_group 88 = .ok (.iload 5, 2) := by decide +kernel
theorem d_R_group_90 : decode b_R_group 90 = .ok (.iload_n 2, 1) := by decide +kernel
theorem d_R_group_91 : decode b_R_group 91 = .ok (.iload_n 3, 1) := by decide +kernel
theorem d_R_group_92 : decode b_R_group 92 = .ok (.invokevirtual 194, 3) := by decide +kernel
theorem d_R_group_95 : decode b_R_group 95 = .ok (.iinc 4 1, 3) := by decide +kernel
theorem d_R_group_98 : decode b_R_group 98 = .ok (.goto (-43), 3) := by decide +kernel
theorem d_R_group_101 : decode b_R_group 101 = .ok (.aload_n 0, 1) := by decide +kernel
theorem d_R_group_102 : decode b_R_group 102 = .ok (.invokevirtual 198, 3) := by decide +kernel
theorem d_R_group_105 : decode b_R_group 105 = .ok (.ireturn, 1) := by decide +kernel
theorem d_R_count_0 : decode b_R_count 0 = .ok (.iload_n 1, 1) := by decide +kernel
theorem d_R_count_1 : decode b_R_count 1 = .ok (.tableswitch 54 0 3 #[31, 39, 44, 49], 31) := by decide +kernel
theorem d_R_count_32 : decode b_R_count 32 = .ok (.aload_n 0, 1) := by decide +kernel
theorem d_R_count_33 : decode b_R_count 33 = .ok (.getfield 12, 3) := by decide +kernel
theorem d_R_count_36 : decode b_R_count 36 = .ok (.getfield 56, 3) := by decide +kernel
theorem d_R_count_39 : decode b_R_count 39 = .ok (.ireturn, 1) := by decide +kernel
theorem d_R_count_40 : decode b_R_count 40 = .ok (.aload_n 0, 1) := by decide +kernel
theorem d_R_count_41 : decode b_R_count 41 = .ok (.getfield 73, 3) := by decide +kernel
theorem d_R_count_44 : decode b_R_count 44 = .ok (.ireturn, 1) := by decide +kernel
theorem d_R_count_45 : decode b_R_count 45 = .ok (.aload_n 0, 1) := by decide +kernel
theorem d_R_count_46 : decode b_R_count 46 = .ok (.getfield 116, 3) := by decide +kernel
theorem d_R_count_49 : decode b_R_count 49 = .ok (.ireturn, 1) := by decide +kernel
theorem d_R_count_50 : decode b_R_count 50 = .ok (.aload_n 0, 1) := by decide +kernel
theorem d_R_count_51 : decode b_R_count 51 = .ok (.getfield 119, 3) := by decide +kernel
theorem d_R_count_54 : decode b_R_count 54 = .ok (.ireturn, 1) := by decide +kernel
theorem d_R_count_55 : decode b_R_count 55 = .ok (.new 94, 3) := by decide +kernel
theorem d_R_count_58 : decode b_R_count 58 = .ok (.dup, 1) := by decide +kernel
theorem d_R_count_59 : decode b_R_count 59 = .ok (.ldc 146, 2) := by decide +kernel
theorem d_R_count_61 : decode b_R_count 61 = .ok (.invokespecial 98, 3) := by decide +kernel
theorem d_R_count_64 : decode b_R_count 64 = .ok (.athrow, 1) := by decide +kernel
theorem d_R_seriesAt_0 : decode b_R_seriesAt 0 = .ok (.iload_n 1, 1) := by decide +kernel
theorem d_R_seriesAt_1 : decode b_R_seriesAt 1 = .ok (.ifCond .lt 11, 3) := by decide +kernel
theorem d_R_seriesAt_4 : decode b_R_seriesAt 4 = .ok (.iload_n 1, 1) := by decide +kernel
theorem d_R_seriesAt_5 : decode b_R_seriesAt 5 = .ok (.aload_n 0, 1) := by decide +kernel
theorem d_R_seriesAt_6 : decode b_R_seriesAt 6 = .ok (.getfield 73, 3) := by decide +kernel
theorem d_R_seriesAt_9 : decode b_R_seriesAt 9 = .ok (.if_icmp .lt 13, 3) := by decide +kernel
theorem d_R_seriesAt_12 : decode b_R_seriesAt 12 = .ok (.new 94, 3) := by decide +kernel
theorem d_R_seriesAt_15 : decode b_R_seriesAt 15 = .ok (.dup, 1) := by decide +kernel
theorem d_R_seriesAt_16 : decode b_R_seriesAt 16 = .ok (.ldc 201, 2) := by decide +kernel
theorem d_R_seriesAt_18 : decode b_R_seriesAt 18 = .ok (.invokespecial 98, 3) := by decide +kernel
theorem d_R_seriesAt_21 : decode b_R_seriesAt 21 = .ok (.athrow, 1) := by decide +kernel
theorem d_R_seriesAt_22 : decode b_R_seriesAt 22 = .ok (.aload_n 0, 1) := by decide +kernel
theorem d_R_seriesAt_23 : decode b_R_seriesAt 23 = .ok (.getfield 18, 3) := by decide +kernel
theorem d_R_seriesAt_26 : decode b_R_seriesAt 26 = .ok (.iload_n 1, 1) := by decide +kernel
theorem d_R_seriesAt_27 : decode b_R_seriesAt 27 = .ok (.aaload, 1) := by decide +kernel
theorem d_R_seriesAt_28 : decode b_R_seriesAt 28 = .ok (.areturn, 1) := by decide +kernel
theorem d_R_overlapAt_0 : decode b_R_overlapAt 0 = .ok (.iload_n 1, 1) := by decide +kernel
theorem d_R_overlapAt_1 : decode b_R_overlapAt 1 = .ok (.ifCond .lt 11, 3) := by decide +kernel
theorem d_R_overlapAt_4 : decode b_R_overlapAt 4 = .ok (.iload_n 1, 1) := by decide +kernel
theorem d_R_overlapAt_5 : decode b_R_overlapAt 5 = .ok (.aload_n 0, 1) := by decide +kernel
theorem d_R_overlapAt_6 : decode b_R_overlapAt 6 = .ok (.getfield 116, 3) := by decide +kernel
theorem d_R_overlapAt_9 : decode b_R_overlapAt 9 = .ok (.if_icmp .lt 13, 3) := by decide +kernel
theorem d_R_overlapAt_12 : decode b_R_overlapAt 12 = .ok (.new 94, 3) := by decide +kernel
theorem d_R_overlapAt_15 : decode b_R_overlapAt 15 = .ok (.dup, 1) := by decide +kernel
theorem d_R_overlapAt_16 : decode b_R_overlapAt 16 = .ok (.ldc 203, 2) := by decide +kernel
theorem d_R_overlapAt_18 : decode b_R_overlapAt 18 = .ok (.invokespecial 98, 3) := by decide +kernel
theorem d_R_overlapAt_21 : decode b_R_overlapAt 21 = .ok (.athrow, 1) := by decide +kernel
theorem d_R_overlapAt_22 : decode b_R_overlapAt 22 = .ok (.aload_n 0, 1) := by decide +kernel
theorem d_R_overlapAt_23 : decode b_R_overlapAt 23 = .ok (.getfield 25, 3) := by decide +kernel
theorem d_R_overlapAt_26 : decode b_R_overlapAt 26 = .ok (.iload_n 1, 1) := by decide +kernel
theorem d_R_overlapAt_27 : decode b_R_overlapAt 27 = .ok (.aaload, 1) := by decide +kernel
theorem d_R_overlapAt_28 : decode b_R_overlapAt 28 = .ok (.areturn, 1) := by decide +kernel
theorem d_R_requireLeast_0 : decode b_R_requireLeast 0 = .ok (.iload_n 0, 1) := by decide +kernel
theorem d_R_requireLeast_1 : decode b_R_requireLeast 1 = .ok (.iconst 3, 1) := by decide +kernel
theorem d_R_requireLeast_2 : decode b_R_requireLeast 2 = .ok (.if_icmp .lt 9, 3) := by decide +kernel
theorem d_R_requireLeast_5 : decode b_R_requireLeast 5 = .ok (.iload_n 0, 1) := by decide +kernel
theorem d_R_requireLeast_6 : decode b_R_requireLeast 6 = .ok (.bipush 24, 2) := by decide +kernel
theorem d_R_requireLeast_8 : decode b_R_requireLeast 8 = .ok (.if_icmp .le 13, 3) := by decide +kernel
theorem d_R_requireLeast_11 : decode b_R_requireLeast 11 = .ok (.new 49, 3) := by decide +kernel
theorem d_R_requireLeast_14 : decode b_R_requireLeast 14 = .ok (.dup, 1) := by decide +kernel
theorem d_R_requireLeast_15 : decode b_R_requireLeast 15 = .ok (.ldc 205, 2) := by decide +kernel
theorem d_R_requireLeast_17 : decode b_R_requireLeast 17 = .ok (.invokespecial 53, 3) := by decide +kernel
theorem d_R_requireLeast_20 : decode b_R_requireLeast 20 = .ok (.athrow, 1) := by decide +kernel
theorem d_R_requireLeast_21 : decode b_R_requireLeast 21 = .ok (.return_, 1) := by decide +kernel
theorem d_R_requirePart_0 : decode b_R_requirePart 0 = .ok (.iload_n 0, 1) := by decide +kernel
theorem d_R_requirePart_1 : decode b_R_requirePart 1 = .ok (.ifCond .eq 18, 3) := by decide +kernel
theorem d_R_requirePart_4 : decode b_R_requirePart 4 = .ok (.iload_n 0, 1) := by decide +kernel
theorem d_R_requirePart_5 : decode b_R_requirePart 5 = .ok (.iconst 1, 1) := by decide +kernel
theorem d_R_requirePart_6 : decode b_R_requirePart 6 = .ok (.if_icmp .eq 13, 3) := by decide +kernel
theorem d_R_requirePart_9 : decode b_R_requirePart 9 = .ok (.new 94, 3) := by decide +kernel
theorem d_R_requirePart_12 : decode b_R_requirePart 12 = .ok (.dup, 1) := by decide +kernel
theorem d_R_requirePart_13 : decode b_R_requirePart 13 = .ok (.ldc 207, 2) := by decide +kernel
theorem d_R_requirePart_15 : decode b_R_requirePart 15 = .ok (.invokespecial 98, 3) := by decide +kernel
theorem d_R_requirePart_18 : decode b_R_requirePart 18 = .ok (.athrow, 1) := by decide +kernel
theorem d_R_requirePart_19 : decode b_R_requirePart 19 = .ok (.return_, 1) := by decide +kernel
theorem d_R_keepNext_0 : decode b_R_keepNext 0 = .ok (.aload_n 0, 1) := by decide +kernel
theorem d_R_keepNext_1 : decode b_R_keepNext 1 = .ok (.getfield 73, 3) := by decide +kernel
theorem d_R_keepNext_4 : decode b_R_keepNext 4 = .ok (.istore_n 1, 1) := by decide +kernel
theorem d_R_keepNext_5 : decode b_R_keepNext 5 = .ok (.aload_n 0, 1) := by decide +kernel
theorem d_R_keepNext_6 : decode b_R_keepNext 6 = .ok (.dup, 1) := by decide +kernel
theorem d_R_keepNext_7 : decode b_R_keepNext 7 = .ok (.getfield 73, 3) := by decide +kernel
theorem d_R_keepNext_10 : decode b_R_keepNext 10 = .ok (.iconst 1, 1) := by decide +kernel
theorem d_R_keepNext_11 : decode b_R_keepNext 11 = .ok (.iadd, 1) := by decide +kernel
theorem d_R_keepNext_12 : decode b_R_keepNext 12 = .ok (.putfield 73, 3) := by decide +kernel
theorem d_R_keepNext_15 : decode b_R_keepNext 15 = .ok (.iload_n 1, 1) := by decide +kernel
theorem d_R_keepNext_16 : decode b_R_keepNext 16 = .ok (.ireturn, 1) := by decide +kernel
theorem d_R_rankNewest_0 : decode b_R_rankNewest 0 = .ok (.aload_n 0, 1) := by decide +kernel
theorem d_R_rankNewest_1 : decode b_R_rankNewest 1 = .ok (.getfield 116, 3) := by decide +kernel
theorem d_R_rankNewest_4 : decode b_R_rankNewest 4 = .ok (.istore_n 1, 1) := by decide +kernel
theorem d_R_rankNewest_5 : decode b_R_rankNewest 5 = .ok (.aload_n 0, 1) := by decide +kernel
theorem d_R_rankNewest_6 : decode b_R_rankNewest 6 = .ok (.getfield 25, 3) := by decide +kernel
theorem d_R_rankNewest_9 : decode b_R_rankNewest 9 = .ok (.iload_n 1, 1) := by decide +kernel
theorem d_R_rankNewest_10 : decode b_R_rankNewest 10 = .ok (.aaload, 1) := by decide +kernel
theorem d_R_rankNewest_11 : decode b_R_rankNewest 11 = .ok (.astore_n 2, 1) := by decide +kernel
theorem d_R_rankNewest_12 : decode b_R_rankNewest 12 = .ok (.iload_n 1, 1) := by decide +kernel
theorem d_R_rankNewest_13 : decode b_R_rankNewest 13 = .ok (.ifCond .le 38, 3) := by decide +kernel
theorem d_R_rankNewest_16 : decode b_R_rankNewest 16 = .ok (.aload_n 2, 1) := by decide +kernel
theorem d_R_rankNewest_17 : decode b_R_rankNewest 17 = .ok (.aload_n 0, 1) := by decide +kernel
theorem d_R_rankNewest_18 : decode b_R_rankNewest 18 = .ok (.getfield 25, 3) := by decide +kernel
theorem d_R_rankNewest_21 : decode b_R_rankNewest 21 = .ok (.iload_n 1, 1) := by decide +kernel
theorem d_R_rankNewest_22 : decode b_R_rankNewest 22 = .ok (.iconst 1, 1) := by decide +kernel
theorem d_R_rankNewest_23 : decode b_R_rankNewest 23 = .ok (.isub, 1) := by decide +kernel
theorem d_R_rankNewest_24 : decode b_R_rankNewest 24 = .ok (.aaload, 1) := by decide +kernel
theorem d_R_rankNewest_25 : decode b_R_rankNewest 25 = .ok (.invokevirtual 209, 3) := by decide +kernel
theorem d_R_rankNewest_28 : decode b_R_rankNewest 28 = .ok (.ifCond .eq 23, 3) := by decide +kernel
theorem d_R_rankNewest_31 : decode b_R_rankNewest 31 = .ok (.aload_n 0, 1) := by decide +kernel
theorem d_R_rankNewest_32 : decode b_R_rankNewest 32 = .ok (.getfield 25, 3) := by decide +kernel
theorem d_R_rankNewest_35 : decode b_R_rankNewest 35 = .ok (.iload_n 1, 1) := by decide +kernel
theorem d_R_rankNewest_36 : decode b_R_rankNewest 36 = .ok (.aload_n 0, 1) := by decide +kernel
theorem d_R_rankNewest_37 : decode b_R_rankNewest 37 = .ok (.getfield 25, 3) := by decide +kernel
theorem d_R_rankNewest_40 : decode b_R_rankNewest 40 = .ok (.iload_n 1, 1) := by decide +kernel
theorem d_R_rankNewest_41 : decode b_R_rankNewest 41 = .ok (.iconst 1, 1) := by decide +kernel
theorem d_R_rankNewest_42 : decode b_R_rankNewest 42 = .ok (.isub, 1) := by decide +kernel
theorem d_R_rankNewest_43 : decode b_R_rankNewest 43 = .ok (.aaload, 1) := by decide +kernel
theorem d_R_rankNewest_44 : decode b_R_rankNewest 44 = .ok (.aastore, 1) := by decide +kernel
theorem d_R_rankNewest_45 : decode b_R_rankNewest 45 = .ok (.iinc 1 (-1), 3) := by decide +kernel
theorem d_R_rankNewest_48 : decode b_R_rankNewest 48 = .ok (.goto (-36), 3) := by decide +kernel
theorem d_R_rankNewest_51 : decode b_R_rankNewest 51 = .ok (.aload_n 0, 1) := by decide +kernel
theorem d_R_rankNewest_52 : decode b_R_rankNewest 52 = .ok (.getfield 25, 3) := by decide +kernel
theorem d_R_rankNewest_55 : decode b_R_rankNewest 55 = .ok (.iload_n 1, 1) := by decide +kernel
theorem d_R_rankNewest_56 : decode b_R_rankNewest 56 = .ok (.aload_n 2, 1) := by decide +kernel
theorem d_R_rankNewest_57 : decode b_R_rankNewest 57 = .ok (.aastore, 1) := by decide +kernel
theorem d_R_rankNewest_58 : decode b_R_rankNewest 58 = .ok (.aload_n 0, 1) := by decide +kernel
theorem d_R_rankNewest_59 : decode b_R_rankNewest 59 = .ok (.dup, 1) := by decide +kernel
theorem d_R_rankNewest_60 : decode b_R_rankNewest 60 = .ok (.getfield 116, 3) := by decide +kernel
theorem d_R_rankNewest_63 : decode b_R_rankNewest 63 = .ok (.iconst 1, 1) := by decide +kernel
theorem d_R_rankNewest_64 : decode b_R_rankNewest 64 = .ok (.iadd, 1) := by decide +kernel
theorem d_R_rankNewest_65 : decode b_R_rankNewest 65 = .ok (.putfield 116, 3) := by decide +kernel
theorem d_R_rankNewest_68 : decode b_R_rankNewest 68 = .ok (.return_, 1) := by decide +kernel
theorem d_R_memberNotAsked_0 : decode b_R_memberNotAsked 0 = .ok (.iconst 0, 1) := by decide +kernel
theorem d_R_memberNotAsked_1 : decode b_R_memberNotAsked 1 = .ok (.istore_n 1, 1) := by decide +kernel
theorem d_R_memberNotAsked_2 : decode b_R_memberNotAsked 2 = .ok (.iload_n 1, 1) := by decide +kernel
theorem d_R_memberNotAsked_3 : decode b_R_memberNotAsked 3 = .ok (.aload_n 0, 1) := by decide +kernel
theorem d_R_memberNotAsked_4 : decode b_R_memberNotAsked 4 = .ok (.getfield 73, 3) := by decide +kernel
theorem d_R_memberNotAsked_7 : decode b_R_memberNotAsked 7 = .ok (.if_icmp .ge 29, 3) := by decide +kernel
theorem d_R_memberNotAsked_10 : decode b_R_memberNotAsked 10 = .ok (.aload_n 0, 1) := by decide +kernel
theorem d_R_memberNotAsked_11 : decode b_R_memberNotAsked 11 = .ok (.getfield 38, 3) := by decide +kernel
theorem d_R_memberNotAsked_14 : decode b_R_memberNotAsked 14 = .ok (.iload_n 1, 1) := by decide +kernel
theorem d_R_memberNotAsked_15 : decode b_R_memberNotAsked 15 = .ok (.baload, 1) := by decide +kernel
theorem d_R_memberNotAsked_16 : decode b_R_memberNotAsked 16 = .ok (.ifCond .eq 14, 3) := by decide +kernel
theorem d_R_memberNotAsked_19 : decode b_R_memberNotAsked 19 = .ok (.aload_n 0, 1) := by decide +kernel
theorem d_R_memberNotAsked_20 : decode b_R_memberNotAsked 20 = .ok (.getfield 42, 3) := by decide +kernel
theorem d_R_memberNotAsked_23 : decode b_R_memberNotAsked 23 = .ok (.iload_n 1, 1) := by decide +kernel
theorem d_R_memberNotAsked_24 : decode b_R_memberNotAsked 24 = .ok (.baload, 1) := by decide +kernel
theorem d_R_memberNotAsked_25 : decode b_R_memberNotAsked 25 = .ok (.ifCond .ne 5, 3) := by decide +kernel
theorem d_R_memberNotAsked_28 : decode b_R_memberNotAsked 28 = .ok (.iload_n 1, 1) := by decide +kernel
theorem d_R_memberNotAsked_29 : decode b_R_memberNotAsked 29 = .ok (.ireturn, 1) := by decide +kernel
theorem d_R_memberNotAsked_30 : decode b_R_memberNotAsked 30 = .ok (.iinc 1 1, 3) := by decide +kernel
theorem d_R_memberNotAsked_33 : decode b_R_memberNotAsked 33 = .ok (.goto (-31), 3) := by decide +kernel
theorem d_R_memberNotAsked_36 : decode b_R_memberNotAsked 36 = .ok (.iconst (-1), 1) := by decide +kernel
theorem d_R_memberNotAsked_37 : decode b_R_memberNotAsked 37 = .ok (.ireturn, 1) := by decide +kernel
theorem d_R_addJoinedTo_0 : decode b_R_addJoinedTo 0 = .ok (.iconst 0, 1) := by decide +kernel
theorem d_R_addJoinedTo_1 : decode b_R_addJoinedTo 1 = .ok (.istore 4, 2) := by decide +kernel
theorem d_R_addJoinedTo_3 : decode b_R_addJoinedTo 3 = .ok (.iload 4, 2) := by decide +kernel
theorem d_R_addJoinedTo_5 : decode b_R_addJoinedTo 5 = .ok (.aload_n 0, 1) := by decide +kernel
theorem d_R_addJoinedTo_6 : decode b_R_addJoinedTo 6 = .ok (.getfield 73, 3) := by decide +kernel
theorem d_R_addJoinedTo_9 : decode b_R_addJoinedTo 9 = .ok (.if_icmp .ge 49, 3) := by decide +kernel
theorem d_R_addJoinedTo_12 : decode b_R_addJoinedTo 12 = .ok (.aload_n 0, 1) := by decide +kernel
theorem d_R_addJoinedTo_13 : decode b_R_addJoinedTo 13 = .ok (.getfield 38, 3) := by decide +kernel
theorem d_R_addJoinedTo_16 : decode b_R_addJoinedTo 16 = .ok (.iload 4, 2) := by decide +kernel
theorem d_R_addJoinedTo_18 : decode b_R_addJoinedTo 18 = .ok (.baload, 1) := by decide +kernel
theorem d_R_addJoinedTo_19 : decode b_R_addJoinedTo 19 = .ok (.ifCond .ne 33, 3) := by decide +kernel
theorem d_R_addJoinedTo_22 : decode b_R_addJoinedTo 22 = .ok (.aload_n 0, 1) := by decide +kernel
theorem d_R_addJoinedTo_23 : decode b_R_addJoinedTo 23 = .ok (.aload_n 0, 1) := by decide +kernel
theorem d_R_addJoinedTo_24 : decode b_R_addJoinedTo 24 = .ok (.getfield 18, 3) := by decide +kernel
theorem d_R_addJoinedTo_27 : decode b_R_addJoinedTo 27 = .ok (.iload_n 1, 1) := by decide +kernel
theorem d_R_addJoinedTo_28 : decode b_R_addJoinedTo 28 = .ok (.aaload, 1) := by decide +kernel
theorem d_R_addJoinedTo_29 : decode b_R_addJoinedTo 29 = .ok (.aload_n 0, 1) := by decide +kernel
theorem d_R_addJoinedTo_30 : decode b_R_addJoinedTo 30 = .ok (.getfield 18, 3) := by decide +kernel
theorem d_R_addJoinedTo_33 : decode b_R_addJoinedTo 33 = .ok (.iload 4, 2) := by decide +kernel
theorem d_R_addJoinedTo_35 : decode b_R_addJoinedTo 35 = .ok (.aaload, 1) := by decide +kernel
theorem d_R_addJoinedTo_36 : decode b_R_addJoinedTo 36 = .ok (.iload_n 2, 1) := by decide +kernel
theorem d_R_addJoinedTo_37 : decode b_R_addJoinedTo 37 = .ok (.iload_n 3, 1) := by decide +kernel
theorem d_R_addJoinedTo_38 : decode b_R_addJoinedTo 38 = .ok (.invokevirtual 213, 3) := by decide +kernel
theorem d_R_addJoinedTo_41 : decode b_R_addJoinedTo 41 = .ok (.ifCond .eq 11, 3) := by decide +kernel
theorem d_R_addJoinedTo_44 : decode b_R_addJoinedTo 44 = .ok (.aload_n 0, 1) := by decide +kernel
theorem d_R_addJoinedTo_45 : decode b_R_addJoinedTo 45 = .ok (.getfield 38, 3) := by decide +kernel
theorem d_R_addJoinedTo_48 : decode b_R_addJoinedTo 48 = .ok (.iload 4, 2) := by decide +kernel
theorem d_R_addJoinedTo_50 : decode b_R_addJoinedTo 50 = .ok (.iconst 1, 1) := by decide +kernel
theorem d_R_addJoinedTo_51 : decode b_R_addJoinedTo 51 = .ok (.bastore, 1) := by decide +kernel
theorem d_R_addJoinedTo_52 : decode b_R_addJoinedTo 52 = .ok (.iinc 4 1, 3) := by decide +kernel
theorem d_R_addJoinedTo_55 : decode b_R_addJoinedTo 55 = .ok (.goto (-52), 3) := by decide +kernel
theorem d_R_addJoinedTo_58 : decode b_R_addJoinedTo 58 = .ok (.return_, 1) := by decide +kernel
theorem d_R_areJoined_0 : decode b_R_areJoined 0 = .ok (.iconst 1, 1) := by decide +kernel
theorem d_R_areJoined_1 : decode b_R_areJoined 1 = .ok (.aload_n 2, 1) := by decide +kernel
theorem d_R_areJoined_2 : decode b_R_areJoined 2 = .ok (.getfield 90, 3) := by decide +kernel
theorem d_R_areJoined_5 : decode b_R_areJoined 5 = .ok (.isub, 1) := by decide +kernel
theorem d_R_areJoined_6 : decode b_R_areJoined 6 = .ok (.istore 5, 2) := by decide +kernel
theorem d_R_areJoined_8 : decode b_R_areJoined 8 = .ok (.iload 5, 2) := by decide +kernel
theorem d_R_areJoined_10 : decode b_R_areJoined 10 = .ok (.aload_n 1, 1) := by decide +kernel
theorem d_R_areJoined_11 : decode b_R_areJoined 11 = .ok (.getfield 90, 3) := by decide +kernel
theorem d_R_areJoined_14 : decode b_R_areJoined 14 = .ok (.if_icmp .ge 45, 3) := by decide +kernel
theorem d_R_areJoined_17 : decode b_R_areJoined 17 = .ok (.aload_n 0, 1) := by decide +kernel
theorem d_R_areJoined_18 : decode b_R_areJoined 18 = .ok (.getfield 34, 3) := by decide +kernel
theorem d_R_areJoined_21 : decode b_R_areJoined 21 = .ok (.aload_n 1, 1) := by decide +kernel
theorem d_R_areJoined_22 : decode b_R_areJoined 22 = .ok (.aload_n 2, 1) := by decide +kernel
theorem d_R_areJoined_23 : decode b_R_areJoined 23 = .ok (.iload 5, 2) := by decide +kernel
theorem d_R_areJoined_25 : decode b_R_areJoined 25 = .ok (.invokevirtual 122, 3) := by decide +kernel
theorem d_R_areJoined_28 : decode b_R_areJoined 28 = .ok (.aload_n 0, 1) := by decide +kernel
theorem d_R_areJoined_29 : decode b_R_areJoined 29 = .ok (.getfield 34, 3) := by decide +kernel
theorem d_R_areJoined_32 : decode b_R_areJoined 32 = .ok (.getfield 126, 3) := by decide +kernel
theorem d_R_areJoined_35 : decode b_R_areJoined 35 = .ok (.iload_n 3, 1) := by decide +kernel
theorem d_R_areJoined_36 : decode b_R_areJoined 36 = .ok (.if_icmp .lt 17, 3) := by decide +kernel
theorem d_R_areJoined_39 : decode b_R_areJoined 39 = .ok (.aload_n 0, 1) := by decide +kernel
theorem d_R_areJoined_40 : decode b_R_areJoined 40 = .ok (.getfield 34, 3) := by decide +kernel
theorem d_R_areJoined_43 : decode b_R_areJoined 43 = .ok (.getfield 143, 3) := by decide +kernel
theorem d_R_areJoined_46 : decode b_R_areJoined 46 = .ok (.iload 4, 2) := by decide +kernel
theorem d_R_areJoined_48 : decode b_R_areJoined 48 = .ok (.if_icmp .lt 5, 3) := by decide +kernel
theorem d_R_areJoined_51 : decode b_R_areJoined 51 = .ok (.iconst 1, 1) := by decide +kernel
theorem d_R_areJoined_52 : decode b_R_areJoined 52 = .ok (.ireturn, 1) := by decide +kernel
theorem d_R_areJoined_53 : decode b_R_areJoined 53 = .ok (.iinc 5 1, 3) := by decide +kernel
theorem d_R_areJoined_56 : decode b_R_areJoined 56 = .ok (.goto (-48), 3) := by decide +kernel
theorem d_R_areJoined_59 : decode b_R_areJoined 59 = .ok (.iconst 0, 1) := by decide +kernel
theorem d_R_areJoined_60 : decode b_R_areJoined 60 = .ok (.ireturn, 1) := by decide +kernel
theorem d_R_leastMember_0 : decode b_R_leastMember 0 = .ok (.iconst 0, 1) := by decide +kernel
theorem d_R_leastMember_1 : decode b_R_leastMember 1 = .ok (.istore_n 1, 1) := by decide +kernel
theorem d_R_leastMember_2 : decode b_R_leastMember 2 = .ok (.iload_n 1, 1) := by decide +kernel
theorem d_R_leastMember_3 : decode b_R_leastMember 3 = .ok (.aload_n 0, 1) := by decide +kernel
theorem d_R_leastMember_4 : decode b_R_leastMember 4 = .ok (.getfield 73, 3) := by decide +kernel
theorem d_R_leastMember_7 : decode b_R_leastMember 7 = .ok (.if_icmp .ge 20, 3) := by decide +kernel
theorem d_R_leastMember_10 : decode b_R_leastMember 10 = .ok (.aload_n 0, 1) := by decide +kernel
theorem d_R_leastMember_11 : decode b_R_leastMember 11 = .ok (.getfield 38, 3) := by decide +kernel
theorem d_R_leastMember_14 : decode b_R_leastMember 14 = .ok (.iload_n 1, 1) := by decide +kernel
theorem d_R_leastMember_15 : decode b_R_leastMember 15 = .ok (.baload, 1) := by decide +kernel
theorem d_R_leastMember_16 : decode b_R_leastMember 16 = .ok (.ifCond .eq 5, 3) := by decide +kernel
theorem d_R_leastMember_19 : decode b_R_leastMember 19 = .ok (.iload_n 1, 1) := by decide +kernel
theorem d_R_leastMember_20 : decode b_R_leastMember 20 = .ok (.ireturn, 1) := by decide +kernel
theorem d_R_leastMember_21 : decode b_R_leastMember 21 = .ok (.iinc 1 1, 3) := by decide +kernel
theorem d_R_leastMember_24 : decode b_R_leastMember 24 = .ok (.goto (-22), 3) := by decide +kernel
theorem d_R_leastMember_27 : decode b_R_leastMember 27 = .ok (.iconst (-1), 1) := by decide +kernel
theorem d_R_leastMember_28 : decode b_R_leastMember 28 = .ok (.ireturn, 1) := by decide +kernel
theorem d_R_mean_0 : decode b_R_mean 0 = .ok (.iload_n 0, 1) := by decide +kernel
theorem d_R_mean_1 : decode b_R_mean 1 = .ok (.iconst (-1), 1) := by decide +kernel
theorem d_R_mean_2 : decode b_R_mean 2 = .ok (.if_icmp .ne 5, 3) := by decide +kernel
theorem d_R_mean_5 : decode b_R_mean 5 = .ok (.iload_n 1, 1) := by decide +kernel
theorem d_R_mean_6 : decode b_R_mean 6 = .ok (.ireturn, 1) := by decide +kernel
theorem d_R_mean_7 : decode b_R_mean 7 = .ok (.iload_n 1, 1) := by decide +kernel
theorem d_R_mean_8 : decode b_R_mean 8 = .ok (.iconst (-1), 1) := by decide +kernel
theorem d_R_mean_9 : decode b_R_mean 9 = .ok (.if_icmp .ne 5, 3) := by decide +kernel
theorem d_R_mean_12 : decode b_R_mean 12 = .ok (.iload_n 0, 1) := by decide +kernel
theorem d_R_mean_13 : decode b_R_mean 13 = .ok (.ireturn, 1) := by decide +kernel
theorem d_R_mean_14 : decode b_R_mean 14 = .ok (.iload_n 0, 1) := by decide +kernel
theorem d_R_mean_15 : decode b_R_mean 15 = .ok (.iload_n 1, 1) := by decide +kernel
theorem d_R_mean_16 : decode b_R_mean 16 = .ok (.iadd, 1) := by decide +kernel
theorem d_R_mean_17 : decode b_R_mean 17 = .ok (.iconst 1, 1) := by decide +kernel
theorem d_R_mean_18 : decode b_R_mean 18 = .ok (.iadd, 1) := by decide +kernel
theorem d_R_mean_19 : decode b_R_mean 19 = .ok (.iconst 2, 1) := by decide +kernel
theorem d_R_mean_20 : decode b_R_mean 20 = .ok (.idiv, 1) := by decide +kernel
theorem d_R_mean_21 : decode b_R_mean 21 = .ok (.ireturn, 1) := by decide +kernel
theorem d_R_waysToTake_0 : decode b_R_waysToTake 0 = .ok (.lconst 0, 1) := by decide +kernel
theorem d_R_waysToTake_1 : decode b_R_waysToTake 1 = .ok (.lstore_n 2, 1) := by decide +kernel
theorem d_R_waysToTake_2 : decode b_R_waysToTake 2 = .ok (.lconst 1, 1) := by decide +kernel
theorem d_R_waysToTake_3 : decode b_R_waysToTake 3 = .ok (.lstore 4, 2) := by decide +kernel
theorem d_R_waysToTake_5 : decode b_R_waysToTake 5 = .ok (.iconst 0, 1) := by decide +kernel
theorem d_R_waysToTake_6 : decode b_R_waysToTake 6 = .ok (.istore 6, 2) := by decide +kernel
theorem d_R_waysToTake_8 : decode b_R_waysToTake 8 = .ok (.iload 6, 2) := by decide +kernel
theorem d_R_waysToTake_10 : decode b_R_waysToTake 10 = .ok (.iload_n 1, 1) := by decide +kernel
theorem d_R_waysToTake_11 : decode b_R_waysToTake 11 = .ok (.if_icmp .gt 36, 3) := by decide +kernel
theorem d_R_waysToTake_14 : decode b_R_waysToTake 14 = .ok (.iload 6, 2) := by decide +kernel
theorem d_R_waysToTake_16 : decode b_R_waysToTake 16 = .ok (.iload_n 0, 1) := by decide +kernel
theorem d_R_waysToTake_17 : decode b_R_waysToTake 17 = .ok (.if_icmp .lt 8, 3) := by decide +kernel
theorem d_R_waysToTake_20 : decode b_R_waysToTake 20 = .ok (.lload_n 2, 1) := by decide +kernel
theorem d_R_waysToTake_21 : decode b_R_waysToTake 21 = .ok (.lload 4, 2) := by decide +kernel
theorem d_R_waysToTake_23 : decode b_R_waysToTake 23 = .ok (.ladd, 1) := by decide +kernel
theorem d_R_waysToTake_24 : decode b_R_waysToTake 24 = .ok (.lstore_n 2, 1) := by decide +kernel
theorem d_R_waysToTake_25 : decode b_R_waysToTake 25 = .ok (.lload 4, 2) := by decide +kernel
theorem d_R_waysToTake_27 : decode b_R_waysToTake 27 = .ok (.iload_n 1, 1) := by decide +kernel
theorem d_R_waysToTake_28 : decode b_R_waysToTake 28 = .ok (.iload 6, 2) := by decide +kernel
theorem d_R_waysToTake_30 : decode b_R_waysToTake 30 = .ok (.isub, 1) := by decide +kernel
theorem d_R_waysToTake_31 : decode b_R_waysToTake 31 = .ok (.i2l, 1) := by decide +kernel
theorem d_R_waysToTake_32 : decode b_R_waysToTake 32 = .ok (.lmul, 1) := by decide +kernel
theorem d_R_waysToTake_33 : decode b_R_waysToTake 33 = .ok (.iload 6, 2) := by decide +kernel
theorem d_R_waysToTake_35 : decode b_R_waysToTake 35 = .ok (.iconst 1, 1) := by decide +kernel
theorem d_R_waysToTake_36 : decode b_R_waysToTake 36 = .ok (.iadd, 1) := by decide +kernel
theorem d_R_waysToTake_37 : decode b_R_waysToTake 37 = .ok (.i2l, 1) := by decide +kernel
theorem d_R_waysToTake_38 : decode b_R_waysToTake 38 = .ok (.ldiv, 1) := by decide +kernel
theorem d_R_waysToTake_39 : decode b_R_waysToTake 39 = .ok (.lstore 4, 2) := by decide +kernel
theorem d_R_waysToTake_41 : decode b_R_waysToTake 41 = .ok (.iinc 6 1, 3) := by decide +kernel
theorem d_R_waysToTake_44 : decode b_R_waysToTake 44 = .ok (.goto (-36), 3) := by decide +kernel
theorem d_R_waysToTake_47 : decode b_R_waysToTake 47 = .ok (.lload_n 2, 1) := by decide +kernel
theorem d_R_waysToTake_48 : decode b_R_waysToTake 48 = .ok (.lreturn, 1) := by decide +kernel
theorem d_R_lessened_0 : decode b_R_lessened 0 = .ok (.lload_n 0, 1) := by decide +kernel
theorem d_R_lessened_1 : decode b_R_lessened 1 = .ok (.lload_n 2, 1) := by decide +kernel
theorem d_R_lessened_2 : decode b_R_lessened 2 = .ok (.invokestatic 217, 3) := by decide +kernel
theorem d_R_lessened_5 : decode b_R_lessened 5 = .ok (.lstore 5, 2) := by decide +kernel
theorem d_R_lessened_7 : decode b_R_lessened 7 = .ok (.iload 4, 2) := by decide +kernel
theorem d_R_lessened_9 : decode b_R_lessened 9 = .ok (.ifCond .ne 7, 3) := by decide +kernel
theorem d_R_lessened_12 : decode b_R_lessened 12 = .ok (.lload_n 0, 1) := by decide +kernel
theorem d_R_lessened_13 : decode b_R_lessened 13 = .ok (.goto 4, 3) := by decide +kernel
theorem d_R_lessened_16 : decode b_R_lessened 16 = .ok (.lload_n 2, 1) := by decide +kernel
theorem d_R_lessened_17 : decode b_R_lessened 17 = .ok (.lload 5, 2) := by decide +kernel
theorem d_R_lessened_19 : decode b_R_lessened 19 = .ok (.ldiv, 1) := by decide +kernel
theorem d_R_lessened_20 : decode b_R_lessened 20 = .ok (.lreturn, 1) := by decide +kernel
theorem d_R_greatestDivisor_0 : decode b_R_greatestDivisor 0 = .ok (.lload_n 0, 1) := by decide +kernel
theorem d_R_greatestDivisor_1 : decode b_R_greatestDivisor 1 = .ok (.lstore 4, 2) := by decide +kernel
theorem d_R_greatestDivisor_3 : decode b_R_greatestDivisor 3 = .ok (.lload_n 2, 1) := by decide +kernel
theorem d_R_greatestDivisor_4 : decode b_R_greatestDivisor 4 = .ok (.lstore 6, 2) := by decide +kernel
theorem d_R_greatestDivisor_6 : decode b_R_greatestDivisor 6 = .ok (.iconst 0, 1) := by decide +kernel
theorem d_R_greatestDivisor_7 : decode b_R_greatestDivisor 7 = .ok (.istore 8, 2) := by decide +kernel
theorem d_R_greatestDivisor_9 : decode b_R_greatestDivisor 9 = .ok (.iload 8, 2) := by decide +kernel
theorem d_R_greatestDivisor_11 : decode b_R_greatestDivisor 11 = .ok (.sipush 200, 3) := by decide +kernel
theorem d_R_greatestDivisor_14 : decode b_R_greatestDivisor 14 = .ok (.if_icmp .ge 31, 3) := by decide +kernel
theorem d_R_greatestDivisor_17 : decode b_R_greatestDivisor 17 = .ok (.lload 6, 2) := by decide +kernel
theorem d_R_greatestDivisor_19 : decode b_R_greatestDivisor 19 = .ok (.lconst 0, 1) := by decide +kernel
theorem d_R_greatestDivisor_20 : decode b_R_greatestDivisor 20 = .ok (.lcmp, 1) := by decide +kernel
theorem d_R_greatestDivisor_21 : decode b_R_greatestDivisor 21 = .ok (.ifCond .eq 24, 3) := by decide +kernel
theorem d_R_greatestDivisor_24 : decode b_R_greatestDivisor 24 = .ok (.lload 4, 2) := by decide +kernel
theorem d_R_greatestDivisor_26 : decode b_R_greatestDivisor 26 = .ok (.lload 6, 2) := by decide +kernel
theorem d_R_greatestDivisor_28 : decode b_R_greatestDivisor 28 = .ok (.lrem, 1) := by decide +kernel
theorem d_R_greatestDivisor_29 : decode b_R_greatestDivisor 29 = .ok (.lstore 9, 2) := by decide +kernel
theorem d_R_greatestDivisor_31 : decode b_R_greatestDivisor 31 = .ok (.lload 6, 2) := by decide +kernel
theorem d_R_greatestDivisor_33 : decode b_R_greatestDivisor 33 = .ok (.lstore 4, 2) := by decide +kernel
theorem d_R_greatestDivisor_35 : decode b_R_greatestDivisor 35 = .ok (.lload 9, 2) := by decide +kernel
theorem d_R_greatestDivisor_37 : decode b_R_greatestDivisor 37 = .ok (.lstore 6, 2) := by decide +kernel
theorem d_R_greatestDivisor_39 : decode b_R_greatestDivisor 39 = .ok (.iinc 8 1, 3) := by decide +kernel
theorem d_R_greatestDivisor_42 : decode b_R_greatestDivisor 42 = .ok (.goto (-33), 3) := by decide +kernel
theorem d_R_greatestDivisor_45 : decode b_R_greatestDivisor 45 = .ok (.lload 4, 2) := by decide +kernel
theorem d_R_greatestDivisor_47 : decode b_R_greatestDivisor 47 = .ok (.lconst 0, 1) := by decide +kernel
theorem d_R_greatestDivisor_48 : decode b_R_greatestDivisor 48 = .ok (.lcmp, 1) := by decide +kernel
theorem d_R_greatestDivisor_49 : decode b_R_greatestDivisor 49 = .ok (.ifCond .ne 7, 3) := by decide +kernel
theorem d_R_greatestDivisor_52 : decode b_R_greatestDivisor 52 = .ok (.lconst 1, 1) := by decide +kernel
theorem d_R_greatestDivisor_53 : decode b_R_greatestDivisor 53 = .ok (.goto 5, 3) := by decide +kernel
theorem d_R_greatestDivisor_56 : decode b_R_greatestDivisor 56 = .ok (.lload 4, 2) := by decide +kernel
theorem d_R_greatestDivisor_58 : decode b_R_greatestDivisor 58 = .ok (.lreturn, 1) := by decide +kernel
theorem d_O_init_0 : decode b_O_init 0 = .ok (.aload_n 0, 1) := by decide +kernel
theorem d_O_init_1 : decode b_O_init 1 = .ok (.invokespecial 3, 3) := by decide +kernel
theorem d_O_init_4 : decode b_O_init 4 = .ok (.return_, 1) := by decide +kernel
theorem d_O_lay_0 : decode b_O_lay 0 = .ok (.iconst 0, 1) := by decide +kernel
theorem d_O_lay_1 : decode b_O_lay 1 = .ok (.istore 4, 2) := by decide +kernel
theorem d_O_lay_3 : decode b_O_lay 3 = .ok (.lconst 0, 1) := by decide +kernel
theorem d_O_lay_4 : decode b_O_lay 4 = .ok (.lstore 5, 2) := by decide +kernel
theorem d_O_lay_6 : decode b_O_lay 6 = .ok (.lconst 0, 1) := by decide +kernel
theorem d_O_lay_7 : decode b_O_lay 7 = .ok (.lstore 7, 2) := by decide +kernel
theorem d_O_lay_9 : decode b_O_lay 9 = .ok (.lconst 0, 1) := by decide +kernel
theorem d_O_lay_10 : decode b_O_lay 10 = .ok (.lstore 9, 2) := by decide +kernel
theorem d_O_lay_12 : decode b_O_lay 12 = .ok (.lconst 0, 1) := by decide +kernel
theorem d_O_lay_13 : decode b_O_lay 13 = .ok (.lstore 11, 2) := by decide +kernel
theorem d_O_lay_15 : decode b_O_lay 15 = .ok (.lconst 0, 1) := by decide +kernel
theorem d_O_lay_16 : decode b_O_lay 16 = .ok (.lstore 13, 2) := by decide +kernel
theorem d_O_lay_18 : decode b_O_lay 18 = .ok (.aload_n 1, 1) := by decide +kernel
theorem d_O_lay_19 : decode b_O_lay 19 = .ok (.getfield 9, 3) := by decide +kernel
theorem d_O_lay_22 : decode b_O_lay 22 = .ok (.aload_n 2, 1) := by decide +kernel
theorem d_O_lay_23 : decode b_O_lay 23 = .ok (.getfield 9, 3) := by decide +kernel
theorem d_O_lay_26 : decode b_O_lay 26 = .ok (.iload_n 3, 1) := by decide +kernel
theorem d_O_lay_27 : decode b_O_lay 27 = .ok (.iadd, 1) := by decide +kernel
theorem d_O_lay_28 : decode b_O_lay 28 = .ok (.invokestatic 15, 3) := by decide +kernel
theorem d_O_lay_31 : decode b_O_lay 31 = .ok (.istore 15, 2) := by decide +kernel
theorem d_O_lay_33 : decode b_O_lay 33 = .ok (.iconst 0, 1) := by decide +kernel
theorem d_O_lay_34 : decode b_O_lay 34 = .ok (.iload_n 3, 1) := by decide +kernel
theorem d_O_lay_35 : decode b_O_lay 35 = .ok (.invokestatic 21, 3) := by decide +kernel
theorem d_O_lay_38 : decode b_O_lay 38 = .ok (.istore 16, 2) := by decide +kernel
theorem d_O_lay_40 : decode b_O_lay 40 = .ok (.iload 16, 2) := by decide +kernel
theorem d_O_lay_42 : decode b_O_lay 42 = .ok (.iload 15, 2) := by decide +kernel
theorem d_O_lay_44 : decode b_O_lay 44 = .ok (.if_icmp .ge 91, 3) := by decide +kernel
theorem d_O_lay_47 : decode b_O_lay 47 = .ok (.aload_n 1, 1) := by decide +kernel
theorem d_O_lay_48 : decode b_O_lay 48 = .ok (.iload 16, 2) := by decide +kernel
theorem d_O_lay_50 : decode b_O_lay 50 = .ok (.invokevirtual 24, 3) := by decide +kernel
theorem d_O_lay_53 : decode b_O_lay 53 = .ok (.istore 17, 2) := by decide +kernel
theorem d_O_lay_55 : decode b_O_lay 55 = .ok (.aload_n 2, 1) := by decide +kernel
theorem d_O_lay_56 : decode b_O_lay 56 = .ok (.iload 16, 2) := by decide +kernel
theorem d_O_lay_58 : decode b_O_lay 58 = .ok (.iload_n 3, 1) := by decide +kernel
theorem d_O_lay_59 : decode b_O_lay 59 = .ok (.isub, 1) := by decide +kernel
theorem d_O_lay_60 : decode b_O_lay 60 = .ok (.invokevirtual 24, 3) := by decide +kernel
theorem d_O_lay_63 : decode b_O_lay 63 = .ok (.istore 18, 2) := by decide +kernel
theorem d_O_lay_65 : decode b_O_lay 65 = .ok (.iload 17, 2) := by decide +kernel
theorem d_O_lay_67 : decode b_O_lay 67 = .ok (.iconst (-1), 1) := by decide +kernel
theorem d_O_lay_68 : decode b_O_lay 68 = .ok (.if_icmp .eq 61, 3) := by decide +kernel
theorem d_O_lay_71 : decode b_O_lay 71 = .ok (.iload 18, 2) := by decide +kernel
theorem d_O_lay_73 : decode b_O_lay 73 = .ok (.iconst (-1), 1) := by decide +kernel
theorem d_O_lay_74 : decode b_O_lay 74 = .ok (.if_icmp .eq 55, 3) := by decide +kernel
theorem d_O_lay_77 : decode b_O_lay 77 = .ok (.iinc 4 1, 3) := by decide +kernel
theorem d_O_lay_80 : decode b_O_lay 80 = .ok (.lload 5, 2) := by decide +kernel
theorem d_O_lay_82 : decode b_O_lay 82 = .ok (.iload 17, 2) := by decide +kernel
theorem d_O_lay_84 : decode b_O_lay 84 = .ok (.i2l, 1) := by decide +kernel
theorem d_O_lay_85 : decode b_O_lay 85 = .ok (.ladd, 1) := by decide +kernel
theorem d_O_lay_86 : decode b_O_lay 86 = .ok (.lstore 5, 2) := by decide +kernel
theorem d_O_lay_88 : decode b_O_lay 88 = .ok (.lload 7, 2) := by decide +kernel
theorem d_O_lay_90 : decode b_O_lay 90 = .ok (.iload 18, 2) := by decide +kernel
theorem d_O_lay_92 : decode b_O_lay 92 = .ok (.i2l, 1) := by decide +kernel
theorem d_O_lay_93 : decode b_O_lay 93 = .ok (.ladd, 1) := by decide +kernel
theorem d_O_lay_94 : decode b_O_lay 94 = .ok (.lstore 7, 2) := by decide +kernel
theorem d_O_lay_96 : decode b_O_lay 96 = .ok (.lload 9, 2) := by decide +kernel
theorem d_O_lay_98 : decode b_O_lay 98 = .ok (.iload 17, 2) := by decide +kernel
theorem d_O_lay_100 : decode b_O_lay 100 = .ok (.iload 17, 2) := by decide +kernel
theorem d_O_lay_102 : decode b_O_lay 102 = .ok (.imul, 1) := by decide +kernel
theorem d_O_lay_103 : decode b_O_lay 103 = .ok (.i2l, 1) := by decide +kernel
theorem d_O_lay_104 : decode b_O_lay 104 = .ok (.ladd, 1) := by decide +kernel
theorem d_O_lay_105 : decode b_O_lay 105 = .ok (.lstore 9, 2) := by decide +kernel
theorem d_O_lay_107 : decode b_O_lay 107 = .ok (.lload 11, 2) := by decide +kernel
theorem d_O_lay_109 : decode b_O_lay 109 = .ok (.iload 18, 2) := by decide +kernel
theorem d_O_lay_111 : decode b_O_lay 111 = .ok (.iload 18, 2) := by decide +kernel
theorem d_O_lay_113 : decode b_O_lay 113 = .ok (.imul, 1) := by decide +kernel
theorem d_O_lay_114 : decode b_O_lay 114 = .ok (.i2l, 1) := by decide +kernel
theorem d_O_lay_115 : decode b_O_lay 115 = .ok (.ladd, 1) := by decide +kernel
theorem d_O_lay_116 : decode b_O_lay 116 = .ok (.lstore 11, 2) := by decide +kernel
theorem d_O_lay_118 : decode b_O_lay 118 = .ok (.lload 13, 2) := by decide +kernel
theorem d_O_lay_120 : decode b_O_lay 120 = .ok (.iload 17, 2) := by decide +kernel
theorem d_O_lay_122 : decode b_O_lay 122 = .ok (.iload 18, 2) := by decide +kernel
theorem d_O_lay_124 : decode b_O_lay 124 = .ok (.imul, 1) := by decide +kernel
theorem d_O_lay_125 : decode b_O_lay 125 = .ok (.i2l, 1) := by decide +kernel
theorem d_O_lay_126 : decode b_O_lay 126 = .ok (.ladd, 1) := by decide +kernel
theorem d_O_lay_127 : decode b_O_lay 127 = .ok (.lstore 13, 2) := by decide +kernel
theorem d_O_lay_129 : decode b_O_lay 129 = .ok (.iinc 16 1, 3) := by decide +kernel
theorem d_O_lay_132 : decode b_O_lay 132 = .ok (.goto (-92), 3) := by decide +kernel
theorem d_O_lay_135 : decode b_O_lay 135 = .ok (.aload_n 0, 1) := by decide +kernel
theorem d_O_lay_136 : decode b_O_lay 136 = .ok (.iload_n 3, 1) := by decide +kernel
theorem d_O_lay_137 : decode b_O_lay 137 = .ok (.putfield 28, 3) := by decide +kernel
theorem d_O_lay_140 : decode b_O_lay 140 = .ok (.aload_n 0, 1) := by decide +kernel
theorem d_O_lay_141 : decode b_O_lay 141 = .ok (.iload 4, 2) := by decide +kernel
theorem d_O_lay_143 : decode b_O_lay 143 = .ok (.putfield 33, 3) := by decide +kernel
theorem d_O_lay_146 : decode b_O_lay 146 = .ok (.aload_n 0, 1) := by decide +kernel
theorem d_O_lay_147 : decode b_O_lay 147 = .ok (.iload 4, 2) := by decide +kernel
theorem d_O_lay_149 : decode b_O_lay 149 = .ok (.i2l, 1) := by decide +kernel
theorem d_O_lay_150 : decode b_O_lay 150 = .ok (.lload 13, 2) := by decide +kernel
theorem d_O_lay_152 : decode b_O_lay 152 = .ok (.lmul, 1) := by decide +kernel
theorem d_O_lay_153 : decode b_O_lay 153 = .ok (.lload 5, 2) := by decide +kernel
theorem d_O_lay_155 : decode b_O_lay 155 = .ok (.lload 7, 2) := by decide +kernel
theorem d_O_lay_157 : decode b_O_lay 157 = .ok (.lmul, 1) := by decide +kernel
theorem d_O_lay_158 : decode b_O_lay 158 = .ok (.lsub, 1) := by decide +kernel
theorem d_O_lay_159 : decode b_O_lay 159 = .ok (.iload 4, 2) := by decide +kernel
theorem d_O_lay_161 : decode b_O_lay 161 = .ok (.i2l, 1) := by decide +kernel
theorem d_O_lay_162 : decode b_O_lay 162 = .ok (.lload 9, 2) := by decide +kernel
theorem d_O_lay_164 : decode b_O_lay 164 = .ok (.lmul, 1) := by decide +kernel
theorem d_O_lay_165 : decode b_O_lay 165 = .ok (.lload 5, 2) := by decide +kernel
theorem d_O_lay_167 : decode b_O_lay 167 = .ok (.lload 5, 2) := by decide +kernel
theorem d_O_lay_169 : decode b_O_lay 169 = .ok (.lmul, 1) := by decide +kernel
theorem d_O_lay_170 : decode b_O_lay 170 = .ok (.lsub, 1) := by decide +kernel
theorem d_O_lay_171 : decode b_O_lay 171 = .ok (.iload 4, 2) := by decide +kernel
theorem d_O_lay_173 : decode b_O_lay 173 = .ok (.i2l, 1) := by decide +kernel
theorem d_O_lay_174 : decode b_O_lay 174 = .ok (.lload 11, 2) := by decide +kernel
theorem d_O_lay_176 : decode b_O_lay 176 = .ok (.lmul, 1) := by decide +kernel
theorem d_O_lay_177 : decode b_O_lay 177 = .ok (.lload 7, 2) := by decide +kernel
theorem d_O_lay_179 : decode b_O_lay 179 = .ok (.lload 7, 2) := by decide +kernel
theorem d_O_lay_181 : decode b_O_lay 181 = .ok (.lmul, 1) := by decide +kernel
theorem d_O_lay_182 : decode b_O_lay 182 = .ok (.lsub, 1) := by decide +kernel
theorem d_O_lay_183 : decode b_O_lay 183 = .ok (.invokestatic 36, 3) := by decide +kernel
theorem d_O_lay_186 : decode b_O_lay 186 = .ok (.putfield 40, 3) := by decide +kernel
theorem d_O_lay_189 : decode b_O_lay 189 = .ok (.return_, 1) := by decide +kernel
theorem d_O_hundredths_0 : decode b_O_hundredths 0 = .ok (.lload_n 2, 1) := by decide +kernel
theorem d_O_hundredths_1 : decode b_O_hundredths 1 = .ok (.lconst 0, 1) := by decide +kernel
theorem d_O_hundredths_2 : decode b_O_hundredths 2 = .ok (.lcmp, 1) := by decide +kernel
theorem d_O_hundredths_3 : decode b_O_hundredths 3 = .ok (.ifCond .eq 10, 3) := by decide +kernel
theorem d_O_hundredths_6 : decode b_O_hundredths 6 = .ok (.lload 4, 2) := by decide +kernel
theorem d_O_hundredths_8 : decode b_O_hundredths 8 = .ok (.lconst 0, 1) := by decide +kernel
theorem d_O_hundredths_9 : decode b_O_hundredths 9 = .ok (.lcmp, 1) := by decide +kernel
theorem d_O_hundredths_10 : decode b_O_hundredths 10 = .ok (.ifCond .ne 5, 3) := by decide +kernel
theorem d_O_hundredths_13 : decode b_O_hundredths 13 = .ok (.iconst 0, 1) := by decide +kernel
theorem d_O_hundredths_14 : decode b_O_hundredths 14 = .ok (.ireturn, 1) := by decide +kernel
end
section
theorem d_O_hundredths_15 : decode b_O_hundredths 15 = .ok (.ldc2_w 43, 3) := by decide +kernel
theorem d_O_hundredths_18 : decode b_O_hundredths 18 = .ok (.lload_n 0, 1) := by decide +kernel
theorem d_O_hundredths_19 : decode b_O_hundredths 19 = .ok (.lmul, 1) := by decide +kernel
theorem d_O_hundredths_20 : decode b_O_hundredths 20 = .ok (.lload_n 0, 1) := by decide +kernel
theorem d_O_hundredths_21 : decode b_O_hundredths 21 = .ok (.lmul, 1) := by decide +kernel
theorem d_O_hundredths_22 : decode b_O_hundredths 22 = .ok (.lstore 6, 2) := by decide +kernel
theorem d_O_hundredths_24 : decode b_O_hundredths 24 = .ok (.lconst 0, 1) := by decide +kernel
theorem d_O_hundredths_25 : decode b_O_hundredths 25 = .ok (.lstore 8, 2) := by decide +kernel
theorem d_O_hundredths_27 : decode b_O_hundredths 27 = .ok (.bipush 64, 2) := by decide +kernel
theorem d_O_hundredths_29 : decode b_O_hundredths 29 = .ok (.istore 10, 2) := by decide +kernel
theorem d_O_hundredths_31 : decode b_O_hundredths 31 = .ok (.iload 10, 2) := by decide +kernel
theorem d_O_hundredths_33 : decode b_O_hundredths 33 = .ok (.ifCond .le 40, 3) := by decide +kernel
theorem d_O_hundredths_36 : decode b_O_hundredths 36 = .ok (.lload 8, 2) := by decide +kernel
theorem d_O_hundredths_38 : decode b_O_hundredths 38 = .ok (.iload 10, 2) := by decide +kernel
theorem d_O_hundredths_40 : decode b_O_hundredths 40 = .ok (.i2l, 1) := by decide +kernel
theorem d_O_hundredths_41 : decode b_O_hundredths 41 = .ok (.ladd, 1) := by decide +kernel
theorem d_O_hundredths_42 : decode b_O_hundredths 42 = .ok (.lstore 11, 2) := by decide +kernel
theorem d_O_hundredths_44 : decode b_O_hundredths 44 = .ok (.lload 11, 2) := by decide +kernel
theorem d_O_hundredths_46 : decode b_O_hundredths 46 = .ok (.lload 11, 2) := by decide +kernel
theorem d_O_hundredths_48 : decode b_O_hundredths 48 = .ok (.lmul, 1) := by decide +kernel
theorem d_O_hundredths_49 : decode b_O_hundredths 49 = .ok (.lload_n 2, 1) := by decide +kernel
theorem d_O_hundredths_50 : decode b_O_hundredths 50 = .ok (.lmul, 1) := by decide +kernel
theorem d_O_hundredths_51 : decode b_O_hundredths 51 = .ok (.lload 4, 2) := by decide +kernel
theorem d_O_hundredths_53 : decode b_O_hundredths 53 = .ok (.lmul, 1) := by decide +kernel
theorem d_O_hundredths_54 : decode b_O_hundredths 54 = .ok (.lload 6, 2) := by decide +kernel
theorem d_O_hundredths_56 : decode b_O_hundredths 56 = .ok (.lcmp, 1) := by decide +kernel
theorem d_O_hundredths_57 : decode b_O_hundredths 57 = .ok (.ifCond .gt 7, 3) := by decide +kernel
theorem d_O_hundredths_60 : decode b_O_hundredths 60 = .ok (.lload 11, 2) := by decide +kernel
theorem d_O_hundredths_62 : decode b_O_hundredths 62 = .ok (.lstore 8, 2) := by decide +kernel
theorem d_O_hundredths_64 : decode b_O_hundredths 64 = .ok (.iload 10, 2) := by decide +kernel
theorem d_O_hundredths_66 : decode b_O_hundredths 66 = .ok (.iconst 2, 1) := by decide +kernel
theorem d_O_hundredths_67 : decode b_O_hundredths 67 = .ok (.idiv, 1) := by decide +kernel
theorem d_O_hundredths_68 : decode b_O_hundredths 68 = .ok (.istore 10, 2) := by decide +kernel
theorem d_O_hundredths_70 : decode b_O_hundredths 70 = .ok (.goto (-39), 3) := by decide +kernel
theorem d_O_hundredths_73 : decode b_O_hundredths 73 = .ok (.lload_n 0, 1) := by decide +kernel
theorem d_O_hundredths_74 : decode b_O_hundredths 74 = .ok (.lconst 0, 1) := by decide +kernel
theorem d_O_hundredths_75 : decode b_O_hundredths 75 = .ok (.lcmp, 1) := by decide +kernel
theorem d_O_hundredths_76 : decode b_O_hundredths 76 = .ok (.ifCond .ge 9, 3) := by decide +kernel
theorem d_O_hundredths_79 : decode b_O_hundredths 79 = .ok (.lload 8, 2) := by decide +kernel
theorem d_O_hundredths_81 : decode b_O_hundredths 81 = .ok (.lneg, 1) := by decide +kernel
theorem d_O_hundredths_82 : decode b_O_hundredths 82 = .ok (.goto 5, 3) := by decide +kernel
theorem d_O_hundredths_85 : decode b_O_hundredths 85 = .ok (.lload 8, 2) := by decide +kernel
theorem d_O_hundredths_87 : decode b_O_hundredths 87 = .ok (.l2i, 1) := by decide +kernel
theorem d_O_hundredths_88 : decode b_O_hundredths 88 = .ok (.ireturn, 1) := by decide +kernel
theorem d_O_compareRises_0 : decode b_O_compareRises 0 = .ok (.aload_n 0, 1) := by decide +kernel
theorem d_O_compareRises_1 : decode b_O_compareRises 1 = .ok (.iconst 0, 1) := by decide +kernel
theorem d_O_compareRises_2 : decode b_O_compareRises 2 = .ok (.putfield 45, 3) := by decide +kernel
theorem d_O_compareRises_5 : decode b_O_compareRises 5 = .ok (.aload_n 0, 1) := by decide +kernel
theorem d_O_compareRises_6 : decode b_O_compareRises 6 = .ok (.iconst 0, 1) := by decide +kernel
theorem d_O_compareRises_7 : decode b_O_compareRises 7 = .ok (.putfield 48, 3) := by decide +kernel
theorem d_O_compareRises_10 : decode b_O_compareRises 10 = .ok (.aload_n 1, 1) := by decide +kernel
theorem d_O_compareRises_11 : decode b_O_compareRises 11 = .ok (.getfield 9, 3) := by decide +kernel
theorem d_O_compareRises_14 : decode b_O_compareRises 14 = .ok (.aload_n 2, 1) := by decide +kernel
theorem d_O_compareRises_15 : decode b_O_compareRises 15 = .ok (.getfield 9, 3) := by decide +kernel
theorem d_O_compareRises_18 : decode b_O_compareRises 18 = .ok (.aload_n 0, 1) := by decide +kernel
theorem d_O_compareRises_19 : decode b_O_compareRises 19 = .ok (.getfield 28, 3) := by decide +kernel
theorem d_O_compareRises_22 : decode b_O_compareRises 22 = .ok (.iadd, 1) := by decide +kernel
theorem d_O_compareRises_23 : decode b_O_compareRises 23 = .ok (.invokestatic 15, 3) := by decide +kernel
theorem d_O_compareRises_26 : decode b_O_compareRises 26 = .ok (.istore_n 3, 1) := by decide +kernel
theorem d_O_compareRises_27 : decode b_O_compareRises 27 = .ok (.iconst 0, 1) := by decide +kernel
theorem d_O_compareRises_28 : decode b_O_compareRises 28 = .ok (.aload_n 0, 1) := by decide +kernel
theorem d_O_compareRises_29 : decode b_O_compareRises 29 = .ok (.getfield 28, 3) := by decide +kernel
theorem d_O_compareRises_32 : decode b_O_compareRises 32 = .ok (.invokestatic 21, 3) := by decide +kernel
theorem d_O_compareRises_35 : decode b_O_compareRises 35 = .ok (.iconst 1, 1) := by decide +kernel
theorem d_O_compareRises_36 : decode b_O_compareRises 36 = .ok (.iadd, 1) := by decide +kernel
theorem d_O_compareRises_37 : decode b_O_compareRises 37 = .ok (.istore 4, 2) := by decide +kernel
theorem d_O_compareRises_39 : decode b_O_compareRises 39 = .ok (.iload 4, 2) := by decide +kernel
theorem d_O_compareRises_41 : decode b_O_compareRises 41 = .ok (.iload_n 3, 1) := by decide +kernel
theorem d_O_compareRises_42 : decode b_O_compareRises 42 = .ok (.if_icmp .ge 72, 3) := by decide +kernel
theorem d_O_compareRises_45 : decode b_O_compareRises 45 = .ok (.aload_n 0, 1) := by decide +kernel
theorem d_O_compareRises_46 : decode b_O_compareRises 46 = .ok (.aload_n 1, 1) := by decide +kernel
theorem d_O_compareRises_47 : decode b_O_compareRises 47 = .ok (.aload_n 2, 1) := by decide +kernel
theorem d_O_compareRises_48 : decode b_O_compareRises 48 = .ok (.iload 4, 2) := by decide +kernel
theorem d_O_compareRises_50 : decode b_O_compareRises 50 = .ok (.iconst 1, 1) := by decide +kernel
theorem d_O_compareRises_51 : decode b_O_compareRises 51 = .ok (.isub, 1) := by decide +kernel
theorem d_O_compareRises_52 : decode b_O_compareRises 52 = .ok (.invokevirtual 51, 3) := by decide +kernel
theorem d_O_compareRises_55 : decode b_O_compareRises 55 = .ok (.ifCond .eq 53, 3) := by decide +kernel
theorem d_O_compareRises_58 : decode b_O_compareRises 58 = .ok (.aload_n 0, 1) := by decide +kernel
theorem d_O_compareRises_59 : decode b_O_compareRises 59 = .ok (.aload_n 1, 1) := by decide +kernel
theorem d_O_compareRises_60 : decode b_O_compareRises 60 = .ok (.aload_n 2, 1) := by decide +kernel
theorem d_O_compareRises_61 : decode b_O_compareRises 61 = .ok (.iload 4, 2) := by decide +kernel
theorem d_O_compareRises_63 : decode b_O_compareRises 63 = .ok (.invokevirtual 51, 3) := by decide +kernel
theorem d_O_compareRises_66 : decode b_O_compareRises 66 = .ok (.ifCond .eq 42, 3) := by decide +kernel
theorem d_O_compareRises_69 : decode b_O_compareRises 69 = .ok (.aload_n 0, 1) := by decide +kernel
theorem d_O_compareRises_70 : decode b_O_compareRises 70 = .ok (.dup, 1) := by decide +kernel
theorem d_O_compareRises_71 : decode b_O_compareRises 71 = .ok (.getfield 45, 3) := by decide +kernel
theorem d_O_compareRises_74 : decode b_O_compareRises 74 = .ok (.iconst 1, 1) := by decide +kernel
theorem d_O_compareRises_75 : decode b_O_compareRises 75 = .ok (.iadd, 1) := by decide +kernel
theorem d_O_compareRises_76 : decode b_O_compareRises 76 = .ok (.putfield 45, 3) := by decide +kernel
theorem d_O_compareRises_79 : decode b_O_compareRises 79 = .ok (.aload_n 0, 1) := by decide +kernel
theorem d_O_compareRises_80 : decode b_O_compareRises 80 = .ok (.dup, 1) := by decide +kernel
theorem d_O_compareRises_81 : decode b_O_compareRises 81 = .ok (.getfield 48, 3) := by decide +kernel
theorem d_O_compareRises_84 : decode b_O_compareRises 84 = .ok (.aload_n 1, 1) := by decide +kernel
theorem d_O_compareRises_85 : decode b_O_compareRises 85 = .ok (.iload 4, 2) := by decide +kernel
theorem d_O_compareRises_87 : decode b_O_compareRises 87 = .ok (.invokestatic 55, 3) := by decide +kernel
theorem d_O_compareRises_90 : decode b_O_compareRises 90 = .ok (.aload_n 2, 1) := by decide +kernel
theorem d_O_compareRises_91 : decode b_O_compareRises 91 = .ok (.iload 4, 2) := by decide +kernel
theorem d_O_compareRises_93 : decode b_O_compareRises 93 = .ok (.aload_n 0, 1) := by decide +kernel
theorem d_O_compareRises_94 : decode b_O_compareRises 94 = .ok (.getfield 28, 3) := by decide +kernel
theorem d_O_compareRises_97 : decode b_O_compareRises 97 = .ok (.isub, 1) := by decide +kernel
theorem d_O_compareRises_98 : decode b_O_compareRises 98 = .ok (.invokestatic 55, 3) := by decide +kernel
theorem d_O_compareRises_101 : decode b_O_compareRises 101 = .ok (.invokestatic 59, 3) := by decide +kernel
theorem d_O_compareRises_104 : decode b_O_compareRises 104 = .ok (.iadd, 1) := by decide +kernel
theorem d_O_compareRises_105 : decode b_O_compareRises 105 = .ok (.putfield 48, 3) := by decide +kernel
theorem d_O_compareRises_108 : decode b_O_compareRises 108 = .ok (.iinc 4 1, 3) := by decide +kernel
theorem d_O_compareRises_111 : decode b_O_compareRises 111 = .ok (.goto (-72), 3) := by decide +kernel
theorem d_O_compareRises_114 : decode b_O_compareRises 114 = .ok (.return_, 1) := by decide +kernel
theorem d_O_isPair_0 : decode b_O_isPair 0 = .ok (.aload_n 1, 1) := by decide +kernel
theorem d_O_isPair_1 : decode b_O_isPair 1 = .ok (.iload_n 3, 1) := by decide +kernel
theorem d_O_isPair_2 : decode b_O_isPair 2 = .ok (.invokevirtual 62, 3) := by decide +kernel
theorem d_O_isPair_5 : decode b_O_isPair 5 = .ok (.iconst (-1), 1) := by decide +kernel
theorem d_O_isPair_6 : decode b_O_isPair 6 = .ok (.if_icmp .eq 21, 3) := by decide +kernel
theorem d_O_isPair_9 : decode b_O_isPair 9 = .ok (.aload_n 2, 1) := by decide +kernel
theorem d_O_isPair_10 : decode b_O_isPair 10 = .ok (.iload_n 3, 1) := by decide +kernel
theorem d_O_isPair_11 : decode b_O_isPair 11 = .ok (.aload_n 0, 1) := by decide +kernel
theorem d_O_isPair_12 : decode b_O_isPair 12 = .ok (.getfield 28, 3) := by decide +kernel
theorem d_O_isPair_15 : decode b_O_isPair 15 = .ok (.isub, 1) := by decide +kernel
theorem d_O_isPair_16 : decode b_O_isPair 16 = .ok (.invokevirtual 62, 3) := by decide +kernel
theorem d_O_isPair_19 : decode b_O_isPair 19 = .ok (.iconst (-1), 1) := by decide +kernel
theorem d_O_isPair_20 : decode b_O_isPair 20 = .ok (.if_icmp .eq 7, 3) := by decide +kernel
theorem d_O_isPair_23 : decode b_O_isPair 23 = .ok (.iconst 1, 1) := by decide +kernel
theorem d_O_isPair_24 : decode b_O_isPair 24 = .ok (.goto 4, 3) := by decide +kernel
theorem d_O_isPair_27 : decode b_O_isPair 27 = .ok (.iconst 0, 1) := by decide +kernel
theorem d_O_isPair_28 : decode b_O_isPair 28 = .ok (.ireturn, 1) := by decide +kernel
theorem d_O_rise_0 : decode b_O_rise 0 = .ok (.aload_n 0, 1) := by decide +kernel
theorem d_O_rise_1 : decode b_O_rise 1 = .ok (.iload_n 1, 1) := by decide +kernel
theorem d_O_rise_2 : decode b_O_rise 2 = .ok (.iconst 1, 1) := by decide +kernel
theorem d_O_rise_3 : decode b_O_rise 3 = .ok (.isub, 1) := by decide +kernel
theorem d_O_rise_4 : decode b_O_rise 4 = .ok (.invokevirtual 62, 3) := by decide +kernel
theorem d_O_rise_7 : decode b_O_rise 7 = .ok (.istore_n 2, 1) := by decide +kernel
theorem d_O_rise_8 : decode b_O_rise 8 = .ok (.aload_n 0, 1) := by decide +kernel
theorem d_O_rise_9 : decode b_O_rise 9 = .ok (.iload_n 1, 1) := by decide +kernel
theorem d_O_rise_10 : decode b_O_rise 10 = .ok (.invokevirtual 62, 3) := by decide +kernel
theorem d_O_rise_13 : decode b_O_rise 13 = .ok (.istore_n 3, 1) := by decide +kernel
theorem d_O_rise_14 : decode b_O_rise 14 = .ok (.iload_n 3, 1) := by decide +kernel
theorem d_O_rise_15 : decode b_O_rise 15 = .ok (.iload_n 2, 1) := by decide +kernel
theorem d_O_rise_16 : decode b_O_rise 16 = .ok (.if_icmp .le 5, 3) := by decide +kernel
theorem d_O_rise_19 : decode b_O_rise 19 = .ok (.iconst 1, 1) := by decide +kernel
theorem d_O_rise_20 : decode b_O_rise 20 = .ok (.ireturn, 1) := by decide +kernel
theorem d_O_rise_21 : decode b_O_rise 21 = .ok (.iload_n 3, 1) := by decide +kernel
theorem d_O_rise_22 : decode b_O_rise 22 = .ok (.iload_n 2, 1) := by decide +kernel
theorem d_O_rise_23 : decode b_O_rise 23 = .ok (.if_icmp .ge 7, 3) := by decide +kernel
theorem d_O_rise_26 : decode b_O_rise 26 = .ok (.iconst (-1), 1) := by decide +kernel
theorem d_O_rise_27 : decode b_O_rise 27 = .ok (.goto 4, 3) := by decide +kernel
theorem d_O_rise_30 : decode b_O_rise 30 = .ok (.iconst 0, 1) := by decide +kernel
theorem d_O_rise_31 : decode b_O_rise 31 = .ok (.ireturn, 1) := by decide +kernel
theorem d_O_likeness_0 : decode b_O_likeness 0 = .ok (.iload_n 0, 1) := by decide +kernel
theorem d_O_likeness_1 : decode b_O_likeness 1 = .ok (.iload_n 1, 1) := by decide +kernel
theorem d_O_likeness_2 : decode b_O_likeness 2 = .ok (.if_icmp .ne 5, 3) := by decide +kernel
theorem d_O_likeness_5 : decode b_O_likeness 5 = .ok (.iconst 2, 1) := by decide +kernel
theorem d_O_likeness_6 : decode b_O_likeness 6 = .ok (.ireturn, 1) := by decide +kernel
theorem d_O_likeness_7 : decode b_O_likeness 7 = .ok (.iload_n 0, 1) := by decide +kernel
theorem d_O_likeness_8 : decode b_O_likeness 8 = .ok (.ifCond .eq 7, 3) := by decide +kernel
theorem d_O_likeness_11 : decode b_O_likeness 11 = .ok (.iload_n 1, 1) := by decide +kernel
theorem d_O_likeness_12 : decode b_O_likeness 12 = .ok (.ifCond .ne 7, 3) := by decide +kernel
theorem d_O_likeness_15 : decode b_O_likeness 15 = .ok (.iconst 1, 1) := by decide +kernel
theorem d_O_likeness_16 : decode b_O_likeness 16 = .ok (.goto 4, 3) := by decide +kernel
theorem d_O_likeness_19 : decode b_O_likeness 19 = .ok (.iconst 0, 1) := by decide +kernel
theorem d_O_likeness_20 : decode b_O_likeness 20 = .ok (.ireturn, 1) := by decide +kernel
theorem d_O_outranks_0 : decode b_O_outranks 0 = .ok (.aload_n 0, 1) := by decide +kernel
theorem d_O_outranks_1 : decode b_O_outranks 1 = .ok (.getfield 40, 3) := by decide +kernel
theorem d_O_outranks_4 : decode b_O_outranks 4 = .ok (.aload_n 1, 1) := by decide +kernel
theorem d_O_outranks_5 : decode b_O_outranks 5 = .ok (.getfield 40, 3) := by decide +kernel
theorem d_O_outranks_8 : decode b_O_outranks 8 = .ok (.if_icmp .eq 20, 3) := by decide +kernel
theorem d_O_outranks_11 : decode b_O_outranks 11 = .ok (.aload_n 0, 1) := by decide +kernel
theorem d_O_outranks_12 : decode b_O_outranks 12 = .ok (.getfield 40, 3) := by decide +kernel
theorem d_O_outranks_15 : decode b_O_outranks 15 = .ok (.aload_n 1, 1) := by decide +kernel
theorem d_O_outranks_16 : decode b_O_outranks 16 = .ok (.getfield 40, 3) := by decide +kernel
theorem d_O_outranks_19 : decode b_O_outranks 19 = .ok (.if_icmp .le 7, 3) := by decide +kernel
theorem d_O_outranks_22 : decode b_O_outranks 22 = .ok (.iconst 1, 1) := by decide +kernel
theorem d_O_outranks_23 : decode b_O_outranks 23 = .ok (.goto 4, 3) := by decide +kernel
theorem d_O_outranks_26 : decode b_O_outranks 26 = .ok (.iconst 0, 1) := by decide +kernel
theorem d_O_outranks_27 : decode b_O_outranks 27 = .ok (.ireturn, 1) := by decide +kernel
theorem d_O_outranks_28 : decode b_O_outranks 28 = .ok (.aload_n 0, 1) := by decide +kernel
theorem d_O_outranks_29 : decode b_O_outranks 29 = .ok (.getfield 33, 3) := by decide +kernel
theorem d_O_outranks_32 : decode b_O_outranks 32 = .ok (.aload_n 1, 1) := by decide +kernel
theorem d_O_outranks_33 : decode b_O_outranks 33 = .ok (.getfield 33, 3) := by decide +kernel
theorem d_O_outranks_36 : decode b_O_outranks 36 = .ok (.if_icmp .le 7, 3) := by decide +kernel
theorem d_O_outranks_39 : decode b_O_outranks 39 = .ok (.iconst 1, 1) := by decide +kernel
theorem d_O_outranks_40 : decode b_O_outranks 40 = .ok (.goto 4, 3) := by decide +kernel
theorem d_O_outranks_43 : decode b_O_outranks 43 = .ok (.iconst 0, 1) := by decide +kernel
theorem d_O_outranks_44 : decode b_O_outranks 44 = .ok (.ireturn, 1) := by decide +kernel
end
section
theorem d_M_init_0 : decode b_M_init 0 = .ok (.aload_n 0, 1) := by decide +kernel
theorem d_M_init_1 : decode b_M_init 1 = .ok (.invokespecial 1, 3) := by decide +kernel
theorem d_M_init_4 : decode b_M_init 4 = .ok (.aload_n 0, 1) := by decide +kernel
theorem d_M_init_5 : decode b_M_init 5 = .ok (.bipush 100, 2) := by decide +kernel
theorem d_M_init_7 : decode b_M_init 7 = .ok (.newarray .int, 2) := by decide +kernel
theorem d_M_init_9 : decode b_M_init 9 = .ok (.putfield 7, 3) := by decide +kernel
theorem d_M_init_12 : decode b_M_init 12 = .ok (.aload_n 0, 1) := by decide +kernel
theorem d_M_init_13 : decode b_M_init 13 = .ok (.bipush 9, 2) := by decide +kernel
theorem d_M_init_15 : decode b_M_init 15 = .ok (.newarray .int, 2) := by decide +kernel
theorem d_M_init_17 : decode b_M_init 17 = .ok (.putfield 13, 3) := by decide +kernel
theorem d_M_init_20 : decode b_M_init 20 = .ok (.aload_n 0, 1) := by decide +kernel
theorem d_M_init_21 : decode b_M_init 21 = .ok (.sipush 216, 3) := by decide +kernel
theorem d_M_init_24 : decode b_M_init 24 = .ok (.newarray .int, 2) := by decide +kernel
theorem d_M_init_26 : decode b_M_init 26 = .ok (.putfield 16, 3) := by decide +kernel
theorem d_M_init_29 : decode b_M_init 29 = .ok (.aload_n 0, 1) := by decide +kernel
theorem d_M_init_30 : decode b_M_init 30 = .ok (.bipush 48, 2) := by decide +kernel
theorem d_M_init_32 : decode b_M_init 32 = .ok (.newarray .int, 2) := by decide +kernel
theorem d_M_init_34 : decode b_M_init 34 = .ok (.putfield 19, 3) := by decide +kernel
theorem d_M_init_37 : decode b_M_init 37 = .ok (.aload_n 0, 1) := by decide +kernel
theorem d_M_init_38 : decode b_M_init 38 = .ok (.bipush 48, 2) := by decide +kernel
theorem d_M_init_40 : decode b_M_init 40 = .ok (.newarray .int, 2) := by decide +kernel
theorem d_M_init_42 : decode b_M_init 42 = .ok (.putfield 22, 3) := by decide +kernel
theorem d_M_init_45 : decode b_M_init 45 = .ok (.aload_n 0, 1) := by decide +kernel
theorem d_M_init_46 : decode b_M_init 46 = .ok (.bipush 48, 2) := by decide +kernel
theorem d_M_init_48 : decode b_M_init 48 = .ok (.newarray .int, 2) := by decide +kernel
theorem d_M_init_50 : decode b_M_init 50 = .ok (.putfield 25, 3) := by decide +kernel
theorem d_M_init_53 : decode b_M_init 53 = .ok (.return_, 1) := by decide +kernel
theorem d_M_thrown_0 : decode b_M_thrown 0 = .ok (.aload_n 0, 1) := by decide +kernel
theorem d_M_thrown_1 : decode b_M_thrown 1 = .ok (.getfield 28, 3) := by decide +kernel
theorem d_M_thrown_4 : decode b_M_thrown 4 = .ok (.ireturn, 1) := by decide +kernel
theorem d_M_goes_0 : decode b_M_goes 0 = .ok (.aload_n 0, 1) := by decide +kernel
theorem d_M_goes_1 : decode b_M_goes 1 = .ok (.iload_n 1, 1) := by decide +kernel
theorem d_M_goes_2 : decode b_M_goes 2 = .ok (.ifCond .ne 7, 3) := by decide +kernel
theorem d_M_goes_5 : decode b_M_goes 5 = .ok (.iconst 1, 1) := by decide +kernel
theorem d_M_goes_6 : decode b_M_goes 6 = .ok (.goto 20, 3) := by decide +kernel
theorem d_M_goes_9 : decode b_M_goes 9 = .ok (.iload_n 2, 1) := by decide +kernel
theorem d_M_goes_10 : decode b_M_goes 10 = .ok (.ifCond .ne 7, 3) := by decide +kernel
theorem d_M_goes_13 : decode b_M_goes 13 = .ok (.iconst 2, 1) := by decide +kernel
theorem d_M_goes_14 : decode b_M_goes 14 = .ok (.goto 12, 3) := by decide +kernel
theorem d_M_goes_17 : decode b_M_goes 17 = .ok (.iload_n 3, 1) := by decide +kernel
theorem d_M_goes_18 : decode b_M_goes 18 = .ok (.ifCond .ne 7, 3) := by decide +kernel
theorem d_M_goes_21 : decode b_M_goes 21 = .ok (.iconst 3, 1) := by decide +kernel
theorem d_M_goes_22 : decode b_M_goes 22 = .ok (.goto 4, 3) := by decide +kernel
theorem d_M_goes_25 : decode b_M_goes 25 = .ok (.iconst 0, 1) := by decide +kernel
theorem d_M_goes_26 : decode b_M_goes 26 = .ok (.putfield 28, 3) := by decide +kernel
theorem d_M_goes_29 : decode b_M_goes 29 = .ok (.aload_n 0, 1) := by decide +kernel
theorem d_M_goes_30 : decode b_M_goes 30 = .ok (.getfield 28, 3) := by decide +kernel
theorem d_M_goes_33 : decode b_M_goes 33 = .ok (.ifCond .ne 7, 3) := by decide +kernel
theorem d_M_goes_36 : decode b_M_goes 36 = .ok (.iconst 1, 1) := by decide +kernel
theorem d_M_goes_37 : decode b_M_goes 37 = .ok (.goto 4, 3) := by decide +kernel
theorem d_M_goes_40 : decode b_M_goes 40 = .ok (.iconst 0, 1) := by decide +kernel
theorem d_M_goes_41 : decode b_M_goes 41 = .ok (.ireturn, 1) := by decide +kernel
theorem d_M_within_0 : decode b_M_within 0 = .ok (.iload_n 0, 1) := by decide +kernel
theorem d_M_within_1 : decode b_M_within 1 = .ok (.iload_n 1, 1) := by decide +kernel
theorem d_M_within_2 : decode b_M_within 2 = .ok (.if_icmp .lt 12, 3) := by decide +kernel
theorem d_M_within_5 : decode b_M_within 5 = .ok (.iload_n 0, 1) := by decide +kernel
theorem d_M_within_6 : decode b_M_within 6 = .ok (.iload_n 2, 1) := by decide +kernel
theorem d_M_within_7 : decode b_M_within 7 = .ok (.if_icmp .gt 7, 3) := by decide +kernel
theorem d_M_within_10 : decode b_M_within 10 = .ok (.iconst 1, 1) := by decide +kernel
theorem d_M_within_11 : decode b_M_within 11 = .ok (.goto 4, 3) := by decide +kernel
theorem d_M_within_14 : decode b_M_within 14 = .ok (.iconst 0, 1) := by decide +kernel
theorem d_M_within_15 : decode b_M_within 15 = .ok (.ireturn, 1) := by decide +kernel
theorem d_M_isSeries_0 : decode b_M_isSeries 0 = .ok (.iload_n 1, 1) := by decide +kernel
theorem d_M_isSeries_1 : decode b_M_isSeries 1 = .ok (.iconst 0, 1) := by decide +kernel
theorem d_M_isSeries_2 : decode b_M_isSeries 2 = .ok (.aload_n 0, 1) := by decide +kernel
theorem d_M_isSeries_3 : decode b_M_isSeries 3 = .ok (.getfield 32, 3) := by decide +kernel
theorem d_M_isSeries_6 : decode b_M_isSeries 6 = .ok (.iconst 1, 1) := by decide +kernel
theorem d_M_isSeries_7 : decode b_M_isSeries 7 = .ok (.isub, 1) := by decide +kernel
theorem d_M_isSeries_8 : decode b_M_isSeries 8 = .ok (.invokestatic 35, 3) := by decide +kernel
theorem d_M_isSeries_11 : decode b_M_isSeries 11 = .ok (.ireturn, 1) := by decide +kernel
theorem d_M_signs_0 : decode b_M_signs 0 = .ok (.iconst 0, 1) := by decide +kernel
theorem d_M_signs_1 : decode b_M_signs 1 = .ok (.istore_n 1, 1) := by decide +kernel
theorem d_M_signs_2 : decode b_M_signs 2 = .ok (.iconst 0, 1) := by decide +kernel
theorem d_M_signs_3 : decode b_M_signs 3 = .ok (.istore_n 2, 1) := by decide +kernel
theorem d_M_signs_4 : decode b_M_signs 4 = .ok (.iload_n 2, 1) := by decide +kernel
theorem d_M_signs_5 : decode b_M_signs 5 = .ok (.iconst 4, 1) := by decide +kernel
theorem d_M_signs_6 : decode b_M_signs 6 = .ok (.if_icmp .ge 30, 3) := by decide +kernel
theorem d_M_signs_9 : decode b_M_signs 9 = .ok (.iload_n 0, 1) := by decide +kernel
theorem d_M_signs_10 : decode b_M_signs 10 = .ok (.bipush 8, 2) := by decide +kernel
theorem d_M_signs_12 : decode b_M_signs 12 = .ok (.iload_n 2, 1) := by decide +kernel
theorem d_M_signs_13 : decode b_M_signs 13 = .ok (.imul, 1) := by decide +kernel
theorem d_M_signs_14 : decode b_M_signs 14 = .ok (.iushr, 1) := by decide +kernel
theorem d_M_signs_15 : decode b_M_signs 15 = .ok (.sipush 255, 3) := by decide +kernel
theorem d_M_signs_18 : decode b_M_signs 18 = .ok (.iand, 1) := by decide +kernel
theorem d_M_signs_19 : decode b_M_signs 19 = .ok (.ifCond .eq 9, 3) := by decide +kernel
theorem d_M_signs_22 : decode b_M_signs 22 = .ok (.iload_n 1, 1) := by decide +kernel
theorem d_M_signs_23 : decode b_M_signs 23 = .ok (.iconst 1, 1) := by decide +kernel
theorem d_M_signs_24 : decode b_M_signs 24 = .ok (.iadd, 1) := by decide +kernel
theorem d_M_signs_25 : decode b_M_signs 25 = .ok (.goto 4, 3) := by decide +kernel
theorem d_M_signs_28 : decode b_M_signs 28 = .ok (.iload_n 1, 1) := by decide +kernel
theorem d_M_signs_29 : decode b_M_signs 29 = .ok (.istore_n 1, 1) := by decide +kernel
theorem d_M_signs_30 : decode b_M_signs 30 = .ok (.iinc 2 1, 3) := by decide +kernel
theorem d_M_signs_33 : decode b_M_signs 33 = .ok (.goto (-29), 3) := by decide +kernel
theorem d_M_signs_36 : decode b_M_signs 36 = .ok (.iload_n 1, 1) := by decide +kernel
theorem d_M_signs_37 : decode b_M_signs 37 = .ok (.ireturn, 1) := by decide +kernel
theorem d_M_plain_0 : decode b_M_plain 0 = .ok (.iconst 1, 1) := by decide +kernel
theorem d_M_plain_1 : decode b_M_plain 1 = .ok (.istore_n 1, 1) := by decide +kernel
theorem d_M_plain_2 : decode b_M_plain 2 = .ok (.iconst 0, 1) := by decide +kernel
theorem d_M_plain_3 : decode b_M_plain 3 = .ok (.istore_n 2, 1) := by decide +kernel
theorem d_M_plain_4 : decode b_M_plain 4 = .ok (.iload_n 2, 1) := by decide +kernel
theorem d_M_plain_5 : decode b_M_plain 5 = .ok (.iconst 4, 1) := by decide +kernel
theorem d_M_plain_6 : decode b_M_plain 6 = .ok (.if_icmp .ge 45, 3) := by decide +kernel
theorem d_M_plain_9 : decode b_M_plain 9 = .ok (.iload_n 0, 1) := by decide +kernel
theorem d_M_plain_10 : decode b_M_plain 10 = .ok (.bipush 8, 2) := by decide +kernel
theorem d_M_plain_12 : decode b_M_plain 12 = .ok (.iload_n 2, 1) := by decide +kernel
theorem d_M_plain_13 : decode b_M_plain 13 = .ok (.imul, 1) := by decide +kernel
theorem d_M_plain_14 : decode b_M_plain 14 = .ok (.iushr, 1) := by decide +kernel
theorem d_M_plain_15 : decode b_M_plain 15 = .ok (.sipush 255, 3) := by decide +kernel
theorem d_M_plain_18 : decode b_M_plain 18 = .ok (.iand, 1) := by decide +kernel
theorem d_M_plain_19 : decode b_M_plain 19 = .ok (.istore_n 3, 1) := by decide +kernel
theorem d_M_plain_20 : decode b_M_plain 20 = .ok (.iload_n 1, 1) := by decide +kernel
theorem d_M_plain_21 : decode b_M_plain 21 = .ok (.ifCond .eq 22, 3) := by decide +kernel
theorem d_M_plain_24 : decode b_M_plain 24 = .ok (.iload_n 3, 1) := by decide +kernel
theorem d_M_plain_25 : decode b_M_plain 25 = .ok (.ifCond .eq 14, 3) := by decide +kernel
theorem d_M_plain_28 : decode b_M_plain 28 = .ok (.iload_n 3, 1) := by decide +kernel
theorem d_M_plain_29 : decode b_M_plain 29 = .ok (.bipush 32, 2) := by decide +kernel
theorem d_M_plain_31 : decode b_M_plain 31 = .ok (.bipush 126, 2) := by decide +kernel
theorem d_M_plain_33 : decode b_M_plain 33 = .ok (.invokestatic 35, 3) := by decide +kernel
theorem d_M_plain_36 : decode b_M_plain 36 = .ok (.ifCond .eq 7, 3) := by decide +kernel
theorem d_M_plain_39 : decode b_M_plain 39 = .ok (.iconst 1, 1) := by decide +kernel
theorem d_M_plain_40 : decode b_M_plain 40 = .ok (.goto 4, 3) := by decide +kernel
theorem d_M_plain_43 : decode b_M_plain 43 = .ok (.iconst 0, 1) := by decide +kernel
theorem d_M_plain_44 : decode b_M_plain 44 = .ok (.istore_n 1, 1) := by decide +kernel
theorem d_M_plain_45 : decode b_M_plain 45 = .ok (.iinc 2 1, 3) := by decide +kernel
theorem d_M_plain_48 : decode b_M_plain 48 = .ok (.goto (-44), 3) := by decide +kernel
theorem d_M_plain_51 : decode b_M_plain 51 = .ok (.iload_n 1, 1) := by decide +kernel
theorem d_M_plain_52 : decode b_M_plain 52 = .ok (.ireturn, 1) := by decide +kernel
theorem d_M_push_0 : decode b_M_push 0 = .ok (.iconst 0, 1) := by decide +kernel
theorem d_M_push_1 : decode b_M_push 1 = .ok (.istore_n 2, 1) := by decide +kernel
theorem d_M_push_2 : decode b_M_push 2 = .ok (.iload_n 2, 1) := by decide +kernel
theorem d_M_push_3 : decode b_M_push 3 = .ok (.iconst 4, 1) := by decide +kernel
theorem d_M_push_4 : decode b_M_push 4 = .ok (.if_icmp .ge 44, 3) := by decide +kernel
theorem d_M_push_7 : decode b_M_push 7 = .ok (.iload_n 1, 1) := by decide +kernel
theorem d_M_push_8 : decode b_M_push 8 = .ok (.bipush 8, 2) := by decide +kernel
theorem d_M_push_10 : decode b_M_push 10 = .ok (.iload_n 2, 1) := by decide +kernel
theorem d_M_push_11 : decode b_M_push 11 = .ok (.imul, 1) := by decide +kernel
theorem d_M_push_12 : decode b_M_push 12 = .ok (.iushr, 1) := by decide +kernel
theorem d_M_push_13 : decode b_M_push 13 = .ok (.sipush 255, 3) := by decide +kernel
theorem d_M_push_16 : decode b_M_push 16 = .ok (.iand, 1) := by decide +kernel
theorem d_M_push_17 : decode b_M_push 17 = .ok (.istore_n 3, 1) := by decide +kernel
theorem d_M_push_18 : decode b_M_push 18 = .ok (.iload_n 3, 1) := by decide +kernel
theorem d_M_push_19 : decode b_M_push 19 = .ok (.ifCond .eq 23, 3) := by decide +kernel
theorem d_M_push_22 : decode b_M_push 22 = .ok (.aload_n 0, 1) := by decide +kernel
theorem d_M_push_23 : decode b_M_push 23 = .ok (.getfield 7, 3) := by decide +kernel
theorem d_M_push_26 : decode b_M_push 26 = .ok (.aload_n 0, 1) := by decide +kernel
theorem d_M_push_27 : decode b_M_push 27 = .ok (.getfield 39, 3) := by decide +kernel
theorem d_M_push_30 : decode b_M_push 30 = .ok (.iload_n 3, 1) := by decide +kernel
theorem d_M_push_31 : decode b_M_push 31 = .ok (.iastore, 1) := by decide +kernel
theorem d_M_push_32 : decode b_M_push 32 = .ok (.aload_n 0, 1) := by decide +kernel
theorem d_M_push_33 : decode b_M_push 33 = .ok (.dup, 1) := by decide +kernel
theorem d_M_push_34 : decode b_M_push 34 = .ok (.getfield 39, 3) := by decide +kernel
theorem d_M_push_37 : decode b_M_push 37 = .ok (.iconst 1, 1) := by decide +kernel
theorem d_M_push_38 : decode b_M_push 38 = .ok (.iadd, 1) := by decide +kernel
theorem d_M_push_39 : decode b_M_push 39 = .ok (.putfield 39, 3) := by decide +kernel
theorem d_M_push_42 : decode b_M_push 42 = .ok (.iinc 2 1, 3) := by decide +kernel
theorem d_M_push_45 : decode b_M_push 45 = .ok (.goto (-43), 3) := by decide +kernel
theorem d_M_push_48 : decode b_M_push 48 = .ok (.return_, 1) := by decide +kernel
theorem d_M_unit_0 : decode b_M_unit 0 = .ok (.aload_n 0, 1) := by decide +kernel
theorem d_M_unit_1 : decode b_M_unit 1 = .ok (.iload_n 1, 1) := by decide +kernel
theorem d_M_unit_2 : decode b_M_unit 2 = .ok (.invokestatic 42, 3) := by decide +kernel
theorem d_M_unit_5 : decode b_M_unit 5 = .ok (.ifCond .eq 14, 3) := by decide +kernel
theorem d_M_unit_8 : decode b_M_unit 8 = .ok (.iload_n 2, 1) := by decide +kernel
theorem d_M_unit_9 : decode b_M_unit 9 = .ok (.invokestatic 42, 3) := by decide +kernel
theorem d_M_unit_12 : decode b_M_unit 12 = .ok (.ifCond .eq 7, 3) := by decide +kernel
theorem d_M_unit_15 : decode b_M_unit 15 = .ok (.iconst 1, 1) := by decide +kernel
theorem d_M_unit_16 : decode b_M_unit 16 = .ok (.goto 4, 3) := by decide +kernel
theorem d_M_unit_19 : decode b_M_unit 19 = .ok (.iconst 0, 1) := by decide +kernel
theorem d_M_unit_20 : decode b_M_unit 20 = .ok (.aload_n 0, 1) := by decide +kernel
theorem d_M_unit_21 : decode b_M_unit 21 = .ok (.getfield 39, 3) := by decide +kernel
theorem d_M_unit_24 : decode b_M_unit 24 = .ok (.iload_n 1, 1) := by decide +kernel
theorem d_M_unit_25 : decode b_M_unit 25 = .ok (.invokestatic 46, 3) := by decide +kernel
theorem d_M_unit_28 : decode b_M_unit 28 = .ok (.iadd, 1) := by decide +kernel
theorem d_M_unit_29 : decode b_M_unit 29 = .ok (.iload_n 2, 1) := by decide +kernel
theorem d_M_unit_30 : decode b_M_unit 30 = .ok (.invokestatic 46, 3) := by decide +kernel
theorem d_M_unit_33 : decode b_M_unit 33 = .ok (.iadd, 1) := by decide +kernel
theorem d_M_unit_34 : decode b_M_unit 34 = .ok (.bipush 100, 2) := by decide +kernel
theorem d_M_unit_36 : decode b_M_unit 36 = .ok (.if_icmp .gt 7, 3) := by decide +kernel
theorem d_M_unit_39 : decode b_M_unit 39 = .ok (.iconst 1, 1) := by decide +kernel
theorem d_M_unit_40 : decode b_M_unit 40 = .ok (.goto 4, 3) := by decide +kernel
theorem d_M_unit_43 : decode b_M_unit 43 = .ok (.iconst 0, 1) := by decide +kernel
theorem d_M_unit_44 : decode b_M_unit 44 = .ok (.iconst 1, 1) := by decide +kernel
theorem d_M_unit_45 : decode b_M_unit 45 = .ok (.invokevirtual 50, 3) := by decide +kernel
theorem d_M_unit_48 : decode b_M_unit 48 = .ok (.ifCond .ne 5, 3) := by decide +kernel
theorem d_M_unit_51 : decode b_M_unit 51 = .ok (.iconst 0, 1) := by decide +kernel
theorem d_M_unit_52 : decode b_M_unit 52 = .ok (.ireturn, 1) := by decide +kernel
theorem d_M_unit_53 : decode b_M_unit 53 = .ok (.aload_n 0, 1) := by decide +kernel
theorem d_M_unit_54 : decode b_M_unit 54 = .ok (.iload_n 1, 1) := by decide +kernel
theorem d_M_unit_55 : decode b_M_unit 55 = .ok (.invokevirtual 54, 3) := by decide +kernel
theorem d_M_unit_58 : decode b_M_unit 58 = .ok (.aload_n 0, 1) := by decide +kernel
theorem d_M_unit_59 : decode b_M_unit 59 = .ok (.iload_n 2, 1) := by decide +kernel
theorem d_M_unit_60 : decode b_M_unit 60 = .ok (.invokevirtual 54, 3) := by decide +kernel
theorem d_M_unit_63 : decode b_M_unit 63 = .ok (.aload_n 0, 1) := by decide +kernel
theorem d_M_unit_64 : decode b_M_unit 64 = .ok (.getfield 39, 3) := by decide +kernel
theorem d_M_unit_67 : decode b_M_unit 67 = .ok (.ireturn, 1) := by decide +kernel
theorem d_M_fault_0 : decode b_M_fault 0 = .ok (.iconst (-1), 1) := by decide +kernel
theorem d_M_fault_1 : decode b_M_fault 1 = .ok (.istore_n 1, 1) := by decide +kernel
theorem d_M_fault_2 : decode b_M_fault 2 = .ok (.iconst 0, 1) := by decide +kernel
theorem d_M_fault_3 : decode b_M_fault 3 = .ok (.istore_n 2, 1) := by decide +kernel
theorem d_M_fault_4 : decode b_M_fault 4 = .ok (.iconst 0, 1) := by decide +kernel
theorem d_M_fault_5 : decode b_M_fault 5 = .ok (.istore_n 3, 1) := by decide +kernel
theorem d_M_fault_6 : decode b_M_fault 6 = .ok (.iload_n 3, 1) := by decide +kernel
theorem d_M_fault_7 : decode b_M_fault 7 = .ok (.aload_n 0, 1) := by decide +kernel
theorem d_M_fault_8 : decode b_M_fault 8 = .ok (.getfield 39, 3) := by decide +kernel
theorem d_M_fault_11 : decode b_M_fault 11 = .ok (.if_icmp .ge 180, 3) := by decide +kernel
theorem d_M_fault_14 : decode b_M_fault 14 = .ok (.aload_n 0, 1) := by decide +kernel
theorem d_M_fault_15 : decode b_M_fault 15 = .ok (.getfield 7, 3) := by decide +kernel
theorem d_M_fault_18 : decode b_M_fault 18 = .ok (.iload_n 3, 1) := by decide +kernel
theorem d_M_fault_19 : decode b_M_fault 19 = .ok (.iaload, 1) := by decide +kernel
theorem d_M_fault_20 : decode b_M_fault 20 = .ok (.istore 4, 2) := by decide +kernel
theorem d_M_fault_22 : decode b_M_fault 22 = .ok (.iload 4, 2) := by decide +kernel
theorem d_M_fault_24 : decode b_M_fault 24 = .ok (.bipush 32, 2) := by decide +kernel
theorem d_M_fault_26 : decode b_M_fault 26 = .ok (.if_icmp .ne 26, 3) := by decide +kernel
theorem d_M_fault_29 : decode b_M_fault 29 = .ok (.iload_n 1, 1) := by decide +kernel
theorem d_M_fault_30 : decode b_M_fault 30 = .ok (.iconst (-1), 1) := by decide +kernel
theorem d_M_fault_31 : decode b_M_fault 31 = .ok (.if_icmp .eq 13, 3) := by decide +kernel
theorem d_M_fault_34 : decode b_M_fault 34 = .ok (.iload_n 2, 1) := by decide +kernel
theorem d_M_fault_35 : decode b_M_fault 35 = .ok (.bipush 24, 2) := by decide +kernel
theorem d_M_fault_37 : decode b_M_fault 37 = .ok (.if_icmp .ge 7, 3) := by decide +kernel
theorem d_M_fault_40 : decode b_M_fault 40 = .ok (.iconst 1, 1) := by decide +kernel
theorem d_M_fault_41 : decode b_M_fault 41 = .ok (.goto 4, 3) := by decide +kernel
theorem d_M_fault_44 : decode b_M_fault 44 = .ok (.iconst 0, 1) := by decide +kernel
theorem d_M_fault_45 : decode b_M_fault 45 = .ok (.istore 5, 2) := by decide +kernel
theorem d_M_fault_47 : decode b_M_fault 47 = .ok (.iconst (-1), 1) := by decide +kernel
theorem d_M_fault_48 : decode b_M_fault 48 = .ok (.istore_n 1, 1) := by decide +kernel
theorem d_M_fault_49 : decode b_M_fault 49 = .ok (.goto 107, 3) := by decide +kernel
theorem d_M_fault_52 : decode b_M_fault 52 = .ok (.iload_n 1, 1) := by decide +kernel
theorem d_M_fault_53 : decode b_M_fault 53 = .ok (.iconst (-1), 1) := by decide +kernel
theorem d_M_fault_54 : decode b_M_fault 54 = .ok (.if_icmp .ne 52, 3) := by decide +kernel
theorem d_M_fault_57 : decode b_M_fault 57 = .ok (.iload 4, 2) := by decide +kernel
theorem d_M_fault_59 : decode b_M_fault 59 = .ok (.bipush 45, 2) := by decide +kernel
theorem d_M_fault_61 : decode b_M_fault 61 = .ok (.if_icmp .eq 15, 3) := by decide +kernel
theorem d_M_fault_64 : decode b_M_fault 64 = .ok (.iload 4, 2) := by decide +kernel
theorem d_M_fault_66 : decode b_M_fault 66 = .ok (.bipush 49, 2) := by decide +kernel
theorem d_M_fault_68 : decode b_M_fault 68 = .ok (.bipush 57, 2) := by decide +kernel
theorem d_M_fault_70 : decode b_M_fault 70 = .ok (.invokestatic 35, 3) := by decide +kernel
theorem d_M_fault_73 : decode b_M_fault 73 = .ok (.ifCond .eq 7, 3) := by decide +kernel
theorem d_M_fault_76 : decode b_M_fault 76 = .ok (.iconst 1, 1) := by decide +kernel
theorem d_M_fault_77 : decode b_M_fault 77 = .ok (.goto 4, 3) := by decide +kernel
theorem d_M_fault_80 : decode b_M_fault 80 = .ok (.iconst 0, 1) := by decide +kernel
theorem d_M_fault_81 : decode b_M_fault 81 = .ok (.istore 5, 2) := by decide +kernel
theorem d_M_fault_83 : decode b_M_fault 83 = .ok (.iload 4, 2) := by decide +kernel
theorem d_M_fault_85 : decode b_M_fault 85 = .ok (.bipush 45, 2) := by decide +kernel
theorem d_M_fault_87 : decode b_M_fault 87 = .ok (.if_icmp .ne 7, 3) := by decide +kernel
theorem d_M_fault_90 : decode b_M_fault 90 = .ok (.iconst 0, 1) := by decide +kernel
theorem d_M_fault_91 : decode b_M_fault 91 = .ok (.goto 8, 3) := by decide +kernel
theorem d_M_fault_94 : decode b_M_fault 94 = .ok (.iload 4, 2) := by decide +kernel
theorem d_M_fault_96 : decode b_M_fault 96 = .ok (.bipush 48, 2) := by decide +kernel
theorem d_M_fault_98 : decode b_M_fault 98 = .ok (.isub, 1) := by decide +kernel
theorem d_M_fault_99 : decode b_M_fault 99 = .ok (.istore_n 1, 1) := by decide +kernel
theorem d_M_fault_100 : decode b_M_fault 100 = .ok (.iinc 2 1, 3) := by decide +kernel
theorem d_M_fault_103 : decode b_M_fault 103 = .ok (.goto 53, 3) := by decide +kernel
theorem d_M_fault_106 : decode b_M_fault 106 = .ok (.iload 4, 2) := by decide +kernel
theorem d_M_fault_108 : decode b_M_fault 108 = .ok (.bipush 48, 2) := by decide +kernel
theorem d_M_fault_110 : decode b_M_fault 110 = .ok (.bipush 57, 2) := by decide +kernel
theorem d_M_fault_112 : decode b_M_fault 112 = .ok (.invokestatic 35, 3) := by decide +kernel
theorem d_M_fault_115 : decode b_M_fault 115 = .ok (.ifCond .eq 27, 3) := by decide +kernel
theorem d_M_fault_118 : decode b_M_fault 118 = .ok (.iload_n 1, 1) := by decide +kernel
theorem d_M_fault_119 : decode b_M_fault 119 = .ok (.ifCond .le 23, 3) := by decide +kernel
theorem d_M_fault_122 : decode b_M_fault 122 = .ok (.bipush 10, 2) := by decide +kernel
theorem d_M_fault_124 : decode b_M_fault 124 = .ok (.iload_n 1, 1) := by decide +kernel
theorem d_M_fault_125 : decode b_M_fault 125 = .ok (.imul, 1) := by decide +kernel
theorem d_M_fault_126 : decode b_M_fault 126 = .ok (.iload 4, 2) := by decide +kernel
theorem d_M_fault_128 : decode b_M_fault 128 = .ok (.iadd, 1) := by decide +kernel
theorem d_M_fault_129 : decode b_M_fault 129 = .ok (.bipush 48, 2) := by decide +kernel
theorem d_M_fault_131 : decode b_M_fault 131 = .ok (.isub, 1) := by decide +kernel
theorem d_M_fault_132 : decode b_M_fault 132 = .ok (.sipush 500, 3) := by decide +kernel
theorem d_M_fault_135 : decode b_M_fault 135 = .ok (.if_icmp .gt 7, 3) := by decide +kernel
theorem d_M_fault_138 : decode b_M_fault 138 = .ok (.iconst 1, 1) := by decide +kernel
theorem d_M_fault_139 : decode b_M_fault 139 = .ok (.goto 4, 3) := by decide +kernel
theorem d_M_fault_142 : decode b_M_fault 142 = .ok (.iconst 0, 1) := by decide +kernel
theorem d_M_fault_143 : decode b_M_fault 143 = .ok (.istore 5, 2) := by decide +kernel
theorem d_M_fault_145 : decode b_M_fault 145 = .ok (.bipush 10, 2) := by decide +kernel
theorem d_M_fault_147 : decode b_M_fault 147 = .ok (.iload_n 1, 1) := by decide +kernel
theorem d_M_fault_148 : decode b_M_fault 148 = .ok (.imul, 1) := by decide +kernel
theorem d_M_fault_149 : decode b_M_fault 149 = .ok (.iload 4, 2) := by decide +kernel
theorem d_M_fault_151 : decode b_M_fault 151 = .ok (.iadd, 1) := by decide +kernel
theorem d_M_fault_152 : decode b_M_fault 152 = .ok (.bipush 48, 2) := by decide +kernel
theorem d_M_fault_154 : decode b_M_fault 154 = .ok (.isub, 1) := by decide +kernel
theorem d_M_fault_155 : decode b_M_fault 155 = .ok (.istore_n 1, 1) := by decide +kernel
theorem d_M_fault_156 : decode b_M_fault 156 = .ok (.iload 5, 2) := by decide +kernel
theorem d_M_fault_158 : decode b_M_fault 158 = .ok (.ifCond .ne 5, 3) := by decide +kernel
theorem d_M_fault_161 : decode b_M_fault 161 = .ok (.iload_n 3, 1) := by decide +kernel
theorem d_M_fault_162 : decode b_M_fault 162 = .ok (.ireturn, 1) := by decide +kernel
theorem d_M_fault_163 : decode b_M_fault 163 = .ok (.iload_n 1, 1) := by decide +kernel
theorem d_M_fault_164 : decode b_M_fault 164 = .ok (.iconst (-1), 1) := by decide +kernel
theorem d_M_fault_165 : decode b_M_fault 165 = .ok (.if_icmp .eq 20, 3) := by decide +kernel
theorem d_M_fault_168 : decode b_M_fault 168 = .ok (.aload_n 0, 1) := by decide +kernel
theorem d_M_fault_169 : decode b_M_fault 169 = .ok (.getfield 16, 3) := by decide +kernel
theorem d_M_fault_172 : decode b_M_fault 172 = .ok (.bipush 24, 2) := by decide +kernel
theorem d_M_fault_174 : decode b_M_fault 174 = .ok (.aload_n 0, 1) := by decide +kernel
theorem d_M_fault_175 : decode b_M_fault 175 = .ok (.getfield 32, 3) := by decide +kernel
theorem d_M_fault_178 : decode b_M_fault 178 = .ok (.imul, 1) := by decide +kernel
theorem d_M_fault_179 : decode b_M_fault 179 = .ok (.iload_n 2, 1) := by decide +kernel
theorem d_M_fault_180 : decode b_M_fault 180 = .ok (.iadd, 1) := by decide +kernel
theorem d_M_fault_181 : decode b_M_fault 181 = .ok (.iconst 1, 1) := by decide +kernel
theorem d_M_fault_182 : decode b_M_fault 182 = .ok (.isub, 1) := by decide +kernel
theorem d_M_fault_183 : decode b_M_fault 183 = .ok (.iload_n 1, 1) := by decide +kernel
theorem d_M_fault_184 : decode b_M_fault 184 = .ok (.iastore, 1) := by decide +kernel
theorem d_M_fault_185 : decode b_M_fault 185 = .ok (.iinc 3 1, 3) := by decide +kernel
theorem d_M_fault_188 : decode b_M_fault 188 = .ok (.goto (-182), 3) := by decide +kernel
theorem d_M_fault_191 : decode b_M_fault 191 = .ok (.aload_n 0, 1) := by decide +kernel
theorem d_M_fault_192 : decode b_M_fault 192 = .ok (.getfield 13, 3) := by decide +kernel
theorem d_M_fault_195 : decode b_M_fault 195 = .ok (.aload_n 0, 1) := by decide +kernel
theorem d_M_fault_196 : decode b_M_fault 196 = .ok (.getfield 32, 3) := by decide +kernel
theorem d_M_fault_199 : decode b_M_fault 199 = .ok (.iload_n 2, 1) := by decide +kernel
theorem d_M_fault_200 : decode b_M_fault 200 = .ok (.iastore, 1) := by decide +kernel
theorem d_M_fault_201 : decode b_M_fault 201 = .ok (.iload_n 1, 1) := by decide +kernel
theorem d_M_fault_202 : decode b_M_fault 202 = .ok (.iconst (-1), 1) := by decide +kernel
theorem d_M_fault_203 : decode b_M_fault 203 = .ok (.if_icmp .ne 10, 3) := by decide +kernel
theorem d_M_fault_206 : decode b_M_fault 206 = .ok (.aload_n 0, 1) := by decide +kernel
theorem d_M_fault_207 : decode b_M_fault 207 = .ok (.getfield 39, 3) := by decide +kernel
theorem d_M_fault_210 : decode b_M_fault 210 = .ok (.goto 4, 3) := by decide +kernel
theorem d_M_fault_213 : decode b_M_fault 213 = .ok (.iconst (-1), 1) := by decide +kernel
theorem d_M_fault_214 : decode b_M_fault 214 = .ok (.ireturn, 1) := by decide +kernel
theorem d_M_read_0 : decode b_M_read 0 = .ok (.aload_n 0, 1) := by decide +kernel
theorem d_M_read_1 : decode b_M_read 1 = .ok (.aload_n 0, 1) := by decide +kernel
theorem d_M_read_2 : decode b_M_read 2 = .ok (.getfield 32, 3) := by decide +kernel
theorem d_M_read_5 : decode b_M_read 5 = .ok (.bipush 8, 2) := by decide +kernel
theorem d_M_read_7 : decode b_M_read 7 = .ok (.if_icmp .ge 7, 3) := by decide +kernel
theorem d_M_read_10 : decode b_M_read 10 = .ok (.iconst 1, 1) := by decide +kernel
theorem d_M_read_11 : decode b_M_read 11 = .ok (.goto 4, 3) := by decide +kernel
theorem d_M_read_14 : decode b_M_read 14 = .ok (.iconst 0, 1) := by decide +kernel
theorem d_M_read_15 : decode b_M_read 15 = .ok (.iconst 1, 1) := by decide +kernel
theorem d_M_read_16 : decode b_M_read 16 = .ok (.iconst 1, 1) := by decide +kernel
theorem d_M_read_17 : decode b_M_read 17 = .ok (.invokevirtual 50, 3) := by decide +kernel
theorem d_M_read_20 : decode b_M_read 20 = .ok (.ifCond .ne 5, 3) := by decide +kernel
theorem d_M_read_23 : decode b_M_read 23 = .ok (.iconst 0, 1) := by decide +kernel
theorem d_M_read_24 : decode b_M_read 24 = .ok (.ireturn, 1) := by decide +kernel
theorem d_M_read_25 : decode b_M_read 25 = .ok (.aload_n 0, 1) := by decide +kernel
theorem d_M_read_26 : decode b_M_read 26 = .ok (.invokevirtual 58, 3) := by decide +kernel
theorem d_M_read_29 : decode b_M_read 29 = .ok (.istore_n 1, 1) := by decide +kernel
theorem d_M_read_30 : decode b_M_read 30 = .ok (.aload_n 0, 1) := by decide +kernel
theorem d_M_read_31 : decode b_M_read 31 = .ok (.iconst 0, 1) := by decide +kernel
theorem d_M_read_32 : decode b_M_read 32 = .ok (.putfield 39, 3) := by decide +kernel
theorem d_M_read_35 : decode b_M_read 35 = .ok (.iload_n 1, 1) := by decide +kernel
theorem d_M_read_36 : decode b_M_read 36 = .ok (.iconst (-1), 1) := by decide +kernel
theorem d_M_read_37 : decode b_M_read 37 = .ok (.if_icmp .eq 7, 3) := by decide +kernel
theorem d_M_read_40 : decode b_M_read 40 = .ok (.iconst (-1), 1) := by decide +kernel
theorem d_M_read_41 : decode b_M_read 41 = .ok (.iload_n 1, 1) := by decide +kernel
theorem d_M_read_42 : decode b_M_read 42 = .ok (.isub, 1) := by decide +kernel
theorem d_M_read_43 : decode b_M_read 43 = .ok (.ireturn, 1) := by decide +kernel
theorem d_M_read_44 : decode b_M_read 44 = .ok (.aload_n 0, 1) := by decide +kernel
theorem d_M_read_45 : decode b_M_read 45 = .ok (.dup, 1) := by decide +kernel
theorem d_M_read_46 : decode b_M_read 46 = .ok (.getfield 32, 3) := by decide +kernel
theorem d_M_read_49 : decode b_M_read 49 = .ok (.iconst 1, 1) := by decide +kernel
theorem d_M_read_50 : decode b_M_read 50 = .ok (.iadd, 1) := by decide +kernel
theorem d_M_read_51 : decode b_M_read 51 = .ok (.putfield 32, 3) := by decide +kernel
theorem d_M_read_54 : decode b_M_read 54 = .ok (.aload_n 0, 1) := by decide +kernel
theorem d_M_read_55 : decode b_M_read 55 = .ok (.getfield 32, 3) := by decide +kernel
theorem d_M_read_58 : decode b_M_read 58 = .ok (.iconst 1, 1) := by decide +kernel
theorem d_M_read_59 : decode b_M_read 59 = .ok (.isub, 1) := by decide +kernel
theorem d_M_read_60 : decode b_M_read 60 = .ok (.ireturn, 1) := by decide +kernel
theorem d_M_widthOf_0 : decode b_M_widthOf 0 = .ok (.aload_n 0, 1) := by decide +kernel
theorem d_M_widthOf_1 : decode b_M_widthOf 1 = .ok (.getfield 16, 3) := by decide +kernel
theorem d_M_widthOf_4 : decode b_M_widthOf 4 = .ok (.bipush 24, 2) := by decide +kernel
theorem d_M_widthOf_6 : decode b_M_widthOf 6 = .ok (.iload_n 1, 1) := by decide +kernel
theorem d_M_widthOf_7 : decode b_M_widthOf 7 = .ok (.imul, 1) := by decide +kernel
theorem d_M_widthOf_8 : decode b_M_widthOf 8 = .ok (.iload_n 2, 1) := by decide +kernel
theorem d_M_widthOf_9 : decode b_M_widthOf 9 = .ok (.iadd, 1) := by decide +kernel
theorem d_M_widthOf_10 : decode b_M_widthOf 10 = .ok (.iaload, 1) := by decide +kernel
theorem d_M_widthOf_11 : decode b_M_widthOf 11 = .ok (.ireturn, 1) := by decide +kernel
theorem d_M_width_0 : decode b_M_width 0 = .ok (.aload_n 0, 1) := by decide +kernel
theorem d_M_width_1 : decode b_M_width 1 = .ok (.aload_n 0, 1) := by decide +kernel
theorem d_M_width_2 : decode b_M_width 2 = .ok (.iload_n 1, 1) := by decide +kernel
theorem d_M_width_3 : decode b_M_width 3 = .ok (.invokevirtual 62, 3) := by decide +kernel
theorem d_M_width_6 : decode b_M_width 6 = .ok (.ifCond .eq 35, 3) := by decide +kernel
theorem d_M_width_9 : decode b_M_width 9 = .ok (.iload_n 2, 1) := by decide +kernel
theorem d_M_width_10 : decode b_M_width 10 = .ok (.iconst (-1), 1) := by decide +kernel
theorem d_M_width_11 : decode b_M_width 11 = .ok (.aload_n 0, 1) := by decide +kernel
theorem d_M_width_12 : decode b_M_width 12 = .ok (.iload_n 1, 1) := by decide +kernel
theorem d_M_width_13 : decode b_M_width 13 = .ok (.invokevirtual 62, 3) := by decide +kernel
theorem d_M_width_16 : decode b_M_width 16 = .ok (.ifCond .eq 14, 3) := by decide +kernel
theorem d_M_width_19 : decode b_M_width 19 = .ok (.aload_n 0, 1) := by decide +kernel
theorem d_M_width_20 : decode b_M_width 20 = .ok (.getfield 13, 3) := by decide +kernel
theorem d_M_width_23 : decode b_M_width 23 = .ok (.iload_n 1, 1) := by decide +kernel
theorem d_M_width_24 : decode b_M_width 24 = .ok (.iaload, 1) := by decide +kernel
theorem d_M_width_25 : decode b_M_width 25 = .ok (.iconst 1, 1) := by decide +kernel
theorem d_M_width_26 : decode b_M_width 26 = .ok (.isub, 1) := by decide +kernel
theorem d_M_width_27 : decode b_M_width 27 = .ok (.goto 4, 3) := by decide +kernel
theorem d_M_width_30 : decode b_M_width 30 = .ok (.iconst (-1), 1) := by decide +kernel
theorem d_M_width_31 : decode b_M_width 31 = .ok (.invokestatic 35, 3) := by decide +kernel
theorem d_M_width_34 : decode b_M_width 34 = .ok (.ifCond .eq 7, 3) := by decide +kernel
theorem d_M_width_37 : decode b_M_width 37 = .ok (.iconst 1, 1) := by decide +kernel
theorem d_M_width_38 : decode b_M_width 38 = .ok (.goto 4, 3) := by decide +kernel
theorem d_M_width_41 : decode b_M_width 41 = .ok (.iconst 0, 1) := by decide +kernel
theorem d_M_width_42 : decode b_M_width 42 = .ok (.iconst 1, 1) := by decide +kernel
theorem d_M_width_43 : decode b_M_width 43 = .ok (.iconst 1, 1) := by decide +kernel
theorem d_M_width_44 : decode b_M_width 44 = .ok (.invokevirtual 50, 3) := by decide +kernel
theorem d_M_width_47 : decode b_M_width 47 = .ok (.ifCond .ne 5, 3) := by decide +kernel
theorem d_M_width_50 : decode b_M_width 50 = .ok (.iconst 0, 1) := by decide +kernel
theorem d_M_width_51 : decode b_M_width 51 = .ok (.ireturn, 1) := by decide +kernel
theorem d_M_width_52 : decode b_M_width 52 = .ok (.iload_n 2, 1) := by decide +kernel
theorem d_M_width_53 : decode b_M_width 53 = .ok (.iconst (-1), 1) := by decide +kernel
theorem d_M_width_54 : decode b_M_width 54 = .ok (.if_icmp .ne 12, 3) := by decide +kernel
theorem d_M_width_57 : decode b_M_width 57 = .ok (.aload_n 0, 1) := by decide +kernel
theorem d_M_width_58 : decode b_M_width 58 = .ok (.getfield 13, 3) := by decide +kernel
theorem d_M_width_61 : decode b_M_width 61 = .ok (.iload_n 1, 1) := by decide +kernel
theorem d_M_width_62 : decode b_M_width 62 = .ok (.iaload, 1) := by decide +kernel
theorem d_M_width_63 : decode b_M_width 63 = .ok (.goto 22, 3) := by decide +kernel
theorem d_M_width_66 : decode b_M_width 66 = .ok (.aload_n 0, 1) := by decide +kernel
theorem d_M_width_67 : decode b_M_width 67 = .ok (.iload_n 1, 1) := by decide +kernel
theorem d_M_width_68 : decode b_M_width 68 = .ok (.iload_n 2, 1) := by decide +kernel
theorem d_M_width_69 : decode b_M_width 69 = .ok (.invokevirtual 65, 3) := by decide +kernel
theorem d_M_width_72 : decode b_M_width 72 = .ok (.ifCond .ne 7, 3) := by decide +kernel
theorem d_M_width_75 : decode b_M_width 75 = .ok (.iconst (-1), 1) := by decide +kernel
theorem d_M_width_76 : decode b_M_width 76 = .ok (.goto 9, 3) := by decide +kernel
theorem d_M_width_79 : decode b_M_width 79 = .ok (.aload_n 0, 1) := by decide +kernel
theorem d_M_width_80 : decode b_M_width 80 = .ok (.iload_n 1, 1) := by decide +kernel
theorem d_M_width_81 : decode b_M_width 81 = .ok (.iload_n 2, 1) := by decide +kernel
theorem d_M_width_82 : decode b_M_width 82 = .ok (.invokevirtual 65, 3) := by decide +kernel
theorem d_M_width_85 : decode b_M_width 85 = .ok (.ireturn, 1) := by decide +kernel
theorem d_M_room_0 : decode b_M_room 0 = .ok (.aload_n 0, 1) := by decide +kernel
theorem d_M_room_1 : decode b_M_room 1 = .ok (.iload_n 1, 1) := by decide +kernel
theorem d_M_room_2 : decode b_M_room 2 = .ok (.iload_n 2, 1) := by decide +kernel
theorem d_M_room_3 : decode b_M_room 3 = .ok (.invokevirtual 65, 3) := by decide +kernel
theorem d_M_room_6 : decode b_M_room 6 = .ok (.istore_n 3, 1) := by decide +kernel
theorem d_M_room_7 : decode b_M_room 7 = .ok (.iload_n 3, 1) := by decide +kernel
theorem d_M_room_8 : decode b_M_room 8 = .ok (.bipush 99, 2) := by decide +kernel
theorem d_M_room_10 : decode b_M_room 10 = .ok (.if_icmp .le 7, 3) := by decide +kernel
theorem d_M_room_13 : decode b_M_room 13 = .ok (.iconst 3, 1) := by decide +kernel
theorem d_M_room_14 : decode b_M_room 14 = .ok (.goto 14, 3) := by decide +kernel
theorem d_M_room_17 : decode b_M_room 17 = .ok (.iload_n 3, 1) := by decide +kernel
theorem d_M_room_18 : decode b_M_room 18 = .ok (.bipush 9, 2) := by decide +kernel
theorem d_M_room_20 : decode b_M_room 20 = .ok (.if_icmp .le 7, 3) := by decide +kernel
theorem d_M_room_23 : decode b_M_room 23 = .ok (.iconst 2, 1) := by decide +kernel
theorem d_M_room_24 : decode b_M_room 24 = .ok (.goto 4, 3) := by decide +kernel
theorem d_M_room_27 : decode b_M_room 27 = .ok (.iconst 1, 1) := by decide +kernel
theorem d_M_room_28 : decode b_M_room 28 = .ok (.ireturn, 1) := by decide +kernel
theorem d_M_written_0 : decode b_M_written 0 = .ok (.iconst (-1), 1) := by decide +kernel
theorem d_M_written_1 : decode b_M_written 1 = .ok (.istore_n 3, 1) := by decide +kernel
theorem d_M_written_2 : decode b_M_written 2 = .ok (.iconst 0, 1) := by decide +kernel
theorem d_M_written_3 : decode b_M_written 3 = .ok (.istore 4, 2) := by decide +kernel
theorem d_M_written_5 : decode b_M_written 5 = .ok (.iconst 0, 1) := by decide +kernel
theorem d_M_written_6 : decode b_M_written 6 = .ok (.istore 5, 2) := by decide +kernel
theorem d_M_written_8 : decode b_M_written 8 = .ok (.iconst 0, 1) := by decide +kernel
theorem d_M_written_9 : decode b_M_written 9 = .ok (.istore 6, 2) := by decide +kernel
theorem d_M_written_11 : decode b_M_written 11 = .ok (.aload_n 0, 1) := by decide +kernel
theorem d_M_written_12 : decode b_M_written 12 = .ok (.iload_n 1, 1) := by decide +kernel
theorem d_M_written_13 : decode b_M_written 13 = .ok (.invokevirtual 62, 3) := by decide +kernel
theorem d_M_written_16 : decode b_M_written 16 = .ok (.ifCond .eq 61, 3) := by decide +kernel
theorem d_M_written_19 : decode b_M_written 19 = .ok (.iload 6, 2) := by decide +kernel
theorem d_M_written_21 : decode b_M_written 21 = .ok (.aload_n 0, 1) := by decide +kernel
theorem d_M_written_22 : decode b_M_written 22 = .ok (.getfield 13, 3) := by decide +kernel
theorem d_M_written_25 : decode b_M_written 25 = .ok (.iload_n 1, 1) := by decide +kernel
theorem d_M_written_26 : decode b_M_written 26 = .ok (.iaload, 1) := by decide +kernel
theorem d_M_written_27 : decode b_M_written 27 = .ok (.if_icmp .ge 50, 3) := by decide +kernel
theorem d_M_written_30 : decode b_M_written 30 = .ok (.iload_n 3, 1) := by decide +kernel
theorem d_M_written_31 : decode b_M_written 31 = .ok (.iconst 1, 1) := by decide +kernel
theorem d_M_written_32 : decode b_M_written 32 = .ok (.iadd, 1) := by decide +kernel
theorem d_M_written_33 : decode b_M_written 33 = .ok (.istore_n 3, 1) := by decide +kernel
theorem d_M_written_34 : decode b_M_written 34 = .ok (.iload_n 2, 1) := by decide +kernel
theorem d_M_written_35 : decode b_M_written 35 = .ok (.iload_n 3, 1) := by decide +kernel
theorem d_M_written_36 : decode b_M_written 36 = .ok (.if_icmp .lt 8, 3) := by decide +kernel
theorem d_M_written_39 : decode b_M_written 39 = .ok (.iload 6, 2) := by decide +kernel
theorem d_M_written_41 : decode b_M_written 41 = .ok (.goto 5, 3) := by decide +kernel
theorem d_M_written_44 : decode b_M_written 44 = .ok (.iload 5, 2) := by decide +kernel
theorem d_M_written_46 : decode b_M_written 46 = .ok (.istore 5, 2) := by decide +kernel
theorem d_M_written_48 : decode b_M_written 48 = .ok (.iload_n 2, 1) := by decide +kernel
theorem d_M_written_49 : decode b_M_written 49 = .ok (.iload_n 3, 1) := by decide +kernel
theorem d_M_written_50 : decode b_M_written 50 = .ok (.if_icmp .lt 7, 3) := by decide +kernel
theorem d_M_written_53 : decode b_M_written 53 = .ok (.iload_n 3, 1) := by decide +kernel
theorem d_M_written_54 : decode b_M_written 54 = .ok (.goto 5, 3) := by decide +kernel
theorem d_M_written_57 : decode b_M_written 57 = .ok (.iload 4, 2) := by decide +kernel
theorem d_M_written_59 : decode b_M_written 59 = .ok (.istore 4, 2) := by decide +kernel
theorem d_M_written_61 : decode b_M_written 61 = .ok (.iload_n 3, 1) := by decide +kernel
theorem d_M_written_62 : decode b_M_written 62 = .ok (.aload_n 0, 1) := by decide +kernel
theorem d_M_written_63 : decode b_M_written 63 = .ok (.iload_n 1, 1) := by decide +kernel
theorem d_M_written_64 : decode b_M_written 64 = .ok (.iload 6, 2) := by decide +kernel
theorem d_M_written_66 : decode b_M_written 66 = .ok (.invokevirtual 69, 3) := by decide +kernel
theorem d_M_written_69 : decode b_M_written 69 = .ok (.iadd, 1) := by decide +kernel
theorem d_M_written_70 : decode b_M_written 70 = .ok (.istore_n 3, 1) := by decide +kernel
theorem d_M_written_71 : decode b_M_written 71 = .ok (.iinc 6 1, 3) := by decide +kernel
theorem d_M_written_74 : decode b_M_written 74 = .ok (.goto (-63), 3) := by decide +kernel
theorem d_M_written_77 : decode b_M_written 77 = .ok (.aload_n 0, 1) := by decide +kernel
theorem d_M_written_78 : decode b_M_written 78 = .ok (.aload_n 0, 1) := by decide +kernel
theorem d_M_written_79 : decode b_M_written 79 = .ok (.iload_n 1, 1) := by decide +kernel
theorem d_M_written_80 : decode b_M_written 80 = .ok (.invokevirtual 62, 3) := by decide +kernel
theorem d_M_written_83 : decode b_M_written 83 = .ok (.ifCond .eq 17, 3) := by decide +kernel
theorem d_M_written_86 : decode b_M_written 86 = .ok (.iload_n 2, 1) := by decide +kernel
theorem d_M_written_87 : decode b_M_written 87 = .ok (.iconst (-1), 1) := by decide +kernel
theorem d_M_written_88 : decode b_M_written 88 = .ok (.if_icmp .lt 12, 3) := by decide +kernel
theorem d_M_written_91 : decode b_M_written 91 = .ok (.iload_n 2, 1) := by decide +kernel
theorem d_M_written_92 : decode b_M_written 92 = .ok (.iload_n 3, 1) := by decide +kernel
theorem d_M_written_93 : decode b_M_written 93 = .ok (.if_icmp .ge 7, 3) := by decide +kernel
theorem d_M_written_96 : decode b_M_written 96 = .ok (.iconst 1, 1) := by decide +kernel
theorem d_M_written_97 : decode b_M_written 97 = .ok (.goto 4, 3) := by decide +kernel
theorem d_M_written_100 : decode b_M_written 100 = .ok (.iconst 0, 1) := by decide +kernel
theorem d_M_written_101 : decode b_M_written 101 = .ok (.iconst 1, 1) := by decide +kernel
theorem d_M_written_102 : decode b_M_written 102 = .ok (.iconst 1, 1) := by decide +kernel
theorem d_M_written_103 : decode b_M_written 103 = .ok (.invokevirtual 50, 3) := by decide +kernel
theorem d_M_written_106 : decode b_M_written 106 = .ok (.ifCond .ne 5, 3) := by decide +kernel
theorem d_M_written_109 : decode b_M_written 109 = .ok (.iconst 0, 1) := by decide +kernel
theorem d_M_written_110 : decode b_M_written 110 = .ok (.ireturn, 1) := by decide +kernel
theorem d_M_written_111 : decode b_M_written 111 = .ok (.iload_n 2, 1) := by decide +kernel
theorem d_M_written_112 : decode b_M_written 112 = .ok (.iconst (-1), 1) := by decide +kernel
theorem d_M_written_113 : decode b_M_written 113 = .ok (.if_icmp .ne 5, 3) := by decide +kernel
theorem d_M_written_116 : decode b_M_written 116 = .ok (.iload_n 3, 1) := by decide +kernel
theorem d_M_written_117 : decode b_M_written 117 = .ok (.ireturn, 1) := by decide +kernel
theorem d_M_written_118 : decode b_M_written 118 = .ok (.iload_n 2, 1) := by decide +kernel
theorem d_M_written_119 : decode b_M_written 119 = .ok (.iload 4, 2) := by decide +kernel
end
section
theorem d_M_written_121 : decode b_M_written 121 = .ok (.isub, 1) := by decide +kernel
theorem d_M_written_122 : decode b_M_written 122 = .ok (.istore 6, 2) := by decide +kernel
theorem d_M_written_124 : decode b_M_written 124 = .ok (.aload_n 0, 1) := by decide +kernel
theorem d_M_written_125 : decode b_M_written 125 = .ok (.iload_n 1, 1) := by decide +kernel
theorem d_M_written_126 : decode b_M_written 126 = .ok (.iload 5, 2) := by decide +kernel
theorem d_M_written_128 : decode b_M_written 128 = .ok (.invokevirtual 65, 3) := by decide +kernel
theorem d_M_written_131 : decode b_M_written 131 = .ok (.istore 7, 2) := by decide +kernel
theorem d_M_written_133 : decode b_M_written 133 = .ok (.aload_n 0, 1) := by decide +kernel
theorem d_M_written_134 : decode b_M_written 134 = .ok (.iload_n 1, 1) := by decide +kernel
theorem d_M_written_135 : decode b_M_written 135 = .ok (.iload 5, 2) := by decide +kernel
theorem d_M_written_137 : decode b_M_written 137 = .ok (.invokevirtual 69, 3) := by decide +kernel
theorem d_M_written_140 : decode b_M_written 140 = .ok (.iload 6, 2) := by decide +kernel
theorem d_M_written_142 : decode b_M_written 142 = .ok (.isub, 1) := by decide +kernel
theorem d_M_written_143 : decode b_M_written 143 = .ok (.iconst 3, 1) := by decide +kernel
theorem d_M_written_144 : decode b_M_written 144 = .ok (.if_icmp .ne 8, 3) := by decide +kernel
theorem d_M_written_147 : decode b_M_written 147 = .ok (.bipush 100, 2) := by decide +kernel
theorem d_M_written_149 : decode b_M_written 149 = .ok (.goto 23, 3) := by decide +kernel
theorem d_M_written_152 : decode b_M_written 152 = .ok (.aload_n 0, 1) := by decide +kernel
theorem d_M_written_153 : decode b_M_written 153 = .ok (.iload_n 1, 1) := by decide +kernel
theorem d_M_written_154 : decode b_M_written 154 = .ok (.iload 5, 2) := by decide +kernel
theorem d_M_written_156 : decode b_M_written 156 = .ok (.invokevirtual 69, 3) := by decide +kernel
theorem d_M_written_159 : decode b_M_written 159 = .ok (.iload 6, 2) := by decide +kernel
theorem d_M_written_161 : decode b_M_written 161 = .ok (.isub, 1) := by decide +kernel
theorem d_M_written_162 : decode b_M_written 162 = .ok (.iconst 2, 1) := by decide +kernel
theorem d_M_written_163 : decode b_M_written 163 = .ok (.if_icmp .ne 8, 3) := by decide +kernel
theorem d_M_written_166 : decode b_M_written 166 = .ok (.bipush 10, 2) := by decide +kernel
theorem d_M_written_168 : decode b_M_written 168 = .ok (.goto 4, 3) := by decide +kernel
theorem d_M_written_171 : decode b_M_written 171 = .ok (.iconst 1, 1) := by decide +kernel
theorem d_M_written_172 : decode b_M_written 172 = .ok (.istore 8, 2) := by decide +kernel
theorem d_M_written_174 : decode b_M_written 174 = .ok (.iload 6, 2) := by decide +kernel
theorem d_M_written_176 : decode b_M_written 176 = .ok (.aload_n 0, 1) := by decide +kernel
theorem d_M_written_177 : decode b_M_written 177 = .ok (.iload_n 1, 1) := by decide +kernel
theorem d_M_written_178 : decode b_M_written 178 = .ok (.iload 5, 2) := by decide +kernel
theorem d_M_written_180 : decode b_M_written 180 = .ok (.invokevirtual 69, 3) := by decide +kernel
theorem d_M_written_183 : decode b_M_written 183 = .ok (.if_icmp .ne 8, 3) := by decide +kernel
theorem d_M_written_186 : decode b_M_written 186 = .ok (.bipush 32, 2) := by decide +kernel
theorem d_M_written_188 : decode b_M_written 188 = .ok (.goto 24, 3) := by decide +kernel
theorem d_M_written_191 : decode b_M_written 191 = .ok (.iload 7, 2) := by decide +kernel
theorem d_M_written_193 : decode b_M_written 193 = .ok (.ifCond .ne 8, 3) := by decide +kernel
theorem d_M_written_196 : decode b_M_written 196 = .ok (.bipush 45, 2) := by decide +kernel
theorem d_M_written_198 : decode b_M_written 198 = .ok (.goto 14, 3) := by decide +kernel
theorem d_M_written_201 : decode b_M_written 201 = .ok (.bipush 48, 2) := by decide +kernel
theorem d_M_written_203 : decode b_M_written 203 = .ok (.iload 7, 2) := by decide +kernel
theorem d_M_written_205 : decode b_M_written 205 = .ok (.iload 8, 2) := by decide +kernel
theorem d_M_written_207 : decode b_M_written 207 = .ok (.idiv, 1) := by decide +kernel
theorem d_M_written_208 : decode b_M_written 208 = .ok (.bipush 10, 2) := by decide +kernel
theorem d_M_written_210 : decode b_M_written 210 = .ok (.irem, 1) := by decide +kernel
theorem d_M_written_211 : decode b_M_written 211 = .ok (.iadd, 1) := by decide +kernel
theorem d_M_written_212 : decode b_M_written 212 = .ok (.ireturn, 1) := by decide +kernel
theorem d_M_even_0 : decode b_M_even 0 = .ok (.iconst 0, 1) := by decide +kernel
theorem d_M_even_1 : decode b_M_even 1 = .ok (.istore_n 3, 1) := by decide +kernel
theorem d_M_even_2 : decode b_M_even 2 = .ok (.iconst 0, 1) := by decide +kernel
theorem d_M_even_3 : decode b_M_even 3 = .ok (.istore 4, 2) := by decide +kernel
theorem d_M_even_5 : decode b_M_even 5 = .ok (.iload_n 2, 1) := by decide +kernel
theorem d_M_even_6 : decode b_M_even 6 = .ok (.iconst 2, 1) := by decide +kernel
theorem d_M_even_7 : decode b_M_even 7 = .ok (.isub, 1) := by decide +kernel
theorem d_M_even_8 : decode b_M_even 8 = .ok (.istore 5, 2) := by decide +kernel
theorem d_M_even_10 : decode b_M_even 10 = .ok (.iload 5, 2) := by decide +kernel
theorem d_M_even_12 : decode b_M_even 12 = .ok (.iload_n 2, 1) := by decide +kernel
theorem d_M_even_13 : decode b_M_even 13 = .ok (.iconst 2, 1) := by decide +kernel
theorem d_M_even_14 : decode b_M_even 14 = .ok (.iadd, 1) := by decide +kernel
theorem d_M_even_15 : decode b_M_even 15 = .ok (.if_icmp .gt 77, 3) := by decide +kernel
theorem d_M_even_18 : decode b_M_even 18 = .ok (.iload 5, 2) := by decide +kernel
theorem d_M_even_20 : decode b_M_even 20 = .ok (.ifCond .lt 28, 3) := by decide +kernel
theorem d_M_even_23 : decode b_M_even 23 = .ok (.iload 5, 2) := by decide +kernel
theorem d_M_even_25 : decode b_M_even 25 = .ok (.aload_n 0, 1) := by decide +kernel
theorem d_M_even_26 : decode b_M_even 26 = .ok (.getfield 13, 3) := by decide +kernel
theorem d_M_even_29 : decode b_M_even 29 = .ok (.iload_n 1, 1) := by decide +kernel
theorem d_M_even_30 : decode b_M_even 30 = .ok (.iaload, 1) := by decide +kernel
theorem d_M_even_31 : decode b_M_even 31 = .ok (.if_icmp .ge 17, 3) := by decide +kernel
theorem d_M_even_34 : decode b_M_even 34 = .ok (.aload_n 0, 1) := by decide +kernel
theorem d_M_even_35 : decode b_M_even 35 = .ok (.iload_n 1, 1) := by decide +kernel
theorem d_M_even_36 : decode b_M_even 36 = .ok (.iload 5, 2) := by decide +kernel
theorem d_M_even_38 : decode b_M_even 38 = .ok (.invokevirtual 65, 3) := by decide +kernel
theorem d_M_even_41 : decode b_M_even 41 = .ok (.ifCond .le 7, 3) := by decide +kernel
theorem d_M_even_44 : decode b_M_even 44 = .ok (.iconst 1, 1) := by decide +kernel
theorem d_M_even_45 : decode b_M_even 45 = .ok (.goto 4, 3) := by decide +kernel
theorem d_M_even_48 : decode b_M_even 48 = .ok (.iconst 0, 1) := by decide +kernel
theorem d_M_even_49 : decode b_M_even 49 = .ok (.istore 6, 2) := by decide +kernel
theorem d_M_even_51 : decode b_M_even 51 = .ok (.iload 6, 2) := by decide +kernel
theorem d_M_even_53 : decode b_M_even 53 = .ok (.ifCond .eq 15, 3) := by decide +kernel
theorem d_M_even_56 : decode b_M_even 56 = .ok (.iload_n 3, 1) := by decide +kernel
theorem d_M_even_57 : decode b_M_even 57 = .ok (.aload_n 0, 1) := by decide +kernel
theorem d_M_even_58 : decode b_M_even 58 = .ok (.iload_n 1, 1) := by decide +kernel
theorem d_M_even_59 : decode b_M_even 59 = .ok (.iload 5, 2) := by decide +kernel
theorem d_M_even_61 : decode b_M_even 61 = .ok (.invokevirtual 65, 3) := by decide +kernel
theorem d_M_even_64 : decode b_M_even 64 = .ok (.iadd, 1) := by decide +kernel
theorem d_M_even_65 : decode b_M_even 65 = .ok (.goto 4, 3) := by decide +kernel
theorem d_M_even_68 : decode b_M_even 68 = .ok (.iload_n 3, 1) := by decide +kernel
theorem d_M_even_69 : decode b_M_even 69 = .ok (.istore_n 3, 1) := by decide +kernel
theorem d_M_even_70 : decode b_M_even 70 = .ok (.iload 6, 2) := by decide +kernel
theorem d_M_even_72 : decode b_M_even 72 = .ok (.ifCond .eq 10, 3) := by decide +kernel
theorem d_M_even_75 : decode b_M_even 75 = .ok (.iload 4, 2) := by decide +kernel
theorem d_M_even_77 : decode b_M_even 77 = .ok (.iconst 1, 1) := by decide +kernel
theorem d_M_even_78 : decode b_M_even 78 = .ok (.iadd, 1) := by decide +kernel
theorem d_M_even_79 : decode b_M_even 79 = .ok (.goto 5, 3) := by decide +kernel
theorem d_M_even_82 : decode b_M_even 82 = .ok (.iload 4, 2) := by decide +kernel
theorem d_M_even_84 : decode b_M_even 84 = .ok (.istore 4, 2) := by decide +kernel
theorem d_M_even_86 : decode b_M_even 86 = .ok (.iinc 5 1, 3) := by decide +kernel
theorem d_M_even_89 : decode b_M_even 89 = .ok (.goto (-79), 3) := by decide +kernel
theorem d_M_even_92 : decode b_M_even 92 = .ok (.aload_n 0, 1) := by decide +kernel
theorem d_M_even_93 : decode b_M_even 93 = .ok (.iload_n 1, 1) := by decide +kernel
theorem d_M_even_94 : decode b_M_even 94 = .ok (.iload_n 2, 1) := by decide +kernel
theorem d_M_even_95 : decode b_M_even 95 = .ok (.invokevirtual 65, 3) := by decide +kernel
theorem d_M_even_98 : decode b_M_even 98 = .ok (.ifCond .ne 5, 3) := by decide +kernel
theorem d_M_even_101 : decode b_M_even 101 = .ok (.iconst (-1), 1) := by decide +kernel
theorem d_M_even_102 : decode b_M_even 102 = .ok (.ireturn, 1) := by decide +kernel
theorem d_M_even_103 : decode b_M_even 103 = .ok (.bipush 100, 2) := by decide +kernel
theorem d_M_even_105 : decode b_M_even 105 = .ok (.aload_n 0, 1) := by decide +kernel
theorem d_M_even_106 : decode b_M_even 106 = .ok (.iload_n 1, 1) := by decide +kernel
theorem d_M_even_107 : decode b_M_even 107 = .ok (.iload_n 2, 1) := by decide +kernel
theorem d_M_even_108 : decode b_M_even 108 = .ok (.invokevirtual 65, 3) := by decide +kernel
theorem d_M_even_111 : decode b_M_even 111 = .ok (.imul, 1) := by decide +kernel
theorem d_M_even_112 : decode b_M_even 112 = .ok (.iload 4, 2) := by decide +kernel
theorem d_M_even_114 : decode b_M_even 114 = .ok (.imul, 1) := by decide +kernel
theorem d_M_even_115 : decode b_M_even 115 = .ok (.iload_n 3, 1) := by decide +kernel
theorem d_M_even_116 : decode b_M_even 116 = .ok (.idiv, 1) := by decide +kernel
theorem d_M_even_117 : decode b_M_even 117 = .ok (.istore 5, 2) := by decide +kernel
theorem d_M_even_119 : decode b_M_even 119 = .ok (.iload 5, 2) := by decide +kernel
theorem d_M_even_121 : decode b_M_even 121 = .ok (.sipush 200, 3) := by decide +kernel
theorem d_M_even_124 : decode b_M_even 124 = .ok (.if_icmp .le 9, 3) := by decide +kernel
theorem d_M_even_127 : decode b_M_even 127 = .ok (.sipush 200, 3) := by decide +kernel
theorem d_M_even_130 : decode b_M_even 130 = .ok (.goto 5, 3) := by decide +kernel
theorem d_M_even_133 : decode b_M_even 133 = .ok (.iload 5, 2) := by decide +kernel
theorem d_M_even_135 : decode b_M_even 135 = .ok (.ireturn, 1) := by decide +kernel
theorem d_M_evened_0 : decode b_M_evened 0 = .ok (.aload_n 0, 1) := by decide +kernel
theorem d_M_evened_1 : decode b_M_evened 1 = .ok (.aload_n 0, 1) := by decide +kernel
theorem d_M_evened_2 : decode b_M_evened 2 = .ok (.iload_n 1, 1) := by decide +kernel
theorem d_M_evened_3 : decode b_M_evened 3 = .ok (.invokevirtual 62, 3) := by decide +kernel
theorem d_M_evened_6 : decode b_M_evened 6 = .ok (.ifCond .eq 35, 3) := by decide +kernel
theorem d_M_evened_9 : decode b_M_evened 9 = .ok (.iload_n 2, 1) := by decide +kernel
theorem d_M_evened_10 : decode b_M_evened 10 = .ok (.iconst 0, 1) := by decide +kernel
theorem d_M_evened_11 : decode b_M_evened 11 = .ok (.aload_n 0, 1) := by decide +kernel
theorem d_M_evened_12 : decode b_M_evened 12 = .ok (.iload_n 1, 1) := by decide +kernel
theorem d_M_evened_13 : decode b_M_evened 13 = .ok (.invokevirtual 62, 3) := by decide +kernel
theorem d_M_evened_16 : decode b_M_evened 16 = .ok (.ifCond .eq 14, 3) := by decide +kernel
theorem d_M_evened_19 : decode b_M_evened 19 = .ok (.aload_n 0, 1) := by decide +kernel
theorem d_M_evened_20 : decode b_M_evened 20 = .ok (.getfield 13, 3) := by decide +kernel
theorem d_M_evened_23 : decode b_M_evened 23 = .ok (.iload_n 1, 1) := by decide +kernel
theorem d_M_evened_24 : decode b_M_evened 24 = .ok (.iaload, 1) := by decide +kernel
theorem d_M_evened_25 : decode b_M_evened 25 = .ok (.iconst 1, 1) := by decide +kernel
theorem d_M_evened_26 : decode b_M_evened 26 = .ok (.isub, 1) := by decide +kernel
theorem d_M_evened_27 : decode b_M_evened 27 = .ok (.goto 4, 3) := by decide +kernel
theorem d_M_evened_30 : decode b_M_evened 30 = .ok (.iconst (-1), 1) := by decide +kernel
theorem d_M_evened_31 : decode b_M_evened 31 = .ok (.invokestatic 35, 3) := by decide +kernel
theorem d_M_evened_34 : decode b_M_evened 34 = .ok (.ifCond .eq 7, 3) := by decide +kernel
theorem d_M_evened_37 : decode b_M_evened 37 = .ok (.iconst 1, 1) := by decide +kernel
theorem d_M_evened_38 : decode b_M_evened 38 = .ok (.goto 4, 3) := by decide +kernel
theorem d_M_evened_41 : decode b_M_evened 41 = .ok (.iconst 0, 1) := by decide +kernel
theorem d_M_evened_42 : decode b_M_evened 42 = .ok (.iconst 1, 1) := by decide +kernel
theorem d_M_evened_43 : decode b_M_evened 43 = .ok (.iconst 1, 1) := by decide +kernel
theorem d_M_evened_44 : decode b_M_evened 44 = .ok (.invokevirtual 50, 3) := by decide +kernel
theorem d_M_evened_47 : decode b_M_evened 47 = .ok (.ifCond .eq 12, 3) := by decide +kernel
theorem d_M_evened_50 : decode b_M_evened 50 = .ok (.aload_n 0, 1) := by decide +kernel
theorem d_M_evened_51 : decode b_M_evened 51 = .ok (.iload_n 1, 1) := by decide +kernel
theorem d_M_evened_52 : decode b_M_evened 52 = .ok (.iload_n 2, 1) := by decide +kernel
theorem d_M_evened_53 : decode b_M_evened 53 = .ok (.invokevirtual 72, 3) := by decide +kernel
theorem d_M_evened_56 : decode b_M_evened 56 = .ok (.goto 4, 3) := by decide +kernel
theorem d_M_evened_59 : decode b_M_evened 59 = .ok (.iconst 0, 1) := by decide +kernel
theorem d_M_evened_60 : decode b_M_evened 60 = .ok (.ireturn, 1) := by decide +kernel
theorem d_M_isPair_0 : decode b_M_isPair 0 = .ok (.iload 4, 2) := by decide +kernel
theorem d_M_isPair_2 : decode b_M_isPair 2 = .ok (.iload_n 3, 1) := by decide +kernel
theorem d_M_isPair_3 : decode b_M_isPair 3 = .ok (.iadd, 1) := by decide +kernel
theorem d_M_isPair_4 : decode b_M_isPair 4 = .ok (.istore 5, 2) := by decide +kernel
theorem d_M_isPair_6 : decode b_M_isPair 6 = .ok (.iload 4, 2) := by decide +kernel
theorem d_M_isPair_8 : decode b_M_isPair 8 = .ok (.ifCond .lt 54, 3) := by decide +kernel
theorem d_M_isPair_11 : decode b_M_isPair 11 = .ok (.iload 4, 2) := by decide +kernel
theorem d_M_isPair_13 : decode b_M_isPair 13 = .ok (.aload_n 0, 1) := by decide +kernel
theorem d_M_isPair_14 : decode b_M_isPair 14 = .ok (.getfield 13, 3) := by decide +kernel
theorem d_M_isPair_17 : decode b_M_isPair 17 = .ok (.iload_n 2, 1) := by decide +kernel
theorem d_M_isPair_18 : decode b_M_isPair 18 = .ok (.iaload, 1) := by decide +kernel
theorem d_M_isPair_19 : decode b_M_isPair 19 = .ok (.if_icmp .ge 43, 3) := by decide +kernel
theorem d_M_isPair_22 : decode b_M_isPair 22 = .ok (.iload 5, 2) := by decide +kernel
theorem d_M_isPair_24 : decode b_M_isPair 24 = .ok (.ifCond .lt 38, 3) := by decide +kernel
theorem d_M_isPair_27 : decode b_M_isPair 27 = .ok (.iload 5, 2) := by decide +kernel
theorem d_M_isPair_29 : decode b_M_isPair 29 = .ok (.aload_n 0, 1) := by decide +kernel
theorem d_M_isPair_30 : decode b_M_isPair 30 = .ok (.getfield 13, 3) := by decide +kernel
theorem d_M_isPair_33 : decode b_M_isPair 33 = .ok (.iload_n 1, 1) := by decide +kernel
theorem d_M_isPair_34 : decode b_M_isPair 34 = .ok (.iaload, 1) := by decide +kernel
theorem d_M_isPair_35 : decode b_M_isPair 35 = .ok (.if_icmp .ge 27, 3) := by decide +kernel
theorem d_M_isPair_38 : decode b_M_isPair 38 = .ok (.aload_n 0, 1) := by decide +kernel
theorem d_M_isPair_39 : decode b_M_isPair 39 = .ok (.iload_n 2, 1) := by decide +kernel
theorem d_M_isPair_40 : decode b_M_isPair 40 = .ok (.iload 4, 2) := by decide +kernel
theorem d_M_isPair_42 : decode b_M_isPair 42 = .ok (.invokevirtual 65, 3) := by decide +kernel
theorem d_M_isPair_45 : decode b_M_isPair 45 = .ok (.ifCond .le 17, 3) := by decide +kernel
theorem d_M_isPair_48 : decode b_M_isPair 48 = .ok (.aload_n 0, 1) := by decide +kernel
theorem d_M_isPair_49 : decode b_M_isPair 49 = .ok (.iload_n 1, 1) := by decide +kernel
theorem d_M_isPair_50 : decode b_M_isPair 50 = .ok (.iload 5, 2) := by decide +kernel
theorem d_M_isPair_52 : decode b_M_isPair 52 = .ok (.invokevirtual 65, 3) := by decide +kernel
theorem d_M_isPair_55 : decode b_M_isPair 55 = .ok (.ifCond .le 7, 3) := by decide +kernel
theorem d_M_isPair_58 : decode b_M_isPair 58 = .ok (.iconst 1, 1) := by decide +kernel
theorem d_M_isPair_59 : decode b_M_isPair 59 = .ok (.goto 4, 3) := by decide +kernel
theorem d_M_isPair_62 : decode b_M_isPair 62 = .ok (.iconst 0, 1) := by decide +kernel
theorem d_M_isPair_63 : decode b_M_isPair 63 = .ok (.ireturn, 1) := by decide +kernel
theorem d_M_correlate_0 : decode b_M_correlate 0 = .ok (.lconst 0, 1) := by decide +kernel
theorem d_M_correlate_1 : decode b_M_correlate 1 = .ok (.lstore 4, 2) := by decide +kernel
theorem d_M_correlate_3 : decode b_M_correlate 3 = .ok (.lconst 0, 1) := by decide +kernel
theorem d_M_correlate_4 : decode b_M_correlate 4 = .ok (.lstore 6, 2) := by decide +kernel
theorem d_M_correlate_6 : decode b_M_correlate 6 = .ok (.lconst 0, 1) := by decide +kernel
theorem d_M_correlate_7 : decode b_M_correlate 7 = .ok (.lstore 8, 2) := by decide +kernel
theorem d_M_correlate_9 : decode b_M_correlate 9 = .ok (.lconst 0, 1) := by decide +kernel
theorem d_M_correlate_10 : decode b_M_correlate 10 = .ok (.lstore 10, 2) := by decide +kernel
theorem d_M_correlate_12 : decode b_M_correlate 12 = .ok (.lconst 0, 1) := by decide +kernel
theorem d_M_correlate_13 : decode b_M_correlate 13 = .ok (.lstore 12, 2) := by decide +kernel
theorem d_M_correlate_15 : decode b_M_correlate 15 = .ok (.aload_n 0, 1) := by decide +kernel
theorem d_M_correlate_16 : decode b_M_correlate 16 = .ok (.iconst 0, 1) := by decide +kernel
theorem d_M_correlate_17 : decode b_M_correlate 17 = .ok (.putfield 75, 3) := by decide +kernel
theorem d_M_correlate_20 : decode b_M_correlate 20 = .ok (.aload_n 0, 1) := by decide +kernel
theorem d_M_correlate_21 : decode b_M_correlate 21 = .ok (.iconst 0, 1) := by decide +kernel
theorem d_M_correlate_22 : decode b_M_correlate 22 = .ok (.putfield 78, 3) := by decide +kernel
theorem d_M_correlate_25 : decode b_M_correlate 25 = .ok (.aload_n 0, 1) := by decide +kernel
theorem d_M_correlate_26 : decode b_M_correlate 26 = .ok (.iconst 0, 1) := by decide +kernel
theorem d_M_correlate_27 : decode b_M_correlate 27 = .ok (.putfield 81, 3) := by decide +kernel
theorem d_M_correlate_30 : decode b_M_correlate 30 = .ok (.iconst 0, 1) := by decide +kernel
theorem d_M_correlate_31 : decode b_M_correlate 31 = .ok (.istore 14, 2) := by decide +kernel
theorem d_M_correlate_33 : decode b_M_correlate 33 = .ok (.iload 14, 2) := by decide +kernel
theorem d_M_correlate_35 : decode b_M_correlate 35 = .ok (.aload_n 0, 1) := by decide +kernel
theorem d_M_correlate_36 : decode b_M_correlate 36 = .ok (.getfield 13, 3) := by decide +kernel
theorem d_M_correlate_39 : decode b_M_correlate 39 = .ok (.iload_n 2, 1) := by decide +kernel
theorem d_M_correlate_40 : decode b_M_correlate 40 = .ok (.iaload, 1) := by decide +kernel
theorem d_M_correlate_41 : decode b_M_correlate 41 = .ok (.if_icmp .ge 149, 3) := by decide +kernel
theorem d_M_correlate_44 : decode b_M_correlate 44 = .ok (.aload_n 0, 1) := by decide +kernel
theorem d_M_correlate_45 : decode b_M_correlate 45 = .ok (.iload_n 1, 1) := by decide +kernel
theorem d_M_correlate_46 : decode b_M_correlate 46 = .ok (.iload_n 2, 1) := by decide +kernel
theorem d_M_correlate_47 : decode b_M_correlate 47 = .ok (.iload_n 3, 1) := by decide +kernel
theorem d_M_correlate_48 : decode b_M_correlate 48 = .ok (.iload 14, 2) := by decide +kernel
theorem d_M_correlate_50 : decode b_M_correlate 50 = .ok (.invokevirtual 84, 3) := by decide +kernel
theorem d_M_correlate_53 : decode b_M_correlate 53 = .ok (.ifCond .eq 131, 3) := by decide +kernel
theorem d_M_correlate_56 : decode b_M_correlate 56 = .ok (.aload_n 0, 1) := by decide +kernel
theorem d_M_correlate_57 : decode b_M_correlate 57 = .ok (.iload_n 1, 1) := by decide +kernel
theorem d_M_correlate_58 : decode b_M_correlate 58 = .ok (.iload 14, 2) := by decide +kernel
theorem d_M_correlate_60 : decode b_M_correlate 60 = .ok (.iload_n 3, 1) := by decide +kernel
theorem d_M_correlate_61 : decode b_M_correlate 61 = .ok (.iadd, 1) := by decide +kernel
theorem d_M_correlate_62 : decode b_M_correlate 62 = .ok (.invokevirtual 72, 3) := by decide +kernel
theorem d_M_correlate_65 : decode b_M_correlate 65 = .ok (.i2l, 1) := by decide +kernel
theorem d_M_correlate_66 : decode b_M_correlate 66 = .ok (.lstore 15, 2) := by decide +kernel
theorem d_M_correlate_68 : decode b_M_correlate 68 = .ok (.aload_n 0, 1) := by decide +kernel
theorem d_M_correlate_69 : decode b_M_correlate 69 = .ok (.iload_n 2, 1) := by decide +kernel
theorem d_M_correlate_70 : decode b_M_correlate 70 = .ok (.iload 14, 2) := by decide +kernel
theorem d_M_correlate_72 : decode b_M_correlate 72 = .ok (.invokevirtual 72, 3) := by decide +kernel
theorem d_M_correlate_75 : decode b_M_correlate 75 = .ok (.i2l, 1) := by decide +kernel
theorem d_M_correlate_76 : decode b_M_correlate 76 = .ok (.lstore 17, 2) := by decide +kernel
theorem d_M_correlate_78 : decode b_M_correlate 78 = .ok (.lload 4, 2) := by decide +kernel
theorem d_M_correlate_80 : decode b_M_correlate 80 = .ok (.lload 15, 2) := by decide +kernel
theorem d_M_correlate_82 : decode b_M_correlate 82 = .ok (.ladd, 1) := by decide +kernel
theorem d_M_correlate_83 : decode b_M_correlate 83 = .ok (.lstore 4, 2) := by decide +kernel
theorem d_M_correlate_85 : decode b_M_correlate 85 = .ok (.lload 6, 2) := by decide +kernel
theorem d_M_correlate_87 : decode b_M_correlate 87 = .ok (.lload 17, 2) := by decide +kernel
theorem d_M_correlate_89 : decode b_M_correlate 89 = .ok (.ladd, 1) := by decide +kernel
theorem d_M_correlate_90 : decode b_M_correlate 90 = .ok (.lstore 6, 2) := by decide +kernel
theorem d_M_correlate_92 : decode b_M_correlate 92 = .ok (.lload 8, 2) := by decide +kernel
theorem d_M_correlate_94 : decode b_M_correlate 94 = .ok (.lload 15, 2) := by decide +kernel
theorem d_M_correlate_96 : decode b_M_correlate 96 = .ok (.lload 15, 2) := by decide +kernel
theorem d_M_correlate_98 : decode b_M_correlate 98 = .ok (.lmul, 1) := by decide +kernel
theorem d_M_correlate_99 : decode b_M_correlate 99 = .ok (.ladd, 1) := by decide +kernel
theorem d_M_correlate_100 : decode b_M_correlate 100 = .ok (.lstore 8, 2) := by decide +kernel
theorem d_M_correlate_102 : decode b_M_correlate 102 = .ok (.lload 10, 2) := by decide +kernel
theorem d_M_correlate_104 : decode b_M_correlate 104 = .ok (.lload 17, 2) := by decide +kernel
theorem d_M_correlate_106 : decode b_M_correlate 106 = .ok (.lload 17, 2) := by decide +kernel
theorem d_M_correlate_108 : decode b_M_correlate 108 = .ok (.lmul, 1) := by decide +kernel
theorem d_M_correlate_109 : decode b_M_correlate 109 = .ok (.ladd, 1) := by decide +kernel
theorem d_M_correlate_110 : decode b_M_correlate 110 = .ok (.lstore 10, 2) := by decide +kernel
theorem d_M_correlate_112 : decode b_M_correlate 112 = .ok (.lload 12, 2) := by decide +kernel
theorem d_M_correlate_114 : decode b_M_correlate 114 = .ok (.lload 15, 2) := by decide +kernel
theorem d_M_correlate_116 : decode b_M_correlate 116 = .ok (.lload 17, 2) := by decide +kernel
theorem d_M_correlate_118 : decode b_M_correlate 118 = .ok (.lmul, 1) := by decide +kernel
theorem d_M_correlate_119 : decode b_M_correlate 119 = .ok (.ladd, 1) := by decide +kernel
theorem d_M_correlate_120 : decode b_M_correlate 120 = .ok (.lstore 12, 2) := by decide +kernel
theorem d_M_correlate_122 : decode b_M_correlate 122 = .ok (.aload_n 0, 1) := by decide +kernel
theorem d_M_correlate_123 : decode b_M_correlate 123 = .ok (.dup, 1) := by decide +kernel
theorem d_M_correlate_124 : decode b_M_correlate 124 = .ok (.getfield 75, 3) := by decide +kernel
theorem d_M_correlate_127 : decode b_M_correlate 127 = .ok (.iconst 1, 1) := by decide +kernel
theorem d_M_correlate_128 : decode b_M_correlate 128 = .ok (.iadd, 1) := by decide +kernel
theorem d_M_correlate_129 : decode b_M_correlate 129 = .ok (.putfield 75, 3) := by decide +kernel
theorem d_M_correlate_132 : decode b_M_correlate 132 = .ok (.aload_n 0, 1) := by decide +kernel
theorem d_M_correlate_133 : decode b_M_correlate 133 = .ok (.iload_n 1, 1) := by decide +kernel
theorem d_M_correlate_134 : decode b_M_correlate 134 = .ok (.iload_n 2, 1) := by decide +kernel
theorem d_M_correlate_135 : decode b_M_correlate 135 = .ok (.iload_n 3, 1) := by decide +kernel
theorem d_M_correlate_136 : decode b_M_correlate 136 = .ok (.iload 14, 2) := by decide +kernel
theorem d_M_correlate_138 : decode b_M_correlate 138 = .ok (.iconst 1, 1) := by decide +kernel
theorem d_M_correlate_139 : decode b_M_correlate 139 = .ok (.iadd, 1) := by decide +kernel
theorem d_M_correlate_140 : decode b_M_correlate 140 = .ok (.invokevirtual 84, 3) := by decide +kernel
theorem d_M_correlate_143 : decode b_M_correlate 143 = .ok (.ifCond .eq 41, 3) := by decide +kernel
theorem d_M_correlate_146 : decode b_M_correlate 146 = .ok (.aload_n 0, 1) := by decide +kernel
theorem d_M_correlate_147 : decode b_M_correlate 147 = .ok (.dup, 1) := by decide +kernel
theorem d_M_correlate_148 : decode b_M_correlate 148 = .ok (.getfield 78, 3) := by decide +kernel
theorem d_M_correlate_151 : decode b_M_correlate 151 = .ok (.iconst 1, 1) := by decide +kernel
theorem d_M_correlate_152 : decode b_M_correlate 152 = .ok (.iadd, 1) := by decide +kernel
theorem d_M_correlate_153 : decode b_M_correlate 153 = .ok (.putfield 78, 3) := by decide +kernel
theorem d_M_correlate_156 : decode b_M_correlate 156 = .ok (.aload_n 0, 1) := by decide +kernel
theorem d_M_correlate_157 : decode b_M_correlate 157 = .ok (.aload_n 0, 1) := by decide +kernel
theorem d_M_correlate_158 : decode b_M_correlate 158 = .ok (.getfield 81, 3) := by decide +kernel
theorem d_M_correlate_161 : decode b_M_correlate 161 = .ok (.aload_n 0, 1) := by decide +kernel
theorem d_M_correlate_162 : decode b_M_correlate 162 = .ok (.iload_n 1, 1) := by decide +kernel
theorem d_M_correlate_163 : decode b_M_correlate 163 = .ok (.iload 14, 2) := by decide +kernel
theorem d_M_correlate_165 : decode b_M_correlate 165 = .ok (.iload_n 3, 1) := by decide +kernel
theorem d_M_correlate_166 : decode b_M_correlate 166 = .ok (.iadd, 1) := by decide +kernel
theorem d_M_correlate_167 : decode b_M_correlate 167 = .ok (.invokevirtual 88, 3) := by decide +kernel
theorem d_M_correlate_170 : decode b_M_correlate 170 = .ok (.aload_n 0, 1) := by decide +kernel
theorem d_M_correlate_171 : decode b_M_correlate 171 = .ok (.iload_n 2, 1) := by decide +kernel
theorem d_M_correlate_172 : decode b_M_correlate 172 = .ok (.iload 14, 2) := by decide +kernel
theorem d_M_correlate_174 : decode b_M_correlate 174 = .ok (.invokevirtual 88, 3) := by decide +kernel
theorem d_M_correlate_177 : decode b_M_correlate 177 = .ok (.invokestatic 91, 3) := by decide +kernel
theorem d_M_correlate_180 : decode b_M_correlate 180 = .ok (.iadd, 1) := by decide +kernel
theorem d_M_correlate_181 : decode b_M_correlate 181 = .ok (.putfield 81, 3) := by decide +kernel
theorem d_M_correlate_184 : decode b_M_correlate 184 = .ok (.iinc 14 1, 3) := by decide +kernel
theorem d_M_correlate_187 : decode b_M_correlate 187 = .ok (.goto (-154), 3) := by decide +kernel
theorem d_M_correlate_190 : decode b_M_correlate 190 = .ok (.aload_n 0, 1) := by decide +kernel
theorem d_M_correlate_191 : decode b_M_correlate 191 = .ok (.getfield 75, 3) := by decide +kernel
theorem d_M_correlate_194 : decode b_M_correlate 194 = .ok (.i2l, 1) := by decide +kernel
theorem d_M_correlate_195 : decode b_M_correlate 195 = .ok (.lload 12, 2) := by decide +kernel
theorem d_M_correlate_197 : decode b_M_correlate 197 = .ok (.lmul, 1) := by decide +kernel
theorem d_M_correlate_198 : decode b_M_correlate 198 = .ok (.lload 4, 2) := by decide +kernel
theorem d_M_correlate_200 : decode b_M_correlate 200 = .ok (.lload 6, 2) := by decide +kernel
theorem d_M_correlate_202 : decode b_M_correlate 202 = .ok (.lmul, 1) := by decide +kernel
theorem d_M_correlate_203 : decode b_M_correlate 203 = .ok (.lsub, 1) := by decide +kernel
theorem d_M_correlate_204 : decode b_M_correlate 204 = .ok (.lstore 14, 2) := by decide +kernel
theorem d_M_correlate_206 : decode b_M_correlate 206 = .ok (.aload_n 0, 1) := by decide +kernel
theorem d_M_correlate_207 : decode b_M_correlate 207 = .ok (.getfield 75, 3) := by decide +kernel
theorem d_M_correlate_210 : decode b_M_correlate 210 = .ok (.i2l, 1) := by decide +kernel
theorem d_M_correlate_211 : decode b_M_correlate 211 = .ok (.lload 8, 2) := by decide +kernel
theorem d_M_correlate_213 : decode b_M_correlate 213 = .ok (.lmul, 1) := by decide +kernel
theorem d_M_correlate_214 : decode b_M_correlate 214 = .ok (.lload 4, 2) := by decide +kernel
theorem d_M_correlate_216 : decode b_M_correlate 216 = .ok (.lload 4, 2) := by decide +kernel
theorem d_M_correlate_218 : decode b_M_correlate 218 = .ok (.lmul, 1) := by decide +kernel
theorem d_M_correlate_219 : decode b_M_correlate 219 = .ok (.lsub, 1) := by decide +kernel
theorem d_M_correlate_220 : decode b_M_correlate 220 = .ok (.lstore 16, 2) := by decide +kernel
theorem d_M_correlate_222 : decode b_M_correlate 222 = .ok (.aload_n 0, 1) := by decide +kernel
theorem d_M_correlate_223 : decode b_M_correlate 223 = .ok (.getfield 75, 3) := by decide +kernel
theorem d_M_correlate_226 : decode b_M_correlate 226 = .ok (.i2l, 1) := by decide +kernel
theorem d_M_correlate_227 : decode b_M_correlate 227 = .ok (.lload 10, 2) := by decide +kernel
theorem d_M_correlate_229 : decode b_M_correlate 229 = .ok (.lmul, 1) := by decide +kernel
theorem d_M_correlate_230 : decode b_M_correlate 230 = .ok (.lload 6, 2) := by decide +kernel
theorem d_M_correlate_232 : decode b_M_correlate 232 = .ok (.lload 6, 2) := by decide +kernel
theorem d_M_correlate_234 : decode b_M_correlate 234 = .ok (.lmul, 1) := by decide +kernel
theorem d_M_correlate_235 : decode b_M_correlate 235 = .ok (.lsub, 1) := by decide +kernel
theorem d_M_correlate_236 : decode b_M_correlate 236 = .ok (.lstore 18, 2) := by decide +kernel
theorem d_M_correlate_238 : decode b_M_correlate 238 = .ok (.lload 16, 2) := by decide +kernel
theorem d_M_correlate_240 : decode b_M_correlate 240 = .ok (.lconst 0, 1) := by decide +kernel
theorem d_M_correlate_241 : decode b_M_correlate 241 = .ok (.lcmp, 1) := by decide +kernel
theorem d_M_correlate_242 : decode b_M_correlate 242 = .ok (.ifCond .eq 10, 3) := by decide +kernel
theorem d_M_correlate_245 : decode b_M_correlate 245 = .ok (.lload 18, 2) := by decide +kernel
theorem d_M_correlate_247 : decode b_M_correlate 247 = .ok (.lconst 0, 1) := by decide +kernel
theorem d_M_correlate_248 : decode b_M_correlate 248 = .ok (.lcmp, 1) := by decide +kernel
theorem d_M_correlate_249 : decode b_M_correlate 249 = .ok (.ifCond .ne 5, 3) := by decide +kernel
theorem d_M_correlate_252 : decode b_M_correlate 252 = .ok (.iconst 0, 1) := by decide +kernel
theorem d_M_correlate_253 : decode b_M_correlate 253 = .ok (.ireturn, 1) := by decide +kernel
theorem d_M_correlate_254 : decode b_M_correlate 254 = .ok (.iconst 0, 1) := by decide +kernel
theorem d_M_correlate_255 : decode b_M_correlate 255 = .ok (.istore 20, 2) := by decide +kernel
theorem d_M_correlate_257 : decode b_M_correlate 257 = .ok (.iload 20, 2) := by decide +kernel
theorem d_M_correlate_259 : decode b_M_correlate 259 = .ok (.bipush 100, 2) := by decide +kernel
theorem d_M_correlate_261 : decode b_M_correlate 261 = .ok (.if_icmp .ge 39, 3) := by decide +kernel
theorem d_M_correlate_264 : decode b_M_correlate 264 = .ok (.iload 20, 2) := by decide +kernel
theorem d_M_correlate_266 : decode b_M_correlate 266 = .ok (.i2l, 1) := by decide +kernel
theorem d_M_correlate_267 : decode b_M_correlate 267 = .ok (.lconst 1, 1) := by decide +kernel
theorem d_M_correlate_268 : decode b_M_correlate 268 = .ok (.ladd, 1) := by decide +kernel
theorem d_M_correlate_269 : decode b_M_correlate 269 = .ok (.iload 20, 2) := by decide +kernel
theorem d_M_correlate_271 : decode b_M_correlate 271 = .ok (.i2l, 1) := by decide +kernel
theorem d_M_correlate_272 : decode b_M_correlate 272 = .ok (.lconst 1, 1) := by decide +kernel
theorem d_M_correlate_273 : decode b_M_correlate 273 = .ok (.ladd, 1) := by decide +kernel
theorem d_M_correlate_274 : decode b_M_correlate 274 = .ok (.lmul, 1) := by decide +kernel
theorem d_M_correlate_275 : decode b_M_correlate 275 = .ok (.lload 16, 2) := by decide +kernel
theorem d_M_correlate_277 : decode b_M_correlate 277 = .ok (.lmul, 1) := by decide +kernel
theorem d_M_correlate_278 : decode b_M_correlate 278 = .ok (.lload 18, 2) := by decide +kernel
theorem d_M_correlate_280 : decode b_M_correlate 280 = .ok (.lmul, 1) := by decide +kernel
theorem d_M_correlate_281 : decode b_M_correlate 281 = .ok (.ldc2_w 94, 3) := by decide +kernel
theorem d_M_correlate_284 : decode b_M_correlate 284 = .ok (.lload 14, 2) := by decide +kernel
theorem d_M_correlate_286 : decode b_M_correlate 286 = .ok (.lmul, 1) := by decide +kernel
theorem d_M_correlate_287 : decode b_M_correlate 287 = .ok (.lload 14, 2) := by decide +kernel
theorem d_M_correlate_289 : decode b_M_correlate 289 = .ok (.lmul, 1) := by decide +kernel
theorem d_M_correlate_290 : decode b_M_correlate 290 = .ok (.lcmp, 1) := by decide +kernel
theorem d_M_correlate_291 : decode b_M_correlate 291 = .ok (.ifCond .gt 9, 3) := by decide +kernel
theorem d_M_correlate_294 : decode b_M_correlate 294 = .ok (.iinc 20 1, 3) := by decide +kernel
theorem d_M_correlate_297 : decode b_M_correlate 297 = .ok (.goto (-40), 3) := by decide +kernel
theorem d_M_correlate_300 : decode b_M_correlate 300 = .ok (.lload 14, 2) := by decide +kernel
theorem d_M_correlate_302 : decode b_M_correlate 302 = .ok (.lconst 0, 1) := by decide +kernel
theorem d_M_correlate_303 : decode b_M_correlate 303 = .ok (.lcmp, 1) := by decide +kernel
theorem d_M_correlate_304 : decode b_M_correlate 304 = .ok (.ifCond .ge 10, 3) := by decide +kernel
theorem d_M_correlate_307 : decode b_M_correlate 307 = .ok (.iconst 0, 1) := by decide +kernel
theorem d_M_correlate_308 : decode b_M_correlate 308 = .ok (.iload 20, 2) := by decide +kernel
theorem d_M_correlate_310 : decode b_M_correlate 310 = .ok (.isub, 1) := by decide +kernel
theorem d_M_correlate_311 : decode b_M_correlate 311 = .ok (.goto 5, 3) := by decide +kernel
theorem d_M_correlate_314 : decode b_M_correlate 314 = .ok (.iload 20, 2) := by decide +kernel
theorem d_M_correlate_316 : decode b_M_correlate 316 = .ok (.ireturn, 1) := by decide +kernel
theorem d_M_rise_0 : decode b_M_rise 0 = .ok (.aload_n 0, 1) := by decide +kernel
theorem d_M_rise_1 : decode b_M_rise 1 = .ok (.iload_n 1, 1) := by decide +kernel
theorem d_M_rise_2 : decode b_M_rise 2 = .ok (.iload_n 2, 1) := by decide +kernel
theorem d_M_rise_3 : decode b_M_rise 3 = .ok (.iconst 1, 1) := by decide +kernel
theorem d_M_rise_4 : decode b_M_rise 4 = .ok (.iadd, 1) := by decide +kernel
theorem d_M_rise_5 : decode b_M_rise 5 = .ok (.invokevirtual 65, 3) := by decide +kernel
theorem d_M_rise_8 : decode b_M_rise 8 = .ok (.aload_n 0, 1) := by decide +kernel
theorem d_M_rise_9 : decode b_M_rise 9 = .ok (.iload_n 1, 1) := by decide +kernel
theorem d_M_rise_10 : decode b_M_rise 10 = .ok (.iload_n 2, 1) := by decide +kernel
theorem d_M_rise_11 : decode b_M_rise 11 = .ok (.invokevirtual 65, 3) := by decide +kernel
theorem d_M_rise_14 : decode b_M_rise 14 = .ok (.isub, 1) := by decide +kernel
theorem d_M_rise_15 : decode b_M_rise 15 = .ok (.istore_n 3, 1) := by decide +kernel
theorem d_M_rise_16 : decode b_M_rise 16 = .ok (.iload_n 3, 1) := by decide +kernel
theorem d_M_rise_17 : decode b_M_rise 17 = .ok (.ifCond .le 7, 3) := by decide +kernel
theorem d_M_rise_20 : decode b_M_rise 20 = .ok (.iconst 1, 1) := by decide +kernel
theorem d_M_rise_21 : decode b_M_rise 21 = .ok (.goto 12, 3) := by decide +kernel
theorem d_M_rise_24 : decode b_M_rise 24 = .ok (.iload_n 3, 1) := by decide +kernel
theorem d_M_rise_25 : decode b_M_rise 25 = .ok (.ifCond .ge 7, 3) := by decide +kernel
theorem d_M_rise_28 : decode b_M_rise 28 = .ok (.iconst (-1), 1) := by decide +kernel
theorem d_M_rise_29 : decode b_M_rise 29 = .ok (.goto 4, 3) := by decide +kernel
theorem d_M_rise_32 : decode b_M_rise 32 = .ok (.iconst 0, 1) := by decide +kernel
theorem d_M_rise_33 : decode b_M_rise 33 = .ok (.ireturn, 1) := by decide +kernel
theorem d_M_alike_0 : decode b_M_alike 0 = .ok (.iload_n 0, 1) := by decide +kernel
theorem d_M_alike_1 : decode b_M_alike 1 = .ok (.iload_n 1, 1) := by decide +kernel
theorem d_M_alike_2 : decode b_M_alike 2 = .ok (.if_icmp .ne 7, 3) := by decide +kernel
theorem d_M_alike_5 : decode b_M_alike 5 = .ok (.iconst 2, 1) := by decide +kernel
theorem d_M_alike_6 : decode b_M_alike 6 = .ok (.goto 16, 3) := by decide +kernel
theorem d_M_alike_9 : decode b_M_alike 9 = .ok (.iload_n 0, 1) := by decide +kernel
theorem d_M_alike_10 : decode b_M_alike 10 = .ok (.ifCond .eq 7, 3) := by decide +kernel
theorem d_M_alike_13 : decode b_M_alike 13 = .ok (.iload_n 1, 1) := by decide +kernel
theorem d_M_alike_14 : decode b_M_alike 14 = .ok (.ifCond .ne 7, 3) := by decide +kernel
theorem d_M_alike_17 : decode b_M_alike 17 = .ok (.iconst 1, 1) := by decide +kernel
theorem d_M_alike_18 : decode b_M_alike 18 = .ok (.goto 4, 3) := by decide +kernel
theorem d_M_alike_21 : decode b_M_alike 21 = .ok (.iconst 0, 1) := by decide +kernel
theorem d_M_alike_22 : decode b_M_alike 22 = .ok (.ireturn, 1) := by decide +kernel
theorem d_M_isAhead_0 : decode b_M_isAhead 0 = .ok (.iload_n 1, 1) := by decide +kernel
theorem d_M_isAhead_1 : decode b_M_isAhead 1 = .ok (.aload_n 0, 1) := by decide +kernel
theorem d_M_isAhead_2 : decode b_M_isAhead 2 = .ok (.getfield 25, 3) := by decide +kernel
theorem d_M_isAhead_5 : decode b_M_isAhead 5 = .ok (.iload 4, 2) := by decide +kernel
theorem d_M_isAhead_7 : decode b_M_isAhead 7 = .ok (.iaload, 1) := by decide +kernel
theorem d_M_isAhead_8 : decode b_M_isAhead 8 = .ok (.if_icmp .eq 22, 3) := by decide +kernel
theorem d_M_isAhead_11 : decode b_M_isAhead 11 = .ok (.iload_n 1, 1) := by decide +kernel
theorem d_M_isAhead_12 : decode b_M_isAhead 12 = .ok (.aload_n 0, 1) := by decide +kernel
theorem d_M_isAhead_13 : decode b_M_isAhead 13 = .ok (.getfield 25, 3) := by decide +kernel
theorem d_M_isAhead_16 : decode b_M_isAhead 16 = .ok (.iload 4, 2) := by decide +kernel
theorem d_M_isAhead_18 : decode b_M_isAhead 18 = .ok (.iaload, 1) := by decide +kernel
theorem d_M_isAhead_19 : decode b_M_isAhead 19 = .ok (.if_icmp .le 7, 3) := by decide +kernel
theorem d_M_isAhead_22 : decode b_M_isAhead 22 = .ok (.iconst 1, 1) := by decide +kernel
theorem d_M_isAhead_23 : decode b_M_isAhead 23 = .ok (.goto 53, 3) := by decide +kernel
theorem d_M_isAhead_26 : decode b_M_isAhead 26 = .ok (.iconst 0, 1) := by decide +kernel
theorem d_M_isAhead_27 : decode b_M_isAhead 27 = .ok (.goto 49, 3) := by decide +kernel
theorem d_M_isAhead_30 : decode b_M_isAhead 30 = .ok (.iload_n 2, 1) := by decide +kernel
theorem d_M_isAhead_31 : decode b_M_isAhead 31 = .ok (.aload_n 0, 1) := by decide +kernel
theorem d_M_isAhead_32 : decode b_M_isAhead 32 = .ok (.getfield 22, 3) := by decide +kernel
theorem d_M_isAhead_35 : decode b_M_isAhead 35 = .ok (.iload 4, 2) := by decide +kernel
theorem d_M_isAhead_37 : decode b_M_isAhead 37 = .ok (.iaload, 1) := by decide +kernel
theorem d_M_isAhead_38 : decode b_M_isAhead 38 = .ok (.if_icmp .eq 22, 3) := by decide +kernel
theorem d_M_isAhead_41 : decode b_M_isAhead 41 = .ok (.iload_n 2, 1) := by decide +kernel
theorem d_M_isAhead_42 : decode b_M_isAhead 42 = .ok (.aload_n 0, 1) := by decide +kernel
theorem d_M_isAhead_43 : decode b_M_isAhead 43 = .ok (.getfield 22, 3) := by decide +kernel
theorem d_M_isAhead_46 : decode b_M_isAhead 46 = .ok (.iload 4, 2) := by decide +kernel
theorem d_M_isAhead_48 : decode b_M_isAhead 48 = .ok (.iaload, 1) := by decide +kernel
theorem d_M_isAhead_49 : decode b_M_isAhead 49 = .ok (.if_icmp .le 7, 3) := by decide +kernel
theorem d_M_isAhead_52 : decode b_M_isAhead 52 = .ok (.iconst 1, 1) := by decide +kernel
theorem d_M_isAhead_53 : decode b_M_isAhead 53 = .ok (.goto 23, 3) := by decide +kernel
theorem d_M_isAhead_56 : decode b_M_isAhead 56 = .ok (.iconst 0, 1) := by decide +kernel
theorem d_M_isAhead_57 : decode b_M_isAhead 57 = .ok (.goto 19, 3) := by decide +kernel
theorem d_M_isAhead_60 : decode b_M_isAhead 60 = .ok (.iload_n 3, 1) := by decide +kernel
theorem d_M_isAhead_61 : decode b_M_isAhead 61 = .ok (.aload_n 0, 1) := by decide +kernel
theorem d_M_isAhead_62 : decode b_M_isAhead 62 = .ok (.getfield 19, 3) := by decide +kernel
theorem d_M_isAhead_65 : decode b_M_isAhead 65 = .ok (.iload 4, 2) := by decide +kernel
theorem d_M_isAhead_67 : decode b_M_isAhead 67 = .ok (.iaload, 1) := by decide +kernel
theorem d_M_isAhead_68 : decode b_M_isAhead 68 = .ok (.if_icmp .ge 7, 3) := by decide +kernel
theorem d_M_isAhead_71 : decode b_M_isAhead 71 = .ok (.iconst 1, 1) := by decide +kernel
theorem d_M_isAhead_72 : decode b_M_isAhead 72 = .ok (.goto 4, 3) := by decide +kernel
theorem d_M_isAhead_75 : decode b_M_isAhead 75 = .ok (.iconst 0, 1) := by decide +kernel
theorem d_M_isAhead_76 : decode b_M_isAhead 76 = .ok (.ireturn, 1) := by decide +kernel
theorem d_M_match_0 : decode b_M_match 0 = .ok (.aload_n 0, 1) := by decide +kernel
theorem d_M_match_1 : decode b_M_match 1 = .ok (.aload_n 0, 1) := by decide +kernel
theorem d_M_match_2 : decode b_M_match 2 = .ok (.iload_n 1, 1) := by decide +kernel
theorem d_M_match_3 : decode b_M_match 3 = .ok (.invokevirtual 62, 3) := by decide +kernel
theorem d_M_match_6 : decode b_M_match 6 = .ok (.ifCond .eq 15, 3) := by decide +kernel
theorem d_M_match_9 : decode b_M_match 9 = .ok (.aload_n 0, 1) := by decide +kernel
theorem d_M_match_10 : decode b_M_match 10 = .ok (.iload_n 2, 1) := by decide +kernel
theorem d_M_match_11 : decode b_M_match 11 = .ok (.invokevirtual 62, 3) := by decide +kernel
theorem d_M_match_14 : decode b_M_match 14 = .ok (.ifCond .eq 7, 3) := by decide +kernel
theorem d_M_match_17 : decode b_M_match 17 = .ok (.iconst 1, 1) := by decide +kernel
theorem d_M_match_18 : decode b_M_match 18 = .ok (.goto 4, 3) := by decide +kernel
theorem d_M_match_21 : decode b_M_match 21 = .ok (.iconst 0, 1) := by decide +kernel
theorem d_M_match_22 : decode b_M_match 22 = .ok (.iload_n 3, 1) := by decide +kernel
theorem d_M_match_23 : decode b_M_match 23 = .ok (.iconst 3, 1) := by decide +kernel
theorem d_M_match_24 : decode b_M_match 24 = .ok (.bipush 24, 2) := by decide +kernel
theorem d_M_match_26 : decode b_M_match 26 = .ok (.invokestatic 35, 3) := by decide +kernel
theorem d_M_match_29 : decode b_M_match 29 = .ok (.iconst 1, 1) := by decide +kernel
theorem d_M_match_30 : decode b_M_match 30 = .ok (.invokevirtual 50, 3) := by decide +kernel
theorem d_M_match_33 : decode b_M_match 33 = .ok (.ifCond .ne 5, 3) := by decide +kernel
theorem d_M_match_36 : decode b_M_match 36 = .ok (.iconst 0, 1) := by decide +kernel
theorem d_M_match_37 : decode b_M_match 37 = .ok (.ireturn, 1) := by decide +kernel
theorem d_M_match_38 : decode b_M_match 38 = .ok (.aload_n 0, 1) := by decide +kernel
theorem d_M_match_39 : decode b_M_match 39 = .ok (.iload_n 1, 1) := by decide +kernel
theorem d_M_match_40 : decode b_M_match 40 = .ok (.putfield 96, 3) := by decide +kernel
theorem d_M_match_43 : decode b_M_match 43 = .ok (.aload_n 0, 1) := by decide +kernel
theorem d_M_match_44 : decode b_M_match 44 = .ok (.iload_n 2, 1) := by decide +kernel
theorem d_M_match_45 : decode b_M_match 45 = .ok (.putfield 99, 3) := by decide +kernel
theorem d_M_match_48 : decode b_M_match 48 = .ok (.aload_n 0, 1) := by decide +kernel
theorem d_M_match_49 : decode b_M_match 49 = .ok (.iconst 0, 1) := by decide +kernel
theorem d_M_match_50 : decode b_M_match 50 = .ok (.putfield 102, 3) := by decide +kernel
theorem d_M_match_53 : decode b_M_match 53 = .ok (.iconst 1, 1) := by decide +kernel
theorem d_M_match_54 : decode b_M_match 54 = .ok (.aload_n 0, 1) := by decide +kernel
theorem d_M_match_55 : decode b_M_match 55 = .ok (.getfield 13, 3) := by decide +kernel
theorem d_M_match_58 : decode b_M_match 58 = .ok (.iload_n 2, 1) := by decide +kernel
theorem d_M_match_59 : decode b_M_match 59 = .ok (.iaload, 1) := by decide +kernel
theorem d_M_match_60 : decode b_M_match 60 = .ok (.isub, 1) := by decide +kernel
theorem d_M_match_61 : decode b_M_match 61 = .ok (.istore 4, 2) := by decide +kernel
theorem d_M_match_63 : decode b_M_match 63 = .ok (.iload 4, 2) := by decide +kernel
theorem d_M_match_65 : decode b_M_match 65 = .ok (.aload_n 0, 1) := by decide +kernel
end
section
theorem d_M_match_66 : decode b_M_match 66 = .ok (.getfield 13, 3) := by decide +kernel
theorem d_M_match_69 : decode b_M_match 69 = .ok (.iload_n 1, 1) := by decide +kernel
theorem d_M_match_70 : decode b_M_match 70 = .ok (.iaload, 1) := by decide +kernel
theorem d_M_match_71 : decode b_M_match 71 = .ok (.if_icmp .ge 160, 3) := by decide +kernel
theorem d_M_match_74 : decode b_M_match 74 = .ok (.aload_n 0, 1) := by decide +kernel
theorem d_M_match_75 : decode b_M_match 75 = .ok (.iload_n 1, 1) := by decide +kernel
theorem d_M_match_76 : decode b_M_match 76 = .ok (.iload_n 2, 1) := by decide +kernel
theorem d_M_match_77 : decode b_M_match 77 = .ok (.iload 4, 2) := by decide +kernel
theorem d_M_match_79 : decode b_M_match 79 = .ok (.invokevirtual 105, 3) := by decide +kernel
theorem d_M_match_82 : decode b_M_match 82 = .ok (.istore 5, 2) := by decide +kernel
theorem d_M_match_84 : decode b_M_match 84 = .ok (.aload_n 0, 1) := by decide +kernel
theorem d_M_match_85 : decode b_M_match 85 = .ok (.dup, 1) := by decide +kernel
theorem d_M_match_86 : decode b_M_match 86 = .ok (.getfield 109, 3) := by decide +kernel
theorem d_M_match_89 : decode b_M_match 89 = .ok (.iconst 1, 1) := by decide +kernel
theorem d_M_match_90 : decode b_M_match 90 = .ok (.iadd, 1) := by decide +kernel
theorem d_M_match_91 : decode b_M_match 91 = .ok (.putfield 109, 3) := by decide +kernel
theorem d_M_match_94 : decode b_M_match 94 = .ok (.aload_n 0, 1) := by decide +kernel
theorem d_M_match_95 : decode b_M_match 95 = .ok (.getfield 75, 3) := by decide +kernel
theorem d_M_match_98 : decode b_M_match 98 = .ok (.iload_n 3, 1) := by decide +kernel
theorem d_M_match_99 : decode b_M_match 99 = .ok (.if_icmp .lt 126, 3) := by decide +kernel
theorem d_M_match_102 : decode b_M_match 102 = .ok (.aload_n 0, 1) := by decide +kernel
theorem d_M_match_103 : decode b_M_match 103 = .ok (.getfield 102, 3) := by decide +kernel
theorem d_M_match_106 : decode b_M_match 106 = .ok (.istore 6, 2) := by decide +kernel
theorem d_M_match_108 : decode b_M_match 108 = .ok (.iload 6, 2) := by decide +kernel
theorem d_M_match_110 : decode b_M_match 110 = .ok (.ifCond .le 76, 3) := by decide +kernel
theorem d_M_match_113 : decode b_M_match 113 = .ok (.aload_n 0, 1) := by decide +kernel
theorem d_M_match_114 : decode b_M_match 114 = .ok (.iload 5, 2) := by decide +kernel
theorem d_M_match_116 : decode b_M_match 116 = .ok (.aload_n 0, 1) := by decide +kernel
theorem d_M_match_117 : decode b_M_match 117 = .ok (.getfield 75, 3) := by decide +kernel
theorem d_M_match_120 : decode b_M_match 120 = .ok (.iload 4, 2) := by decide +kernel
theorem d_M_match_122 : decode b_M_match 122 = .ok (.iload 6, 2) := by decide +kernel
theorem d_M_match_124 : decode b_M_match 124 = .ok (.iconst 1, 1) := by decide +kernel
theorem d_M_match_125 : decode b_M_match 125 = .ok (.isub, 1) := by decide +kernel
theorem d_M_match_126 : decode b_M_match 126 = .ok (.invokevirtual 112, 3) := by decide +kernel
theorem d_M_match_129 : decode b_M_match 129 = .ok (.ifCond .eq 57, 3) := by decide +kernel
theorem d_M_match_132 : decode b_M_match 132 = .ok (.aload_n 0, 1) := by decide +kernel
theorem d_M_match_133 : decode b_M_match 133 = .ok (.getfield 19, 3) := by decide +kernel
theorem d_M_match_136 : decode b_M_match 136 = .ok (.iload 6, 2) := by decide +kernel
theorem d_M_match_138 : decode b_M_match 138 = .ok (.aload_n 0, 1) := by decide +kernel
theorem d_M_match_139 : decode b_M_match 139 = .ok (.getfield 19, 3) := by decide +kernel
theorem d_M_match_142 : decode b_M_match 142 = .ok (.iload 6, 2) := by decide +kernel
theorem d_M_match_144 : decode b_M_match 144 = .ok (.iconst 1, 1) := by decide +kernel
theorem d_M_match_145 : decode b_M_match 145 = .ok (.isub, 1) := by decide +kernel
theorem d_M_match_146 : decode b_M_match 146 = .ok (.iaload, 1) := by decide +kernel
theorem d_M_match_147 : decode b_M_match 147 = .ok (.iastore, 1) := by decide +kernel
theorem d_M_match_148 : decode b_M_match 148 = .ok (.aload_n 0, 1) := by decide +kernel
theorem d_M_match_149 : decode b_M_match 149 = .ok (.getfield 22, 3) := by decide +kernel
theorem d_M_match_152 : decode b_M_match 152 = .ok (.iload 6, 2) := by decide +kernel
theorem d_M_match_154 : decode b_M_match 154 = .ok (.aload_n 0, 1) := by decide +kernel
theorem d_M_match_155 : decode b_M_match 155 = .ok (.getfield 22, 3) := by decide +kernel
theorem d_M_match_158 : decode b_M_match 158 = .ok (.iload 6, 2) := by decide +kernel
theorem d_M_match_160 : decode b_M_match 160 = .ok (.iconst 1, 1) := by decide +kernel
theorem d_M_match_161 : decode b_M_match 161 = .ok (.isub, 1) := by decide +kernel
theorem d_M_match_162 : decode b_M_match 162 = .ok (.iaload, 1) := by decide +kernel
theorem d_M_match_163 : decode b_M_match 163 = .ok (.iastore, 1) := by decide +kernel
theorem d_M_match_164 : decode b_M_match 164 = .ok (.aload_n 0, 1) := by decide +kernel
theorem d_M_match_165 : decode b_M_match 165 = .ok (.getfield 25, 3) := by decide +kernel
theorem d_M_match_168 : decode b_M_match 168 = .ok (.iload 6, 2) := by decide +kernel
theorem d_M_match_170 : decode b_M_match 170 = .ok (.aload_n 0, 1) := by decide +kernel
theorem d_M_match_171 : decode b_M_match 171 = .ok (.getfield 25, 3) := by decide +kernel
theorem d_M_match_174 : decode b_M_match 174 = .ok (.iload 6, 2) := by decide +kernel
theorem d_M_match_176 : decode b_M_match 176 = .ok (.iconst 1, 1) := by decide +kernel
theorem d_M_match_177 : decode b_M_match 177 = .ok (.isub, 1) := by decide +kernel
theorem d_M_match_178 : decode b_M_match 178 = .ok (.iaload, 1) := by decide +kernel
theorem d_M_match_179 : decode b_M_match 179 = .ok (.iastore, 1) := by decide +kernel
theorem d_M_match_180 : decode b_M_match 180 = .ok (.iinc 6 (-1), 3) := by decide +kernel
theorem d_M_match_183 : decode b_M_match 183 = .ok (.goto (-75), 3) := by decide +kernel
theorem d_M_match_186 : decode b_M_match 186 = .ok (.aload_n 0, 1) := by decide +kernel
theorem d_M_match_187 : decode b_M_match 187 = .ok (.getfield 19, 3) := by decide +kernel
theorem d_M_match_190 : decode b_M_match 190 = .ok (.iload 6, 2) := by decide +kernel
theorem d_M_match_192 : decode b_M_match 192 = .ok (.iload 4, 2) := by decide +kernel
theorem d_M_match_194 : decode b_M_match 194 = .ok (.iastore, 1) := by decide +kernel
theorem d_M_match_195 : decode b_M_match 195 = .ok (.aload_n 0, 1) := by decide +kernel
theorem d_M_match_196 : decode b_M_match 196 = .ok (.getfield 22, 3) := by decide +kernel
theorem d_M_match_199 : decode b_M_match 199 = .ok (.iload 6, 2) := by decide +kernel
theorem d_M_match_201 : decode b_M_match 201 = .ok (.aload_n 0, 1) := by decide +kernel
theorem d_M_match_202 : decode b_M_match 202 = .ok (.getfield 75, 3) := by decide +kernel
theorem d_M_match_205 : decode b_M_match 205 = .ok (.iastore, 1) := by decide +kernel
theorem d_M_match_206 : decode b_M_match 206 = .ok (.aload_n 0, 1) := by decide +kernel
theorem d_M_match_207 : decode b_M_match 207 = .ok (.getfield 25, 3) := by decide +kernel
theorem d_M_match_210 : decode b_M_match 210 = .ok (.iload 6, 2) := by decide +kernel
theorem d_M_match_212 : decode b_M_match 212 = .ok (.iload 5, 2) := by decide +kernel
theorem d_M_match_214 : decode b_M_match 214 = .ok (.iastore, 1) := by decide +kernel
theorem d_M_match_215 : decode b_M_match 215 = .ok (.aload_n 0, 1) := by decide +kernel
theorem d_M_match_216 : decode b_M_match 216 = .ok (.dup, 1) := by decide +kernel
theorem d_M_match_217 : decode b_M_match 217 = .ok (.getfield 102, 3) := by decide +kernel
theorem d_M_match_220 : decode b_M_match 220 = .ok (.iconst 1, 1) := by decide +kernel
theorem d_M_match_221 : decode b_M_match 221 = .ok (.iadd, 1) := by decide +kernel
theorem d_M_match_222 : decode b_M_match 222 = .ok (.putfield 102, 3) := by decide +kernel
theorem d_M_match_225 : decode b_M_match 225 = .ok (.iinc 4 1, 3) := by decide +kernel
theorem d_M_match_228 : decode b_M_match 228 = .ok (.goto (-165), 3) := by decide +kernel
theorem d_M_match_231 : decode b_M_match 231 = .ok (.aload_n 0, 1) := by decide +kernel
theorem d_M_match_232 : decode b_M_match 232 = .ok (.getfield 102, 3) := by decide +kernel
theorem d_M_match_235 : decode b_M_match 235 = .ok (.ireturn, 1) := by decide +kernel
theorem d_M_isListed_0 : decode b_M_isListed 0 = .ok (.iload_n 1, 1) := by decide +kernel
theorem d_M_isListed_1 : decode b_M_isListed 1 = .ok (.iconst 0, 1) := by decide +kernel
theorem d_M_isListed_2 : decode b_M_isListed 2 = .ok (.aload_n 0, 1) := by decide +kernel
theorem d_M_isListed_3 : decode b_M_isListed 3 = .ok (.getfield 102, 3) := by decide +kernel
theorem d_M_isListed_6 : decode b_M_isListed 6 = .ok (.iconst 1, 1) := by decide +kernel
theorem d_M_isListed_7 : decode b_M_isListed 7 = .ok (.isub, 1) := by decide +kernel
theorem d_M_isListed_8 : decode b_M_isListed 8 = .ok (.invokestatic 35, 3) := by decide +kernel
theorem d_M_isListed_11 : decode b_M_isListed 11 = .ok (.ifCond .eq 18, 3) := by decide +kernel
theorem d_M_isListed_14 : decode b_M_isListed 14 = .ok (.iload_n 2, 1) := by decide +kernel
theorem d_M_isListed_15 : decode b_M_isListed 15 = .ok (.iconst 0, 1) := by decide +kernel
theorem d_M_isListed_16 : decode b_M_isListed 16 = .ok (.iload_n 3, 1) := by decide +kernel
theorem d_M_isListed_17 : decode b_M_isListed 17 = .ok (.iconst 1, 1) := by decide +kernel
theorem d_M_isListed_18 : decode b_M_isListed 18 = .ok (.isub, 1) := by decide +kernel
theorem d_M_isListed_19 : decode b_M_isListed 19 = .ok (.invokestatic 35, 3) := by decide +kernel
theorem d_M_isListed_22 : decode b_M_isListed 22 = .ok (.ifCond .eq 7, 3) := by decide +kernel
theorem d_M_isListed_25 : decode b_M_isListed 25 = .ok (.iconst 1, 1) := by decide +kernel
theorem d_M_isListed_26 : decode b_M_isListed 26 = .ok (.goto 4, 3) := by decide +kernel
theorem d_M_isListed_29 : decode b_M_isListed 29 = .ok (.iconst 0, 1) := by decide +kernel
theorem d_M_isListed_30 : decode b_M_isListed 30 = .ok (.ireturn, 1) := by decide +kernel
theorem d_M_overlap_0 : decode b_M_overlap 0 = .ok (.aload_n 0, 1) := by decide +kernel
theorem d_M_overlap_1 : decode b_M_overlap 1 = .ok (.aload_n 0, 1) := by decide +kernel
theorem d_M_overlap_2 : decode b_M_overlap 2 = .ok (.iload_n 1, 1) := by decide +kernel
theorem d_M_overlap_3 : decode b_M_overlap 3 = .ok (.iload_n 2, 1) := by decide +kernel
theorem d_M_overlap_4 : decode b_M_overlap 4 = .ok (.iconst 3, 1) := by decide +kernel
theorem d_M_overlap_5 : decode b_M_overlap 5 = .ok (.invokevirtual 115, 3) := by decide +kernel
theorem d_M_overlap_8 : decode b_M_overlap 8 = .ok (.iconst 1, 1) := by decide +kernel
theorem d_M_overlap_9 : decode b_M_overlap 9 = .ok (.iconst 1, 1) := by decide +kernel
theorem d_M_overlap_10 : decode b_M_overlap 10 = .ok (.invokevirtual 50, 3) := by decide +kernel
theorem d_M_overlap_13 : decode b_M_overlap 13 = .ok (.ifCond .ne 5, 3) := by decide +kernel
theorem d_M_overlap_16 : decode b_M_overlap 16 = .ok (.iconst 0, 1) := by decide +kernel
theorem d_M_overlap_17 : decode b_M_overlap 17 = .ok (.ireturn, 1) := by decide +kernel
theorem d_M_overlap_18 : decode b_M_overlap 18 = .ok (.iload_n 2, 1) := by decide +kernel
theorem d_M_overlap_19 : decode b_M_overlap 19 = .ok (.ifCond .ne 12, 3) := by decide +kernel
theorem d_M_overlap_22 : decode b_M_overlap 22 = .ok (.aload_n 0, 1) := by decide +kernel
theorem d_M_overlap_23 : decode b_M_overlap 23 = .ok (.getfield 19, 3) := by decide +kernel
theorem d_M_overlap_26 : decode b_M_overlap 26 = .ok (.iload_n 1, 1) := by decide +kernel
theorem d_M_overlap_27 : decode b_M_overlap 27 = .ok (.iaload, 1) := by decide +kernel
theorem d_M_overlap_28 : decode b_M_overlap 28 = .ok (.goto 23, 3) := by decide +kernel
theorem d_M_overlap_31 : decode b_M_overlap 31 = .ok (.iload_n 2, 1) := by decide +kernel
theorem d_M_overlap_32 : decode b_M_overlap 32 = .ok (.iconst 1, 1) := by decide +kernel
theorem d_M_overlap_33 : decode b_M_overlap 33 = .ok (.if_icmp .ne 12, 3) := by decide +kernel
theorem d_M_overlap_36 : decode b_M_overlap 36 = .ok (.aload_n 0, 1) := by decide +kernel
theorem d_M_overlap_37 : decode b_M_overlap 37 = .ok (.getfield 22, 3) := by decide +kernel
theorem d_M_overlap_40 : decode b_M_overlap 40 = .ok (.iload_n 1, 1) := by decide +kernel
theorem d_M_overlap_41 : decode b_M_overlap 41 = .ok (.iaload, 1) := by decide +kernel
theorem d_M_overlap_42 : decode b_M_overlap 42 = .ok (.goto 9, 3) := by decide +kernel
theorem d_M_overlap_45 : decode b_M_overlap 45 = .ok (.aload_n 0, 1) := by decide +kernel
theorem d_M_overlap_46 : decode b_M_overlap 46 = .ok (.getfield 25, 3) := by decide +kernel
theorem d_M_overlap_49 : decode b_M_overlap 49 = .ok (.iload_n 1, 1) := by decide +kernel
theorem d_M_overlap_50 : decode b_M_overlap 50 = .ok (.iaload, 1) := by decide +kernel
theorem d_M_overlap_51 : decode b_M_overlap 51 = .ok (.ireturn, 1) := by decide +kernel
theorem d_M_fraction_0 : decode b_M_fraction 0 = .ok (.lload_n 1, 1) := by decide +kernel
theorem d_M_fraction_1 : decode b_M_fraction 1 = .ok (.lstore 5, 2) := by decide +kernel
theorem d_M_fraction_3 : decode b_M_fraction 3 = .ok (.lload_n 3, 1) := by decide +kernel
theorem d_M_fraction_4 : decode b_M_fraction 4 = .ok (.lstore 7, 2) := by decide +kernel
theorem d_M_fraction_6 : decode b_M_fraction 6 = .ok (.lload 7, 2) := by decide +kernel
theorem d_M_fraction_8 : decode b_M_fraction 8 = .ok (.lconst 0, 1) := by decide +kernel
theorem d_M_fraction_9 : decode b_M_fraction 9 = .ok (.lcmp, 1) := by decide +kernel
theorem d_M_fraction_10 : decode b_M_fraction 10 = .ok (.ifCond .eq 21, 3) := by decide +kernel
theorem d_M_fraction_13 : decode b_M_fraction 13 = .ok (.lload 5, 2) := by decide +kernel
theorem d_M_fraction_15 : decode b_M_fraction 15 = .ok (.lload 7, 2) := by decide +kernel
theorem d_M_fraction_17 : decode b_M_fraction 17 = .ok (.lrem, 1) := by decide +kernel
theorem d_M_fraction_18 : decode b_M_fraction 18 = .ok (.lstore 9, 2) := by decide +kernel
theorem d_M_fraction_20 : decode b_M_fraction 20 = .ok (.lload 7, 2) := by decide +kernel
theorem d_M_fraction_22 : decode b_M_fraction 22 = .ok (.lstore 5, 2) := by decide +kernel
theorem d_M_fraction_24 : decode b_M_fraction 24 = .ok (.lload 9, 2) := by decide +kernel
theorem d_M_fraction_26 : decode b_M_fraction 26 = .ok (.lstore 7, 2) := by decide +kernel
theorem d_M_fraction_28 : decode b_M_fraction 28 = .ok (.goto (-22), 3) := by decide +kernel
theorem d_M_fraction_31 : decode b_M_fraction 31 = .ok (.aload_n 0, 1) := by decide +kernel
theorem d_M_fraction_32 : decode b_M_fraction 32 = .ok (.lload_n 1, 1) := by decide +kernel
theorem d_M_fraction_33 : decode b_M_fraction 33 = .ok (.lload 5, 2) := by decide +kernel
theorem d_M_fraction_35 : decode b_M_fraction 35 = .ok (.ldiv, 1) := by decide +kernel
theorem d_M_fraction_36 : decode b_M_fraction 36 = .ok (.putfield 118, 3) := by decide +kernel
theorem d_M_fraction_39 : decode b_M_fraction 39 = .ok (.aload_n 0, 1) := by decide +kernel
theorem d_M_fraction_40 : decode b_M_fraction 40 = .ok (.lload_n 3, 1) := by decide +kernel
theorem d_M_fraction_41 : decode b_M_fraction 41 = .ok (.lload 5, 2) := by decide +kernel
theorem d_M_fraction_43 : decode b_M_fraction 43 = .ok (.ldiv, 1) := by decide +kernel
theorem d_M_fraction_44 : decode b_M_fraction 44 = .ok (.putfield 122, 3) := by decide +kernel
theorem d_M_fraction_47 : decode b_M_fraction 47 = .ok (.return_, 1) := by decide +kernel
theorem d_M_agree_0 : decode b_M_agree 0 = .ok (.aload_n 0, 1) := by decide +kernel
theorem d_M_agree_1 : decode b_M_agree 1 = .ok (.aload_n 0, 1) := by decide +kernel
theorem d_M_agree_2 : decode b_M_agree 2 = .ok (.iload_n 1, 1) := by decide +kernel
theorem d_M_agree_3 : decode b_M_agree 3 = .ok (.iload_n 2, 1) := by decide +kernel
theorem d_M_agree_4 : decode b_M_agree 4 = .ok (.iconst 2, 1) := by decide +kernel
theorem d_M_agree_5 : decode b_M_agree 5 = .ok (.invokevirtual 115, 3) := by decide +kernel
theorem d_M_agree_8 : decode b_M_agree 8 = .ok (.iconst 1, 1) := by decide +kernel
theorem d_M_agree_9 : decode b_M_agree 9 = .ok (.iconst 1, 1) := by decide +kernel
theorem d_M_agree_10 : decode b_M_agree 10 = .ok (.invokevirtual 50, 3) := by decide +kernel
theorem d_M_agree_13 : decode b_M_agree 13 = .ok (.ifCond .ne 5, 3) := by decide +kernel
theorem d_M_agree_16 : decode b_M_agree 16 = .ok (.iconst 0, 1) := by decide +kernel
theorem d_M_agree_17 : decode b_M_agree 17 = .ok (.ireturn, 1) := by decide +kernel
theorem d_M_agree_18 : decode b_M_agree 18 = .ok (.aload_n 0, 1) := by decide +kernel
theorem d_M_agree_19 : decode b_M_agree 19 = .ok (.aload_n 0, 1) := by decide +kernel
theorem d_M_agree_20 : decode b_M_agree 20 = .ok (.getfield 96, 3) := by decide +kernel
theorem d_M_agree_23 : decode b_M_agree 23 = .ok (.aload_n 0, 1) := by decide +kernel
theorem d_M_agree_24 : decode b_M_agree 24 = .ok (.getfield 99, 3) := by decide +kernel
theorem d_M_agree_27 : decode b_M_agree 27 = .ok (.aload_n 0, 1) := by decide +kernel
theorem d_M_agree_28 : decode b_M_agree 28 = .ok (.getfield 19, 3) := by decide +kernel
theorem d_M_agree_31 : decode b_M_agree 31 = .ok (.iload_n 1, 1) := by decide +kernel
theorem d_M_agree_32 : decode b_M_agree 32 = .ok (.iaload, 1) := by decide +kernel
theorem d_M_agree_33 : decode b_M_agree 33 = .ok (.invokevirtual 105, 3) := by decide +kernel
theorem d_M_agree_36 : decode b_M_agree 36 = .ok (.pop, 1) := by decide +kernel
theorem d_M_agree_37 : decode b_M_agree 37 = .ok (.aload_n 0, 1) := by decide +kernel
theorem d_M_agree_38 : decode b_M_agree 38 = .ok (.aload_n 0, 1) := by decide +kernel
theorem d_M_agree_39 : decode b_M_agree 39 = .ok (.getfield 81, 3) := by decide +kernel
theorem d_M_agree_42 : decode b_M_agree 42 = .ok (.i2l, 1) := by decide +kernel
theorem d_M_agree_43 : decode b_M_agree 43 = .ok (.aload_n 0, 1) := by decide +kernel
theorem d_M_agree_44 : decode b_M_agree 44 = .ok (.getfield 78, 3) := by decide +kernel
theorem d_M_agree_47 : decode b_M_agree 47 = .ok (.ifCond .ne 7, 3) := by decide +kernel
theorem d_M_agree_50 : decode b_M_agree 50 = .ok (.lconst 1, 1) := by decide +kernel
theorem d_M_agree_51 : decode b_M_agree 51 = .ok (.goto 12, 3) := by decide +kernel
theorem d_M_agree_54 : decode b_M_agree 54 = .ok (.ldc2_w 125, 3) := by decide +kernel
theorem d_M_agree_57 : decode b_M_agree 57 = .ok (.aload_n 0, 1) := by decide +kernel
theorem d_M_agree_58 : decode b_M_agree 58 = .ok (.getfield 78, 3) := by decide +kernel
theorem d_M_agree_61 : decode b_M_agree 61 = .ok (.i2l, 1) := by decide +kernel
theorem d_M_agree_62 : decode b_M_agree 62 = .ok (.lmul, 1) := by decide +kernel
theorem d_M_agree_63 : decode b_M_agree 63 = .ok (.invokevirtual 127, 3) := by decide +kernel
theorem d_M_agree_66 : decode b_M_agree 66 = .ok (.iload_n 2, 1) := by decide +kernel
theorem d_M_agree_67 : decode b_M_agree 67 = .ok (.ifCond .ne 10, 3) := by decide +kernel
theorem d_M_agree_70 : decode b_M_agree 70 = .ok (.aload_n 0, 1) := by decide +kernel
theorem d_M_agree_71 : decode b_M_agree 71 = .ok (.getfield 118, 3) := by decide +kernel
theorem d_M_agree_74 : decode b_M_agree 74 = .ok (.goto 7, 3) := by decide +kernel
theorem d_M_agree_77 : decode b_M_agree 77 = .ok (.aload_n 0, 1) := by decide +kernel
theorem d_M_agree_78 : decode b_M_agree 78 = .ok (.getfield 122, 3) := by decide +kernel
theorem d_M_agree_81 : decode b_M_agree 81 = .ok (.l2i, 1) := by decide +kernel
theorem d_M_agree_82 : decode b_M_agree 82 = .ok (.ireturn, 1) := by decide +kernel
theorem d_M_odds_0 : decode b_M_odds 0 = .ok (.aload_n 0, 1) := by decide +kernel
theorem d_M_odds_1 : decode b_M_odds 1 = .ok (.aload_n 0, 1) := by decide +kernel
theorem d_M_odds_2 : decode b_M_odds 2 = .ok (.iload_n 1, 1) := by decide +kernel
theorem d_M_odds_3 : decode b_M_odds 3 = .ok (.iload_n 2, 1) := by decide +kernel
theorem d_M_odds_4 : decode b_M_odds 4 = .ok (.iconst 2, 1) := by decide +kernel
theorem d_M_odds_5 : decode b_M_odds 5 = .ok (.invokevirtual 115, 3) := by decide +kernel
theorem d_M_odds_8 : decode b_M_odds 8 = .ok (.iconst 1, 1) := by decide +kernel
theorem d_M_odds_9 : decode b_M_odds 9 = .ok (.iconst 1, 1) := by decide +kernel
theorem d_M_odds_10 : decode b_M_odds 10 = .ok (.invokevirtual 50, 3) := by decide +kernel
theorem d_M_odds_13 : decode b_M_odds 13 = .ok (.ifCond .ne 5, 3) := by decide +kernel
theorem d_M_odds_16 : decode b_M_odds 16 = .ok (.lconst 0, 1) := by decide +kernel
theorem d_M_odds_17 : decode b_M_odds 17 = .ok (.lreturn, 1) := by decide +kernel
theorem d_M_odds_18 : decode b_M_odds 18 = .ok (.aload_n 0, 1) := by decide +kernel
theorem d_M_odds_19 : decode b_M_odds 19 = .ok (.aload_n 0, 1) := by decide +kernel
theorem d_M_odds_20 : decode b_M_odds 20 = .ok (.getfield 96, 3) := by decide +kernel
theorem d_M_odds_23 : decode b_M_odds 23 = .ok (.aload_n 0, 1) := by decide +kernel
theorem d_M_odds_24 : decode b_M_odds 24 = .ok (.getfield 99, 3) := by decide +kernel
theorem d_M_odds_27 : decode b_M_odds 27 = .ok (.aload_n 0, 1) := by decide +kernel
theorem d_M_odds_28 : decode b_M_odds 28 = .ok (.getfield 19, 3) := by decide +kernel
theorem d_M_odds_31 : decode b_M_odds 31 = .ok (.iload_n 1, 1) := by decide +kernel
theorem d_M_odds_32 : decode b_M_odds 32 = .ok (.iaload, 1) := by decide +kernel
theorem d_M_odds_33 : decode b_M_odds 33 = .ok (.invokevirtual 105, 3) := by decide +kernel
theorem d_M_odds_36 : decode b_M_odds 36 = .ok (.pop, 1) := by decide +kernel
theorem d_M_odds_37 : decode b_M_odds 37 = .ok (.lconst 0, 1) := by decide +kernel
theorem d_M_odds_38 : decode b_M_odds 38 = .ok (.lstore_n 3, 1) := by decide +kernel
theorem d_M_odds_39 : decode b_M_odds 39 = .ok (.lconst 1, 1) := by decide +kernel
theorem d_M_odds_40 : decode b_M_odds 40 = .ok (.lstore 5, 2) := by decide +kernel
theorem d_M_odds_42 : decode b_M_odds 42 = .ok (.iconst 0, 1) := by decide +kernel
theorem d_M_odds_43 : decode b_M_odds 43 = .ok (.istore 7, 2) := by decide +kernel
theorem d_M_odds_45 : decode b_M_odds 45 = .ok (.iload 7, 2) := by decide +kernel
theorem d_M_odds_47 : decode b_M_odds 47 = .ok (.aload_n 0, 1) := by decide +kernel
theorem d_M_odds_48 : decode b_M_odds 48 = .ok (.getfield 78, 3) := by decide +kernel
theorem d_M_odds_51 : decode b_M_odds 51 = .ok (.if_icmp .gt 48, 3) := by decide +kernel
theorem d_M_odds_54 : decode b_M_odds 54 = .ok (.iconst 2, 1) := by decide +kernel
theorem d_M_odds_55 : decode b_M_odds 55 = .ok (.iload 7, 2) := by decide +kernel
theorem d_M_odds_57 : decode b_M_odds 57 = .ok (.imul, 1) := by decide +kernel
theorem d_M_odds_58 : decode b_M_odds 58 = .ok (.aload_n 0, 1) := by decide +kernel
theorem d_M_odds_59 : decode b_M_odds 59 = .ok (.getfield 81, 3) := by decide +kernel
theorem d_M_odds_62 : decode b_M_odds 62 = .ok (.if_icmp .lt 10, 3) := by decide +kernel
theorem d_M_odds_65 : decode b_M_odds 65 = .ok (.lload_n 3, 1) := by decide +kernel
theorem d_M_odds_66 : decode b_M_odds 66 = .ok (.lload 5, 2) := by decide +kernel
theorem d_M_odds_68 : decode b_M_odds 68 = .ok (.ladd, 1) := by decide +kernel
theorem d_M_odds_69 : decode b_M_odds 69 = .ok (.goto 4, 3) := by decide +kernel
theorem d_M_odds_72 : decode b_M_odds 72 = .ok (.lload_n 3, 1) := by decide +kernel
theorem d_M_odds_73 : decode b_M_odds 73 = .ok (.lstore_n 3, 1) := by decide +kernel
theorem d_M_odds_74 : decode b_M_odds 74 = .ok (.lload 5, 2) := by decide +kernel
theorem d_M_odds_76 : decode b_M_odds 76 = .ok (.aload_n 0, 1) := by decide +kernel
theorem d_M_odds_77 : decode b_M_odds 77 = .ok (.getfield 78, 3) := by decide +kernel
theorem d_M_odds_80 : decode b_M_odds 80 = .ok (.iload 7, 2) := by decide +kernel
theorem d_M_odds_82 : decode b_M_odds 82 = .ok (.isub, 1) := by decide +kernel
theorem d_M_odds_83 : decode b_M_odds 83 = .ok (.i2l, 1) := by decide +kernel
theorem d_M_odds_84 : decode b_M_odds 84 = .ok (.lmul, 1) := by decide +kernel
theorem d_M_odds_85 : decode b_M_odds 85 = .ok (.iload 7, 2) := by decide +kernel
theorem d_M_odds_87 : decode b_M_odds 87 = .ok (.iconst 1, 1) := by decide +kernel
theorem d_M_odds_88 : decode b_M_odds 88 = .ok (.iadd, 1) := by decide +kernel
theorem d_M_odds_89 : decode b_M_odds 89 = .ok (.i2l, 1) := by decide +kernel
theorem d_M_odds_90 : decode b_M_odds 90 = .ok (.ldiv, 1) := by decide +kernel
theorem d_M_odds_91 : decode b_M_odds 91 = .ok (.lstore 5, 2) := by decide +kernel
theorem d_M_odds_93 : decode b_M_odds 93 = .ok (.iinc 7 1, 3) := by decide +kernel
theorem d_M_odds_96 : decode b_M_odds 96 = .ok (.goto (-51), 3) := by decide +kernel
theorem d_M_odds_99 : decode b_M_odds 99 = .ok (.lconst 1, 1) := by decide +kernel
theorem d_M_odds_100 : decode b_M_odds 100 = .ok (.aload_n 0, 1) := by decide +kernel
theorem d_M_odds_101 : decode b_M_odds 101 = .ok (.getfield 78, 3) := by decide +kernel
theorem d_M_odds_104 : decode b_M_odds 104 = .ok (.lshl, 1) := by decide +kernel
theorem d_M_odds_105 : decode b_M_odds 105 = .ok (.lstore 7, 2) := by decide +kernel
theorem d_M_odds_107 : decode b_M_odds 107 = .ok (.lload_n 3, 1) := by decide +kernel
theorem d_M_odds_108 : decode b_M_odds 108 = .ok (.aload_n 0, 1) := by decide +kernel
theorem d_M_odds_109 : decode b_M_odds 109 = .ok (.getfield 109, 3) := by decide +kernel
theorem d_M_odds_112 : decode b_M_odds 112 = .ok (.i2l, 1) := by decide +kernel
theorem d_M_odds_113 : decode b_M_odds 113 = .ok (.lmul, 1) := by decide +kernel
theorem d_M_odds_114 : decode b_M_odds 114 = .ok (.lstore 9, 2) := by decide +kernel
theorem d_M_odds_116 : decode b_M_odds 116 = .ok (.aload_n 0, 1) := by decide +kernel
theorem d_M_odds_117 : decode b_M_odds 117 = .ok (.lload 9, 2) := by decide +kernel
theorem d_M_odds_119 : decode b_M_odds 119 = .ok (.lload 7, 2) := by decide +kernel
theorem d_M_odds_121 : decode b_M_odds 121 = .ok (.lcmp, 1) := by decide +kernel
theorem d_M_odds_122 : decode b_M_odds 122 = .ok (.ifCond .ge 8, 3) := by decide +kernel
theorem d_M_odds_125 : decode b_M_odds 125 = .ok (.lload 9, 2) := by decide +kernel
theorem d_M_odds_127 : decode b_M_odds 127 = .ok (.goto 5, 3) := by decide +kernel
theorem d_M_odds_130 : decode b_M_odds 130 = .ok (.lload 7, 2) := by decide +kernel
theorem d_M_odds_132 : decode b_M_odds 132 = .ok (.lload 7, 2) := by decide +kernel
theorem d_M_odds_134 : decode b_M_odds 134 = .ok (.invokevirtual 127, 3) := by decide +kernel
theorem d_M_odds_137 : decode b_M_odds 137 = .ok (.iload_n 2, 1) := by decide +kernel
theorem d_M_odds_138 : decode b_M_odds 138 = .ok (.ifCond .ne 10, 3) := by decide +kernel
theorem d_M_odds_141 : decode b_M_odds 141 = .ok (.aload_n 0, 1) := by decide +kernel
theorem d_M_odds_142 : decode b_M_odds 142 = .ok (.getfield 118, 3) := by decide +kernel
theorem d_M_odds_145 : decode b_M_odds 145 = .ok (.goto 7, 3) := by decide +kernel
theorem d_M_odds_148 : decode b_M_odds 148 = .ok (.aload_n 0, 1) := by decide +kernel
theorem d_M_odds_149 : decode b_M_odds 149 = .ok (.getfield 122, 3) := by decide +kernel
theorem d_M_odds_152 : decode b_M_odds 152 = .ok (.lreturn, 1) := by decide +kernel
theorem d_M_absent_0 : decode b_M_absent 0 = .ok (.aload_n 0, 1) := by decide +kernel
theorem d_M_absent_1 : decode b_M_absent 1 = .ok (.aload_n 0, 1) := by decide +kernel
theorem d_M_absent_2 : decode b_M_absent 2 = .ok (.iload_n 1, 1) := by decide +kernel
theorem d_M_absent_3 : decode b_M_absent 3 = .ok (.invokevirtual 62, 3) := by decide +kernel
theorem d_M_absent_6 : decode b_M_absent 6 = .ok (.ifCond .eq 15, 3) := by decide +kernel
theorem d_M_absent_9 : decode b_M_absent 9 = .ok (.aload_n 0, 1) := by decide +kernel
theorem d_M_absent_10 : decode b_M_absent 10 = .ok (.iload_n 2, 1) := by decide +kernel
theorem d_M_absent_11 : decode b_M_absent 11 = .ok (.invokevirtual 62, 3) := by decide +kernel
theorem d_M_absent_14 : decode b_M_absent 14 = .ok (.ifCond .eq 7, 3) := by decide +kernel
theorem d_M_absent_17 : decode b_M_absent 17 = .ok (.iconst 1, 1) := by decide +kernel
theorem d_M_absent_18 : decode b_M_absent 18 = .ok (.goto 4, 3) := by decide +kernel
theorem d_M_absent_21 : decode b_M_absent 21 = .ok (.iconst 0, 1) := by decide +kernel
theorem d_M_absent_22 : decode b_M_absent 22 = .ok (.aload_n 0, 1) := by decide +kernel
theorem d_M_absent_23 : decode b_M_absent 23 = .ok (.getfield 13, 3) := by decide +kernel
theorem d_M_absent_26 : decode b_M_absent 26 = .ok (.aload_n 0, 1) := by decide +kernel
theorem d_M_absent_27 : decode b_M_absent 27 = .ok (.iload_n 2, 1) := by decide +kernel
theorem d_M_absent_28 : decode b_M_absent 28 = .ok (.invokevirtual 62, 3) := by decide +kernel
theorem d_M_absent_31 : decode b_M_absent 31 = .ok (.ifCond .eq 7, 3) := by decide +kernel
theorem d_M_absent_34 : decode b_M_absent 34 = .ok (.iload_n 2, 1) := by decide +kernel
theorem d_M_absent_35 : decode b_M_absent 35 = .ok (.goto 4, 3) := by decide +kernel
theorem d_M_absent_38 : decode b_M_absent 38 = .ok (.iconst 0, 1) := by decide +kernel
theorem d_M_absent_39 : decode b_M_absent 39 = .ok (.iaload, 1) := by decide +kernel
theorem d_M_absent_40 : decode b_M_absent 40 = .ok (.bipush 24, 2) := by decide +kernel
theorem d_M_absent_42 : decode b_M_absent 42 = .ok (.if_icmp .ge 18, 3) := by decide +kernel
theorem d_M_absent_45 : decode b_M_absent 45 = .ok (.iload_n 3, 1) := by decide +kernel
theorem d_M_absent_46 : decode b_M_absent 46 = .ok (.bipush (-24), 2) := by decide +kernel
theorem d_M_absent_48 : decode b_M_absent 48 = .ok (.bipush 24, 2) := by decide +kernel
theorem d_M_absent_50 : decode b_M_absent 50 = .ok (.invokestatic 35, 3) := by decide +kernel
theorem d_M_absent_53 : decode b_M_absent 53 = .ok (.ifCond .eq 7, 3) := by decide +kernel
theorem d_M_absent_56 : decode b_M_absent 56 = .ok (.iconst 1, 1) := by decide +kernel
theorem d_M_absent_57 : decode b_M_absent 57 = .ok (.goto 4, 3) := by decide +kernel
theorem d_M_absent_60 : decode b_M_absent 60 = .ok (.iconst 0, 1) := by decide +kernel
theorem d_M_absent_61 : decode b_M_absent 61 = .ok (.iconst 1, 1) := by decide +kernel
theorem d_M_absent_62 : decode b_M_absent 62 = .ok (.invokevirtual 50, 3) := by decide +kernel
theorem d_M_absent_65 : decode b_M_absent 65 = .ok (.ifCond .ne 5, 3) := by decide +kernel
theorem d_M_absent_68 : decode b_M_absent 68 = .ok (.iconst 0, 1) := by decide +kernel
theorem d_M_absent_69 : decode b_M_absent 69 = .ok (.ireturn, 1) := by decide +kernel
theorem d_M_absent_70 : decode b_M_absent 70 = .ok (.iconst (-1), 1) := by decide +kernel
theorem d_M_absent_71 : decode b_M_absent 71 = .ok (.istore 4, 2) := by decide +kernel
theorem d_M_absent_73 : decode b_M_absent 73 = .ok (.iconst 0, 1) := by decide +kernel
theorem d_M_absent_74 : decode b_M_absent 74 = .ok (.istore 5, 2) := by decide +kernel
theorem d_M_absent_76 : decode b_M_absent 76 = .ok (.aload_n 0, 1) := by decide +kernel
theorem d_M_absent_77 : decode b_M_absent 77 = .ok (.getfield 13, 3) := by decide +kernel
theorem d_M_absent_80 : decode b_M_absent 80 = .ok (.bipush 8, 2) := by decide +kernel
theorem d_M_absent_82 : decode b_M_absent 82 = .ok (.aload_n 0, 1) := by decide +kernel
theorem d_M_absent_83 : decode b_M_absent 83 = .ok (.getfield 13, 3) := by decide +kernel
theorem d_M_absent_86 : decode b_M_absent 86 = .ok (.iload_n 2, 1) := by decide +kernel
theorem d_M_absent_87 : decode b_M_absent 87 = .ok (.iaload, 1) := by decide +kernel
theorem d_M_absent_88 : decode b_M_absent 88 = .ok (.iconst 1, 1) := by decide +kernel
theorem d_M_absent_89 : decode b_M_absent 89 = .ok (.iadd, 1) := by decide +kernel
theorem d_M_absent_90 : decode b_M_absent 90 = .ok (.iastore, 1) := by decide +kernel
theorem d_M_absent_91 : decode b_M_absent 91 = .ok (.iconst 0, 1) := by decide +kernel
theorem d_M_absent_92 : decode b_M_absent 92 = .ok (.istore 6, 2) := by decide +kernel
theorem d_M_absent_94 : decode b_M_absent 94 = .ok (.iload 6, 2) := by decide +kernel
theorem d_M_absent_96 : decode b_M_absent 96 = .ok (.aload_n 0, 1) := by decide +kernel
theorem d_M_absent_97 : decode b_M_absent 97 = .ok (.getfield 13, 3) := by decide +kernel
theorem d_M_absent_100 : decode b_M_absent 100 = .ok (.iload_n 2, 1) := by decide +kernel
theorem d_M_absent_101 : decode b_M_absent 101 = .ok (.iaload, 1) := by decide +kernel
theorem d_M_absent_102 : decode b_M_absent 102 = .ok (.if_icmp .gt 143, 3) := by decide +kernel
theorem d_M_absent_105 : decode b_M_absent 105 = .ok (.iconst 0, 1) := by decide +kernel
theorem d_M_absent_106 : decode b_M_absent 106 = .ok (.istore 7, 2) := by decide +kernel
theorem d_M_absent_108 : decode b_M_absent 108 = .ok (.iload 7, 2) := by decide +kernel
theorem d_M_absent_110 : decode b_M_absent 110 = .ok (.aload_n 0, 1) := by decide +kernel
theorem d_M_absent_111 : decode b_M_absent 111 = .ok (.getfield 13, 3) := by decide +kernel
theorem d_M_absent_114 : decode b_M_absent 114 = .ok (.iload_n 2, 1) := by decide +kernel
theorem d_M_absent_115 : decode b_M_absent 115 = .ok (.iaload, 1) := by decide +kernel
theorem d_M_absent_116 : decode b_M_absent 116 = .ok (.if_icmp .gt 57, 3) := by decide +kernel
theorem d_M_absent_119 : decode b_M_absent 119 = .ok (.aload_n 0, 1) := by decide +kernel
theorem d_M_absent_120 : decode b_M_absent 120 = .ok (.getfield 16, 3) := by decide +kernel
theorem d_M_absent_123 : decode b_M_absent 123 = .ok (.sipush 192, 3) := by decide +kernel
theorem d_M_absent_126 : decode b_M_absent 126 = .ok (.iload 7, 2) := by decide +kernel
theorem d_M_absent_128 : decode b_M_absent 128 = .ok (.iadd, 1) := by decide +kernel
theorem d_M_absent_129 : decode b_M_absent 129 = .ok (.iload 7, 2) := by decide +kernel
theorem d_M_absent_131 : decode b_M_absent 131 = .ok (.iload 6, 2) := by decide +kernel
theorem d_M_absent_133 : decode b_M_absent 133 = .ok (.if_icmp .ge 13, 3) := by decide +kernel
theorem d_M_absent_136 : decode b_M_absent 136 = .ok (.aload_n 0, 1) := by decide +kernel
theorem d_M_absent_137 : decode b_M_absent 137 = .ok (.iload_n 2, 1) := by decide +kernel
theorem d_M_absent_138 : decode b_M_absent 138 = .ok (.iload 7, 2) := by decide +kernel
theorem d_M_absent_140 : decode b_M_absent 140 = .ok (.invokevirtual 65, 3) := by decide +kernel
theorem d_M_absent_143 : decode b_M_absent 143 = .ok (.goto 23, 3) := by decide +kernel
theorem d_M_absent_146 : decode b_M_absent 146 = .ok (.iload 7, 2) := by decide +kernel
theorem d_M_absent_148 : decode b_M_absent 148 = .ok (.iload 6, 2) := by decide +kernel
theorem d_M_absent_150 : decode b_M_absent 150 = .ok (.if_icmp .ne 7, 3) := by decide +kernel
theorem d_M_absent_153 : decode b_M_absent 153 = .ok (.iconst 0, 1) := by decide +kernel
theorem d_M_absent_154 : decode b_M_absent 154 = .ok (.goto 12, 3) := by decide +kernel
theorem d_M_absent_157 : decode b_M_absent 157 = .ok (.aload_n 0, 1) := by decide +kernel
theorem d_M_absent_158 : decode b_M_absent 158 = .ok (.iload_n 2, 1) := by decide +kernel
theorem d_M_absent_159 : decode b_M_absent 159 = .ok (.iload 7, 2) := by decide +kernel
theorem d_M_absent_161 : decode b_M_absent 161 = .ok (.iconst 1, 1) := by decide +kernel
theorem d_M_absent_162 : decode b_M_absent 162 = .ok (.isub, 1) := by decide +kernel
theorem d_M_absent_163 : decode b_M_absent 163 = .ok (.invokevirtual 65, 3) := by decide +kernel
theorem d_M_absent_166 : decode b_M_absent 166 = .ok (.iastore, 1) := by decide +kernel
theorem d_M_absent_167 : decode b_M_absent 167 = .ok (.iinc 7 1, 3) := by decide +kernel
theorem d_M_absent_170 : decode b_M_absent 170 = .ok (.goto (-62), 3) := by decide +kernel
theorem d_M_absent_173 : decode b_M_absent 173 = .ok (.aload_n 0, 1) := by decide +kernel
theorem d_M_absent_174 : decode b_M_absent 174 = .ok (.iload_n 1, 1) := by decide +kernel
theorem d_M_absent_175 : decode b_M_absent 175 = .ok (.bipush 8, 2) := by decide +kernel
theorem d_M_absent_177 : decode b_M_absent 177 = .ok (.iload_n 3, 1) := by decide +kernel
theorem d_M_absent_178 : decode b_M_absent 178 = .ok (.invokevirtual 105, 3) := by decide +kernel
theorem d_M_absent_181 : decode b_M_absent 181 = .ok (.istore 7, 2) := by decide +kernel
theorem d_M_absent_183 : decode b_M_absent 183 = .ok (.aload_n 0, 1) := by decide +kernel
theorem d_M_absent_184 : decode b_M_absent 184 = .ok (.getfield 75, 3) := by decide +kernel
theorem d_M_absent_187 : decode b_M_absent 187 = .ok (.iconst 3, 1) := by decide +kernel
theorem d_M_absent_188 : decode b_M_absent 188 = .ok (.if_icmp .lt 20, 3) := by decide +kernel
theorem d_M_absent_191 : decode b_M_absent 191 = .ok (.iload 4, 2) := by decide +kernel
theorem d_M_absent_193 : decode b_M_absent 193 = .ok (.iconst (-1), 1) := by decide +kernel
theorem d_M_absent_194 : decode b_M_absent 194 = .ok (.if_icmp .eq 10, 3) := by decide +kernel
theorem d_M_absent_197 : decode b_M_absent 197 = .ok (.iload 7, 2) := by decide +kernel
theorem d_M_absent_199 : decode b_M_absent 199 = .ok (.iload 5, 2) := by decide +kernel
theorem d_M_absent_201 : decode b_M_absent 201 = .ok (.if_icmp .le 7, 3) := by decide +kernel
theorem d_M_absent_204 : decode b_M_absent 204 = .ok (.iconst 1, 1) := by decide +kernel
theorem d_M_absent_205 : decode b_M_absent 205 = .ok (.goto 4, 3) := by decide +kernel
theorem d_M_absent_208 : decode b_M_absent 208 = .ok (.iconst 0, 1) := by decide +kernel
theorem d_M_absent_209 : decode b_M_absent 209 = .ok (.istore 8, 2) := by decide +kernel
theorem d_M_absent_211 : decode b_M_absent 211 = .ok (.iload 8, 2) := by decide +kernel
theorem d_M_absent_213 : decode b_M_absent 213 = .ok (.ifCond .eq 8, 3) := by decide +kernel
theorem d_M_absent_216 : decode b_M_absent 216 = .ok (.iload 6, 2) := by decide +kernel
theorem d_M_absent_218 : decode b_M_absent 218 = .ok (.goto 5, 3) := by decide +kernel
theorem d_M_absent_221 : decode b_M_absent 221 = .ok (.iload 4, 2) := by decide +kernel
theorem d_M_absent_223 : decode b_M_absent 223 = .ok (.istore 4, 2) := by decide +kernel
theorem d_M_absent_225 : decode b_M_absent 225 = .ok (.iload 8, 2) := by decide +kernel
theorem d_M_absent_227 : decode b_M_absent 227 = .ok (.ifCond .eq 8, 3) := by decide +kernel
theorem d_M_absent_230 : decode b_M_absent 230 = .ok (.iload 7, 2) := by decide +kernel
theorem d_M_absent_232 : decode b_M_absent 232 = .ok (.goto 5, 3) := by decide +kernel
theorem d_M_absent_235 : decode b_M_absent 235 = .ok (.iload 5, 2) := by decide +kernel
theorem d_M_absent_237 : decode b_M_absent 237 = .ok (.istore 5, 2) := by decide +kernel
theorem d_M_absent_239 : decode b_M_absent 239 = .ok (.iinc 6 1, 3) := by decide +kernel
theorem d_M_absent_242 : decode b_M_absent 242 = .ok (.goto (-148), 3) := by decide +kernel
theorem d_M_absent_245 : decode b_M_absent 245 = .ok (.iload 4, 2) := by decide +kernel
theorem d_M_absent_247 : decode b_M_absent 247 = .ok (.ireturn, 1) := by decide +kernel
theorem d_M_at_0 : decode b_M_at 0 = .ok (.iload_n 2, 1) := by decide +kernel
theorem d_M_at_1 : decode b_M_at 1 = .ok (.ifCond .lt 22, 3) := by decide +kernel
theorem d_M_at_4 : decode b_M_at 4 = .ok (.iload_n 2, 1) := by decide +kernel
theorem d_M_at_5 : decode b_M_at 5 = .ok (.aload_n 0, 1) := by decide +kernel
theorem d_M_at_6 : decode b_M_at 6 = .ok (.getfield 13, 3) := by decide +kernel
theorem d_M_at_9 : decode b_M_at 9 = .ok (.iload_n 1, 1) := by decide +kernel
theorem d_M_at_10 : decode b_M_at 10 = .ok (.iaload, 1) := by decide +kernel
theorem d_M_at_11 : decode b_M_at 11 = .ok (.if_icmp .ge 12, 3) := by decide +kernel
theorem d_M_at_14 : decode b_M_at 14 = .ok (.aload_n 0, 1) := by decide +kernel
theorem d_M_at_15 : decode b_M_at 15 = .ok (.iload_n 1, 1) := by decide +kernel
theorem d_M_at_16 : decode b_M_at 16 = .ok (.iload_n 2, 1) := by decide +kernel
theorem d_M_at_17 : decode b_M_at 17 = .ok (.invokevirtual 65, 3) := by decide +kernel
theorem d_M_at_20 : decode b_M_at 20 = .ok (.goto 4, 3) := by decide +kernel
theorem d_M_at_23 : decode b_M_at 23 = .ok (.iconst 0, 1) := by decide +kernel
theorem d_M_at_24 : decode b_M_at 24 = .ok (.ireturn, 1) := by decide +kernel
theorem d_M_core_0 : decode b_M_core 0 = .ok (.aload_n 0, 1) := by decide +kernel
theorem d_M_core_1 : decode b_M_core 1 = .ok (.aload_n 0, 1) := by decide +kernel
theorem d_M_core_2 : decode b_M_core 2 = .ok (.iload_n 1, 1) := by decide +kernel
theorem d_M_core_3 : decode b_M_core 3 = .ok (.invokevirtual 62, 3) := by decide +kernel
theorem d_M_core_6 : decode b_M_core 6 = .ok (.ifCond .eq 15, 3) := by decide +kernel
theorem d_M_core_9 : decode b_M_core 9 = .ok (.aload_n 0, 1) := by decide +kernel
theorem d_M_core_10 : decode b_M_core 10 = .ok (.iload_n 2, 1) := by decide +kernel
theorem d_M_core_11 : decode b_M_core 11 = .ok (.invokevirtual 62, 3) := by decide +kernel
theorem d_M_core_14 : decode b_M_core 14 = .ok (.ifCond .eq 7, 3) := by decide +kernel
theorem d_M_core_17 : decode b_M_core 17 = .ok (.iconst 1, 1) := by decide +kernel
theorem d_M_core_18 : decode b_M_core 18 = .ok (.goto 4, 3) := by decide +kernel
theorem d_M_core_21 : decode b_M_core 21 = .ok (.iconst 0, 1) := by decide +kernel
theorem d_M_core_22 : decode b_M_core 22 = .ok (.aload_n 0, 1) := by decide +kernel
theorem d_M_core_23 : decode b_M_core 23 = .ok (.getfield 32, 3) := by decide +kernel
theorem d_M_core_26 : decode b_M_core 26 = .ok (.bipush 8, 2) := by decide +kernel
theorem d_M_core_28 : decode b_M_core 28 = .ok (.if_icmp .ge 7, 3) := by decide +kernel
theorem d_M_core_31 : decode b_M_core 31 = .ok (.iconst 1, 1) := by decide +kernel
theorem d_M_core_32 : decode b_M_core 32 = .ok (.goto 4, 3) := by decide +kernel
theorem d_M_core_35 : decode b_M_core 35 = .ok (.iconst 0, 1) := by decide +kernel
theorem d_M_core_36 : decode b_M_core 36 = .ok (.iconst 1, 1) := by decide +kernel
theorem d_M_core_37 : decode b_M_core 37 = .ok (.invokevirtual 50, 3) := by decide +kernel
theorem d_M_core_40 : decode b_M_core 40 = .ok (.ifCond .ne 5, 3) := by decide +kernel
theorem d_M_core_43 : decode b_M_core 43 = .ok (.iconst 0, 1) := by decide +kernel
theorem d_M_core_44 : decode b_M_core 44 = .ok (.ireturn, 1) := by decide +kernel
theorem d_M_core_45 : decode b_M_core 45 = .ok (.iload_n 3, 1) := by decide +kernel
theorem d_M_core_46 : decode b_M_core 46 = .ok (.iconst 0, 1) := by decide +kernel
theorem d_M_core_47 : decode b_M_core 47 = .ok (.aload_n 0, 1) := by decide +kernel
theorem d_M_core_48 : decode b_M_core 48 = .ok (.getfield 13, 3) := by decide +kernel
theorem d_M_core_51 : decode b_M_core 51 = .ok (.iload_n 2, 1) := by decide +kernel
theorem d_M_core_52 : decode b_M_core 52 = .ok (.iaload, 1) := by decide +kernel
theorem d_M_core_53 : decode b_M_core 53 = .ok (.isub, 1) := by decide +kernel
theorem d_M_core_54 : decode b_M_core 54 = .ok (.if_icmp .le 13, 3) := by decide +kernel
theorem d_M_core_57 : decode b_M_core 57 = .ok (.iload_n 3, 1) := by decide +kernel
theorem d_M_core_58 : decode b_M_core 58 = .ok (.aload_n 0, 1) := by decide +kernel
theorem d_M_core_59 : decode b_M_core 59 = .ok (.getfield 13, 3) := by decide +kernel
theorem d_M_core_62 : decode b_M_core 62 = .ok (.iload_n 1, 1) := by decide +kernel
theorem d_M_core_63 : decode b_M_core 63 = .ok (.iaload, 1) := by decide +kernel
theorem d_M_core_64 : decode b_M_core 64 = .ok (.if_icmp .lt 5, 3) := by decide +kernel
theorem d_M_core_67 : decode b_M_core 67 = .ok (.iconst (-1), 1) := by decide +kernel
theorem d_M_core_68 : decode b_M_core 68 = .ok (.ireturn, 1) := by decide +kernel
theorem d_M_core_69 : decode b_M_core 69 = .ok (.iload_n 3, 1) := by decide +kernel
theorem d_M_core_70 : decode b_M_core 70 = .ok (.ifCond .ge 7, 3) := by decide +kernel
theorem d_M_core_73 : decode b_M_core 73 = .ok (.iload_n 3, 1) := by decide +kernel
theorem d_M_core_74 : decode b_M_core 74 = .ok (.goto 4, 3) := by decide +kernel
theorem d_M_core_77 : decode b_M_core 77 = .ok (.iconst 0, 1) := by decide +kernel
theorem d_M_core_78 : decode b_M_core 78 = .ok (.istore 4, 2) := by decide +kernel
end
section
theorem d_M_core_80 : decode b_M_core 80 = .ok (.aload_n 0, 1) := by decide +kernel
theorem d_M_core_81 : decode b_M_core 81 = .ok (.getfield 13, 3) := by decide +kernel
theorem d_M_core_84 : decode b_M_core 84 = .ok (.iload_n 2, 1) := by decide +kernel
theorem d_M_core_85 : decode b_M_core 85 = .ok (.iaload, 1) := by decide +kernel
theorem d_M_core_86 : decode b_M_core 86 = .ok (.iload_n 3, 1) := by decide +kernel
theorem d_M_core_87 : decode b_M_core 87 = .ok (.iadd, 1) := by decide +kernel
theorem d_M_core_88 : decode b_M_core 88 = .ok (.aload_n 0, 1) := by decide +kernel
theorem d_M_core_89 : decode b_M_core 89 = .ok (.getfield 13, 3) := by decide +kernel
theorem d_M_core_92 : decode b_M_core 92 = .ok (.iload_n 1, 1) := by decide +kernel
theorem d_M_core_93 : decode b_M_core 93 = .ok (.iaload, 1) := by decide +kernel
theorem d_M_core_94 : decode b_M_core 94 = .ok (.if_icmp .le 14, 3) := by decide +kernel
theorem d_M_core_97 : decode b_M_core 97 = .ok (.aload_n 0, 1) := by decide +kernel
theorem d_M_core_98 : decode b_M_core 98 = .ok (.getfield 13, 3) := by decide +kernel
theorem d_M_core_101 : decode b_M_core 101 = .ok (.iload_n 2, 1) := by decide +kernel
theorem d_M_core_102 : decode b_M_core 102 = .ok (.iaload, 1) := by decide +kernel
theorem d_M_core_103 : decode b_M_core 103 = .ok (.iload_n 3, 1) := by decide +kernel
theorem d_M_core_104 : decode b_M_core 104 = .ok (.iadd, 1) := by decide +kernel
theorem d_M_core_105 : decode b_M_core 105 = .ok (.goto 9, 3) := by decide +kernel
theorem d_M_core_108 : decode b_M_core 108 = .ok (.aload_n 0, 1) := by decide +kernel
theorem d_M_core_109 : decode b_M_core 109 = .ok (.getfield 13, 3) := by decide +kernel
theorem d_M_core_112 : decode b_M_core 112 = .ok (.iload_n 1, 1) := by decide +kernel
theorem d_M_core_113 : decode b_M_core 113 = .ok (.iaload, 1) := by decide +kernel
theorem d_M_core_114 : decode b_M_core 114 = .ok (.istore 5, 2) := by decide +kernel
theorem d_M_core_116 : decode b_M_core 116 = .ok (.iload 5, 2) := by decide +kernel
theorem d_M_core_118 : decode b_M_core 118 = .ok (.iload 4, 2) := by decide +kernel
theorem d_M_core_120 : decode b_M_core 120 = .ok (.isub, 1) := by decide +kernel
theorem d_M_core_121 : decode b_M_core 121 = .ok (.bipush 24, 2) := by decide +kernel
theorem d_M_core_123 : decode b_M_core 123 = .ok (.if_icmp .le 5, 3) := by decide +kernel
theorem d_M_core_126 : decode b_M_core 126 = .ok (.iconst (-1), 1) := by decide +kernel
theorem d_M_core_127 : decode b_M_core 127 = .ok (.ireturn, 1) := by decide +kernel
theorem d_M_core_128 : decode b_M_core 128 = .ok (.aload_n 0, 1) := by decide +kernel
theorem d_M_core_129 : decode b_M_core 129 = .ok (.getfield 13, 3) := by decide +kernel
theorem d_M_core_132 : decode b_M_core 132 = .ok (.aload_n 0, 1) := by decide +kernel
theorem d_M_core_133 : decode b_M_core 133 = .ok (.getfield 32, 3) := by decide +kernel
theorem d_M_core_136 : decode b_M_core 136 = .ok (.iload 5, 2) := by decide +kernel
theorem d_M_core_138 : decode b_M_core 138 = .ok (.iload 4, 2) := by decide +kernel
theorem d_M_core_140 : decode b_M_core 140 = .ok (.isub, 1) := by decide +kernel
theorem d_M_core_141 : decode b_M_core 141 = .ok (.iastore, 1) := by decide +kernel
theorem d_M_core_142 : decode b_M_core 142 = .ok (.iload 4, 2) := by decide +kernel
theorem d_M_core_144 : decode b_M_core 144 = .ok (.istore 6, 2) := by decide +kernel
theorem d_M_core_146 : decode b_M_core 146 = .ok (.iload 6, 2) := by decide +kernel
theorem d_M_core_148 : decode b_M_core 148 = .ok (.iload 5, 2) := by decide +kernel
theorem d_M_core_150 : decode b_M_core 150 = .ok (.if_icmp .ge 74, 3) := by decide +kernel
theorem d_M_core_153 : decode b_M_core 153 = .ok (.aload_n 0, 1) := by decide +kernel
theorem d_M_core_154 : decode b_M_core 154 = .ok (.iload_n 1, 1) := by decide +kernel
theorem d_M_core_155 : decode b_M_core 155 = .ok (.iload 6, 2) := by decide +kernel
theorem d_M_core_157 : decode b_M_core 157 = .ok (.invokevirtual 131, 3) := by decide +kernel
theorem d_M_core_160 : decode b_M_core 160 = .ok (.istore 7, 2) := by decide +kernel
theorem d_M_core_162 : decode b_M_core 162 = .ok (.aload_n 0, 1) := by decide +kernel
theorem d_M_core_163 : decode b_M_core 163 = .ok (.iload_n 2, 1) := by decide +kernel
theorem d_M_core_164 : decode b_M_core 164 = .ok (.iload 6, 2) := by decide +kernel
theorem d_M_core_166 : decode b_M_core 166 = .ok (.iload_n 3, 1) := by decide +kernel
theorem d_M_core_167 : decode b_M_core 167 = .ok (.isub, 1) := by decide +kernel
theorem d_M_core_168 : decode b_M_core 168 = .ok (.invokevirtual 131, 3) := by decide +kernel
theorem d_M_core_171 : decode b_M_core 171 = .ok (.istore 8, 2) := by decide +kernel
theorem d_M_core_173 : decode b_M_core 173 = .ok (.aload_n 0, 1) := by decide +kernel
theorem d_M_core_174 : decode b_M_core 174 = .ok (.getfield 16, 3) := by decide +kernel
theorem d_M_core_177 : decode b_M_core 177 = .ok (.bipush 24, 2) := by decide +kernel
theorem d_M_core_179 : decode b_M_core 179 = .ok (.aload_n 0, 1) := by decide +kernel
theorem d_M_core_180 : decode b_M_core 180 = .ok (.getfield 32, 3) := by decide +kernel
theorem d_M_core_183 : decode b_M_core 183 = .ok (.imul, 1) := by decide +kernel
theorem d_M_core_184 : decode b_M_core 184 = .ok (.iload 6, 2) := by decide +kernel
theorem d_M_core_186 : decode b_M_core 186 = .ok (.iadd, 1) := by decide +kernel
theorem d_M_core_187 : decode b_M_core 187 = .ok (.iload 4, 2) := by decide +kernel
theorem d_M_core_189 : decode b_M_core 189 = .ok (.isub, 1) := by decide +kernel
theorem d_M_core_190 : decode b_M_core 190 = .ok (.iload 7, 2) := by decide +kernel
theorem d_M_core_192 : decode b_M_core 192 = .ok (.ifCond .eq 8, 3) := by decide +kernel
theorem d_M_core_195 : decode b_M_core 195 = .ok (.iload 8, 2) := by decide +kernel
theorem d_M_core_197 : decode b_M_core 197 = .ok (.ifCond .ne 11, 3) := by decide +kernel
theorem d_M_core_200 : decode b_M_core 200 = .ok (.iload 7, 2) := by decide +kernel
theorem d_M_core_202 : decode b_M_core 202 = .ok (.iload 8, 2) := by decide +kernel
theorem d_M_core_204 : decode b_M_core 204 = .ok (.iadd, 1) := by decide +kernel
theorem d_M_core_205 : decode b_M_core 205 = .ok (.goto 12, 3) := by decide +kernel
theorem d_M_core_208 : decode b_M_core 208 = .ok (.iload 7, 2) := by decide +kernel
theorem d_M_core_210 : decode b_M_core 210 = .ok (.iload 8, 2) := by decide +kernel
theorem d_M_core_212 : decode b_M_core 212 = .ok (.iadd, 1) := by decide +kernel
theorem d_M_core_213 : decode b_M_core 213 = .ok (.iconst 1, 1) := by decide +kernel
theorem d_M_core_214 : decode b_M_core 214 = .ok (.iadd, 1) := by decide +kernel
theorem d_M_core_215 : decode b_M_core 215 = .ok (.iconst 2, 1) := by decide +kernel
theorem d_M_core_216 : decode b_M_core 216 = .ok (.idiv, 1) := by decide +kernel
theorem d_M_core_217 : decode b_M_core 217 = .ok (.iastore, 1) := by decide +kernel
theorem d_M_core_218 : decode b_M_core 218 = .ok (.iinc 6 1, 3) := by decide +kernel
theorem d_M_core_221 : decode b_M_core 221 = .ok (.goto (-75), 3) := by decide +kernel
theorem d_M_core_224 : decode b_M_core 224 = .ok (.aload_n 0, 1) := by decide +kernel
theorem d_M_core_225 : decode b_M_core 225 = .ok (.dup, 1) := by decide +kernel
theorem d_M_core_226 : decode b_M_core 226 = .ok (.getfield 32, 3) := by decide +kernel
theorem d_M_core_229 : decode b_M_core 229 = .ok (.iconst 1, 1) := by decide +kernel
theorem d_M_core_230 : decode b_M_core 230 = .ok (.iadd, 1) := by decide +kernel
theorem d_M_core_231 : decode b_M_core 231 = .ok (.putfield 32, 3) := by decide +kernel
theorem d_M_core_234 : decode b_M_core 234 = .ok (.aload_n 0, 1) := by decide +kernel
theorem d_M_core_235 : decode b_M_core 235 = .ok (.getfield 32, 3) := by decide +kernel
theorem d_M_core_238 : decode b_M_core 238 = .ok (.iconst 1, 1) := by decide +kernel
theorem d_M_core_239 : decode b_M_core 239 = .ok (.isub, 1) := by decide +kernel
theorem d_M_core_240 : decode b_M_core 240 = .ok (.ireturn, 1) := by decide +kernel
theorem d_M_joined_0 : decode b_M_joined 0 = .ok (.iconst 0, 1) := by decide +kernel
theorem d_M_joined_1 : decode b_M_joined 1 = .ok (.istore 5, 2) := by decide +kernel
theorem d_M_joined_3 : decode b_M_joined 3 = .ok (.iconst 1, 1) := by decide +kernel
theorem d_M_joined_4 : decode b_M_joined 4 = .ok (.aload_n 0, 1) := by decide +kernel
theorem d_M_joined_5 : decode b_M_joined 5 = .ok (.getfield 13, 3) := by decide +kernel
theorem d_M_joined_8 : decode b_M_joined 8 = .ok (.iload_n 2, 1) := by decide +kernel
theorem d_M_joined_9 : decode b_M_joined 9 = .ok (.iaload, 1) := by decide +kernel
theorem d_M_joined_10 : decode b_M_joined 10 = .ok (.isub, 1) := by decide +kernel
theorem d_M_joined_11 : decode b_M_joined 11 = .ok (.istore 6, 2) := by decide +kernel
theorem d_M_joined_13 : decode b_M_joined 13 = .ok (.iload 6, 2) := by decide +kernel
theorem d_M_joined_15 : decode b_M_joined 15 = .ok (.aload_n 0, 1) := by decide +kernel
theorem d_M_joined_16 : decode b_M_joined 16 = .ok (.getfield 13, 3) := by decide +kernel
theorem d_M_joined_19 : decode b_M_joined 19 = .ok (.iload_n 1, 1) := by decide +kernel
theorem d_M_joined_20 : decode b_M_joined 20 = .ok (.iaload, 1) := by decide +kernel
theorem d_M_joined_21 : decode b_M_joined 21 = .ok (.if_icmp .ge 46, 3) := by decide +kernel
theorem d_M_joined_24 : decode b_M_joined 24 = .ok (.aload_n 0, 1) := by decide +kernel
theorem d_M_joined_25 : decode b_M_joined 25 = .ok (.iload_n 1, 1) := by decide +kernel
theorem d_M_joined_26 : decode b_M_joined 26 = .ok (.iload_n 2, 1) := by decide +kernel
theorem d_M_joined_27 : decode b_M_joined 27 = .ok (.iload 6, 2) := by decide +kernel
theorem d_M_joined_29 : decode b_M_joined 29 = .ok (.invokevirtual 105, 3) := by decide +kernel
theorem d_M_joined_32 : decode b_M_joined 32 = .ok (.istore 7, 2) := by decide +kernel
theorem d_M_joined_34 : decode b_M_joined 34 = .ok (.iload 5, 2) := by decide +kernel
theorem d_M_joined_36 : decode b_M_joined 36 = .ok (.ifCond .ne 18, 3) := by decide +kernel
theorem d_M_joined_39 : decode b_M_joined 39 = .ok (.aload_n 0, 1) := by decide +kernel
theorem d_M_joined_40 : decode b_M_joined 40 = .ok (.getfield 75, 3) := by decide +kernel
theorem d_M_joined_43 : decode b_M_joined 43 = .ok (.iload_n 3, 1) := by decide +kernel
theorem d_M_joined_44 : decode b_M_joined 44 = .ok (.if_icmp .lt 14, 3) := by decide +kernel
theorem d_M_joined_47 : decode b_M_joined 47 = .ok (.iload 7, 2) := by decide +kernel
theorem d_M_joined_49 : decode b_M_joined 49 = .ok (.iload 4, 2) := by decide +kernel
theorem d_M_joined_51 : decode b_M_joined 51 = .ok (.if_icmp .lt 7, 3) := by decide +kernel
theorem d_M_joined_54 : decode b_M_joined 54 = .ok (.iconst 1, 1) := by decide +kernel
theorem d_M_joined_55 : decode b_M_joined 55 = .ok (.goto 4, 3) := by decide +kernel
theorem d_M_joined_58 : decode b_M_joined 58 = .ok (.iconst 0, 1) := by decide +kernel
theorem d_M_joined_59 : decode b_M_joined 59 = .ok (.istore 5, 2) := by decide +kernel
theorem d_M_joined_61 : decode b_M_joined 61 = .ok (.iinc 6 1, 3) := by decide +kernel
theorem d_M_joined_64 : decode b_M_joined 64 = .ok (.goto (-51), 3) := by decide +kernel
theorem d_M_joined_67 : decode b_M_joined 67 = .ok (.iload 5, 2) := by decide +kernel
theorem d_M_joined_69 : decode b_M_joined 69 = .ok (.ireturn, 1) := by decide +kernel
theorem d_M_group_0 : decode b_M_group 0 = .ok (.aload_n 0, 1) := by decide +kernel
theorem d_M_group_1 : decode b_M_group 1 = .ok (.aload_n 0, 1) := by decide +kernel
theorem d_M_group_2 : decode b_M_group 2 = .ok (.iload_n 1, 1) := by decide +kernel
theorem d_M_group_3 : decode b_M_group 3 = .ok (.invokevirtual 62, 3) := by decide +kernel
theorem d_M_group_6 : decode b_M_group 6 = .ok (.iload_n 2, 1) := by decide +kernel
theorem d_M_group_7 : decode b_M_group 7 = .ok (.iconst 3, 1) := by decide +kernel
theorem d_M_group_8 : decode b_M_group 8 = .ok (.bipush 24, 2) := by decide +kernel
theorem d_M_group_10 : decode b_M_group 10 = .ok (.invokestatic 35, 3) := by decide +kernel
theorem d_M_group_13 : decode b_M_group 13 = .ok (.iconst 1, 1) := by decide +kernel
theorem d_M_group_14 : decode b_M_group 14 = .ok (.invokevirtual 50, 3) := by decide +kernel
theorem d_M_group_17 : decode b_M_group 17 = .ok (.ifCond .ne 5, 3) := by decide +kernel
theorem d_M_group_20 : decode b_M_group 20 = .ok (.iconst 0, 1) := by decide +kernel
theorem d_M_group_21 : decode b_M_group 21 = .ok (.ireturn, 1) := by decide +kernel
theorem d_M_group_22 : decode b_M_group 22 = .ok (.iconst 1, 1) := by decide +kernel
theorem d_M_group_23 : decode b_M_group 23 = .ok (.iload_n 1, 1) := by decide +kernel
theorem d_M_group_24 : decode b_M_group 24 = .ok (.ishl, 1) := by decide +kernel
theorem d_M_group_25 : decode b_M_group 25 = .ok (.istore 4, 2) := by decide +kernel
theorem d_M_group_27 : decode b_M_group 27 = .ok (.iconst 0, 1) := by decide +kernel
theorem d_M_group_28 : decode b_M_group 28 = .ok (.istore 5, 2) := by decide +kernel
theorem d_M_group_30 : decode b_M_group 30 = .ok (.iload 5, 2) := by decide +kernel
theorem d_M_group_32 : decode b_M_group 32 = .ok (.aload_n 0, 1) := by decide +kernel
theorem d_M_group_33 : decode b_M_group 33 = .ok (.getfield 32, 3) := by decide +kernel
theorem d_M_group_36 : decode b_M_group 36 = .ok (.if_icmp .ge 105, 3) := by decide +kernel
theorem d_M_group_39 : decode b_M_group 39 = .ok (.iconst 0, 1) := by decide +kernel
theorem d_M_group_40 : decode b_M_group 40 = .ok (.istore 6, 2) := by decide +kernel
theorem d_M_group_42 : decode b_M_group 42 = .ok (.iload 6, 2) := by decide +kernel
theorem d_M_group_44 : decode b_M_group 44 = .ok (.aload_n 0, 1) := by decide +kernel
theorem d_M_group_45 : decode b_M_group 45 = .ok (.getfield 32, 3) := by decide +kernel
theorem d_M_group_48 : decode b_M_group 48 = .ok (.if_icmp .ge 87, 3) := by decide +kernel
theorem d_M_group_51 : decode b_M_group 51 = .ok (.iconst 0, 1) := by decide +kernel
theorem d_M_group_52 : decode b_M_group 52 = .ok (.istore 7, 2) := by decide +kernel
theorem d_M_group_54 : decode b_M_group 54 = .ok (.iload 7, 2) := by decide +kernel
theorem d_M_group_56 : decode b_M_group 56 = .ok (.aload_n 0, 1) := by decide +kernel
theorem d_M_group_57 : decode b_M_group 57 = .ok (.getfield 32, 3) := by decide +kernel
theorem d_M_group_60 : decode b_M_group 60 = .ok (.if_icmp .ge 69, 3) := by decide +kernel
theorem d_M_group_63 : decode b_M_group 63 = .ok (.iload 4, 2) := by decide +kernel
theorem d_M_group_65 : decode b_M_group 65 = .ok (.iload 6, 2) := by decide +kernel
theorem d_M_group_67 : decode b_M_group 67 = .ok (.ishr, 1) := by decide +kernel
theorem d_M_group_68 : decode b_M_group 68 = .ok (.iconst 1, 1) := by decide +kernel
theorem d_M_group_69 : decode b_M_group 69 = .ok (.iand, 1) := by decide +kernel
theorem d_M_group_70 : decode b_M_group 70 = .ok (.iconst 1, 1) := by decide +kernel
theorem d_M_group_71 : decode b_M_group 71 = .ok (.if_icmp .ne 17, 3) := by decide +kernel
theorem d_M_group_74 : decode b_M_group 74 = .ok (.iload 4, 2) := by decide +kernel
theorem d_M_group_76 : decode b_M_group 76 = .ok (.iload 7, 2) := by decide +kernel
theorem d_M_group_78 : decode b_M_group 78 = .ok (.ishr, 1) := by decide +kernel
theorem d_M_group_79 : decode b_M_group 79 = .ok (.iconst 1, 1) := by decide +kernel
theorem d_M_group_80 : decode b_M_group 80 = .ok (.iand, 1) := by decide +kernel
theorem d_M_group_81 : decode b_M_group 81 = .ok (.ifCond .ne 7, 3) := by decide +kernel
theorem d_M_group_84 : decode b_M_group 84 = .ok (.iconst 1, 1) := by decide +kernel
theorem d_M_group_85 : decode b_M_group 85 = .ok (.goto 4, 3) := by decide +kernel
theorem d_M_group_88 : decode b_M_group 88 = .ok (.iconst 0, 1) := by decide +kernel
theorem d_M_group_89 : decode b_M_group 89 = .ok (.istore 8, 2) := by decide +kernel
theorem d_M_group_91 : decode b_M_group 91 = .ok (.iload 8, 2) := by decide +kernel
theorem d_M_group_93 : decode b_M_group 93 = .ok (.ifCond .eq 26, 3) := by decide +kernel
theorem d_M_group_96 : decode b_M_group 96 = .ok (.aload_n 0, 1) := by decide +kernel
theorem d_M_group_97 : decode b_M_group 97 = .ok (.iload 6, 2) := by decide +kernel
theorem d_M_group_99 : decode b_M_group 99 = .ok (.iload 7, 2) := by decide +kernel
theorem d_M_group_101 : decode b_M_group 101 = .ok (.iload_n 2, 1) := by decide +kernel
theorem d_M_group_102 : decode b_M_group 102 = .ok (.iload_n 3, 1) := by decide +kernel
theorem d_M_group_103 : decode b_M_group 103 = .ok (.invokevirtual 134, 3) := by decide +kernel
theorem d_M_group_106 : decode b_M_group 106 = .ok (.ifCond .eq 13, 3) := by decide +kernel
theorem d_M_group_109 : decode b_M_group 109 = .ok (.iload 4, 2) := by decide +kernel
theorem d_M_group_111 : decode b_M_group 111 = .ok (.iconst 1, 1) := by decide +kernel
theorem d_M_group_112 : decode b_M_group 112 = .ok (.iload 7, 2) := by decide +kernel
theorem d_M_group_114 : decode b_M_group 114 = .ok (.ishl, 1) := by decide +kernel
theorem d_M_group_115 : decode b_M_group 115 = .ok (.ior, 1) := by decide +kernel
theorem d_M_group_116 : decode b_M_group 116 = .ok (.goto 5, 3) := by decide +kernel
theorem d_M_group_119 : decode b_M_group 119 = .ok (.iload 4, 2) := by decide +kernel
theorem d_M_group_121 : decode b_M_group 121 = .ok (.istore 4, 2) := by decide +kernel
theorem d_M_group_123 : decode b_M_group 123 = .ok (.iinc 7 1, 3) := by decide +kernel
theorem d_M_group_126 : decode b_M_group 126 = .ok (.goto (-72), 3) := by decide +kernel
theorem d_M_group_129 : decode b_M_group 129 = .ok (.iinc 6 1, 3) := by decide +kernel
theorem d_M_group_132 : decode b_M_group 132 = .ok (.goto (-90), 3) := by decide +kernel
theorem d_M_group_135 : decode b_M_group 135 = .ok (.iinc 5 1, 3) := by decide +kernel
theorem d_M_group_138 : decode b_M_group 138 = .ok (.goto (-108), 3) := by decide +kernel
theorem d_M_group_141 : decode b_M_group 141 = .ok (.iconst 0, 1) := by decide +kernel
theorem d_M_group_142 : decode b_M_group 142 = .ok (.istore 5, 2) := by decide +kernel
theorem d_M_group_144 : decode b_M_group 144 = .ok (.iload 4, 2) := by decide +kernel
theorem d_M_group_146 : decode b_M_group 146 = .ok (.iload 5, 2) := by decide +kernel
theorem d_M_group_148 : decode b_M_group 148 = .ok (.ishr, 1) := by decide +kernel
theorem d_M_group_149 : decode b_M_group 149 = .ok (.iconst 1, 1) := by decide +kernel
theorem d_M_group_150 : decode b_M_group 150 = .ok (.iand, 1) := by decide +kernel
theorem d_M_group_151 : decode b_M_group 151 = .ok (.ifCond .ne 9, 3) := by decide +kernel
theorem d_M_group_154 : decode b_M_group 154 = .ok (.iinc 5 1, 3) := by decide +kernel
theorem d_M_group_157 : decode b_M_group 157 = .ok (.goto (-13), 3) := by decide +kernel
theorem d_M_group_160 : decode b_M_group 160 = .ok (.iload 5, 2) := by decide +kernel
theorem d_M_group_162 : decode b_M_group 162 = .ok (.ireturn, 1) := by decide +kernel
theorem d_M_count_0 : decode b_M_count 0 = .ok (.aload_n 0, 1) := by decide +kernel
theorem d_M_count_1 : decode b_M_count 1 = .ok (.iload_n 1, 1) := by decide +kernel
theorem d_M_count_2 : decode b_M_count 2 = .ok (.iconst 0, 1) := by decide +kernel
theorem d_M_count_3 : decode b_M_count 3 = .ok (.iconst 3, 1) := by decide +kernel
theorem d_M_count_4 : decode b_M_count 4 = .ok (.invokestatic 35, 3) := by decide +kernel
theorem d_M_count_7 : decode b_M_count 7 = .ok (.iconst 1, 1) := by decide +kernel
theorem d_M_count_8 : decode b_M_count 8 = .ok (.iconst 1, 1) := by decide +kernel
theorem d_M_count_9 : decode b_M_count 9 = .ok (.invokevirtual 50, 3) := by decide +kernel
theorem d_M_count_12 : decode b_M_count 12 = .ok (.ifCond .ne 5, 3) := by decide +kernel
theorem d_M_count_15 : decode b_M_count 15 = .ok (.iconst 0, 1) := by decide +kernel
theorem d_M_count_16 : decode b_M_count 16 = .ok (.ireturn, 1) := by decide +kernel
theorem d_M_count_17 : decode b_M_count 17 = .ok (.iload_n 1, 1) := by decide +kernel
theorem d_M_count_18 : decode b_M_count 18 = .ok (.ifCond .ne 10, 3) := by decide +kernel
theorem d_M_count_21 : decode b_M_count 21 = .ok (.aload_n 0, 1) := by decide +kernel
theorem d_M_count_22 : decode b_M_count 22 = .ok (.getfield 39, 3) := by decide +kernel
theorem d_M_count_25 : decode b_M_count 25 = .ok (.goto 31, 3) := by decide +kernel
theorem d_M_count_28 : decode b_M_count 28 = .ok (.iload_n 1, 1) := by decide +kernel
theorem d_M_count_29 : decode b_M_count 29 = .ok (.iconst 1, 1) := by decide +kernel
theorem d_M_count_30 : decode b_M_count 30 = .ok (.if_icmp .ne 10, 3) := by decide +kernel
theorem d_M_count_33 : decode b_M_count 33 = .ok (.aload_n 0, 1) := by decide +kernel
theorem d_M_count_34 : decode b_M_count 34 = .ok (.getfield 32, 3) := by decide +kernel
theorem d_M_count_37 : decode b_M_count 37 = .ok (.goto 19, 3) := by decide +kernel
theorem d_M_count_40 : decode b_M_count 40 = .ok (.iload_n 1, 1) := by decide +kernel
theorem d_M_count_41 : decode b_M_count 41 = .ok (.iconst 2, 1) := by decide +kernel
theorem d_M_count_42 : decode b_M_count 42 = .ok (.if_icmp .ne 10, 3) := by decide +kernel
theorem d_M_count_45 : decode b_M_count 45 = .ok (.aload_n 0, 1) := by decide +kernel
theorem d_M_count_46 : decode b_M_count 46 = .ok (.getfield 102, 3) := by decide +kernel
theorem d_M_count_49 : decode b_M_count 49 = .ok (.goto 7, 3) := by decide +kernel
theorem d_M_count_52 : decode b_M_count 52 = .ok (.aload_n 0, 1) := by decide +kernel
theorem d_M_count_53 : decode b_M_count 53 = .ok (.getfield 109, 3) := by decide +kernel
theorem d_M_count_56 : decode b_M_count 56 = .ok (.ireturn, 1) := by decide +kernel
end
section
theorem d_L_unit_0 : decode b_L_unit 0 = .ok (.aload_n 3, 1) := by decide +kernel
theorem d_L_unit_1 : decode b_L_unit 1 = .ok (.iconst 0, 1) := by decide +kernel
theorem d_L_unit_2 : decode b_L_unit 2 = .ok (.aload_n 0, 1) := by decide +kernel
theorem d_L_unit_3 : decode b_L_unit 3 = .ok (.iload_n 1, 1) := by decide +kernel
theorem d_L_unit_4 : decode b_L_unit 4 = .ok (.iload_n 2, 1) := by decide +kernel
theorem d_L_unit_5 : decode b_L_unit 5 = .ok (.invokevirtual 7, 3) := by decide +kernel
theorem d_L_unit_8 : decode b_L_unit 8 = .ok (.i2l, 1) := by decide +kernel
theorem d_L_unit_9 : decode b_L_unit 9 = .ok (.lastore, 1) := by decide +kernel
theorem d_L_unit_10 : decode b_L_unit 10 = .ok (.goto 11, 3) := by decide +kernel
theorem d_L_unit_13 : decode b_L_unit 13 = .ok (.astore 4, 2) := by decide +kernel
theorem d_L_unit_15 : decode b_L_unit 15 = .ok (.iconst 1, 1) := by decide +kernel
theorem d_L_unit_16 : decode b_L_unit 16 = .ok (.ireturn, 1) := by decide +kernel
theorem d_L_unit_17 : decode b_L_unit 17 = .ok (.astore 4, 2) := by decide +kernel
theorem d_L_unit_19 : decode b_L_unit 19 = .ok (.iconst 2, 1) := by decide +kernel
theorem d_L_unit_20 : decode b_L_unit 20 = .ok (.ireturn, 1) := by decide +kernel
theorem d_L_unit_21 : decode b_L_unit 21 = .ok (.iconst 0, 1) := by decide +kernel
theorem d_L_unit_22 : decode b_L_unit 22 = .ok (.ireturn, 1) := by decide +kernel
theorem d_L_read_0 : decode b_L_read 0 = .ok (.aload_n 1, 1) := by decide +kernel
theorem d_L_read_1 : decode b_L_read 1 = .ok (.iconst 0, 1) := by decide +kernel
theorem d_L_read_2 : decode b_L_read 2 = .ok (.aload_n 0, 1) := by decide +kernel
theorem d_L_read_3 : decode b_L_read 3 = .ok (.invokevirtual 17, 3) := by decide +kernel
theorem d_L_read_6 : decode b_L_read 6 = .ok (.i2l, 1) := by decide +kernel
theorem d_L_read_7 : decode b_L_read 7 = .ok (.lastore, 1) := by decide +kernel
theorem d_L_read_8 : decode b_L_read 8 = .ok (.goto 6, 3) := by decide +kernel
theorem d_L_read_11 : decode b_L_read 11 = .ok (.astore_n 2, 1) := by decide +kernel
theorem d_L_read_12 : decode b_L_read 12 = .ok (.iconst 1, 1) := by decide +kernel
theorem d_L_read_13 : decode b_L_read 13 = .ok (.ireturn, 1) := by decide +kernel
theorem d_L_read_14 : decode b_L_read 14 = .ok (.iconst 0, 1) := by decide +kernel
theorem d_L_read_15 : decode b_L_read 15 = .ok (.ireturn, 1) := by decide +kernel
theorem d_L_width_0 : decode b_L_width 0 = .ok (.aload_n 3, 1) := by decide +kernel
theorem d_L_width_1 : decode b_L_width 1 = .ok (.iconst 0, 1) := by decide +kernel
theorem d_L_width_2 : decode b_L_width 2 = .ok (.aload_n 0, 1) := by decide +kernel
theorem d_L_width_3 : decode b_L_width 3 = .ok (.iload_n 1, 1) := by decide +kernel
theorem d_L_width_4 : decode b_L_width 4 = .ok (.iload_n 2, 1) := by decide +kernel
theorem d_L_width_5 : decode b_L_width 5 = .ok (.invokevirtual 21, 3) := by decide +kernel
theorem d_L_width_8 : decode b_L_width 8 = .ok (.i2l, 1) := by decide +kernel
theorem d_L_width_9 : decode b_L_width 9 = .ok (.lastore, 1) := by decide +kernel
theorem d_L_width_10 : decode b_L_width 10 = .ok (.goto 7, 3) := by decide +kernel
theorem d_L_width_13 : decode b_L_width 13 = .ok (.astore 4, 2) := by decide +kernel
theorem d_L_width_15 : decode b_L_width 15 = .ok (.iconst 1, 1) := by decide +kernel
theorem d_L_width_16 : decode b_L_width 16 = .ok (.ireturn, 1) := by decide +kernel
theorem d_L_width_17 : decode b_L_width 17 = .ok (.iconst 0, 1) := by decide +kernel
theorem d_L_width_18 : decode b_L_width 18 = .ok (.ireturn, 1) := by decide +kernel
theorem d_L_written_0 : decode b_L_written 0 = .ok (.aload_n 3, 1) := by decide +kernel
theorem d_L_written_1 : decode b_L_written 1 = .ok (.iconst 0, 1) := by decide +kernel
theorem d_L_written_2 : decode b_L_written 2 = .ok (.aload_n 0, 1) := by decide +kernel
theorem d_L_written_3 : decode b_L_written 3 = .ok (.iload_n 1, 1) := by decide +kernel
theorem d_L_written_4 : decode b_L_written 4 = .ok (.iload_n 2, 1) := by decide +kernel
theorem d_L_written_5 : decode b_L_written 5 = .ok (.invokevirtual 26, 3) := by decide +kernel
theorem d_L_written_8 : decode b_L_written 8 = .ok (.i2l, 1) := by decide +kernel
theorem d_L_written_9 : decode b_L_written 9 = .ok (.lastore, 1) := by decide +kernel
theorem d_L_written_10 : decode b_L_written 10 = .ok (.goto 7, 3) := by decide +kernel
theorem d_L_written_13 : decode b_L_written 13 = .ok (.astore 4, 2) := by decide +kernel
theorem d_L_written_15 : decode b_L_written 15 = .ok (.iconst 1, 1) := by decide +kernel
theorem d_L_written_16 : decode b_L_written 16 = .ok (.ireturn, 1) := by decide +kernel
theorem d_L_written_17 : decode b_L_written 17 = .ok (.iconst 0, 1) := by decide +kernel
theorem d_L_written_18 : decode b_L_written 18 = .ok (.ireturn, 1) := by decide +kernel
theorem d_L_evened_0 : decode b_L_evened 0 = .ok (.aload_n 3, 1) := by decide +kernel
theorem d_L_evened_1 : decode b_L_evened 1 = .ok (.iconst 0, 1) := by decide +kernel
theorem d_L_evened_2 : decode b_L_evened 2 = .ok (.aload_n 0, 1) := by decide +kernel
theorem d_L_evened_3 : decode b_L_evened 3 = .ok (.iload_n 1, 1) := by decide +kernel
theorem d_L_evened_4 : decode b_L_evened 4 = .ok (.iload_n 2, 1) := by decide +kernel
theorem d_L_evened_5 : decode b_L_evened 5 = .ok (.invokevirtual 29, 3) := by decide +kernel
theorem d_L_evened_8 : decode b_L_evened 8 = .ok (.i2l, 1) := by decide +kernel
theorem d_L_evened_9 : decode b_L_evened 9 = .ok (.lastore, 1) := by decide +kernel
theorem d_L_evened_10 : decode b_L_evened 10 = .ok (.goto 7, 3) := by decide +kernel
theorem d_L_evened_13 : decode b_L_evened 13 = .ok (.astore 4, 2) := by decide +kernel
theorem d_L_evened_15 : decode b_L_evened 15 = .ok (.iconst 1, 1) := by decide +kernel
theorem d_L_evened_16 : decode b_L_evened 16 = .ok (.ireturn, 1) := by decide +kernel
theorem d_L_evened_17 : decode b_L_evened 17 = .ok (.iconst 0, 1) := by decide +kernel
theorem d_L_evened_18 : decode b_L_evened 18 = .ok (.ireturn, 1) := by decide +kernel
theorem d_L_match_0 : decode b_L_match 0 = .ok (.aload 4, 2) := by decide +kernel
theorem d_L_match_2 : decode b_L_match 2 = .ok (.iconst 0, 1) := by decide +kernel
theorem d_L_match_3 : decode b_L_match 3 = .ok (.aload_n 0, 1) := by decide +kernel
theorem d_L_match_4 : decode b_L_match 4 = .ok (.iload_n 1, 1) := by decide +kernel
theorem d_L_match_5 : decode b_L_match 5 = .ok (.iload_n 2, 1) := by decide +kernel
theorem d_L_match_6 : decode b_L_match 6 = .ok (.iload_n 3, 1) := by decide +kernel
theorem d_L_match_7 : decode b_L_match 7 = .ok (.invokevirtual 32, 3) := by decide +kernel
theorem d_L_match_10 : decode b_L_match 10 = .ok (.i2l, 1) := by decide +kernel
theorem d_L_match_11 : decode b_L_match 11 = .ok (.lastore, 1) := by decide +kernel
theorem d_L_match_12 : decode b_L_match 12 = .ok (.goto 11, 3) := by decide +kernel
theorem d_L_match_15 : decode b_L_match 15 = .ok (.astore 5, 2) := by decide +kernel
theorem d_L_match_17 : decode b_L_match 17 = .ok (.iconst 1, 1) := by decide +kernel
theorem d_L_match_18 : decode b_L_match 18 = .ok (.ireturn, 1) := by decide +kernel
theorem d_L_match_19 : decode b_L_match 19 = .ok (.astore 5, 2) := by decide +kernel
theorem d_L_match_21 : decode b_L_match 21 = .ok (.iconst 2, 1) := by decide +kernel
theorem d_L_match_22 : decode b_L_match 22 = .ok (.ireturn, 1) := by decide +kernel
theorem d_L_match_23 : decode b_L_match 23 = .ok (.iconst 0, 1) := by decide +kernel
theorem d_L_match_24 : decode b_L_match 24 = .ok (.ireturn, 1) := by decide +kernel
theorem d_L_overlap_0 : decode b_L_overlap 0 = .ok (.aload_n 3, 1) := by decide +kernel
theorem d_L_overlap_1 : decode b_L_overlap 1 = .ok (.iconst 0, 1) := by decide +kernel
theorem d_L_overlap_2 : decode b_L_overlap 2 = .ok (.aload_n 0, 1) := by decide +kernel
theorem d_L_overlap_3 : decode b_L_overlap 3 = .ok (.iload_n 1, 1) := by decide +kernel
theorem d_L_overlap_4 : decode b_L_overlap 4 = .ok (.iload_n 2, 1) := by decide +kernel
theorem d_L_overlap_5 : decode b_L_overlap 5 = .ok (.invokevirtual 36, 3) := by decide +kernel
theorem d_L_overlap_8 : decode b_L_overlap 8 = .ok (.i2l, 1) := by decide +kernel
theorem d_L_overlap_9 : decode b_L_overlap 9 = .ok (.lastore, 1) := by decide +kernel
theorem d_L_overlap_10 : decode b_L_overlap 10 = .ok (.goto 7, 3) := by decide +kernel
theorem d_L_overlap_13 : decode b_L_overlap 13 = .ok (.astore 4, 2) := by decide +kernel
theorem d_L_overlap_15 : decode b_L_overlap 15 = .ok (.iconst 1, 1) := by decide +kernel
theorem d_L_overlap_16 : decode b_L_overlap 16 = .ok (.ireturn, 1) := by decide +kernel
theorem d_L_overlap_17 : decode b_L_overlap 17 = .ok (.iconst 0, 1) := by decide +kernel
theorem d_L_overlap_18 : decode b_L_overlap 18 = .ok (.ireturn, 1) := by decide +kernel
theorem d_L_agree_0 : decode b_L_agree 0 = .ok (.aload_n 3, 1) := by decide +kernel
theorem d_L_agree_1 : decode b_L_agree 1 = .ok (.iconst 0, 1) := by decide +kernel
theorem d_L_agree_2 : decode b_L_agree 2 = .ok (.aload_n 0, 1) := by decide +kernel
theorem d_L_agree_3 : decode b_L_agree 3 = .ok (.iload_n 1, 1) := by decide +kernel
theorem d_L_agree_4 : decode b_L_agree 4 = .ok (.iload_n 2, 1) := by decide +kernel
theorem d_L_agree_5 : decode b_L_agree 5 = .ok (.invokevirtual 39, 3) := by decide +kernel
theorem d_L_agree_8 : decode b_L_agree 8 = .ok (.i2l, 1) := by decide +kernel
theorem d_L_agree_9 : decode b_L_agree 9 = .ok (.lastore, 1) := by decide +kernel
theorem d_L_agree_10 : decode b_L_agree 10 = .ok (.goto 7, 3) := by decide +kernel
theorem d_L_agree_13 : decode b_L_agree 13 = .ok (.astore 4, 2) := by decide +kernel
theorem d_L_agree_15 : decode b_L_agree 15 = .ok (.iconst 1, 1) := by decide +kernel
theorem d_L_agree_16 : decode b_L_agree 16 = .ok (.ireturn, 1) := by decide +kernel
theorem d_L_agree_17 : decode b_L_agree 17 = .ok (.iconst 0, 1) := by decide +kernel
theorem d_L_agree_18 : decode b_L_agree 18 = .ok (.ireturn, 1) := by decide +kernel
theorem d_L_odds_0 : decode b_L_odds 0 = .ok (.aload_n 3, 1) := by decide +kernel
theorem d_L_odds_1 : decode b_L_odds 1 = .ok (.iconst 0, 1) := by decide +kernel
theorem d_L_odds_2 : decode b_L_odds 2 = .ok (.aload_n 0, 1) := by decide +kernel
theorem d_L_odds_3 : decode b_L_odds 3 = .ok (.iload_n 1, 1) := by decide +kernel
theorem d_L_odds_4 : decode b_L_odds 4 = .ok (.iload_n 2, 1) := by decide +kernel
theorem d_L_odds_5 : decode b_L_odds 5 = .ok (.invokevirtual 42, 3) := by decide +kernel
theorem d_L_odds_8 : decode b_L_odds 8 = .ok (.lastore, 1) := by decide +kernel
theorem d_L_odds_9 : decode b_L_odds 9 = .ok (.goto 7, 3) := by decide +kernel
theorem d_L_odds_12 : decode b_L_odds 12 = .ok (.astore 4, 2) := by decide +kernel
theorem d_L_odds_14 : decode b_L_odds 14 = .ok (.iconst 1, 1) := by decide +kernel
theorem d_L_odds_15 : decode b_L_odds 15 = .ok (.ireturn, 1) := by decide +kernel
theorem d_L_odds_16 : decode b_L_odds 16 = .ok (.iconst 0, 1) := by decide +kernel
theorem d_L_odds_17 : decode b_L_odds 17 = .ok (.ireturn, 1) := by decide +kernel
theorem d_L_absent_0 : decode b_L_absent 0 = .ok (.aload 4, 2) := by decide +kernel
theorem d_L_absent_2 : decode b_L_absent 2 = .ok (.iconst 0, 1) := by decide +kernel
theorem d_L_absent_3 : decode b_L_absent 3 = .ok (.aload_n 0, 1) := by decide +kernel
theorem d_L_absent_4 : decode b_L_absent 4 = .ok (.iload_n 1, 1) := by decide +kernel
theorem d_L_absent_5 : decode b_L_absent 5 = .ok (.iload_n 2, 1) := by decide +kernel
theorem d_L_absent_6 : decode b_L_absent 6 = .ok (.iload_n 3, 1) := by decide +kernel
theorem d_L_absent_7 : decode b_L_absent 7 = .ok (.invokevirtual 46, 3) := by decide +kernel
theorem d_L_absent_10 : decode b_L_absent 10 = .ok (.i2l, 1) := by decide +kernel
theorem d_L_absent_11 : decode b_L_absent 11 = .ok (.lastore, 1) := by decide +kernel
theorem d_L_absent_12 : decode b_L_absent 12 = .ok (.goto 11, 3) := by decide +kernel
theorem d_L_absent_15 : decode b_L_absent 15 = .ok (.astore 5, 2) := by decide +kernel
theorem d_L_absent_17 : decode b_L_absent 17 = .ok (.iconst 1, 1) := by decide +kernel
theorem d_L_absent_18 : decode b_L_absent 18 = .ok (.ireturn, 1) := by decide +kernel
theorem d_L_absent_19 : decode b_L_absent 19 = .ok (.astore 5, 2) := by decide +kernel
theorem d_L_absent_21 : decode b_L_absent 21 = .ok (.iconst 2, 1) := by decide +kernel
theorem d_L_absent_22 : decode b_L_absent 22 = .ok (.ireturn, 1) := by decide +kernel
theorem d_L_absent_23 : decode b_L_absent 23 = .ok (.iconst 0, 1) := by decide +kernel
theorem d_L_absent_24 : decode b_L_absent 24 = .ok (.ireturn, 1) := by decide +kernel
theorem d_L_core_0 : decode b_L_core 0 = .ok (.aload 4, 2) := by decide +kernel
theorem d_L_core_2 : decode b_L_core 2 = .ok (.iconst 0, 1) := by decide +kernel
theorem d_L_core_3 : decode b_L_core 3 = .ok (.aload_n 0, 1) := by decide +kernel
theorem d_L_core_4 : decode b_L_core 4 = .ok (.iload_n 1, 1) := by decide +kernel
theorem d_L_core_5 : decode b_L_core 5 = .ok (.iload_n 2, 1) := by decide +kernel
theorem d_L_core_6 : decode b_L_core 6 = .ok (.iload_n 3, 1) := by decide +kernel
theorem d_L_core_7 : decode b_L_core 7 = .ok (.invokevirtual 49, 3) := by decide +kernel
theorem d_L_core_10 : decode b_L_core 10 = .ok (.i2l, 1) := by decide +kernel
theorem d_L_core_11 : decode b_L_core 11 = .ok (.lastore, 1) := by decide +kernel
theorem d_L_core_12 : decode b_L_core 12 = .ok (.goto 11, 3) := by decide +kernel
theorem d_L_core_15 : decode b_L_core 15 = .ok (.astore 5, 2) := by decide +kernel
theorem d_L_core_17 : decode b_L_core 17 = .ok (.iconst 1, 1) := by decide +kernel
theorem d_L_core_18 : decode b_L_core 18 = .ok (.ireturn, 1) := by decide +kernel
theorem d_L_core_19 : decode b_L_core 19 = .ok (.astore 5, 2) := by decide +kernel
theorem d_L_core_21 : decode b_L_core 21 = .ok (.iconst 2, 1) := by decide +kernel
theorem d_L_core_22 : decode b_L_core 22 = .ok (.ireturn, 1) := by decide +kernel
theorem d_L_core_23 : decode b_L_core 23 = .ok (.iconst 0, 1) := by decide +kernel
theorem d_L_core_24 : decode b_L_core 24 = .ok (.ireturn, 1) := by decide +kernel
theorem d_L_group_0 : decode b_L_group 0 = .ok (.aload 4, 2) := by decide +kernel
theorem d_L_group_2 : decode b_L_group 2 = .ok (.iconst 0, 1) := by decide +kernel
theorem d_L_group_3 : decode b_L_group 3 = .ok (.aload_n 0, 1) := by decide +kernel
theorem d_L_group_4 : decode b_L_group 4 = .ok (.iload_n 1, 1) := by decide +kernel
theorem d_L_group_5 : decode b_L_group 5 = .ok (.iload_n 2, 1) := by decide +kernel
theorem d_L_group_6 : decode b_L_group 6 = .ok (.iload_n 3, 1) := by decide +kernel
theorem d_L_group_7 : decode b_L_group 7 = .ok (.invokevirtual 52, 3) := by decide +kernel
theorem d_L_group_10 : decode b_L_group 10 = .ok (.i2l, 1) := by decide +kernel
theorem d_L_group_11 : decode b_L_group 11 = .ok (.lastore, 1) := by decide +kernel
theorem d_L_group_12 : decode b_L_group 12 = .ok (.goto 11, 3) := by decide +kernel
theorem d_L_group_15 : decode b_L_group 15 = .ok (.astore 5, 2) := by decide +kernel
theorem d_L_group_17 : decode b_L_group 17 = .ok (.iconst 1, 1) := by decide +kernel
theorem d_L_group_18 : decode b_L_group 18 = .ok (.ireturn, 1) := by decide +kernel
theorem d_L_group_19 : decode b_L_group 19 = .ok (.astore 5, 2) := by decide +kernel
theorem d_L_group_21 : decode b_L_group 21 = .ok (.iconst 2, 1) := by decide +kernel
theorem d_L_group_22 : decode b_L_group 22 = .ok (.ireturn, 1) := by decide +kernel
theorem d_L_group_23 : decode b_L_group 23 = .ok (.iconst 0, 1) := by decide +kernel
theorem d_L_group_24 : decode b_L_group 24 = .ok (.ireturn, 1) := by decide +kernel
theorem d_L_count_0 : decode b_L_count 0 = .ok (.aload_n 2, 1) := by decide +kernel
theorem d_L_count_1 : decode b_L_count 1 = .ok (.iconst 0, 1) := by decide +kernel
theorem d_L_count_2 : decode b_L_count 2 = .ok (.aload_n 0, 1) := by decide +kernel
theorem d_L_count_3 : decode b_L_count 3 = .ok (.iload_n 1, 1) := by decide +kernel
theorem d_L_count_4 : decode b_L_count 4 = .ok (.invokevirtual 55, 3) := by decide +kernel
theorem d_L_count_7 : decode b_L_count 7 = .ok (.i2l, 1) := by decide +kernel
theorem d_L_count_8 : decode b_L_count 8 = .ok (.lastore, 1) := by decide +kernel
theorem d_L_count_9 : decode b_L_count 9 = .ok (.goto 6, 3) := by decide +kernel
theorem d_L_count_12 : decode b_L_count 12 = .ok (.astore_n 3, 1) := by decide +kernel
theorem d_L_count_13 : decode b_L_count 13 = .ok (.iconst 1, 1) := by decide +kernel
theorem d_L_count_14 : decode b_L_count 14 = .ok (.ireturn, 1) := by decide +kernel
theorem d_L_count_15 : decode b_L_count 15 = .ok (.iconst 0, 1) := by decide +kernel
theorem d_L_count_16 : decode b_L_count 16 = .ok (.ireturn, 1) := by decide +kernel
theorem d_L_law_0 : decode b_L_law 0 = .ok (.new 8, 3) := by decide +kernel
theorem d_L_law_3 : decode b_L_law 3 = .ok (.dup, 1) := by decide +kernel
theorem d_L_law_4 : decode b_L_law 4 = .ok (.invokespecial 59, 3) := by decide +kernel
theorem d_L_law_7 : decode b_L_law 7 = .ok (.astore_n 1, 1) := by decide +kernel
theorem d_L_law_8 : decode b_L_law 8 = .ok (.new 60, 3) := by decide +kernel
theorem d_L_law_11 : decode b_L_law 11 = .ok (.dup, 1) := by decide +kernel
theorem d_L_law_12 : decode b_L_law 12 = .ok (.invokespecial 62, 3) := by decide +kernel
theorem d_L_law_15 : decode b_L_law 15 = .ok (.astore_n 2, 1) := by decide +kernel
theorem d_L_law_16 : decode b_L_law 16 = .ok (.iconst 1, 1) := by decide +kernel
theorem d_L_law_17 : decode b_L_law 17 = .ok (.newarray .long, 2) := by decide +kernel
theorem d_L_law_19 : decode b_L_law 19 = .ok (.astore_n 3, 1) := by decide +kernel
theorem d_L_law_20 : decode b_L_law 20 = .ok (.iconst 0, 1) := by decide +kernel
theorem d_L_law_21 : decode b_L_law 21 = .ok (.istore 4, 2) := by decide +kernel
theorem d_L_law_23 : decode b_L_law 23 = .ok (.iload 4, 2) := by decide +kernel
theorem d_L_law_25 : decode b_L_law 25 = .ok (.aload_n 0, 1) := by decide +kernel
theorem d_L_law_26 : decode b_L_law 26 = .ok (.arraylength, 1) := by decide +kernel
theorem d_L_law_27 : decode b_L_law 27 = .ok (.iconst 4, 1) := by decide +kernel
theorem d_L_law_28 : decode b_L_law 28 = .ok (.isub, 1) := by decide +kernel
theorem d_L_law_29 : decode b_L_law 29 = .ok (.if_icmp .gt 976, 3) := by decide +kernel
theorem d_L_law_32 : decode b_L_law 32 = .ok (.aload_n 0, 1) := by decide +kernel
theorem d_L_law_33 : decode b_L_law 33 = .ok (.iload 4, 2) := by decide +kernel
theorem d_L_law_35 : decode b_L_law 35 = .ok (.iaload, 1) := by decide +kernel
theorem d_L_law_36 : decode b_L_law 36 = .ok (.bipush 15, 2) := by decide +kernel
theorem d_L_law_38 : decode b_L_law 38 = .ok (.iand, 1) := by decide +kernel
theorem d_L_law_39 : decode b_L_law 39 = .ok (.tableswitch 960 0 12 #[65, 133, 177, 245, 313, 381, 461, 529, 597, 664, 744, 824, 904], 65) := by decide +kernel
theorem d_L_law_104 : decode b_L_law 104 = .ok (.aload_n 1, 1) := by decide +kernel
theorem d_L_law_105 : decode b_L_law 105 = .ok (.aload_n 0, 1) := by decide +kernel
theorem d_L_law_106 : decode b_L_law 106 = .ok (.iload 4, 2) := by decide +kernel
theorem d_L_law_108 : decode b_L_law 108 = .ok (.iconst 1, 1) := by decide +kernel
theorem d_L_law_109 : decode b_L_law 109 = .ok (.iadd, 1) := by decide +kernel
theorem d_L_law_110 : decode b_L_law 110 = .ok (.iaload, 1) := by decide +kernel
theorem d_L_law_111 : decode b_L_law 111 = .ok (.aload_n 0, 1) := by decide +kernel
theorem d_L_law_112 : decode b_L_law 112 = .ok (.iload 4, 2) := by decide +kernel
theorem d_L_law_114 : decode b_L_law 114 = .ok (.iconst 2, 1) := by decide +kernel
theorem d_L_law_115 : decode b_L_law 115 = .ok (.iadd, 1) := by decide +kernel
theorem d_L_law_116 : decode b_L_law 116 = .ok (.iaload, 1) := by decide +kernel
theorem d_L_law_117 : decode b_L_law 117 = .ok (.aload_n 3, 1) := by decide +kernel
theorem d_L_law_118 : decode b_L_law 118 = .ok (.invokestatic 63, 3) := by decide +kernel
theorem d_L_law_121 : decode b_L_law 121 = .ok (.istore 5, 2) := by decide +kernel
theorem d_L_law_123 : decode b_L_law 123 = .ok (.aload_n 2, 1) := by decide +kernel
theorem d_L_law_124 : decode b_L_law 124 = .ok (.aload_n 0, 1) := by decide +kernel
theorem d_L_law_125 : decode b_L_law 125 = .ok (.iload 4, 2) := by decide +kernel
theorem d_L_law_127 : decode b_L_law 127 = .ok (.iconst 1, 1) := by decide +kernel
theorem d_L_law_128 : decode b_L_law 128 = .ok (.iadd, 1) := by decide +kernel
theorem d_L_law_129 : decode b_L_law 129 = .ok (.iaload, 1) := by decide +kernel
theorem d_L_law_130 : decode b_L_law 130 = .ok (.aload_n 0, 1) := by decide +kernel
theorem d_L_law_131 : decode b_L_law 131 = .ok (.iload 4, 2) := by decide +kernel
theorem d_L_law_133 : decode b_L_law 133 = .ok (.iconst 2, 1) := by decide +kernel
theorem d_L_law_134 : decode b_L_law 134 = .ok (.iadd, 1) := by decide +kernel
theorem d_L_law_135 : decode b_L_law 135 = .ok (.iaload, 1) := by decide +kernel
theorem d_L_law_136 : decode b_L_law 136 = .ok (.invokevirtual 68, 3) := by decide +kernel
theorem d_L_law_139 : decode b_L_law 139 = .ok (.istore 6, 2) := by decide +kernel
theorem d_L_law_141 : decode b_L_law 141 = .ok (.aload_n 2, 1) := by decide +kernel
theorem d_L_law_142 : decode b_L_law 142 = .ok (.invokevirtual 69, 3) := by decide +kernel
theorem d_L_law_145 : decode b_L_law 145 = .ok (.iload 5, 2) := by decide +kernel
theorem d_L_law_147 : decode b_L_law 147 = .ok (.if_icmp .eq 5, 3) := by decide +kernel
theorem d_L_law_150 : decode b_L_law 150 = .ok (.iconst 0, 1) := by decide +kernel
theorem d_L_law_151 : decode b_L_law 151 = .ok (.ireturn, 1) := by decide +kernel
theorem d_L_law_152 : decode b_L_law 152 = .ok (.iload 5, 2) := by decide +kernel
theorem d_L_law_154 : decode b_L_law 154 = .ok (.ifCond .ne 15, 3) := by decide +kernel
theorem d_L_law_157 : decode b_L_law 157 = .ok (.aload_n 3, 1) := by decide +kernel
theorem d_L_law_158 : decode b_L_law 158 = .ok (.iconst 0, 1) := by decide +kernel
theorem d_L_law_159 : decode b_L_law 159 = .ok (.laload, 1) := by decide +kernel
theorem d_L_law_160 : decode b_L_law 160 = .ok (.iload 6, 2) := by decide +kernel
theorem d_L_law_162 : decode b_L_law 162 = .ok (.i2l, 1) := by decide +kernel
theorem d_L_law_163 : decode b_L_law 163 = .ok (.lcmp, 1) := by decide +kernel
theorem d_L_law_164 : decode b_L_law 164 = .ok (.ifCond .eq 5, 3) := by decide +kernel
theorem d_L_law_167 : decode b_L_law 167 = .ok (.iconst 0, 1) := by decide +kernel
theorem d_L_law_168 : decode b_L_law 168 = .ok (.ireturn, 1) := by decide +kernel
theorem d_L_law_169 : decode b_L_law 169 = .ok (.goto 830, 3) := by decide +kernel
theorem d_L_law_172 : decode b_L_law 172 = .ok (.aload_n 1, 1) := by decide +kernel
theorem d_L_law_173 : decode b_L_law 173 = .ok (.aload_n 3, 1) := by decide +kernel
theorem d_L_law_174 : decode b_L_law 174 = .ok (.invokestatic 72, 3) := by decide +kernel
theorem d_L_law_177 : decode b_L_law 177 = .ok (.istore 5, 2) := by decide +kernel
theorem d_L_law_179 : decode b_L_law 179 = .ok (.aload_n 2, 1) := by decide +kernel
theorem d_L_law_180 : decode b_L_law 180 = .ok (.invokevirtual 75, 3) := by decide +kernel
theorem d_L_law_183 : decode b_L_law 183 = .ok (.istore 6, 2) := by decide +kernel
theorem d_L_law_185 : decode b_L_law 185 = .ok (.aload_n 2, 1) := by decide +kernel
theorem d_L_law_186 : decode b_L_law 186 = .ok (.invokevirtual 69, 3) := by decide +kernel
theorem d_L_law_189 : decode b_L_law 189 = .ok (.iload 5, 2) := by decide +kernel
theorem d_L_law_191 : decode b_L_law 191 = .ok (.if_icmp .eq 5, 3) := by decide +kernel
theorem d_L_law_194 : decode b_L_law 194 = .ok (.iconst 0, 1) := by decide +kernel
theorem d_L_law_195 : decode b_L_law 195 = .ok (.ireturn, 1) := by decide +kernel
theorem d_L_law_196 : decode b_L_law 196 = .ok (.iload 5, 2) := by decide +kernel
theorem d_L_law_198 : decode b_L_law 198 = .ok (.ifCond .ne 15, 3) := by decide +kernel
theorem d_L_law_201 : decode b_L_law 201 = .ok (.aload_n 3, 1) := by decide +kernel
theorem d_L_law_202 : decode b_L_law 202 = .ok (.iconst 0, 1) := by decide +kernel
theorem d_L_law_203 : decode b_L_law 203 = .ok (.laload, 1) := by decide +kernel
theorem d_L_law_204 : decode b_L_law 204 = .ok (.iload 6, 2) := by decide +kernel
theorem d_L_law_206 : decode b_L_law 206 = .ok (.i2l, 1) := by decide +kernel
theorem d_L_law_207 : decode b_L_law 207 = .ok (.lcmp, 1) := by decide +kernel
theorem d_L_law_208 : decode b_L_law 208 = .ok (.ifCond .eq 5, 3) := by decide +kernel
theorem d_L_law_211 : decode b_L_law 211 = .ok (.iconst 0, 1) := by decide +kernel
theorem d_L_law_212 : decode b_L_law 212 = .ok (.ireturn, 1) := by decide +kernel
theorem d_L_law_213 : decode b_L_law 213 = .ok (.goto 786, 3) := by decide +kernel
theorem d_L_law_216 : decode b_L_law 216 = .ok (.aload_n 1, 1) := by decide +kernel
theorem d_L_law_217 : decode b_L_law 217 = .ok (.aload_n 0, 1) := by decide +kernel
theorem d_L_law_218 : decode b_L_law 218 = .ok (.iload 4, 2) := by decide +kernel
theorem d_L_law_220 : decode b_L_law 220 = .ok (.iconst 1, 1) := by decide +kernel
theorem d_L_law_221 : decode b_L_law 221 = .ok (.iadd, 1) := by decide +kernel
theorem d_L_law_222 : decode b_L_law 222 = .ok (.iaload, 1) := by decide +kernel
theorem d_L_law_223 : decode b_L_law 223 = .ok (.aload_n 0, 1) := by decide +kernel
theorem d_L_law_224 : decode b_L_law 224 = .ok (.iload 4, 2) := by decide +kernel
theorem d_L_law_226 : decode b_L_law 226 = .ok (.iconst 2, 1) := by decide +kernel
theorem d_L_law_227 : decode b_L_law 227 = .ok (.iadd, 1) := by decide +kernel
theorem d_L_law_228 : decode b_L_law 228 = .ok (.iaload, 1) := by decide +kernel
theorem d_L_law_229 : decode b_L_law 229 = .ok (.aload_n 3, 1) := by decide +kernel
theorem d_L_law_230 : decode b_L_law 230 = .ok (.invokestatic 76, 3) := by decide +kernel
theorem d_L_law_233 : decode b_L_law 233 = .ok (.istore 5, 2) := by decide +kernel
theorem d_L_law_235 : decode b_L_law 235 = .ok (.aload_n 2, 1) := by decide +kernel
theorem d_L_law_236 : decode b_L_law 236 = .ok (.aload_n 0, 1) := by decide +kernel
theorem d_L_law_237 : decode b_L_law 237 = .ok (.iload 4, 2) := by decide +kernel
theorem d_L_law_239 : decode b_L_law 239 = .ok (.iconst 1, 1) := by decide +kernel
theorem d_L_law_240 : decode b_L_law 240 = .ok (.iadd, 1) := by decide +kernel
theorem d_L_law_241 : decode b_L_law 241 = .ok (.iaload, 1) := by decide +kernel
theorem d_L_law_242 : decode b_L_law 242 = .ok (.aload_n 0, 1) := by decide +kernel
theorem d_L_law_243 : decode b_L_law 243 = .ok (.iload 4, 2) := by decide +kernel
theorem d_L_law_245 : decode b_L_law 245 = .ok (.iconst 2, 1) := by decide +kernel
theorem d_L_law_246 : decode b_L_law 246 = .ok (.iadd, 1) := by decide +kernel
theorem d_L_law_247 : decode b_L_law 247 = .ok (.iaload, 1) := by decide +kernel
theorem d_L_law_248 : decode b_L_law 248 = .ok (.invokevirtual 78, 3) := by decide +kernel
theorem d_L_law_251 : decode b_L_law 251 = .ok (.istore 6, 2) := by decide +kernel
theorem d_L_law_253 : decode b_L_law 253 = .ok (.aload_n 2, 1) := by decide +kernel
theorem d_L_law_254 : decode b_L_law 254 = .ok (.invokevirtual 69, 3) := by decide +kernel
theorem d_L_law_257 : decode b_L_law 257 = .ok (.iload 5, 2) := by decide +kernel
theorem d_L_law_259 : decode b_L_law 259 = .ok (.if_icmp .eq 5, 3) := by decide +kernel
theorem d_L_law_262 : decode b_L_law 262 = .ok (.iconst 0, 1) := by decide +kernel
theorem d_L_law_263 : decode b_L_law 263 = .ok (.ireturn, 1) := by decide +kernel
theorem d_L_law_264 : decode b_L_law 264 = .ok (.iload 5, 2) := by decide +kernel
theorem d_L_law_266 : decode b_L_law 266 = .ok (.ifCond .ne 15, 3) := by decide +kernel
theorem d_L_law_269 : decode b_L_law 269 = .ok (.aload_n 3, 1) := by decide +kernel
theorem d_L_law_270 : decode b_L_law 270 = .ok (.iconst 0, 1) := by decide +kernel
theorem d_L_law_271 : decode b_L_law 271 = .ok (.laload, 1) := by decide +kernel
theorem d_L_law_272 : decode b_L_law 272 = .ok (.iload 6, 2) := by decide +kernel
theorem d_L_law_274 : decode b_L_law 274 = .ok (.i2l, 1) := by decide +kernel
theorem d_L_law_275 : decode b_L_law 275 = .ok (.lcmp, 1) := by decide +kernel
theorem d_L_law_276 : decode b_L_law 276 = .ok (.ifCond .eq 5, 3) := by decide +kernel
theorem d_L_law_279 : decode b_L_law 279 = .ok (.iconst 0, 1) := by decide +kernel
theorem d_L_law_280 : decode b_L_law 280 = .ok (.ireturn, 1) := by decide +kernel
theorem d_L_law_281 : decode b_L_law 281 = .ok (.goto 718, 3) := by decide +kernel
theorem d_L_law_284 : decode b_L_law 284 = .ok (.aload_n 1, 1) := by decide +kernel
theorem d_L_law_285 : decode b_L_law 285 = .ok (.aload_n 0, 1) := by decide +kernel
theorem d_L_law_286 : decode b_L_law 286 = .ok (.iload 4, 2) := by decide +kernel
theorem d_L_law_288 : decode b_L_law 288 = .ok (.iconst 1, 1) := by decide +kernel
theorem d_L_law_289 : decode b_L_law 289 = .ok (.iadd, 1) := by decide +kernel
theorem d_L_law_290 : decode b_L_law 290 = .ok (.iaload, 1) := by decide +kernel
theorem d_L_law_291 : decode b_L_law 291 = .ok (.aload_n 0, 1) := by decide +kernel
theorem d_L_law_292 : decode b_L_law 292 = .ok (.iload 4, 2) := by decide +kernel
theorem d_L_law_294 : decode b_L_law 294 = .ok (.iconst 2, 1) := by decide +kernel
theorem d_L_law_295 : decode b_L_law 295 = .ok (.iadd, 1) := by decide +kernel
theorem d_L_law_296 : decode b_L_law 296 = .ok (.iaload, 1) := by decide +kernel
theorem d_L_law_297 : decode b_L_law 297 = .ok (.aload_n 3, 1) := by decide +kernel
theorem d_L_law_298 : decode b_L_law 298 = .ok (.invokestatic 79, 3) := by decide +kernel
theorem d_L_law_301 : decode b_L_law 301 = .ok (.istore 5, 2) := by decide +kernel
theorem d_L_law_303 : decode b_L_law 303 = .ok (.aload_n 2, 1) := by decide +kernel
theorem d_L_law_304 : decode b_L_law 304 = .ok (.aload_n 0, 1) := by decide +kernel
theorem d_L_law_305 : decode b_L_law 305 = .ok (.iload 4, 2) := by decide +kernel
theorem d_L_law_307 : decode b_L_law 307 = .ok (.iconst 1, 1) := by decide +kernel
theorem d_L_law_308 : decode b_L_law 308 = .ok (.iadd, 1) := by decide +kernel
theorem d_L_law_309 : decode b_L_law 309 = .ok (.iaload, 1) := by decide +kernel
theorem d_L_law_310 : decode b_L_law 310 = .ok (.aload_n 0, 1) := by decide +kernel
theorem d_L_law_311 : decode b_L_law 311 = .ok (.iload 4, 2) := by decide +kernel
theorem d_L_law_313 : decode b_L_law 313 = .ok (.iconst 2, 1) := by decide +kernel
theorem d_L_law_314 : decode b_L_law 314 = .ok (.iadd, 1) := by decide +kernel
theorem d_L_law_315 : decode b_L_law 315 = .ok (.iaload, 1) := by decide +kernel
theorem d_L_law_316 : decode b_L_law 316 = .ok (.invokevirtual 81, 3) := by decide +kernel
theorem d_L_law_319 : decode b_L_law 319 = .ok (.istore 6, 2) := by decide +kernel
theorem d_L_law_321 : decode b_L_law 321 = .ok (.aload_n 2, 1) := by decide +kernel
theorem d_L_law_322 : decode b_L_law 322 = .ok (.invokevirtual 69, 3) := by decide +kernel
theorem d_L_law_325 : decode b_L_law 325 = .ok (.iload 5, 2) := by decide +kernel
theorem d_L_law_327 : decode b_L_law 327 = .ok (.if_icmp .eq 5, 3) := by decide +kernel
theorem d_L_law_330 : decode b_L_law 330 = .ok (.iconst 0, 1) := by decide +kernel
theorem d_L_law_331 : decode b_L_law 331 = .ok (.ireturn, 1) := by decide +kernel
theorem d_L_law_332 : decode b_L_law 332 = .ok (.iload 5, 2) := by decide +kernel
theorem d_L_law_334 : decode b_L_law 334 = .ok (.ifCond .ne 15, 3) := by decide +kernel
theorem d_L_law_337 : decode b_L_law 337 = .ok (.aload_n 3, 1) := by decide +kernel
theorem d_L_law_338 : decode b_L_law 338 = .ok (.iconst 0, 1) := by decide +kernel
theorem d_L_law_339 : decode b_L_law 339 = .ok (.laload, 1) := by decide +kernel
theorem d_L_law_340 : decode b_L_law 340 = .ok (.iload 6, 2) := by decide +kernel
theorem d_L_law_342 : decode b_L_law 342 = .ok (.i2l, 1) := by decide +kernel
theorem d_L_law_343 : decode b_L_law 343 = .ok (.lcmp, 1) := by decide +kernel
theorem d_L_law_344 : decode b_L_law 344 = .ok (.ifCond .eq 5, 3) := by decide +kernel
theorem d_L_law_347 : decode b_L_law 347 = .ok (.iconst 0, 1) := by decide +kernel
theorem d_L_law_348 : decode b_L_law 348 = .ok (.ireturn, 1) := by decide +kernel
theorem d_L_law_349 : decode b_L_law 349 = .ok (.goto 650, 3) := by decide +kernel
theorem d_L_law_352 : decode b_L_law 352 = .ok (.aload_n 1, 1) := by decide +kernel
theorem d_L_law_353 : decode b_L_law 353 = .ok (.aload_n 0, 1) := by decide +kernel
theorem d_L_law_354 : decode b_L_law 354 = .ok (.iload 4, 2) := by decide +kernel
theorem d_L_law_356 : decode b_L_law 356 = .ok (.iconst 1, 1) := by decide +kernel
theorem d_L_law_357 : decode b_L_law 357 = .ok (.iadd, 1) := by decide +kernel
theorem d_L_law_358 : decode b_L_law 358 = .ok (.iaload, 1) := by decide +kernel
theorem d_L_law_359 : decode b_L_law 359 = .ok (.aload_n 0, 1) := by decide +kernel
theorem d_L_law_360 : decode b_L_law 360 = .ok (.iload 4, 2) := by decide +kernel
theorem d_L_law_362 : decode b_L_law 362 = .ok (.iconst 2, 1) := by decide +kernel
theorem d_L_law_363 : decode b_L_law 363 = .ok (.iadd, 1) := by decide +kernel
theorem d_L_law_364 : decode b_L_law 364 = .ok (.iaload, 1) := by decide +kernel
theorem d_L_law_365 : decode b_L_law 365 = .ok (.aload_n 3, 1) := by decide +kernel
theorem d_L_law_366 : decode b_L_law 366 = .ok (.invokestatic 82, 3) := by decide +kernel
theorem d_L_law_369 : decode b_L_law 369 = .ok (.istore 5, 2) := by decide +kernel
theorem d_L_law_371 : decode b_L_law 371 = .ok (.aload_n 2, 1) := by decide +kernel
theorem d_L_law_372 : decode b_L_law 372 = .ok (.aload_n 0, 1) := by decide +kernel
theorem d_L_law_373 : decode b_L_law 373 = .ok (.iload 4, 2) := by decide +kernel
theorem d_L_law_375 : decode b_L_law 375 = .ok (.iconst 1, 1) := by decide +kernel
theorem d_L_law_376 : decode b_L_law 376 = .ok (.iadd, 1) := by decide +kernel
theorem d_L_law_377 : decode b_L_law 377 = .ok (.iaload, 1) := by decide +kernel
theorem d_L_law_378 : decode b_L_law 378 = .ok (.aload_n 0, 1) := by decide +kernel
theorem d_L_law_379 : decode b_L_law 379 = .ok (.iload 4, 2) := by decide +kernel
theorem d_L_law_381 : decode b_L_law 381 = .ok (.iconst 2, 1) := by decide +kernel
theorem d_L_law_382 : decode b_L_law 382 = .ok (.iadd, 1) := by decide +kernel
theorem d_L_law_383 : decode b_L_law 383 = .ok (.iaload, 1) := by decide +kernel
theorem d_L_law_384 : decode b_L_law 384 = .ok (.invokevirtual 84, 3) := by decide +kernel
theorem d_L_law_387 : decode b_L_law 387 = .ok (.istore 6, 2) := by decide +kernel
theorem d_L_law_389 : decode b_L_law 389 = .ok (.aload_n 2, 1) := by decide +kernel
theorem d_L_law_390 : decode b_L_law 390 = .ok (.invokevirtual 69, 3) := by decide +kernel
theorem d_L_law_393 : decode b_L_law 393 = .ok (.iload 5, 2) := by decide +kernel
theorem d_L_law_395 : decode b_L_law 395 = .ok (.if_icmp .eq 5, 3) := by decide +kernel
theorem d_L_law_398 : decode b_L_law 398 = .ok (.iconst 0, 1) := by decide +kernel
theorem d_L_law_399 : decode b_L_law 399 = .ok (.ireturn, 1) := by decide +kernel
theorem d_L_law_400 : decode b_L_law 400 = .ok (.iload 5, 2) := by decide +kernel
theorem d_L_law_402 : decode b_L_law 402 = .ok (.ifCond .ne 15, 3) := by decide +kernel
theorem d_L_law_405 : decode b_L_law 405 = .ok (.aload_n 3, 1) := by decide +kernel
theorem d_L_law_406 : decode b_L_law 406 = .ok (.iconst 0, 1) := by decide +kernel
theorem d_L_law_407 : decode b_L_law 407 = .ok (.laload, 1) := by decide +kernel
theorem d_L_law_408 : decode b_L_law 408 = .ok (.iload 6, 2) := by decide +kernel
theorem d_L_law_410 : decode b_L_law 410 = .ok (.i2l, 1) := by decide +kernel
theorem d_L_law_411 : decode b_L_law 411 = .ok (.lcmp, 1) := by decide +kernel
theorem d_L_law_412 : decode b_L_law 412 = .ok (.ifCond .eq 5, 3) := by decide +kernel
theorem d_L_law_415 : decode b_L_law 415 = .ok (.iconst 0, 1) := by decide +kernel
theorem d_L_law_416 : decode b_L_law 416 = .ok (.ireturn, 1) := by decide +kernel
theorem d_L_law_417 : decode b_L_law 417 = .ok (.goto 582, 3) := by decide +kernel
theorem d_L_law_420 : decode b_L_law 420 = .ok (.aload_n 1, 1) := by decide +kernel
theorem d_L_law_421 : decode b_L_law 421 = .ok (.aload_n 0, 1) := by decide +kernel
theorem d_L_law_422 : decode b_L_law 422 = .ok (.iload 4, 2) := by decide +kernel
theorem d_L_law_424 : decode b_L_law 424 = .ok (.iconst 1, 1) := by decide +kernel
theorem d_L_law_425 : decode b_L_law 425 = .ok (.iadd, 1) := by decide +kernel
theorem d_L_law_426 : decode b_L_law 426 = .ok (.iaload, 1) := by decide +kernel
theorem d_L_law_427 : decode b_L_law 427 = .ok (.aload_n 0, 1) := by decide +kernel
theorem d_L_law_428 : decode b_L_law 428 = .ok (.iload 4, 2) := by decide +kernel
theorem d_L_law_430 : decode b_L_law 430 = .ok (.iconst 2, 1) := by decide +kernel
theorem d_L_law_431 : decode b_L_law 431 = .ok (.iadd, 1) := by decide +kernel
theorem d_L_law_432 : decode b_L_law 432 = .ok (.iaload, 1) := by decide +kernel
theorem d_L_law_433 : decode b_L_law 433 = .ok (.aload_n 0, 1) := by decide +kernel
theorem d_L_law_434 : decode b_L_law 434 = .ok (.iload 4, 2) := by decide +kernel
theorem d_L_law_436 : decode b_L_law 436 = .ok (.iconst 3, 1) := by decide +kernel
theorem d_L_law_437 : decode b_L_law 437 = .ok (.iadd, 1) := by decide +kernel
theorem d_L_law_438 : decode b_L_law 438 = .ok (.iaload, 1) := by decide +kernel
theorem d_L_law_439 : decode b_L_law 439 = .ok (.aload_n 3, 1) := by decide +kernel
theorem d_L_law_440 : decode b_L_law 440 = .ok (.invokestatic 85, 3) := by decide +kernel
theorem d_L_law_443 : decode b_L_law 443 = .ok (.istore 5, 2) := by decide +kernel
theorem d_L_law_445 : decode b_L_law 445 = .ok (.aload_n 2, 1) := by decide +kernel
theorem d_L_law_446 : decode b_L_law 446 = .ok (.aload_n 0, 1) := by decide +kernel
theorem d_L_law_447 : decode b_L_law 447 = .ok (.iload 4, 2) := by decide +kernel
theorem d_L_law_449 : decode b_L_law 449 = .ok (.iconst 1, 1) := by decide +kernel
theorem d_L_law_450 : decode b_L_law 450 = .ok (.iadd, 1) := by decide +kernel
theorem d_L_law_451 : decode b_L_law 451 = .ok (.iaload, 1) := by decide +kernel
theorem d_L_law_452 : decode b_L_law 452 = .ok (.aload_n 0, 1) := by decide +kernel
theorem d_L_law_453 : decode b_L_law 453 = .ok (.iload 4, 2) := by decide +kernel
theorem d_L_law_455 : decode b_L_law 455 = .ok (.iconst 2, 1) := by decide +kernel
theorem d_L_law_456 : decode b_L_law 456 = .ok (.iadd, 1) := by decide +kernel
theorem d_L_law_457 : decode b_L_law 457 = .ok (.iaload, 1) := by decide +kernel
theorem d_L_law_458 : decode b_L_law 458 = .ok (.aload_n 0, 1) := by decide +kernel
theorem d_L_law_459 : decode b_L_law 459 = .ok (.iload 4, 2) := by decide +kernel
theorem d_L_law_461 : decode b_L_law 461 = .ok (.iconst 3, 1) := by decide +kernel
theorem d_L_law_462 : decode b_L_law 462 = .ok (.iadd, 1) := by decide +kernel
theorem d_L_law_463 : decode b_L_law 463 = .ok (.iaload, 1) := by decide +kernel
theorem d_L_law_464 : decode b_L_law 464 = .ok (.invokevirtual 88, 3) := by decide +kernel
theorem d_L_law_467 : decode b_L_law 467 = .ok (.istore 6, 2) := by decide +kernel
theorem d_L_law_469 : decode b_L_law 469 = .ok (.aload_n 2, 1) := by decide +kernel
theorem d_L_law_470 : decode b_L_law 470 = .ok (.invokevirtual 69, 3) := by decide +kernel
theorem d_L_law_473 : decode b_L_law 473 = .ok (.iload 5, 2) := by decide +kernel
theorem d_L_law_475 : decode b_L_law 475 = .ok (.if_icmp .eq 5, 3) := by decide +kernel
theorem d_L_law_478 : decode b_L_law 478 = .ok (.iconst 0, 1) := by decide +kernel
theorem d_L_law_479 : decode b_L_law 479 = .ok (.ireturn, 1) := by decide +kernel
theorem d_L_law_480 : decode b_L_law 480 = .ok (.iload 5, 2) := by decide +kernel
theorem d_L_law_482 : decode b_L_law 482 = .ok (.ifCond .ne 15, 3) := by decide +kernel
theorem d_L_law_485 : decode b_L_law 485 = .ok (.aload_n 3, 1) := by decide +kernel
theorem d_L_law_486 : decode b_L_law 486 = .ok (.iconst 0, 1) := by decide +kernel
theorem d_L_law_487 : decode b_L_law 487 = .ok (.laload, 1) := by decide +kernel
theorem d_L_law_488 : decode b_L_law 488 = .ok (.iload 6, 2) := by decide +kernel
theorem d_L_law_490 : decode b_L_law 490 = .ok (.i2l, 1) := by decide +kernel
theorem d_L_law_491 : decode b_L_law 491 = .ok (.lcmp, 1) := by decide +kernel
theorem d_L_law_492 : decode b_L_law 492 = .ok (.ifCond .eq 5, 3) := by decide +kernel
theorem d_L_law_495 : decode b_L_law 495 = .ok (.iconst 0, 1) := by decide +kernel
theorem d_L_law_496 : decode b_L_law 496 = .ok (.ireturn, 1) := by decide +kernel
theorem d_L_law_497 : decode b_L_law 497 = .ok (.goto 502, 3) := by decide +kernel
theorem d_L_law_500 : decode b_L_law 500 = .ok (.aload_n 1, 1) := by decide +kernel
theorem d_L_law_501 : decode b_L_law 501 = .ok (.aload_n 0, 1) := by decide +kernel
theorem d_L_law_502 : decode b_L_law 502 = .ok (.iload 4, 2) := by decide +kernel
theorem d_L_law_504 : decode b_L_law 504 = .ok (.iconst 1, 1) := by decide +kernel
theorem d_L_law_505 : decode b_L_law 505 = .ok (.iadd, 1) := by decide +kernel
theorem d_L_law_506 : decode b_L_law 506 = .ok (.iaload, 1) := by decide +kernel
theorem d_L_law_507 : decode b_L_law 507 = .ok (.aload_n 0, 1) := by decide +kernel
theorem d_L_law_508 : decode b_L_law 508 = .ok (.iload 4, 2) := by decide +kernel
theorem d_L_law_510 : decode b_L_law 510 = .ok (.iconst 2, 1) := by decide +kernel
theorem d_L_law_511 : decode b_L_law 511 = .ok (.iadd, 1) := by decide +kernel
theorem d_L_law_512 : decode b_L_law 512 = .ok (.iaload, 1) := by decide +kernel
theorem d_L_law_513 : decode b_L_law 513 = .ok (.aload_n 3, 1) := by decide +kernel
theorem d_L_law_514 : decode b_L_law 514 = .ok (.invokestatic 89, 3) := by decide +kernel
theorem d_L_law_517 : decode b_L_law 517 = .ok (.istore 5, 2) := by decide +kernel
theorem d_L_law_519 : decode b_L_law 519 = .ok (.aload_n 2, 1) := by decide +kernel
theorem d_L_law_520 : decode b_L_law 520 = .ok (.aload_n 0, 1) := by decide +kernel
theorem d_L_law_521 : decode b_L_law 521 = .ok (.iload 4, 2) := by decide +kernel
theorem d_L_law_523 : decode b_L_law 523 = .ok (.iconst 1, 1) := by decide +kernel
end
section
theorem d_L_law_524 : decode b_L_law 524 = .ok (.iadd, 1) := by decide +kernel
theorem d_L_law_525 : decode b_L_law 525 = .ok (.iaload, 1) := by decide +kernel
theorem d_L_law_526 : decode b_L_law 526 = .ok (.aload_n 0, 1) := by decide +kernel
theorem d_L_law_527 : decode b_L_law 527 = .ok (.iload 4, 2) := by decide +kernel
theorem d_L_law_529 : decode b_L_law 529 = .ok (.iconst 2, 1) := by decide +kernel
theorem d_L_law_530 : decode b_L_law 530 = .ok (.iadd, 1) := by decide +kernel
theorem d_L_law_531 : decode b_L_law 531 = .ok (.iaload, 1) := by decide +kernel
theorem d_L_law_532 : decode b_L_law 532 = .ok (.invokevirtual 91, 3) := by decide +kernel
theorem d_L_law_535 : decode b_L_law 535 = .ok (.istore 6, 2) := by decide +kernel
theorem d_L_law_537 : decode b_L_law 537 = .ok (.aload_n 2, 1) := by decide +kernel
theorem d_L_law_538 : decode b_L_law 538 = .ok (.invokevirtual 69, 3) := by decide +kernel
theorem d_L_law_541 : decode b_L_law 541 = .ok (.iload 5, 2) := by decide +kernel
theorem d_L_law_543 : decode b_L_law 543 = .ok (.if_icmp .eq 5, 3) := by decide +kernel
theorem d_L_law_546 : decode b_L_law 546 = .ok (.iconst 0, 1) := by decide +kernel
theorem d_L_law_547 : decode b_L_law 547 = .ok (.ireturn, 1) := by decide +kernel
theorem d_L_law_548 : decode b_L_law 548 = .ok (.iload 5, 2) := by decide +kernel
theorem d_L_law_550 : decode b_L_law 550 = .ok (.ifCond .ne 15, 3) := by decide +kernel
theorem d_L_law_553 : decode b_L_law 553 = .ok (.aload_n 3, 1) := by decide +kernel
theorem d_L_law_554 : decode b_L_law 554 = .ok (.iconst 0, 1) := by decide +kernel
theorem d_L_law_555 : decode b_L_law 555 = .ok (.laload, 1) := by decide +kernel
theorem d_L_law_556 : decode b_L_law 556 = .ok (.iload 6, 2) := by decide +kernel
theorem d_L_law_558 : decode b_L_law 558 = .ok (.i2l, 1) := by decide +kernel
theorem d_L_law_559 : decode b_L_law 559 = .ok (.lcmp, 1) := by decide +kernel
theorem d_L_law_560 : decode b_L_law 560 = .ok (.ifCond .eq 5, 3) := by decide +kernel
theorem d_L_law_563 : decode b_L_law 563 = .ok (.iconst 0, 1) := by decide +kernel
theorem d_L_law_564 : decode b_L_law 564 = .ok (.ireturn, 1) := by decide +kernel
theorem d_L_law_565 : decode b_L_law 565 = .ok (.goto 434, 3) := by decide +kernel
theorem d_L_law_568 : decode b_L_law 568 = .ok (.aload_n 1, 1) := by decide +kernel
theorem d_L_law_569 : decode b_L_law 569 = .ok (.aload_n 0, 1) := by decide +kernel
theorem d_L_law_570 : decode b_L_law 570 = .ok (.iload 4, 2) := by decide +kernel
theorem d_L_law_572 : decode b_L_law 572 = .ok (.iconst 1, 1) := by decide +kernel
theorem d_L_law_573 : decode b_L_law 573 = .ok (.iadd, 1) := by decide +kernel
theorem d_L_law_574 : decode b_L_law 574 = .ok (.iaload, 1) := by decide +kernel
theorem d_L_law_575 : decode b_L_law 575 = .ok (.aload_n 0, 1) := by decide +kernel
theorem d_L_law_576 : decode b_L_law 576 = .ok (.iload 4, 2) := by decide +kernel
theorem d_L_law_578 : decode b_L_law 578 = .ok (.iconst 2, 1) := by decide +kernel
theorem d_L_law_579 : decode b_L_law 579 = .ok (.iadd, 1) := by decide +kernel
theorem d_L_law_580 : decode b_L_law 580 = .ok (.iaload, 1) := by decide +kernel
theorem d_L_law_581 : decode b_L_law 581 = .ok (.aload_n 3, 1) := by decide +kernel
theorem d_L_law_582 : decode b_L_law 582 = .ok (.invokestatic 92, 3) := by decide +kernel
theorem d_L_law_585 : decode b_L_law 585 = .ok (.istore 5, 2) := by decide +kernel
theorem d_L_law_587 : decode b_L_law 587 = .ok (.aload_n 2, 1) := by decide +kernel
theorem d_L_law_588 : decode b_L_law 588 = .ok (.aload_n 0, 1) := by decide +kernel
theorem d_L_law_589 : decode b_L_law 589 = .ok (.iload 4, 2) := by decide +kernel
theorem d_L_law_591 : decode b_L_law 591 = .ok (.iconst 1, 1) := by decide +kernel
theorem d_L_law_592 : decode b_L_law 592 = .ok (.iadd, 1) := by decide +kernel
theorem d_L_law_593 : decode b_L_law 593 = .ok (.iaload, 1) := by decide +kernel
theorem d_L_law_594 : decode b_L_law 594 = .ok (.aload_n 0, 1) := by decide +kernel
theorem d_L_law_595 : decode b_L_law 595 = .ok (.iload 4, 2) := by decide +kernel
theorem d_L_law_597 : decode b_L_law 597 = .ok (.iconst 2, 1) := by decide +kernel
theorem d_L_law_598 : decode b_L_law 598 = .ok (.iadd, 1) := by decide +kernel
theorem d_L_law_599 : decode b_L_law 599 = .ok (.iaload, 1) := by decide +kernel
theorem d_L_law_600 : decode b_L_law 600 = .ok (.invokevirtual 94, 3) := by decide +kernel
theorem d_L_law_603 : decode b_L_law 603 = .ok (.istore 6, 2) := by decide +kernel
theorem d_L_law_605 : decode b_L_law 605 = .ok (.aload_n 2, 1) := by decide +kernel
theorem d_L_law_606 : decode b_L_law 606 = .ok (.invokevirtual 69, 3) := by decide +kernel
theorem d_L_law_609 : decode b_L_law 609 = .ok (.iload 5, 2) := by decide +kernel
theorem d_L_law_611 : decode b_L_law 611 = .ok (.if_icmp .eq 5, 3) := by decide +kernel
theorem d_L_law_614 : decode b_L_law 614 = .ok (.iconst 0, 1) := by decide +kernel
theorem d_L_law_615 : decode b_L_law 615 = .ok (.ireturn, 1) := by decide +kernel
theorem d_L_law_616 : decode b_L_law 616 = .ok (.iload 5, 2) := by decide +kernel
theorem d_L_law_618 : decode b_L_law 618 = .ok (.ifCond .ne 15, 3) := by decide +kernel
theorem d_L_law_621 : decode b_L_law 621 = .ok (.aload_n 3, 1) := by decide +kernel
theorem d_L_law_622 : decode b_L_law 622 = .ok (.iconst 0, 1) := by decide +kernel
theorem d_L_law_623 : decode b_L_law 623 = .ok (.laload, 1) := by decide +kernel
theorem d_L_law_624 : decode b_L_law 624 = .ok (.iload 6, 2) := by decide +kernel
theorem d_L_law_626 : decode b_L_law 626 = .ok (.i2l, 1) := by decide +kernel
theorem d_L_law_627 : decode b_L_law 627 = .ok (.lcmp, 1) := by decide +kernel
theorem d_L_law_628 : decode b_L_law 628 = .ok (.ifCond .eq 5, 3) := by decide +kernel
theorem d_L_law_631 : decode b_L_law 631 = .ok (.iconst 0, 1) := by decide +kernel
theorem d_L_law_632 : decode b_L_law 632 = .ok (.ireturn, 1) := by decide +kernel
theorem d_L_law_633 : decode b_L_law 633 = .ok (.goto 366, 3) := by decide +kernel
theorem d_L_law_636 : decode b_L_law 636 = .ok (.aload_n 1, 1) := by decide +kernel
theorem d_L_law_637 : decode b_L_law 637 = .ok (.aload_n 0, 1) := by decide +kernel
theorem d_L_law_638 : decode b_L_law 638 = .ok (.iload 4, 2) := by decide +kernel
theorem d_L_law_640 : decode b_L_law 640 = .ok (.iconst 1, 1) := by decide +kernel
theorem d_L_law_641 : decode b_L_law 641 = .ok (.iadd, 1) := by decide +kernel
theorem d_L_law_642 : decode b_L_law 642 = .ok (.iaload, 1) := by decide +kernel
theorem d_L_law_643 : decode b_L_law 643 = .ok (.aload_n 0, 1) := by decide +kernel
theorem d_L_law_644 : decode b_L_law 644 = .ok (.iload 4, 2) := by decide +kernel
theorem d_L_law_646 : decode b_L_law 646 = .ok (.iconst 2, 1) := by decide +kernel
theorem d_L_law_647 : decode b_L_law 647 = .ok (.iadd, 1) := by decide +kernel
theorem d_L_law_648 : decode b_L_law 648 = .ok (.iaload, 1) := by decide +kernel
theorem d_L_law_649 : decode b_L_law 649 = .ok (.aload_n 3, 1) := by decide +kernel
theorem d_L_law_650 : decode b_L_law 650 = .ok (.invokestatic 95, 3) := by decide +kernel
theorem d_L_law_653 : decode b_L_law 653 = .ok (.istore 5, 2) := by decide +kernel
theorem d_L_law_655 : decode b_L_law 655 = .ok (.aload_n 2, 1) := by decide +kernel
theorem d_L_law_656 : decode b_L_law 656 = .ok (.aload_n 0, 1) := by decide +kernel
theorem d_L_law_657 : decode b_L_law 657 = .ok (.iload 4, 2) := by decide +kernel
theorem d_L_law_659 : decode b_L_law 659 = .ok (.iconst 1, 1) := by decide +kernel
theorem d_L_law_660 : decode b_L_law 660 = .ok (.iadd, 1) := by decide +kernel
theorem d_L_law_661 : decode b_L_law 661 = .ok (.iaload, 1) := by decide +kernel
theorem d_L_law_662 : decode b_L_law 662 = .ok (.aload_n 0, 1) := by decide +kernel
theorem d_L_law_663 : decode b_L_law 663 = .ok (.iload 4, 2) := by decide +kernel
theorem d_L_law_665 : decode b_L_law 665 = .ok (.iconst 2, 1) := by decide +kernel
theorem d_L_law_666 : decode b_L_law 666 = .ok (.iadd, 1) := by decide +kernel
theorem d_L_law_667 : decode b_L_law 667 = .ok (.iaload, 1) := by decide +kernel
theorem d_L_law_668 : decode b_L_law 668 = .ok (.invokevirtual 97, 3) := by decide +kernel
theorem d_L_law_671 : decode b_L_law 671 = .ok (.lstore 6, 2) := by decide +kernel
theorem d_L_law_673 : decode b_L_law 673 = .ok (.aload_n 2, 1) := by decide +kernel
theorem d_L_law_674 : decode b_L_law 674 = .ok (.invokevirtual 69, 3) := by decide +kernel
theorem d_L_law_677 : decode b_L_law 677 = .ok (.iload 5, 2) := by decide +kernel
theorem d_L_law_679 : decode b_L_law 679 = .ok (.if_icmp .eq 5, 3) := by decide +kernel
theorem d_L_law_682 : decode b_L_law 682 = .ok (.iconst 0, 1) := by decide +kernel
theorem d_L_law_683 : decode b_L_law 683 = .ok (.ireturn, 1) := by decide +kernel
theorem d_L_law_684 : decode b_L_law 684 = .ok (.iload 5, 2) := by decide +kernel
theorem d_L_law_686 : decode b_L_law 686 = .ok (.ifCond .ne 14, 3) := by decide +kernel
theorem d_L_law_689 : decode b_L_law 689 = .ok (.aload_n 3, 1) := by decide +kernel
theorem d_L_law_690 : decode b_L_law 690 = .ok (.iconst 0, 1) := by decide +kernel
theorem d_L_law_691 : decode b_L_law 691 = .ok (.laload, 1) := by decide +kernel
theorem d_L_law_692 : decode b_L_law 692 = .ok (.lload 6, 2) := by decide +kernel
theorem d_L_law_694 : decode b_L_law 694 = .ok (.lcmp, 1) := by decide +kernel
theorem d_L_law_695 : decode b_L_law 695 = .ok (.ifCond .eq 5, 3) := by decide +kernel
theorem d_L_law_698 : decode b_L_law 698 = .ok (.iconst 0, 1) := by decide +kernel
theorem d_L_law_699 : decode b_L_law 699 = .ok (.ireturn, 1) := by decide +kernel
theorem d_L_law_700 : decode b_L_law 700 = .ok (.goto 299, 3) := by decide +kernel
theorem d_L_law_703 : decode b_L_law 703 = .ok (.aload_n 1, 1) := by decide +kernel
theorem d_L_law_704 : decode b_L_law 704 = .ok (.aload_n 0, 1) := by decide +kernel
theorem d_L_law_705 : decode b_L_law 705 = .ok (.iload 4, 2) := by decide +kernel
theorem d_L_law_707 : decode b_L_law 707 = .ok (.iconst 1, 1) := by decide +kernel
theorem d_L_law_708 : decode b_L_law 708 = .ok (.iadd, 1) := by decide +kernel
theorem d_L_law_709 : decode b_L_law 709 = .ok (.iaload, 1) := by decide +kernel
theorem d_L_law_710 : decode b_L_law 710 = .ok (.aload_n 0, 1) := by decide +kernel
theorem d_L_law_711 : decode b_L_law 711 = .ok (.iload 4, 2) := by decide +kernel
theorem d_L_law_713 : decode b_L_law 713 = .ok (.iconst 2, 1) := by decide +kernel
theorem d_L_law_714 : decode b_L_law 714 = .ok (.iadd, 1) := by decide +kernel
theorem d_L_law_715 : decode b_L_law 715 = .ok (.iaload, 1) := by decide +kernel
theorem d_L_law_716 : decode b_L_law 716 = .ok (.aload_n 0, 1) := by decide +kernel
theorem d_L_law_717 : decode b_L_law 717 = .ok (.iload 4, 2) := by decide +kernel
theorem d_L_law_719 : decode b_L_law 719 = .ok (.iconst 3, 1) := by decide +kernel
theorem d_L_law_720 : decode b_L_law 720 = .ok (.iadd, 1) := by decide +kernel
theorem d_L_law_721 : decode b_L_law 721 = .ok (.iaload, 1) := by decide +kernel
theorem d_L_law_722 : decode b_L_law 722 = .ok (.aload_n 3, 1) := by decide +kernel
theorem d_L_law_723 : decode b_L_law 723 = .ok (.invokestatic 98, 3) := by decide +kernel
theorem d_L_law_726 : decode b_L_law 726 = .ok (.istore 5, 2) := by decide +kernel
theorem d_L_law_728 : decode b_L_law 728 = .ok (.aload_n 2, 1) := by decide +kernel
theorem d_L_law_729 : decode b_L_law 729 = .ok (.aload_n 0, 1) := by decide +kernel
theorem d_L_law_730 : decode b_L_law 730 = .ok (.iload 4, 2) := by decide +kernel
theorem d_L_law_732 : decode b_L_law 732 = .ok (.iconst 1, 1) := by decide +kernel
theorem d_L_law_733 : decode b_L_law 733 = .ok (.iadd, 1) := by decide +kernel
theorem d_L_law_734 : decode b_L_law 734 = .ok (.iaload, 1) := by decide +kernel
theorem d_L_law_735 : decode b_L_law 735 = .ok (.aload_n 0, 1) := by decide +kernel
theorem d_L_law_736 : decode b_L_law 736 = .ok (.iload 4, 2) := by decide +kernel
theorem d_L_law_738 : decode b_L_law 738 = .ok (.iconst 2, 1) := by decide +kernel
theorem d_L_law_739 : decode b_L_law 739 = .ok (.iadd, 1) := by decide +kernel
theorem d_L_law_740 : decode b_L_law 740 = .ok (.iaload, 1) := by decide +kernel
theorem d_L_law_741 : decode b_L_law 741 = .ok (.aload_n 0, 1) := by decide +kernel
theorem d_L_law_742 : decode b_L_law 742 = .ok (.iload 4, 2) := by decide +kernel
theorem d_L_law_744 : decode b_L_law 744 = .ok (.iconst 3, 1) := by decide +kernel
theorem d_L_law_745 : decode b_L_law 745 = .ok (.iadd, 1) := by decide +kernel
theorem d_L_law_746 : decode b_L_law 746 = .ok (.iaload, 1) := by decide +kernel
theorem d_L_law_747 : decode b_L_law 747 = .ok (.invokevirtual 100, 3) := by decide +kernel
theorem d_L_law_750 : decode b_L_law 750 = .ok (.istore 6, 2) := by decide +kernel
theorem d_L_law_752 : decode b_L_law 752 = .ok (.aload_n 2, 1) := by decide +kernel
theorem d_L_law_753 : decode b_L_law 753 = .ok (.invokevirtual 69, 3) := by decide +kernel
theorem d_L_law_756 : decode b_L_law 756 = .ok (.iload 5, 2) := by decide +kernel
theorem d_L_law_758 : decode b_L_law 758 = .ok (.if_icmp .eq 5, 3) := by decide +kernel
theorem d_L_law_761 : decode b_L_law 761 = .ok (.iconst 0, 1) := by decide +kernel
theorem d_L_law_762 : decode b_L_law 762 = .ok (.ireturn, 1) := by decide +kernel
theorem d_L_law_763 : decode b_L_law 763 = .ok (.iload 5, 2) := by decide +kernel
theorem d_L_law_765 : decode b_L_law 765 = .ok (.ifCond .ne 15, 3) := by decide +kernel
theorem d_L_law_768 : decode b_L_law 768 = .ok (.aload_n 3, 1) := by decide +kernel
theorem d_L_law_769 : decode b_L_law 769 = .ok (.iconst 0, 1) := by decide +kernel
theorem d_L_law_770 : decode b_L_law 770 = .ok (.laload, 1) := by decide +kernel
theorem d_L_law_771 : decode b_L_law 771 = .ok (.iload 6, 2) := by decide +kernel
theorem d_L_law_773 : decode b_L_law 773 = .ok (.i2l, 1) := by decide +kernel
theorem d_L_law_774 : decode b_L_law 774 = .ok (.lcmp, 1) := by decide +kernel
theorem d_L_law_775 : decode b_L_law 775 = .ok (.ifCond .eq 5, 3) := by decide +kernel
theorem d_L_law_778 : decode b_L_law 778 = .ok (.iconst 0, 1) := by decide +kernel
theorem d_L_law_779 : decode b_L_law 779 = .ok (.ireturn, 1) := by decide +kernel
theorem d_L_law_780 : decode b_L_law 780 = .ok (.goto 219, 3) := by decide +kernel
theorem d_L_law_783 : decode b_L_law 783 = .ok (.aload_n 1, 1) := by decide +kernel
theorem d_L_law_784 : decode b_L_law 784 = .ok (.aload_n 0, 1) := by decide +kernel
theorem d_L_law_785 : decode b_L_law 785 = .ok (.iload 4, 2) := by decide +kernel
theorem d_L_law_787 : decode b_L_law 787 = .ok (.iconst 1, 1) := by decide +kernel
theorem d_L_law_788 : decode b_L_law 788 = .ok (.iadd, 1) := by decide +kernel
theorem d_L_law_789 : decode b_L_law 789 = .ok (.iaload, 1) := by decide +kernel
theorem d_L_law_790 : decode b_L_law 790 = .ok (.aload_n 0, 1) := by decide +kernel
theorem d_L_law_791 : decode b_L_law 791 = .ok (.iload 4, 2) := by decide +kernel
theorem d_L_law_793 : decode b_L_law 793 = .ok (.iconst 2, 1) := by decide +kernel
theorem d_L_law_794 : decode b_L_law 794 = .ok (.iadd, 1) := by decide +kernel
theorem d_L_law_795 : decode b_L_law 795 = .ok (.iaload, 1) := by decide +kernel
theorem d_L_law_796 : decode b_L_law 796 = .ok (.aload_n 0, 1) := by decide +kernel
theorem d_L_law_797 : decode b_L_law 797 = .ok (.iload 4, 2) := by decide +kernel
theorem d_L_law_799 : decode b_L_law 799 = .ok (.iconst 3, 1) := by decide +kernel
theorem d_L_law_800 : decode b_L_law 800 = .ok (.iadd, 1) := by decide +kernel
theorem d_L_law_801 : decode b_L_law 801 = .ok (.iaload, 1) := by decide +kernel
theorem d_L_law_802 : decode b_L_law 802 = .ok (.aload_n 3, 1) := by decide +kernel
theorem d_L_law_803 : decode b_L_law 803 = .ok (.invokestatic 101, 3) := by decide +kernel
theorem d_L_law_806 : decode b_L_law 806 = .ok (.istore 5, 2) := by decide +kernel
theorem d_L_law_808 : decode b_L_law 808 = .ok (.aload_n 2, 1) := by decide +kernel
theorem d_L_law_809 : decode b_L_law 809 = .ok (.aload_n 0, 1) := by decide +kernel
theorem d_L_law_810 : decode b_L_law 810 = .ok (.iload 4, 2) := by decide +kernel
theorem d_L_law_812 : decode b_L_law 812 = .ok (.iconst 1, 1) := by decide +kernel
theorem d_L_law_813 : decode b_L_law 813 = .ok (.iadd, 1) := by decide +kernel
theorem d_L_law_814 : decode b_L_law 814 = .ok (.iaload, 1) := by decide +kernel
theorem d_L_law_815 : decode b_L_law 815 = .ok (.aload_n 0, 1) := by decide +kernel
theorem d_L_law_816 : decode b_L_law 816 = .ok (.iload 4, 2) := by decide +kernel
theorem d_L_law_818 : decode b_L_law 818 = .ok (.iconst 2, 1) := by decide +kernel
theorem d_L_law_819 : decode b_L_law 819 = .ok (.iadd, 1) := by decide +kernel
theorem d_L_law_820 : decode b_L_law 820 = .ok (.iaload, 1) := by decide +kernel
theorem d_L_law_821 : decode b_L_law 821 = .ok (.aload_n 0, 1) := by decide +kernel
theorem d_L_law_822 : decode b_L_law 822 = .ok (.iload 4, 2) := by decide +kernel
theorem d_L_law_824 : decode b_L_law 824 = .ok (.iconst 3, 1) := by decide +kernel
theorem d_L_law_825 : decode b_L_law 825 = .ok (.iadd, 1) := by decide +kernel
theorem d_L_law_826 : decode b_L_law 826 = .ok (.iaload, 1) := by decide +kernel
theorem d_L_law_827 : decode b_L_law 827 = .ok (.invokevirtual 103, 3) := by decide +kernel
theorem d_L_law_830 : decode b_L_law 830 = .ok (.istore 6, 2) := by decide +kernel
theorem d_L_law_832 : decode b_L_law 832 = .ok (.aload_n 2, 1) := by decide +kernel
theorem d_L_law_833 : decode b_L_law 833 = .ok (.invokevirtual 69, 3) := by decide +kernel
theorem d_L_law_836 : decode b_L_law 836 = .ok (.iload 5, 2) := by decide +kernel
theorem d_L_law_838 : decode b_L_law 838 = .ok (.if_icmp .eq 5, 3) := by decide +kernel
theorem d_L_law_841 : decode b_L_law 841 = .ok (.iconst 0, 1) := by decide +kernel
theorem d_L_law_842 : decode b_L_law 842 = .ok (.ireturn, 1) := by decide +kernel
theorem d_L_law_843 : decode b_L_law 843 = .ok (.iload 5, 2) := by decide +kernel
theorem d_L_law_845 : decode b_L_law 845 = .ok (.ifCond .ne 15, 3) := by decide +kernel
theorem d_L_law_848 : decode b_L_law 848 = .ok (.aload_n 3, 1) := by decide +kernel
theorem d_L_law_849 : decode b_L_law 849 = .ok (.iconst 0, 1) := by decide +kernel
theorem d_L_law_850 : decode b_L_law 850 = .ok (.laload, 1) := by decide +kernel
theorem d_L_law_851 : decode b_L_law 851 = .ok (.iload 6, 2) := by decide +kernel
theorem d_L_law_853 : decode b_L_law 853 = .ok (.i2l, 1) := by decide +kernel
theorem d_L_law_854 : decode b_L_law 854 = .ok (.lcmp, 1) := by decide +kernel
theorem d_L_law_855 : decode b_L_law 855 = .ok (.ifCond .eq 5, 3) := by decide +kernel
theorem d_L_law_858 : decode b_L_law 858 = .ok (.iconst 0, 1) := by decide +kernel
theorem d_L_law_859 : decode b_L_law 859 = .ok (.ireturn, 1) := by decide +kernel
theorem d_L_law_860 : decode b_L_law 860 = .ok (.goto 139, 3) := by decide +kernel
theorem d_L_law_863 : decode b_L_law 863 = .ok (.aload_n 1, 1) := by decide +kernel
theorem d_L_law_864 : decode b_L_law 864 = .ok (.aload_n 0, 1) := by decide +kernel
theorem d_L_law_865 : decode b_L_law 865 = .ok (.iload 4, 2) := by decide +kernel
theorem d_L_law_867 : decode b_L_law 867 = .ok (.iconst 1, 1) := by decide +kernel
theorem d_L_law_868 : decode b_L_law 868 = .ok (.iadd, 1) := by decide +kernel
theorem d_L_law_869 : decode b_L_law 869 = .ok (.iaload, 1) := by decide +kernel
theorem d_L_law_870 : decode b_L_law 870 = .ok (.aload_n 0, 1) := by decide +kernel
theorem d_L_law_871 : decode b_L_law 871 = .ok (.iload 4, 2) := by decide +kernel
theorem d_L_law_873 : decode b_L_law 873 = .ok (.iconst 2, 1) := by decide +kernel
theorem d_L_law_874 : decode b_L_law 874 = .ok (.iadd, 1) := by decide +kernel
theorem d_L_law_875 : decode b_L_law 875 = .ok (.iaload, 1) := by decide +kernel
theorem d_L_law_876 : decode b_L_law 876 = .ok (.aload_n 0, 1) := by decide +kernel
theorem d_L_law_877 : decode b_L_law 877 = .ok (.iload 4, 2) := by decide +kernel
theorem d_L_law_879 : decode b_L_law 879 = .ok (.iconst 3, 1) := by decide +kernel
theorem d_L_law_880 : decode b_L_law 880 = .ok (.iadd, 1) := by decide +kernel
theorem d_L_law_881 : decode b_L_law 881 = .ok (.iaload, 1) := by decide +kernel
theorem d_L_law_882 : decode b_L_law 882 = .ok (.aload_n 3, 1) := by decide +kernel
theorem d_L_law_883 : decode b_L_law 883 = .ok (.invokestatic 104, 3) := by decide +kernel
theorem d_L_law_886 : decode b_L_law 886 = .ok (.istore 5, 2) := by decide +kernel
theorem d_L_law_888 : decode b_L_law 888 = .ok (.aload_n 2, 1) := by decide +kernel
theorem d_L_law_889 : decode b_L_law 889 = .ok (.aload_n 0, 1) := by decide +kernel
theorem d_L_law_890 : decode b_L_law 890 = .ok (.iload 4, 2) := by decide +kernel
theorem d_L_law_892 : decode b_L_law 892 = .ok (.iconst 1, 1) := by decide +kernel
theorem d_L_law_893 : decode b_L_law 893 = .ok (.iadd, 1) := by decide +kernel
theorem d_L_law_894 : decode b_L_law 894 = .ok (.iaload, 1) := by decide +kernel
theorem d_L_law_895 : decode b_L_law 895 = .ok (.aload_n 0, 1) := by decide +kernel
theorem d_L_law_896 : decode b_L_law 896 = .ok (.iload 4, 2) := by decide +kernel
theorem d_L_law_898 : decode b_L_law 898 = .ok (.iconst 2, 1) := by decide +kernel
theorem d_L_law_899 : decode b_L_law 899 = .ok (.iadd, 1) := by decide +kernel
theorem d_L_law_900 : decode b_L_law 900 = .ok (.iaload, 1) := by decide +kernel
theorem d_L_law_901 : decode b_L_law 901 = .ok (.aload_n 0, 1) := by decide +kernel
theorem d_L_law_902 : decode b_L_law 902 = .ok (.iload 4, 2) := by decide +kernel
theorem d_L_law_904 : decode b_L_law 904 = .ok (.iconst 3, 1) := by decide +kernel
theorem d_L_law_905 : decode b_L_law 905 = .ok (.iadd, 1) := by decide +kernel
theorem d_L_law_906 : decode b_L_law 906 = .ok (.iaload, 1) := by decide +kernel
theorem d_L_law_907 : decode b_L_law 907 = .ok (.invokevirtual 106, 3) := by decide +kernel
theorem d_L_law_910 : decode b_L_law 910 = .ok (.istore 6, 2) := by decide +kernel
theorem d_L_law_912 : decode b_L_law 912 = .ok (.aload_n 2, 1) := by decide +kernel
theorem d_L_law_913 : decode b_L_law 913 = .ok (.invokevirtual 69, 3) := by decide +kernel
theorem d_L_law_916 : decode b_L_law 916 = .ok (.iload 5, 2) := by decide +kernel
theorem d_L_law_918 : decode b_L_law 918 = .ok (.if_icmp .eq 5, 3) := by decide +kernel
theorem d_L_law_921 : decode b_L_law 921 = .ok (.iconst 0, 1) := by decide +kernel
theorem d_L_law_922 : decode b_L_law 922 = .ok (.ireturn, 1) := by decide +kernel
theorem d_L_law_923 : decode b_L_law 923 = .ok (.iload 5, 2) := by decide +kernel
theorem d_L_law_925 : decode b_L_law 925 = .ok (.ifCond .ne 15, 3) := by decide +kernel
theorem d_L_law_928 : decode b_L_law 928 = .ok (.aload_n 3, 1) := by decide +kernel
theorem d_L_law_929 : decode b_L_law 929 = .ok (.iconst 0, 1) := by decide +kernel
theorem d_L_law_930 : decode b_L_law 930 = .ok (.laload, 1) := by decide +kernel
theorem d_L_law_931 : decode b_L_law 931 = .ok (.iload 6, 2) := by decide +kernel
theorem d_L_law_933 : decode b_L_law 933 = .ok (.i2l, 1) := by decide +kernel
theorem d_L_law_934 : decode b_L_law 934 = .ok (.lcmp, 1) := by decide +kernel
theorem d_L_law_935 : decode b_L_law 935 = .ok (.ifCond .eq 5, 3) := by decide +kernel
theorem d_L_law_938 : decode b_L_law 938 = .ok (.iconst 0, 1) := by decide +kernel
theorem d_L_law_939 : decode b_L_law 939 = .ok (.ireturn, 1) := by decide +kernel
theorem d_L_law_940 : decode b_L_law 940 = .ok (.goto 59, 3) := by decide +kernel
theorem d_L_law_943 : decode b_L_law 943 = .ok (.aload_n 1, 1) := by decide +kernel
theorem d_L_law_944 : decode b_L_law 944 = .ok (.aload_n 0, 1) := by decide +kernel
theorem d_L_law_945 : decode b_L_law 945 = .ok (.iload 4, 2) := by decide +kernel
theorem d_L_law_947 : decode b_L_law 947 = .ok (.iconst 1, 1) := by decide +kernel
theorem d_L_law_948 : decode b_L_law 948 = .ok (.iadd, 1) := by decide +kernel
theorem d_L_law_949 : decode b_L_law 949 = .ok (.iaload, 1) := by decide +kernel
theorem d_L_law_950 : decode b_L_law 950 = .ok (.aload_n 3, 1) := by decide +kernel
theorem d_L_law_951 : decode b_L_law 951 = .ok (.invokestatic 107, 3) := by decide +kernel
theorem d_L_law_954 : decode b_L_law 954 = .ok (.istore 5, 2) := by decide +kernel
theorem d_L_law_956 : decode b_L_law 956 = .ok (.aload_n 2, 1) := by decide +kernel
theorem d_L_law_957 : decode b_L_law 957 = .ok (.aload_n 0, 1) := by decide +kernel
theorem d_L_law_958 : decode b_L_law 958 = .ok (.iload 4, 2) := by decide +kernel
theorem d_L_law_960 : decode b_L_law 960 = .ok (.iconst 1, 1) := by decide +kernel
theorem d_L_law_961 : decode b_L_law 961 = .ok (.iadd, 1) := by decide +kernel
theorem d_L_law_962 : decode b_L_law 962 = .ok (.iaload, 1) := by decide +kernel
theorem d_L_law_963 : decode b_L_law 963 = .ok (.invokevirtual 110, 3) := by decide +kernel
theorem d_L_law_966 : decode b_L_law 966 = .ok (.istore 6, 2) := by decide +kernel
theorem d_L_law_968 : decode b_L_law 968 = .ok (.aload_n 2, 1) := by decide +kernel
theorem d_L_law_969 : decode b_L_law 969 = .ok (.invokevirtual 69, 3) := by decide +kernel
theorem d_L_law_972 : decode b_L_law 972 = .ok (.iload 5, 2) := by decide +kernel
theorem d_L_law_974 : decode b_L_law 974 = .ok (.if_icmp .eq 5, 3) := by decide +kernel
theorem d_L_law_977 : decode b_L_law 977 = .ok (.iconst 0, 1) := by decide +kernel
theorem d_L_law_978 : decode b_L_law 978 = .ok (.ireturn, 1) := by decide +kernel
theorem d_L_law_979 : decode b_L_law 979 = .ok (.iload 5, 2) := by decide +kernel
theorem d_L_law_981 : decode b_L_law 981 = .ok (.ifCond .ne 15, 3) := by decide +kernel
theorem d_L_law_984 : decode b_L_law 984 = .ok (.aload_n 3, 1) := by decide +kernel
theorem d_L_law_985 : decode b_L_law 985 = .ok (.iconst 0, 1) := by decide +kernel
theorem d_L_law_986 : decode b_L_law 986 = .ok (.laload, 1) := by decide +kernel
theorem d_L_law_987 : decode b_L_law 987 = .ok (.iload 6, 2) := by decide +kernel
theorem d_L_law_989 : decode b_L_law 989 = .ok (.i2l, 1) := by decide +kernel
theorem d_L_law_990 : decode b_L_law 990 = .ok (.lcmp, 1) := by decide +kernel
theorem d_L_law_991 : decode b_L_law 991 = .ok (.ifCond .eq 5, 3) := by decide +kernel
theorem d_L_law_994 : decode b_L_law 994 = .ok (.iconst 0, 1) := by decide +kernel
theorem d_L_law_995 : decode b_L_law 995 = .ok (.ireturn, 1) := by decide +kernel
theorem d_L_law_996 : decode b_L_law 996 = .ok (.goto 3, 3) := by decide +kernel
theorem d_L_law_999 : decode b_L_law 999 = .ok (.iinc 4 4, 3) := by decide +kernel
theorem d_L_law_1002 : decode b_L_law 1002 = .ok (.goto (-979), 3) := by decide +kernel
theorem d_L_law_1005 : decode b_L_law 1005 = .ok (.iconst 1, 1) := by decide +kernel
theorem d_L_law_1006 : decode b_L_law 1006 = .ok (.ireturn, 1) := by decide +kernel
end
section
theorem wk_minc : Cond.code Lib.Math.min.name Lib.Math.min.code 2 (some .int) ∈ WS := WS_in 285 (by decide +kernel) (by decide +kernel)
theorem wk_maxc : Cond.code Lib.Math.max.name Lib.Math.max.code 2 (some .int) ∈ WS := WS_in 372 (by decide +kernel) (by decide +kernel)
theorem wk_mins : Cond.static Lib.Math.min.name ∈ WS := WS_in 284 (by decide +kernel) (by decide +kernel)
theorem wk_maxs : Cond.static Lib.Math.max.name ∈ WS := WS_in 371 (by decide +kernel) (by decide +kernel)
section ZM
variable {p : Program} {l : Launch} {e : Env} {R : Room} {s : State} {m : MethodId} {args : Array Value} {below : List Frame} {meth : Method} {c : Code} {H : Heap} {locs : List Loc} {cells slots : Nat} {Q : State → Prop} {cc : ByteArray} {pc : Nat} {ls : Array Slot} {rest : List Value}
theorem zr_min (hx : p.tables.exec = Jvm.exec) (hb : c.code = cc) (hml : c.maxLocals = ls.size) {own : String} {index : Nat} (hown : s.vm.findClass own = some m.cls) (hts : ∀ w ∈ WS, w.before args s = true) (hlink : Cond.methodLink own index Lib.Math.min.name ∈ WS) (hframes : 1 ≤ R.frames) (hlocals : (rest.map fun v => v.category).sum + 13 ≤ R.locals) (hc : cells ≤ R.cells) (hs : slots ≤ R.slots) {a b : Int} (ha : inI a) (hb9 : inI b) (hdg : decode cc pc = .ok (.invokestatic index, 3))
    (k : W p l e R s m args below meth c H locs cells slots Q (F0 m (pc + 3) ls (.int (zI (min a b)) :: rest))) : W p l e R s m args below meth c H locs cells slots Q (F0 m pc ls (.int (zI b) :: .int (zI a) :: rest)) :=
  va_mmin hx hb hml hown (hts _ hlink) (hts _ wk_mins) (hts _ wk_37) (hts _ wk_minc) hframes hlocals hc hs hdg (by rw [zI_min ha hb9]; exact k)
theorem zr_max (hx : p.tables.exec = Jvm.exec) (hb : c.code = cc) (hml : c.maxLocals = ls.size) {own : String} {index : Nat} (hown : s.vm.findClass own = some m.cls) (hts : ∀ w ∈ WS, w.before args s = true) (hlink : Cond.methodLink own index Lib.Math.max.name ∈ WS) (hframes : 1 ≤ R.frames) (hlocals : (rest.map fun v => v.category).sum + 13 ≤ R.locals) (hc : cells ≤ R.cells) (hs : slots ≤ R.slots) {a b : Int} (ha : inI a) (hb9 : inI b) (hdg : decode cc pc = .ok (.invokestatic index, 3))
    (k : W p l e R s m args below meth c H locs cells slots Q (F0 m (pc + 3) ls (.int (zI (max a b)) :: rest))) : W p l e R s m args below meth c H locs cells slots Q (F0 m pc ls (.int (zI b) :: .int (zI a) :: rest)) :=
  va_mmax hx hb hml hown (hts _ hlink) (hts _ wk_maxs) (hts _ wk_37) (hts _ wk_maxc) hframes hlocals hc hs hdg (by rw [zI_max ha hb9]; exact k)
end ZM
end
section
/-- the sum of m terms from lo on -/
def sumR (f : Int → Int) (lo : Int) : Nat → Int
  | 0 => 0
  | m + 1 => sumR f lo m + f (lo + (m : Int))
theorem sumR_step (f : Int → Int) {lo x : Int} (h : lo ≤ x) : sumR f lo (x + 1 - lo).toNat = sumR f lo (x - lo).toNat + f x := by
  have e1 : (x + 1 - lo).toNat = (x - lo).toNat + 1 := by omega
  have e2 : lo + (((x - lo).toNat : Nat) : Int) = x := by omega
  rw [e1]
  show sumR f lo (x - lo).toNat + f (lo + (((x - lo).toNat : Nat) : Int)) = _
  rw [e2]
theorem sumR_self (f : Int → Int) (lo : Int) : sumR f lo (lo - lo).toNat = 0 := by
  rw [Int.sub_self]; rfl
theorem zup_ok {f g : Int → Int} {lo x v : Int} (h : ∀ j : Int, lo ≤ j → j < x → f j = g j) (hv : v = g x) : ∀ j : Int, lo ≤ j → j < x + 1 → zup f x v j = g j := by
  intro j h1 h2
  by_cases hj : j = x
  · rw [hj, zup_s, hv]
  · rw [zup_n hj]; exact h j h1 (by omega)
/-- a ring's width, -1 where there is none -/
def wAt (w : Int → Int) (n i : Int) : Int := if 0 ≤ i ∧ i < n then w i else -1
theorem wAt_in {w : Int → Int} {n i : Int} (h : 0 ≤ i ∧ i < n) : wAt w n i = w i := if_pos h
theorem wAt_out {w : Int → Int} {n i : Int} (h : ¬ (0 ≤ i ∧ i < n)) : wAt w n i = -1 := if_neg h
abbrev rm_S_has : Room := { frames := 0, cells := 0, slots := 0, locals := 0 }
set_option maxHeartbeats 4000000 in
set_option maxRecDepth 100000 in
theorem c_S_has (l : Launch) (D : va_G) (k : Nat → ClassId) (N : Nat) (AD : Int → Nat) (C : Int → va_E) (sz : Nat) (b : Int) (n : Int) (w : Int → Int) (e9 : Int → Int) (i : Int) (hb0 : 0 ≤ b ∧ b + 2 < (N : Int)) (hn : 0 ≤ n ∧ n ≤ 24) (hS : C b = .inr (2, [.ref (AD (b + 1)), .ref (AD (b + 2)), .int (zI n)])) (hSw : C (b + 1) = aI (k 0) 24 w) (hSe : C (b + 2) = aI (k 0) 24 e9) (hi : inI i) : MI l y_S_has (Cond.code y_S_has b_S_has 2 (Option.some Jvm.ClassFile.FieldType.boolean) :: WS) rm_S_has D clW (tyW k) N AD C sz [.ref (AD b), .int (zI i)] (fun r C' => (r = zI 1 ∧ (0 ≤ i ∧ i < n) ∨ r = zI 0 ∧ ¬ (0 ≤ i ∧ i < n)) ∧ C' = C) := by
  refine MI.start (cc := b_S_has) (maxL := 2) (rt := .boolean) (by decide) rfl (Nat.le_of_ble_eq_true rfl) ?_
  intro p e s m args below meth c Q ls hx hb hml hown hts hK hsz hw hl hret
  have hown : s.vm.findClass "RingMatches$Series" = some m.cls := hown
  have hl : lv_has ls 2 [(0, .ref (AD b)), (1, .int (zI i))] := hl
  have hA := wA_hi (N := N) (AD := AD) hsz
  obtain ⟨H, hH⟩ : ∃ H, H = s.heap := ⟨_, rfl⟩
  obtain ⟨locs, hlocs⟩ : ∃ z : List Loc, z = [] := ⟨_, rfl⟩
  have hw : WD D clW (wA N AD sz) s.heap H locs N AD C := by rw [hH, hlocs]; exact hw
  rw [← hlocs]
  suffices hgo : W p l e rm_S_has s m args below meth c H locs 0 0 Q (F0 m 0 ls []) by rw [hH] at hgo; exact hgo
  refine lv_iload_n hx hb d_S_has_0 rfl (lv_at hl 1 rfl) ?_
  refine zr_if_lt (tgt := 16) hx hb ⟨by omega, by omega⟩ d_S_has_1 (by decide) (fun c1 => ?_) (fun c1 => ?_)
  · refine zr_iconst hx hb d_S_has_16 ?_
    exact hret _ _ _ _ _ _ d_S_has_17 hw (by decide +kernel) ⟨Or.inr ⟨rfl, by omega⟩, rfl⟩
  · refine lv_iload_n hx hb d_S_has_4 rfl (lv_at hl 1 rfl) ?_
    refine lv_aload_n hx hb d_S_has_5 rfl (lv_at hl 0 rfl) ?_
    refine zr_get (v := .int (zI n)) hx hb hts iw_S hown hK hw b ⟨by omega, by omega⟩ hS rfl 2 (by decide) (hts _ wk_71) (fun _ h => h) rfl d_S_has_6 ?_
    refine zr_icmp_ge (tgt := 16) hx hb ⟨by omega, by omega⟩ ⟨by omega, by omega⟩ d_S_has_9 (by decide) (fun c2 => ?_) (fun c2 => ?_)
    · refine zr_iconst hx hb d_S_has_16 ?_
      exact hret _ _ _ _ _ _ d_S_has_17 hw (by decide +kernel) ⟨Or.inr ⟨rfl, by omega⟩, rfl⟩
    · refine zr_iconst hx hb d_S_has_12 ?_
      refine lv_goto (tgt := 17) hx hb d_S_has_13 (by decide) ?_
      exact hret _ _ _ _ _ _ d_S_has_17 hw (by decide +kernel) ⟨Or.inl ⟨rfl, by omega⟩, rfl⟩
abbrev rm_S_widthAt : Room := { frames := 1, cells := 0, slots := 0, locals := 21 }
set_option maxHeartbeats 4000000 in
set_option maxRecDepth 100000 in
theorem c_S_widthAt (l : Launch) (D : va_G) (k : Nat → ClassId) (N : Nat) (AD : Int → Nat) (C : Int → va_E) (sz : Nat) (b : Int) (n : Int) (w : Int → Int) (e9 : Int → Int) (i : Int) (hb0 : 0 ≤ b ∧ b + 2 < (N : Int)) (hn : 0 ≤ n ∧ n ≤ 24) (hS : C b = .inr (2, [.ref (AD (b + 1)), .ref (AD (b + 2)), .int (zI n)])) (hSw : C (b + 1) = aI (k 0) 24 w) (hSe : C (b + 2) = aI (k 0) 24 e9) (hi : inI i) : MI l y_S_widthAt (Cond.code y_S_widthAt b_S_widthAt 2 (Option.some Jvm.ClassFile.FieldType.int) :: WS) rm_S_widthAt D clW (tyW k) N AD C sz [.ref (AD b), .int (zI i)] (fun r C' => r = zI (wAt w n i) ∧ C' = C) := by
  refine MI.start (cc := b_S_widthAt) (maxL := 2) (rt := .int) (by decide) rfl (Nat.le_of_ble_eq_true rfl) ?_
  intro p e s m args below meth c Q ls hx hb hml hown hts hK hsz hw hl hret
  have hown : s.vm.findClass "RingMatches$Series" = some m.cls := hown
  have hl : lv_has ls 2 [(0, .ref (AD b)), (1, .int (zI i))] := hl
  have hA := wA_hi (N := N) (AD := AD) hsz
  obtain ⟨H, hH⟩ : ∃ H, H = s.heap := ⟨_, rfl⟩
  obtain ⟨locs, hlocs⟩ : ∃ z : List Loc, z = [] := ⟨_, rfl⟩
  have hw : WD D clW (wA N AD sz) s.heap H locs N AD C := by rw [hH, hlocs]; exact hw
  rw [← hlocs]
  suffices hgo : W p l e rm_S_widthAt s m args below meth c H locs 0 0 Q (F0 m 0 ls []) by rw [hH] at hgo; exact hgo
  refine lv_aload_n hx hb d_S_widthAt_0 rfl (lv_at hl 0 rfl) ?_
  refine lv_iload_n hx hb d_S_widthAt_1 rfl (lv_at hl 1 rfl) ?_
  refine zr_callI (va_runV (As := [.int (zI i)]) (rest := []) ⟨hx, hb, hml, hown, hts⟩ (c_S_has l D k N AD C H.size b n w e9 i ⟨by omega, by omega⟩ ⟨by omega, by omega⟩ hS hSw hSe ⟨by omega, by omega⟩) (cwV 1 hts (good_V wk_279 wk_280 wk_281 wk_29 wk_282) rfl rfl rfl (by decide +kernel) ⟨Nat.le_of_ble_eq_true rfl, Nat.le_of_ble_eq_true rfl⟩) (cPre_V hK hw b ⟨by omega, by omega⟩ hS rfl) rfl rfl hl.1 rfl (lv_room (Nat.le_of_ble_eq_true rfl)) d_S_widthAt_2 ⟨Nat.le_of_ble_eq_true rfl, Nat.le_of_ble_eq_true rfl⟩) hw hA (fun r9 C2 H locs hq1 hw => ?_)
  obtain ⟨hq1, hCe⟩ := hq1
  rw [hCe] at hw
  rcases hq1 with ⟨hr9, hq1⟩ | ⟨hr9, hq1⟩ <;> subst hr9
  · refine zr_if_eq (tgt := 17) hx hb ⟨by omega, by omega⟩ d_S_widthAt_5 (by decide) (fun c9 => absurd c9 (by decide)) (fun c3 => ?_)
    refine lv_aload_n hx hb d_S_widthAt_8 rfl (lv_at hl 0 rfl) ?_
    refine zr_get (v := .ref (AD (b + 1))) hx hb hts iw_S hown hK hw b ⟨by omega, by omega⟩ hS rfl 0 (by decide) (hts _ wk_69) (fun _ h => h) rfl d_S_widthAt_9 ?_
    refine lv_iload_n hx hb d_S_widthAt_12 rfl (lv_at hl 1 rfl) ?_
    refine zr_iald hx hb hK hw (b + 1) ⟨by omega, by omega⟩ 0 hSw rfl ⟨by omega, by omega⟩ (by decide) d_S_widthAt_13 ?_
    refine lv_goto (tgt := 18) hx hb d_S_widthAt_14 (by decide) ?_
    exact hret _ _ _ _ _ _ d_S_widthAt_18 hw rfl ⟨by rw [wAt_in (by assumption)], rfl⟩
  · refine zr_if_eq (tgt := 17) hx hb ⟨by omega, by omega⟩ d_S_widthAt_5 (by decide) (fun c4 => ?_) (fun c9 => absurd c9 (by decide))
    refine zr_iconst hx hb d_S_widthAt_17 ?_
    exact hret _ _ _ _ _ _ d_S_widthAt_18 hw rfl ⟨by rw [wAt_out (by assumption)], rfl⟩
abbrev rm_S_evenAt : Room := { frames := 1, cells := 0, slots := 0, locals := 21 }
set_option maxHeartbeats 4000000 in
set_option maxRecDepth 100000 in
theorem c_S_evenAt (l : Launch) (D : va_G) (k : Nat → ClassId) (N : Nat) (AD : Int → Nat) (C : Int → va_E) (sz : Nat) (b : Int) (n : Int) (w : Int → Int) (e9 : Int → Int) (i : Int) (hb0 : 0 ≤ b ∧ b + 2 < (N : Int)) (hn : 0 ≤ n ∧ n ≤ 24) (hS : C b = .inr (2, [.ref (AD (b + 1)), .ref (AD (b + 2)), .int (zI n)])) (hSw : C (b + 1) = aI (k 0) 24 w) (hSe : C (b + 2) = aI (k 0) 24 e9) (hi : inI i) : MI l y_S_evenAt (Cond.code y_S_evenAt b_S_evenAt 2 (Option.some Jvm.ClassFile.FieldType.int) :: WS) rm_S_evenAt D clW (tyW k) N AD C sz [.ref (AD b), .int (zI i)] (fun r C' => r = zI (wAt e9 n i) ∧ C' = C) := by
  refine MI.start (cc := b_S_evenAt) (maxL := 2) (rt := .int) (by decide) rfl (Nat.le_of_ble_eq_true rfl) ?_
  intro p e s m args below meth c Q ls hx hb hml hown hts hK hsz hw hl hret
  have hown : s.vm.findClass "RingMatches$Series" = some m.cls := hown
  have hl : lv_has ls 2 [(0, .ref (AD b)), (1, .int (zI i))] := hl
  have hA := wA_hi (N := N) (AD := AD) hsz
  obtain ⟨H, hH⟩ : ∃ H, H = s.heap := ⟨_, rfl⟩
  obtain ⟨locs, hlocs⟩ : ∃ z : List Loc, z = [] := ⟨_, rfl⟩
  have hw : WD D clW (wA N AD sz) s.heap H locs N AD C := by rw [hH, hlocs]; exact hw
  rw [← hlocs]
  suffices hgo : W p l e rm_S_evenAt s m args below meth c H locs 0 0 Q (F0 m 0 ls []) by rw [hH] at hgo; exact hgo
  refine lv_aload_n hx hb d_S_evenAt_0 rfl (lv_at hl 0 rfl) ?_
  refine lv_iload_n hx hb d_S_evenAt_1 rfl (lv_at hl 1 rfl) ?_
  refine zr_callI (va_runV (As := [.int (zI i)]) (rest := []) ⟨hx, hb, hml, hown, hts⟩ (c_S_has l D k N AD C H.size b n w e9 i ⟨by omega, by omega⟩ ⟨by omega, by omega⟩ hS hSw hSe ⟨by omega, by omega⟩) (cwV 1 hts (good_V wk_279 wk_280 wk_281 wk_29 wk_282) rfl rfl rfl (by decide +kernel) ⟨Nat.le_of_ble_eq_true rfl, Nat.le_of_ble_eq_true rfl⟩) (cPre_V hK hw b ⟨by omega, by omega⟩ hS rfl) rfl rfl hl.1 rfl (lv_room (Nat.le_of_ble_eq_true rfl)) d_S_evenAt_2 ⟨Nat.le_of_ble_eq_true rfl, Nat.le_of_ble_eq_true rfl⟩) hw hA (fun r9 C2 H locs hq1 hw => ?_)
  obtain ⟨hq1, hCe⟩ := hq1
  rw [hCe] at hw
  rcases hq1 with ⟨hr9, hq1⟩ | ⟨hr9, hq1⟩ <;> subst hr9
  · refine zr_if_eq (tgt := 17) hx hb ⟨by omega, by omega⟩ d_S_evenAt_5 (by decide) (fun c9 => absurd c9 (by decide)) (fun c3 => ?_)
    refine lv_aload_n hx hb d_S_evenAt_8 rfl (lv_at hl 0 rfl) ?_
    refine zr_get (v := .ref (AD (b + 2))) hx hb hts iw_S hown hK hw b ⟨by omega, by omega⟩ hS rfl 1 (by decide) (hts _ wk_70) (fun _ h => h) rfl d_S_evenAt_9 ?_
    refine lv_iload_n hx hb d_S_evenAt_12 rfl (lv_at hl 1 rfl) ?_
    refine zr_iald hx hb hK hw (b + 2) ⟨by omega, by omega⟩ 0 hSe rfl ⟨by omega, by omega⟩ (by decide) d_S_evenAt_13 ?_
    refine lv_goto (tgt := 18) hx hb d_S_evenAt_14 (by decide) ?_
    exact hret _ _ _ _ _ _ d_S_evenAt_18 hw rfl ⟨by rw [wAt_in (by assumption)], rfl⟩
  · refine zr_if_eq (tgt := 17) hx hb ⟨by omega, by omega⟩ d_S_evenAt_5 (by decide) (fun c4 => ?_) (fun c9 => absurd c9 (by decide))
    refine zr_iconst hx hb d_S_evenAt_17 ?_
    exact hret _ _ _ _ _ _ d_S_evenAt_18 hw rfl ⟨by rw [wAt_out (by assumption)], rfl⟩
abbrev rm_S_add : Room := { frames := 0, cells := 0, slots := 0, locals := 0 }
set_option maxHeartbeats 4000000 in
set_option maxRecDepth 100000 in
theorem c_S_add (l : Launch) (D : va_G) (k : Nat → ClassId) (N : Nat) (AD : Int → Nat) (C : Int → va_E) (sz : Nat) (b : Int) (n : Int) (w : Int → Int) (e9 : Int → Int) (v : Int) (hb0 : 0 ≤ b ∧ b + 2 < (N : Int)) (hn : 0 ≤ n ∧ n ≤ 24) (hS : C b = .inr (2, [.ref (AD (b + 1)), .ref (AD (b + 2)), .int (zI n)])) (hSw : C (b + 1) = aI (k 0) 24 w) (hSe : C (b + 2) = aI (k 0) 24 e9) (hn2 : n < 24) : MV l y_S_add (Cond.code y_S_add b_S_add 2 (Option.none : Option FieldType) :: WS) rm_S_add D clW (tyW k) N AD C sz [.ref (AD b), .int (zI v)] (fun C' => C' b = .inr (2, [.ref (AD (b + 1)), .ref (AD (b + 2)), .int (zI (n + 1))]) ∧ C' (b + 1) = aI (k 0) 24 (zup w n v) ∧ C' (b + 2) = C (b + 2) ∧ ∀ j : Int, ¬ (b ≤ j ∧ j ≤ b + 2) → C' j = C j) := by
  refine MV.start (cc := b_S_add) (maxL := 2) (by decide) rfl (Nat.le_of_ble_eq_true rfl) ?_
  intro p e s m args below meth c Q ls hx hb hml hown hts hK hsz hw hl hret
  have hown : s.vm.findClass "RingMatches$Series" = some m.cls := hown
  have hl : lv_has ls 2 [(0, .ref (AD b)), (1, .int (zI v))] := hl
  have hA := wA_hi (N := N) (AD := AD) hsz
  obtain ⟨H, hH⟩ : ∃ H, H = s.heap := ⟨_, rfl⟩
  obtain ⟨locs, hlocs⟩ : ∃ z : List Loc, z = [] := ⟨_, rfl⟩
  have hw : WD D clW (wA N AD sz) s.heap H locs N AD C := by rw [hH, hlocs]; exact hw
  rw [← hlocs]
  suffices hgo : W p l e rm_S_add s m args below meth c H locs 0 0 Q (F0 m 0 ls []) by rw [hH] at hgo; exact hgo
  refine lv_aload_n hx hb d_S_add_0 rfl (lv_at hl 0 rfl) ?_
  refine zr_get (v := .int (zI n)) hx hb hts iw_S hown hK hw b ⟨by omega, by omega⟩ hS rfl 2 (by decide) (hts _ wk_71) (fun _ h => h) rfl d_S_add_1 ?_
  refine lv_aload_n hx hb d_S_add_4 rfl (lv_at hl 0 rfl) ?_
  refine zr_get (v := .ref (AD (b + 1))) hx hb hts iw_S hown hK hw b ⟨by omega, by omega⟩ hS rfl 0 (by decide) (hts _ wk_69) (fun _ h => h) rfl d_S_add_5 ?_
  refine zr_alen hx hb hK hw (b + 1) ⟨by omega, by omega⟩ 0 hSw rfl d_S_add_8 ?_
  refine zr_icmp_ge (tgt := 32) hx hb ⟨by omega, by omega⟩ ⟨by omega, by omega⟩ d_S_add_9 (by decide) (fun c1 => ?_) (fun c1 => ?_)
  · exact absurd c1 (by omega)
  · refine lv_aload_n hx hb d_S_add_12 rfl (lv_at hl 0 rfl) ?_
    refine zr_get (v := .ref (AD (b + 1))) hx hb hts iw_S hown hK hw b ⟨by omega, by omega⟩ hS rfl 0 (by decide) (hts _ wk_69) (fun _ h => h) rfl d_S_add_13 ?_
    refine lv_aload_n hx hb d_S_add_16 rfl (lv_at hl 0 rfl) ?_
    refine zr_get (v := .int (zI n)) hx hb hts iw_S hown hK hw b ⟨by omega, by omega⟩ hS rfl 2 (by decide) (hts _ wk_71) (fun _ h => h) rfl d_S_add_17 ?_
    refine lv_iload_n hx hb d_S_add_20 rfl (lv_at hl 1 rfl) ?_
    refine zr_iast hx hb hK hw (b + 1) ⟨by omega, by omega⟩ 0 hSw rfl ⟨by omega, by omega⟩ (by decide) d_S_add_21 (fun H locs hw => ?_)
    obtain ⟨C2, hC2⟩ : ∃ z : Int → va_E, z = zup C (b + 1) (aI (k 0) 24 (zup w n v)) := ⟨_, rfl⟩
    have hw : WD D clW (wA N AD sz) s.heap H locs N AD C2 := by rw [hC2]; exact hw
    have frC2 : ∀ j : Int, j ≠ (b + 1) → C2 j = C j := fun j h => by rw [hC2]; exact zup_n h
    have hS : C2 b = .inr (2, [.ref (AD (b + 1)), .ref (AD (b + 2)), .int (zI n)]) := (frC2 _ (by omega)).trans hS
    have hSw : C2 (b + 1) = aI (k 0) 24 (zup w n v) := by rw [hC2]; exact zup_s
    have hSe : C2 (b + 2) = aI (k 0) 24 e9 := (frC2 _ (by omega)).trans hSe
    refine lv_aload_n hx hb d_S_add_22 rfl (lv_at hl 0 rfl) ?_
    refine lv_dup hx hb d_S_add_23 rfl ?_
    refine zr_get (v := .int (zI n)) hx hb hts iw_S hown hK hw b ⟨by omega, by omega⟩ hS rfl 2 (by decide) (hts _ wk_71) (fun _ h => h) rfl d_S_add_24 ?_
    refine zr_iconst hx hb d_S_add_27 ?_
    refine zr_iadd hx hb d_S_add_28 ?_
    refine zr_put (ty := .int) (v := .int (zI (n + 1))) hx hb hts iw_S tyS tyS_ok nmS hown hK hw b ⟨by omega, by omega⟩ hS rfl 2 (by decide) (hts _ wk_71) (fun _ h => h) rfl (by decide +kernel) rfl rfl (Nat.le_of_ble_eq_true rfl) d_S_add_29 (fun H locs hw => ?_)
    obtain ⟨C3, hC3⟩ : ∃ z : Int → va_E, z = zup C2 b (.inr (2, [.ref (AD (b + 1)), .ref (AD (b + 2)), .int (zI (n + 1))])) := ⟨_, rfl⟩
    have hw : WD D clW (wA N AD sz) s.heap H locs N AD C3 := by rw [hC3]; exact hw
    have frC3 : ∀ j : Int, j ≠ b → C3 j = C2 j := fun j h => by rw [hC3]; exact zup_n h
    have hS : C3 b = .inr (2, [.ref (AD (b + 1)), .ref (AD (b + 2)), .int (zI (n + 1))]) := by rw [hC3]; exact zup_s
    have hSw : C3 (b + 1) = aI (k 0) 24 (zup w n v) := (frC3 _ (by omega)).trans hSw
    have hSe : C3 (b + 2) = aI (k 0) 24 e9 := (frC3 _ (by omega)).trans hSe
    exact hret _ _ _ _ _ d_S_add_32 hw ⟨hS, hSw, (frC3 _ (by omega)).trans (frC2 _ (by omega)), fun j hj => (frC3 _ (by omega)).trans (frC2 _ (by omega))⟩
/-- widths that may be: none, or 1 .. 500 -/
def WOK (w : Int → Int) (n : Int) : Prop := ∀ j : Int, 0 ≤ j → j < n → w j = -1 ∨ (1 ≤ w j ∧ w j ≤ 500)
/-- what a place adds to the sum, to the count -/
def gS (w : Int → Int) (n j : Int) : Int := if wAt w n j = -1 then 0 else wAt w n j
def gF (w : Int → Int) (n j : Int) : Int := if wAt w n j = -1 then 0 else 1
def nS (w : Int → Int) (n i : Int) : Int := sumR (gS w n) (i - 2) 5
def nF (w : Int → Int) (n i : Int) : Int := sumR (gF w n) (i - 2) 5
/-- a ring evened -/
def evF (w : Int → Int) (n i : Int) : Int := if w i = -1 then -1 else min 200 (100 * w i * nF w n i / nS w n i)
def EvOK (w e : Int → Int) (n : Int) : Prop := ∀ j : Int, 0 ≤ j → j < n → e j = evF w n j
theorem wAt_cases {w : Int → Int} {n : Int} (h : WOK w n) (j : Int) : wAt w n j = -1 ∨ (1 ≤ wAt w n j ∧ wAt w n j ≤ 500) := by
  unfold wAt
  split
  · rename_i hj; exact h j hj.1 hj.2
  · exact Or.inl rfl
theorem gS_in {w : Int → Int} {n : Int} (h : WOK w n) (j : Int) : 0 ≤ gS w n j ∧ gS w n j ≤ 500 := by
  unfold gS
  split
  · exact ⟨by omega, by omega⟩
  · have := wAt_cases h j; exact ⟨by omega, by omega⟩
theorem gF_in {w : Int → Int} {n : Int} (j : Int) : 0 ≤ gF w n j ∧ gF w n j ≤ 1 := by
  unfold gF
  split <;> exact ⟨by omega, by omega⟩
theorem sum5 (f : Int → Int) (i : Int) : sumR f (i - 2) 5 = f (i - 2) + f (i - 1) + f i + f (i + 1) + f (i + 2) := by
  show 0 + f (i - 2 + ((0 : Nat) : Int)) + f (i - 2 + ((1 : Nat) : Int)) + f (i - 2 + ((2 : Nat) : Int)) + f (i - 2 + ((3 : Nat) : Int)) + f (i - 2 + ((4 : Nat) : Int)) = _
  rw [show i - 2 + ((0 : Nat) : Int) = i - 2 by omega, show i - 2 + ((1 : Nat) : Int) = i - 1 by omega, show i - 2 + ((2 : Nat) : Int) = i by omega, show i - 2 + ((3 : Nat) : Int) = i + 1 by omega, show i - 2 + ((4 : Nat) : Int) = i + 2 by omega]
  omega
theorem nS_in {w : Int → Int} {n i : Int} (h : WOK w n) : 0 ≤ nS w n i ∧ nS w n i ≤ 2500 := by
  have h1 := gS_in h (i - 2); have h2 := gS_in h (i - 1); have h3 := gS_in h i; have h4 := gS_in h (i + 1); have h5 := gS_in h (i + 2)
  unfold nS
  rw [sum5]
  exact ⟨by omega, by omega⟩
theorem nF_in {w : Int → Int} {n i : Int} : 0 ≤ nF w n i ∧ nF w n i ≤ 5 := by
  have h1 := gF_in (w := w) (n := n) (i - 2); have h2 := gF_in (w := w) (n := n) (i - 1); have h3 := gF_in (w := w) (n := n) i; have h4 := gF_in (w := w) (n := n) (i + 1); have h5 := gF_in (w := w) (n := n) (i + 2)
  unfold nF
  rw [sum5]
  exact ⟨by omega, by omega⟩
theorem nS_pos {w : Int → Int} {n i : Int} (h : WOK w n) (h0 : 0 ≤ i) (hi : i < n) (hw : ¬ w i = -1) : 0 < nS w n i := by
  have h1 := gS_in h (i - 2); have h2 := gS_in h (i - 1); have h4 := gS_in h (i + 1); have h5 := gS_in h (i + 2)
  have h3 : 1 ≤ gS w n i := by
    unfold gS
    rw [wAt_in ⟨h0, hi⟩, if_neg hw]
    have := h i h0 hi
    omega
  unfold nS
  rw [sum5]
  omega
theorem evF_in {w : Int → Int} {n i : Int} (h : WOK w n) (h0 : 0 ≤ i) (hi : i < n) : evF w n i = -1 ∨ (0 ≤ evF w n i ∧ evF w n i ≤ 200) := by
  unfold evF
  split
  · exact Or.inl rfl
  · rename_i hw
    have h1 := nS_pos h h0 hi hw
    have h2 := nF_in (w := w) (n := n) (i := i)
    have h3 := h i h0 hi
    have h4 : 0 ≤ 100 * w i * nF w n i / nS w n i := Int.ediv_nonneg (Int.mul_nonneg (by omega) h2.1) (by omega)
    right
    omega
abbrev rm_S_evenedFromWidths : Room := { frames := 2, cells := 0, slots := 0, locals := 42 }
set_option maxHeartbeats 4000000 in
set_option maxRecDepth 100000 in
theorem c_S_evenedFromWidths (l : Launch) (D : va_G) (k : Nat → ClassId) (N : Nat) (AD : Int → Nat) (C : Int → va_E) (sz : Nat) (b : Int) (n : Int) (w : Int → Int) (e9 : Int → Int) (i : Int) (hb0 : 0 ≤ b ∧ b + 2 < (N : Int)) (hn : 0 ≤ n ∧ n ≤ 24) (hS : C b = .inr (2, [.ref (AD (b + 1)), .ref (AD (b + 2)), .int (zI n)])) (hSw : C (b + 1) = aI (k 0) 24 w) (hSe : C (b + 2) = aI (k 0) 24 e9) (hi : 0 ≤ i ∧ i < n) (hok : WOK w n) : MI l y_S_evenedFromWidths (Cond.code y_S_evenedFromWidths b_S_evenedFromWidths 6 (Option.some Jvm.ClassFile.FieldType.int) :: WS) rm_S_evenedFromWidths D clW (tyW k) N AD C sz [.ref (AD b), .int (zI i)] (fun r C' => r = zI (evF w n i) ∧ C' = C) := by
  refine MI.start (cc := b_S_evenedFromWidths) (maxL := 6) (rt := .int) (by decide) rfl (Nat.le_of_ble_eq_true rfl) ?_
  intro p e s m args below meth c Q ls hx hb hml hown hts hK hsz hw hl hret
  have hown : s.vm.findClass "RingMatches$Series" = some m.cls := hown
  have hl : lv_has ls 6 [(0, .ref (AD b)), (1, .int (zI i))] := hl
  have hA := wA_hi (N := N) (AD := AD) hsz
  obtain ⟨H, hH⟩ : ∃ H, H = s.heap := ⟨_, rfl⟩
  obtain ⟨locs, hlocs⟩ : ∃ z : List Loc, z = [] := ⟨_, rfl⟩
  have hw : WD D clW (wA N AD sz) s.heap H locs N AD C := by rw [hH, hlocs]; exact hw
  rw [← hlocs]
  suffices hgo : W p l e rm_S_evenedFromWidths s m args below meth c H locs 0 0 Q (F0 m 0 ls []) by rw [hH] at hgo; exact hgo
  have hwi2 := hok i hi.1 hi.2
  refine lv_aload_n hx hb d_S_evenedFromWidths_0 rfl (lv_at hl 0 rfl) ?_
  refine zr_get (v := .ref (AD (b + 1))) hx hb hts iw_S hown hK hw b ⟨by omega, by omega⟩ hS rfl 0 (by decide) (hts _ wk_69) (fun _ h => h) rfl d_S_evenedFromWidths_1 ?_
  refine lv_iload_n hx hb d_S_evenedFromWidths_4 rfl (lv_at hl 1 rfl) ?_
  refine zr_iald hx hb hK hw (b + 1) ⟨by omega, by omega⟩ 0 hSw rfl ⟨by omega, by omega⟩ (by decide) d_S_evenedFromWidths_5 ?_
  refine zr_iconst hx hb d_S_evenedFromWidths_6 ?_
  refine zr_icmp_ne (tgt := 12) hx hb ⟨by omega, by omega⟩ ⟨by omega, by omega⟩ d_S_evenedFromWidths_7 (by decide) (fun c1 => ?_) (fun c1 => ?_)
  · have hwi := c1
    refine zr_iconst hx hb d_S_evenedFromWidths_12 ?_
    refine lv_istore_n (lv' := [(2, .int (zI 0)), (0, .ref (AD b)), (1, .int (zI i))]) hx hb d_S_evenedFromWidths_13 rfl hl (by decide) rfl (fun ls hl => ?_)
    refine zr_iconst hx hb d_S_evenedFromWidths_14 ?_
    refine lv_istore_n (lv' := [(3, .int (zI 0)), (2, .int (zI 0)), (0, .ref (AD b)), (1, .int (zI i))]) hx hb d_S_evenedFromWidths_15 rfl hl (by decide) rfl (fun ls hl => ?_)
    refine lv_iload_n hx hb d_S_evenedFromWidths_16 rfl (lv_at hl 3 rfl) ?_
    refine zr_iconst hx hb d_S_evenedFromWidths_17 ?_
    refine zr_isub hx hb d_S_evenedFromWidths_18 ?_
    refine lv_istore (lv' := [(4, .int (zI (i - 2))), (3, .int (zI 0)), (2, .int (zI 0)), (0, .ref (AD b)), (1, .int (zI i))]) hx hb d_S_evenedFromWidths_19 hl (by decide) rfl (fun ls hl => ?_)
    have lp : ∀ (n9 : Nat) (x : Int) (sm : Int) (fd : Int) (H : Heap) (locs : List Loc) (ls : Array Slot), (i - 2 ≤ x ∧ x ≤ i + 3) → (sm = sumR (gS w n) (i - 2) (x - (i - 2)).toNat) → (fd = sumR (gF w n) (i - 2) (x - (i - 2)).toNat) → (0 ≤ sm ∧ sm ≤ 500 * (x - (i - 2))) → (0 ≤ fd ∧ fd ≤ x - (i - 2)) → (i + 3 - x).toNat < n9 → WD D clW (wA N AD sz) s.heap H locs N AD C → lv_has ls 6 [(0, .ref (AD b)), (1, .int (zI i)), (2, .int (zI sm)), (3, .int (zI fd)), (4, .int (zI x))] → W p l e rm_S_evenedFromWidths s m args below meth c H locs 0 0 Q (F0 m 21 ls []) := by
      intro n9
      induction n9 with
      | zero => intro x sm fd H locs ls hx1 hs1 hf1 hs2 hf2  hm hw hl; exact absurd hm (by omega)
      | succ n9 ihlp =>
        intro x sm fd H locs ls hx1 hs1 hf1 hs2 hf2  hm hw hl
        refine lv_iload hx hb d_S_evenedFromWidths_21 (lv_at hl 4 rfl) ?_
        refine lv_iload_n hx hb d_S_evenedFromWidths_23 rfl (lv_at hl 1 rfl) ?_
        refine zr_iconst hx hb d_S_evenedFromWidths_24 ?_
        refine zr_iadd hx hb d_S_evenedFromWidths_25 ?_
        refine zr_icmp_gt (tgt := 57) hx hb ⟨by omega, by omega⟩ ⟨by omega, by omega⟩ d_S_evenedFromWidths_26 (by decide) (fun c2 => ?_) (fun c2 => ?_)
        · have hx2 : x = i + 3 := by omega
          have e5 : (x - (i - 2)).toNat = 5 := by omega
          rw [e5] at hs1 hf1
          have hs3 : sm = nS w n i := hs1
          have hf3 : fd = nF w n i := hf1
          have hp := nS_pos hok hi.1 hi.2 hwi
          have hwi2 := hok i hi.1 hi.2
          have hm0 : 0 ≤ 100 * w i * fd := Int.mul_nonneg (by omega) (by omega)
          have hm1 : 100 * w i * fd ≤ 50000 * 5 := Int.mul_le_mul (by omega) (by omega) (by omega) (by omega)
          refine lv_iload_n hx hb d_S_evenedFromWidths_57 rfl (lv_at hl 2 rfl) ?_
          refine zr_if_le (tgt := 83) hx hb ⟨by omega, by omega⟩ d_S_evenedFromWidths_58 (by decide) (fun c3 => ?_) (fun c3 => ?_)
          · exact absurd c3 (by omega)
          · refine zr_sipush hx hb d_S_evenedFromWidths_61 (by decide) ?_
            refine zr_bipush hx hb d_S_evenedFromWidths_64 (by decide) ?_
            refine lv_aload_n hx hb d_S_evenedFromWidths_66 rfl (lv_at hl 0 rfl) ?_
            refine zr_get (v := .ref (AD (b + 1))) hx hb hts iw_S hown hK hw b ⟨by omega, by omega⟩ hS rfl 0 (by decide) (hts _ wk_69) (fun _ h => h) rfl d_S_evenedFromWidths_67 ?_
            refine lv_iload_n hx hb d_S_evenedFromWidths_70 rfl (lv_at hl 1 rfl) ?_
            refine zr_iald hx hb hK hw (b + 1) ⟨by omega, by omega⟩ 0 hSw rfl ⟨by omega, by omega⟩ (by decide) d_S_evenedFromWidths_71 ?_
            refine zr_imul hx hb d_S_evenedFromWidths_72 ?_
            refine lv_iload_n hx hb d_S_evenedFromWidths_73 rfl (lv_at hl 3 rfl) ?_
            refine zr_imul hx hb d_S_evenedFromWidths_74 ?_
            refine lv_iload_n hx hb d_S_evenedFromWidths_75 rfl (lv_at hl 2 rfl) ?_
            refine zr_idiv hx hb d_S_evenedFromWidths_76 ⟨by omega, by omega⟩ ⟨by omega, by omega⟩ (by omega) (by omega) ?_
            have hd0 : 0 ≤ 100 * w i * fd / sm := Int.ediv_nonneg hm0 (by omega)
            have hd1 : 100 * w i * fd / sm ≤ 100 * w i * fd := Int.ediv_le_self _ hm0
            refine zr_min hx hb (hml.trans hl.1.symm) hown hts wk_283 (Nat.le_of_ble_eq_true rfl) (Nat.le_of_ble_eq_true rfl) (Nat.le_of_ble_eq_true rfl) (Nat.le_of_ble_eq_true rfl) ⟨by omega, by omega⟩ ⟨by omega, by omega⟩ d_S_evenedFromWidths_77 ?_
            refine lv_goto (tgt := 84) hx hb d_S_evenedFromWidths_80 (by decide) ?_
            exact hret _ _ _ _ _ _ d_S_evenedFromWidths_84 hw rfl ⟨by unfold evF; rw [if_neg hwi, ← hs3, ← hf3], rfl⟩
        · refine lv_aload_n hx hb d_S_evenedFromWidths_29 rfl (lv_at hl 0 rfl) ?_
          refine lv_iload hx hb d_S_evenedFromWidths_30 (lv_at hl 4 rfl) ?_
          refine zr_callI (va_runV (As := [.int (zI x)]) (rest := []) ⟨hx, hb, hml, hown, hts⟩ (c_S_widthAt l D k N AD C H.size b n w e9 x ⟨by omega, by omega⟩ ⟨by omega, by omega⟩ hS hSw hSe ⟨by omega, by omega⟩) (cwV 1 hts (good_V wk_275 wk_276 wk_277 wk_29 wk_278) rfl rfl rfl (by decide +kernel) ⟨Nat.le_of_ble_eq_true rfl, Nat.le_of_ble_eq_true rfl⟩) (cPre_V hK hw b ⟨by omega, by omega⟩ hS rfl) rfl rfl hl.1 rfl (lv_room (Nat.le_of_ble_eq_true rfl)) d_S_evenedFromWidths_32 ⟨Nat.le_of_ble_eq_true rfl, Nat.le_of_ble_eq_true rfl⟩) hw hA (fun r9 C5 H locs hq4 hw => ?_)
          obtain ⟨hr9, hCe⟩ := hq4
          rw [hCe] at hw; subst hr9
          refine lv_istore (lv' := [(5, .int (zI (wAt w n x))), (0, .ref (AD b)), (1, .int (zI i)), (2, .int (zI sm)), (3, .int (zI fd)), (4, .int (zI x))]) hx hb d_S_evenedFromWidths_35 hl (by decide) rfl (fun ls hl => ?_)
          have hc := wAt_cases hok x
          refine lv_iload hx hb d_S_evenedFromWidths_37 (lv_at hl 0 rfl) ?_
          refine zr_iconst hx hb d_S_evenedFromWidths_39 ?_
          refine zr_icmp_eq (tgt := 51) hx hb ⟨by omega, by omega⟩ ⟨by omega, by omega⟩ d_S_evenedFromWidths_40 (by decide) (fun c6 => ?_) (fun c6 => ?_)
          · have hgS : gS w n x = 0 := if_pos c6
            have hgF : gF w n x = 0 := if_pos c6
            refine lv_iinc (v := zI (x + 1)) (lv' := [(4, .int (zI (x + 1))), (5, .int (zI (wAt w n x))), (0, .ref (AD b)), (1, .int (zI i)), (2, .int (zI sm)), (3, .int (zI fd))]) hx hb d_S_evenedFromWidths_51 hl (k := 5) rfl (zI_add _ _) (by decide) rfl (fun ls hl => ?_)
            refine lv_goto (tgt := 21) hx hb d_S_evenedFromWidths_54 (by decide) ?_
            exact ihlp (x + 1) sm fd H locs ls (by omega) (by rw [sumR_step _ (by omega), ← hs1, hgS]; omega) (by rw [sumR_step _ (by omega), ← hf1, hgF]; omega) (by omega) (by omega)  (by omega) hw (lv_sub hl [2, 3, 4, 5, 0] rfl)
          · have hgS : gS w n x = wAt w n x := if_neg c6
            have hgF : gF w n x = 1 := if_neg c6
            refine lv_iload_n hx hb d_S_evenedFromWidths_43 rfl (lv_at hl 3 rfl) ?_
            refine lv_iload hx hb d_S_evenedFromWidths_44 (lv_at hl 0 rfl) ?_
            refine zr_iadd hx hb d_S_evenedFromWidths_46 ?_
            refine lv_istore_n (lv' := [(2, .int (zI (sm + (wAt w n x)))), (5, .int (zI (wAt w n x))), (0, .ref (AD b)), (1, .int (zI i)), (3, .int (zI fd)), (4, .int (zI x))]) hx hb d_S_evenedFromWidths_47 rfl hl (by decide) rfl (fun ls hl => ?_)
            refine lv_iinc (v := zI (fd + 1)) (lv' := [(3, .int (zI (fd + 1))), (2, .int (zI (sm + (wAt w n x)))), (5, .int (zI (wAt w n x))), (0, .ref (AD b)), (1, .int (zI i)), (4, .int (zI x))]) hx hb d_S_evenedFromWidths_48 hl (k := 4) rfl (zI_add _ _) (by decide) rfl (fun ls hl => ?_)
            refine lv_iinc (v := zI (x + 1)) (lv' := [(4, .int (zI (x + 1))), (3, .int (zI (fd + 1))), (2, .int (zI (sm + (wAt w n x)))), (5, .int (zI (wAt w n x))), (0, .ref (AD b)), (1, .int (zI i))]) hx hb d_S_evenedFromWidths_51 hl (k := 5) rfl (zI_add _ _) (by decide) rfl (fun ls hl => ?_)
            refine lv_goto (tgt := 21) hx hb d_S_evenedFromWidths_54 (by decide) ?_
            exact ihlp (x + 1) (sm + (wAt w n x)) (fd + 1) H locs ls (by omega) (by rw [sumR_step _ (by omega), ← hs1, hgS]) (by rw [sumR_step _ (by omega), ← hf1, hgF]) (by omega) (by omega)  (by omega) hw (lv_sub hl [4, 5, 2, 1, 0] rfl)
    exact lp ((i + 3 - (i - 2)).toNat + 1) (i - 2) 0 0 H locs ls (by omega) (sumR_self _ _).symm (sumR_self _ _).symm (by omega) (by omega)  (by omega) hw (lv_sub hl [3, 4, 2, 1, 0] rfl)
  · refine zr_iconst hx hb d_S_evenedFromWidths_10 ?_
    exact hret _ _ _ _ _ _ d_S_evenedFromWidths_11 hw rfl ⟨by unfold evF; rw [if_pos c1], rfl⟩
abbrev rm_S_makeEven : Room := { frames := 3, cells := 0, slots := 0, locals := 67 }
set_option maxHeartbeats 4000000 in
set_option maxRecDepth 100000 in
theorem c_S_makeEven (l : Launch) (D : va_G) (k : Nat → ClassId) (N : Nat) (AD : Int → Nat) (C : Int → va_E) (sz : Nat) (b : Int) (n : Int) (w : Int → Int) (e9 : Int → Int) (hb0 : 0 ≤ b ∧ b + 2 < (N : Int)) (hn : 0 ≤ n ∧ n ≤ 24) (hS : C b = .inr (2, [.ref (AD (b + 1)), .ref (AD (b + 2)), .int (zI n)])) (hSw : C (b + 1) = aI (k 0) 24 w) (hSe : C (b + 2) = aI (k 0) 24 e9) (hok : WOK w n) : MV l y_S_makeEven (Cond.code y_S_makeEven b_S_makeEven 2 (Option.none : Option FieldType) :: WS) rm_S_makeEven D clW (tyW k) N AD C sz [.ref (AD b)] (fun C' => ∃ ee : Int → Int, C' (b + 2) = aI (k 0) 24 ee ∧ EvOK w ee n ∧ ∀ j : Int, j ≠ b + 2 → C' j = C j) := by
  refine MV.start (cc := b_S_makeEven) (maxL := 2) (by decide) rfl (Nat.le_of_ble_eq_true rfl) ?_
  intro p e s m args below meth c Q ls hx hb hml hown hts hK hsz hw hl hret
  have hown : s.vm.findClass "RingMatches$Series" = some m.cls := hown
  have hl : lv_has ls 2 [(0, .ref (AD b))] := hl
  have hA := wA_hi (N := N) (AD := AD) hsz
  obtain ⟨H, hH⟩ : ∃ H, H = s.heap := ⟨_, rfl⟩
  obtain ⟨locs, hlocs⟩ : ∃ z : List Loc, z = [] := ⟨_, rfl⟩
  have hw : WD D clW (wA N AD sz) s.heap H locs N AD C := by rw [hH, hlocs]; exact hw
  rw [← hlocs]
  suffices hgo : W p l e rm_S_makeEven s m args below meth c H locs 0 0 Q (F0 m 0 ls []) by rw [hH] at hgo; exact hgo
  obtain ⟨C0, hC0⟩ : ∃ z : Int → va_E, z = C := ⟨_, rfl⟩
  rw [← hC0] at hret
  refine zr_iconst hx hb d_S_makeEven_0 ?_
  refine lv_istore_n (lv' := [(1, .int (zI 0)), (0, .ref (AD b))]) hx hb d_S_makeEven_1 rfl hl (by decide) rfl (fun ls hl => ?_)
  have lp : ∀ (n9 : Nat) (x : Int) (ee : Int → Int) (C : Int → va_E) (H : Heap) (locs : List Loc) (ls : Array Slot), (0 ≤ x ∧ x ≤ n) → (∀ j : Int, 0 ≤ j → j < x → ee j = evF w n j) → (∀ j : Int, j ≠ b + 2 → C j = C0 j) → (C b = .inr (2, [.ref (AD (b + 1)), .ref (AD (b + 2)), .int (zI n)])) → (C (b + 1) = aI (k 0) 24 w) → (C (b + 2) = aI (k 0) 24 ee) → (n + 1 - x).toNat < n9 → WD D clW (wA N AD sz) s.heap H locs N AD C → lv_has ls 2 [(0, .ref (AD b)), (1, .int (zI x))] → W p l e rm_S_makeEven s m args below meth c H locs 0 0 Q (F0 m 2 ls []) := by
    intro n9
    induction n9 with
    | zero => intro x ee C H locs ls hx1 he1 hfr hS hSw hSe hm hw hl; exact absurd hm (by omega)
    | succ n9 ihlp =>
      intro x ee C H locs ls hx1 he1 hfr hS hSw hSe hm hw hl
      refine lv_iload_n hx hb d_S_makeEven_2 rfl (lv_at hl 1 rfl) ?_
      refine lv_aload_n hx hb d_S_makeEven_3 rfl (lv_at hl 0 rfl) ?_
      refine zr_get (v := .int (zI n)) hx hb hts iw_S hown hK hw b ⟨by omega, by omega⟩ hS rfl 2 (by decide) (hts _ wk_71) (fun _ h => h) rfl d_S_makeEven_4 ?_
      refine zr_icmp_ge (tgt := 27) hx hb ⟨by omega, by omega⟩ ⟨by omega, by omega⟩ d_S_makeEven_7 (by decide) (fun c1 => ?_) (fun c1 => ?_)
      · exact hret _ _ _ _ _ d_S_makeEven_27 hw ⟨ee, hSe, fun j h1 h2 => he1 j h1 (by omega), hfr⟩
      · refine lv_aload_n hx hb d_S_makeEven_10 rfl (lv_at hl 0 rfl) ?_
        refine zr_get (v := .ref (AD (b + 2))) hx hb hts iw_S hown hK hw b ⟨by omega, by omega⟩ hS rfl 1 (by decide) (hts _ wk_70) (fun _ h => h) rfl d_S_makeEven_11 ?_
        refine lv_iload_n hx hb d_S_makeEven_14 rfl (lv_at hl 1 rfl) ?_
        refine lv_aload_n hx hb d_S_makeEven_15 rfl (lv_at hl 0 rfl) ?_
        refine lv_iload_n hx hb d_S_makeEven_16 rfl (lv_at hl 1 rfl) ?_
        refine zr_callI (va_runV (As := [.int (zI x)]) (rest := [.int (zI x), .ref (AD (b + 2))]) ⟨hx, hb, hml, hown, hts⟩ (c_S_evenedFromWidths l D k N AD C H.size b n w ee x ⟨by omega, by omega⟩ ⟨by omega, by omega⟩ hS hSw hSe ⟨by omega, by omega⟩ hok) (cwV 1 hts (good_V wk_271 wk_273 wk_1 wk_29 wk_274) rfl rfl rfl (by decide +kernel) ⟨Nat.le_of_ble_eq_true rfl, Nat.le_of_ble_eq_true rfl⟩) (cPre_V hK hw b ⟨by omega, by omega⟩ hS rfl) rfl rfl hl.1 rfl (lv_room (Nat.le_of_ble_eq_true rfl)) d_S_makeEven_17 ⟨Nat.le_of_ble_eq_true rfl, Nat.le_of_ble_eq_true rfl⟩) hw hA (fun r9 C3 H locs hq2 hw => ?_)
        obtain ⟨hr9, hCe⟩ := hq2
        rw [hCe] at hw; subst hr9
        refine zr_iast hx hb hK hw (b + 2) ⟨by omega, by omega⟩ 0 hSe rfl ⟨by omega, by omega⟩ (by decide) d_S_makeEven_20 (fun H locs hw => ?_)
        obtain ⟨C4, hC4⟩ : ∃ z : Int → va_E, z = zup C (b + 2) (aI (k 0) 24 (zup ee x (evF w n x))) := ⟨_, rfl⟩
        have hw : WD D clW (wA N AD sz) s.heap H locs N AD C4 := by rw [hC4]; exact hw
        have frC4 : ∀ j : Int, j ≠ (b + 2) → C4 j = C j := fun j h => by rw [hC4]; exact zup_n h
        have hS : C4 b = .inr (2, [.ref (AD (b + 1)), .ref (AD (b + 2)), .int (zI n)]) := (frC4 _ (by omega)).trans hS
        have hSw : C4 (b + 1) = aI (k 0) 24 w := (frC4 _ (by omega)).trans hSw
        have hSe : C4 (b + 2) = aI (k 0) 24 (zup ee x (evF w n x)) := by rw [hC4]; exact zup_s
        refine lv_iinc (v := zI (x + 1)) (lv' := [(1, .int (zI (x + 1))), (0, .ref (AD b))]) hx hb d_S_makeEven_21 hl (k := 1) rfl (zI_add _ _) (by decide) rfl (fun ls hl => ?_)
        refine lv_goto (tgt := 2) hx hb d_S_makeEven_24 (by decide) ?_
        exact ihlp (x + 1) (zup ee x (evF w n x)) C4 H locs ls (by omega) (zup_ok he1 rfl) (fun j h => (frC4 j h).trans (hfr j h)) hS hSw hSe (by omega) hw (lv_sub hl [1, 0] rfl)
  exact lp ((n + 1 - 0).toNat + 1) 0 e9 C H locs ls (by omega) (fun j h1 h2 => absurd h2 (by omega)) (fun j h => by rw [hC0]) hS hSw hSe (by omega) hw (lv_sub hl [1, 0] rfl)
end
section
/-- a row with a missing ring put in ahead of place g -/
def gapW (w : Int → Int) (g j : Int) : Int := if j < g then w j else if j = g then -1 else w (j - 1)
theorem gapW_lt {w : Int → Int} {g j : Int} (h : j < g) : gapW w g j = w j := if_pos h
theorem gapW_eq {w : Int → Int} {g j : Int} (h : j = g) : gapW w g j = -1 := by unfold gapW; rw [if_neg (by omega), if_pos h]
theorem gapW_gt {w : Int → Int} {g j : Int} (h : g < j) : gapW w g j = w (j - 1) := by unfold gapW; rw [if_neg (by omega), if_neg (by omega)]
theorem gapW_ok {w : Int → Int} {n g : Int} (h : WOK w n) (hg : 0 ≤ g ∧ g ≤ n) : WOK (gapW w g) (n + 1) := by
  intro j h0 h1
  unfold gapW
  split
  · exact h j h0 (by omega)
  · split
    · exact Or.inl rfl
    · exact h (j - 1) (by omega) (by omega)
theorem WOK.to {w v : Int → Int} {n : Int} (h : WOK w n) (e : ∀ j : Int, 0 ≤ j → j < n → v j = w j) : WOK v n := fun j h0 h1 => by rw [e j h0 h1]; exact h j h0 h1
abbrev rm_S_copyWithGap : Room := { frames := 4, cells := 0, slots := 0, locals := 88 }
set_option maxHeartbeats 4000000 in
set_option maxRecDepth 100000 in
theorem c_S_copyWithGap (l : Launch) (D : va_G) (k : Nat → ClassId) (N : Nat) (AD : Int → Nat) (C : Int → va_E) (sz : Nat) (b : Int) (n0 : Int) (w0 : Int → Int) (e0 : Int → Int) (b2 : Int) (n : Int) (w : Int → Int) (e9 : Int → Int) (g : Int) (hb0 : 0 ≤ b ∧ b + 2 < (N : Int)) (hb2 : 0 ≤ b2 ∧ b2 + 2 < (N : Int)) (hbb : b + 2 < b2 ∨ b2 + 2 < b) (hn0 : 0 ≤ n0 ∧ n0 ≤ 24) (hn : 0 ≤ n ∧ n ≤ 23) (hg : 0 ≤ g ∧ g ≤ n) (hS : C b = .inr (2, [.ref (AD (b + 1)), .ref (AD (b + 2)), .int (zI n0)])) (hSw : C (b + 1) = aI (k 0) 24 w0) (hSe : C (b + 2) = aI (k 0) 24 e0) (hT : C b2 = .inr (2, [.ref (AD (b2 + 1)), .ref (AD (b2 + 2)), .int (zI n)])) (hTw : C (b2 + 1) = aI (k 0) 24 w) (hTe : C (b2 + 2) = aI (k 0) 24 e9) (hok : WOK w n) : MV l y_S_copyWithGap (Cond.code y_S_copyWithGap b_S_copyWithGap 4 (Option.none : Option FieldType) :: WS) rm_S_copyWithGap D clW (tyW k) N AD C sz [.ref (AD b), .ref (AD b2), .int (zI g)] (fun C' => ∃ ww ee : Int → Int, C' b = .inr (2, [.ref (AD (b + 1)), .ref (AD (b + 2)), .int (zI (n + 1))]) ∧ C' (b + 1) = aI (k 0) 24 ww ∧ C' (b + 2) = aI (k 0) 24 ee ∧ (∀ j : Int, 0 ≤ j → j < n + 1 → ww j = gapW w g j) ∧ EvOK ww ee (n + 1) ∧ ∀ j : Int, ¬ (b ≤ j ∧ j ≤ b + 2) → C' j = C j) := by
  refine MV.start (cc := b_S_copyWithGap) (maxL := 4) (by decide) rfl (Nat.le_of_ble_eq_true rfl) ?_
  intro p e s m args below meth c Q ls hx hb hml hown hts hK hsz hw hl hret
  have hown : s.vm.findClass "RingMatches$Series" = some m.cls := hown
  have hl : lv_has ls 4 [(0, .ref (AD b)), (1, .ref (AD b2)), (2, .int (zI g))] := hl
  have hA := wA_hi (N := N) (AD := AD) hsz
  obtain ⟨H, hH⟩ : ∃ H, H = s.heap := ⟨_, rfl⟩
  obtain ⟨locs, hlocs⟩ : ∃ z : List Loc, z = [] := ⟨_, rfl⟩
  have hw : WD D clW (wA N AD sz) s.heap H locs N AD C := by rw [hH, hlocs]; exact hw
  rw [← hlocs]
  suffices hgo : W p l e rm_S_copyWithGap s m args below meth c H locs 0 0 Q (F0 m 0 ls []) by rw [hH] at hgo; exact hgo
  obtain ⟨C0, hC0⟩ : ∃ z : Int → va_E, z = C := ⟨_, rfl⟩
  rw [← hC0] at hret
  refine lv_aload_n hx hb d_S_copyWithGap_0 rfl (lv_at hl 0 rfl) ?_
  refine zr_iconst hx hb d_S_copyWithGap_1 ?_
  refine zr_put (ty := .int) (v := .int (zI 0)) hx hb hts iw_S tyS tyS_ok nmS hown hK hw b ⟨by omega, by omega⟩ hS rfl 2 (by decide) (hts _ wk_71) (fun _ h => h) rfl (by decide +kernel) rfl rfl (Nat.le_of_ble_eq_true rfl) d_S_copyWithGap_2 (fun H locs hw => ?_)
  obtain ⟨C1, hC1⟩ : ∃ z : Int → va_E, z = zup C b (.inr (2, [.ref (AD (b + 1)), .ref (AD (b + 2)), .int (zI 0)])) := ⟨_, rfl⟩
  have hw : WD D clW (wA N AD sz) s.heap H locs N AD C1 := by rw [hC1]; exact hw
  have frC1 : ∀ j : Int, j ≠ b → C1 j = C j := fun j h => by rw [hC1]; exact zup_n h
  have hS : C1 b = .inr (2, [.ref (AD (b + 1)), .ref (AD (b + 2)), .int (zI 0)]) := by rw [hC1]; exact zup_s
  have hSw : C1 (b + 1) = aI (k 0) 24 w0 := (frC1 _ (by omega)).trans hSw
  have hSe : C1 (b + 2) = aI (k 0) 24 e0 := (frC1 _ (by omega)).trans hSe
  have hT : C1 b2 = .inr (2, [.ref (AD (b2 + 1)), .ref (AD (b2 + 2)), .int (zI n)]) := (frC1 _ (by omega)).trans hT
  have hTw : C1 (b2 + 1) = aI (k 0) 24 w := (frC1 _ (by omega)).trans hTw
  have hTe : C1 (b2 + 2) = aI (k 0) 24 e9 := (frC1 _ (by omega)).trans hTe
  refine zr_iconst hx hb d_S_copyWithGap_5 ?_
  refine lv_istore_n (lv' := [(3, .int (zI 0)), (0, .ref (AD b)), (1, .ref (AD b2)), (2, .int (zI g))]) hx hb d_S_copyWithGap_6 rfl hl (by decide) rfl (fun ls hl => ?_)
  have lp : ∀ (n9 : Nat) (x : Int) (n1 : Int) (ww : Int → Int) (C : Int → va_E) (H : Heap) (locs : List Loc) (ls : Array Slot), (0 ≤ x ∧ x ≤ n) → ((x ≤ g ∧ n1 = x) ∨ (g < x ∧ n1 = x + 1)) → (∀ j : Int, 0 ≤ j → j < n1 → ww j = gapW w g j) → (∀ j : Int, ¬ (b ≤ j ∧ j ≤ b + 2) → C j = C0 j) → (C b = .inr (2, [.ref (AD (b + 1)), .ref (AD (b + 2)), .int (zI n1)])) → (C (b + 1) = aI (k 0) 24 ww) → (C (b + 2) = aI (k 0) 24 e0) → (C b2 = .inr (2, [.ref (AD (b2 + 1)), .ref (AD (b2 + 2)), .int (zI n)])) → (C (b2 + 1) = aI (k 0) 24 w) → (C (b2 + 2) = aI (k 0) 24 e9) → (n + 1 - x).toNat < n9 → WD D clW (wA N AD sz) s.heap H locs N AD C → lv_has ls 4 [(0, .ref (AD b)), (1, .ref (AD b2)), (2, .int (zI g)), (3, .int (zI x))] → W p l e rm_S_copyWithGap s m args below meth c H locs 0 0 Q (F0 m 7 ls []) := by
    intro n9
    induction n9 with
    | zero => intro x n1 ww C H locs ls hx1 hn1 hw1 hfr hS hSw hSe hT hTw hTe hm hw hl; exact absurd hm (by omega)
    | succ n9 ihlp =>
      intro x n1 ww C H locs ls hx1 hn1 hw1 hfr hS hSw hSe hT hTw hTe hm hw hl
      refine lv_iload_n hx hb d_S_copyWithGap_7 rfl (lv_at hl 3 rfl) ?_
      refine lv_aload_n hx hb d_S_copyWithGap_8 rfl (lv_at hl 1 rfl) ?_
      refine zr_get (v := .int (zI n)) hx hb hts iw_S hown hK hw b2 ⟨by omega, by omega⟩ hT rfl 2 (by decide) (hts _ wk_71) (fun _ h => h) rfl d_S_copyWithGap_9 ?_
      refine zr_icmp_ge (tgt := 40) hx hb ⟨by omega, by omega⟩ ⟨by omega, by omega⟩ d_S_copyWithGap_12 (by decide) (fun c2 => ?_) (fun c2 => ?_)
      · have hx2 : x = n := by omega
        refine lv_iload_n hx hb d_S_copyWithGap_40 rfl (lv_at hl 2 rfl) ?_
        refine lv_aload_n hx hb d_S_copyWithGap_41 rfl (lv_at hl 1 rfl) ?_
        refine zr_get (v := .int (zI n)) hx hb hts iw_S hown hK hw b2 ⟨by omega, by omega⟩ hT rfl 2 (by decide) (hts _ wk_71) (fun _ h => h) rfl d_S_copyWithGap_42 ?_
        refine zr_icmp_ne (tgt := 53) hx hb ⟨by omega, by omega⟩ ⟨by omega, by omega⟩ d_S_copyWithGap_45 (by decide) (fun c3 => ?_) (fun c3 => ?_)
        · have hn3 : n1 = n + 1 := by omega
          have hw3 : ∀ j : Int, 0 ≤ j → j < n1 → ww j = gapW w g j := hw1
          have hok3 : WOK ww n1 := WOK.to (by rw [hn3]; exact gapW_ok hok (by omega)) hw3
          refine lv_aload_n hx hb d_S_copyWithGap_53 rfl (lv_at hl 0 rfl) ?_
          refine zr_callV (va_runV (As := []) (rest := []) ⟨hx, hb, hml, hown, hts⟩ (c_S_makeEven l D k N AD C H.size b n1 ww e0 ⟨by omega, by omega⟩ ⟨by omega, by omega⟩ hS hSw hSe hok3) (cwV 0 hts (good_V wk_455 wk_268 wk_269 wk_29 wk_270) rfl rfl rfl (by decide +kernel) ⟨Nat.le_of_ble_eq_true rfl, Nat.le_of_ble_eq_true rfl⟩) (cPre_V hK hw b ⟨by omega, by omega⟩ hS rfl) rfl rfl hl.1 rfl (lv_room (Nat.le_of_ble_eq_true rfl)) d_S_copyWithGap_54 ⟨Nat.le_of_ble_eq_true rfl, Nat.le_of_ble_eq_true rfl⟩) hw hA (fun C4 H locs hq5 hw => ?_)
          obtain ⟨ev6, hq5a, hEv, frC4⟩ := hq5
          have hS : C4 b = .inr (2, [.ref (AD (b + 1)), .ref (AD (b + 2)), .int (zI n1)]) := (frC4 _ (by omega)).trans hS
          have hSw : C4 (b + 1) = aI (k 0) 24 ww := (frC4 _ (by omega)).trans hSw
          have hSe : C4 (b + 2) = aI (k 0) 24 ev6 := hq5a
          have hT : C4 b2 = .inr (2, [.ref (AD (b2 + 1)), .ref (AD (b2 + 2)), .int (zI n)]) := (frC4 _ (by omega)).trans hT
          have hTw : C4 (b2 + 1) = aI (k 0) 24 w := (frC4 _ (by omega)).trans hTw
          have hTe : C4 (b2 + 2) = aI (k 0) 24 e9 := (frC4 _ (by omega)).trans hTe
          exact hret _ _ _ _ _ d_S_copyWithGap_57 hw ⟨_, _, by rw [hS, hn3], hSw, hSe, fun j h1 h2 => hw3 j h1 (by omega), by rw [← hn3]; exact hEv, fun j hj => by rw [frC4 j (by omega)]; exact hfr j hj⟩
        · refine lv_aload_n hx hb d_S_copyWithGap_48 rfl (lv_at hl 0 rfl) ?_
          refine zr_iconst hx hb d_S_copyWithGap_49 ?_
          refine zr_callV (va_runV (As := [.int (zI (-1))]) (rest := []) ⟨hx, hb, hml, hown, hts⟩ (c_S_add l D k N AD C H.size b n1 ww e0 (-1) ⟨by omega, by omega⟩ ⟨by omega, by omega⟩ hS hSw hSe (by omega)) (cwV 1 hts (good_V wk_454 wk_261 wk_262 wk_29 wk_263) rfl rfl rfl (by decide +kernel) ⟨Nat.le_of_ble_eq_true rfl, Nat.le_of_ble_eq_true rfl⟩) (cPre_V hK hw b ⟨by omega, by omega⟩ hS rfl) rfl rfl hl.1 rfl (lv_room (Nat.le_of_ble_eq_true rfl)) d_S_copyWithGap_50 ⟨Nat.le_of_ble_eq_true rfl, Nat.le_of_ble_eq_true rfl⟩) hw hA (fun C7 H locs hq8 hw => ?_)
          obtain ⟨hq8a, hq8b, hq8c, frC7⟩ := hq8
          have hS : C7 b = .inr (2, [.ref (AD (b + 1)), .ref (AD (b + 2)), .int (zI (n1 + 1))]) := hq8a
          have hSw : C7 (b + 1) = aI (k 0) 24 (zup ww n1 (-1)) := hq8b
          have hSe : C7 (b + 2) = aI (k 0) 24 e0 := hq8c.trans hSe
          have hT : C7 b2 = .inr (2, [.ref (AD (b2 + 1)), .ref (AD (b2 + 2)), .int (zI n)]) := (frC7 _ (by omega)).trans hT
          have hTw : C7 (b2 + 1) = aI (k 0) 24 w := (frC7 _ (by omega)).trans hTw
          have hTe : C7 (b2 + 2) = aI (k 0) 24 e9 := (frC7 _ (by omega)).trans hTe
          have hn3 : (n1 + 1) = n + 1 := by omega
          have hw3 : ∀ j : Int, 0 ≤ j → j < (n1 + 1) → (zup ww n1 (-1)) j = gapW w g j := zup_ok hw1 (by rw [gapW_eq (by omega)])
          have hok3 : WOK (zup ww n1 (-1)) (n1 + 1) := WOK.to (by rw [hn3]; exact gapW_ok hok (by omega)) hw3
          refine lv_aload_n hx hb d_S_copyWithGap_53 rfl (lv_at hl 0 rfl) ?_
          refine zr_callV (va_runV (As := []) (rest := []) ⟨hx, hb, hml, hown, hts⟩ (c_S_makeEven l D k N AD C7 H.size b (n1 + 1) (zup ww n1 (-1)) e0 ⟨by omega, by omega⟩ ⟨by omega, by omega⟩ hS hSw hSe hok3) (cwV 0 hts (good_V wk_455 wk_268 wk_269 wk_29 wk_270) rfl rfl rfl (by decide +kernel) ⟨Nat.le_of_ble_eq_true rfl, Nat.le_of_ble_eq_true rfl⟩) (cPre_V hK hw b ⟨by omega, by omega⟩ hS rfl) rfl rfl hl.1 rfl (lv_room (Nat.le_of_ble_eq_true rfl)) d_S_copyWithGap_54 ⟨Nat.le_of_ble_eq_true rfl, Nat.le_of_ble_eq_true rfl⟩) hw hA (fun C9 H locs hq10 hw => ?_)
          obtain ⟨ev11, hq10a, hEv, frC9⟩ := hq10
          have hS : C9 b = .inr (2, [.ref (AD (b + 1)), .ref (AD (b + 2)), .int (zI (n1 + 1))]) := (frC9 _ (by omega)).trans hS
          have hSw : C9 (b + 1) = aI (k 0) 24 (zup ww n1 (-1)) := (frC9 _ (by omega)).trans hSw
          have hSe : C9 (b + 2) = aI (k 0) 24 ev11 := hq10a
          have hT : C9 b2 = .inr (2, [.ref (AD (b2 + 1)), .ref (AD (b2 + 2)), .int (zI n)]) := (frC9 _ (by omega)).trans hT
          have hTw : C9 (b2 + 1) = aI (k 0) 24 w := (frC9 _ (by omega)).trans hTw
          have hTe : C9 (b2 + 2) = aI (k 0) 24 e9 := (frC9 _ (by omega)).trans hTe
          exact hret _ _ _ _ _ d_S_copyWithGap_57 hw ⟨_, _, by rw [hS, hn3], hSw, hSe, fun j h1 h2 => hw3 j h1 (by omega), by rw [← hn3]; exact hEv, fun j hj => by rw [frC9 j (by omega), frC7 j (by omega)]; exact hfr j hj⟩
      · refine lv_iload_n hx hb d_S_copyWithGap_15 rfl (lv_at hl 3 rfl) ?_
        refine lv_iload_n hx hb d_S_copyWithGap_16 rfl (lv_at hl 2 rfl) ?_
        refine zr_icmp_ne (tgt := 25) hx hb ⟨by omega, by omega⟩ ⟨by omega, by omega⟩ d_S_copyWithGap_17 (by decide) (fun c12 => ?_) (fun c12 => ?_)
        · refine lv_aload_n hx hb d_S_copyWithGap_25 rfl (lv_at hl 0 rfl) ?_
          refine lv_aload_n hx hb d_S_copyWithGap_26 rfl (lv_at hl 1 rfl) ?_
          refine lv_iload_n hx hb d_S_copyWithGap_27 rfl (lv_at hl 3 rfl) ?_
          refine zr_callI (va_runV (As := [.int (zI x)]) (rest := [.ref (AD b)]) ⟨hx, hb, hml, hown, hts⟩ (c_S_widthAt l D k N AD C H.size b2 n w e9 x ⟨by omega, by omega⟩ ⟨by omega, by omega⟩ hT hTw hTe ⟨by omega, by omega⟩) (cwV 1 hts (good_V wk_275 wk_276 wk_277 wk_29 wk_278) rfl rfl rfl (by decide +kernel) ⟨Nat.le_of_ble_eq_true rfl, Nat.le_of_ble_eq_true rfl⟩) (cPre_V hK hw b2 ⟨by omega, by omega⟩ hT rfl) rfl rfl hl.1 rfl (lv_room (Nat.le_of_ble_eq_true rfl)) d_S_copyWithGap_28 ⟨Nat.le_of_ble_eq_true rfl, Nat.le_of_ble_eq_true rfl⟩) hw hA (fun r9 C14 H locs hq13 hw => ?_)
          obtain ⟨hr9, hCe⟩ := hq13
          rw [hCe] at hw; subst hr9
          refine zr_callV (va_runV (As := [.int (zI (wAt w n x))]) (rest := []) ⟨hx, hb, hml, hown, hts⟩ (c_S_add l D k N AD C H.size b n1 ww e0 (wAt w n x) ⟨by omega, by omega⟩ ⟨by omega, by omega⟩ hS hSw hSe (by omega)) (cwV 1 hts (good_V wk_454 wk_261 wk_262 wk_29 wk_263) rfl rfl rfl (by decide +kernel) ⟨Nat.le_of_ble_eq_true rfl, Nat.le_of_ble_eq_true rfl⟩) (cPre_V hK hw b ⟨by omega, by omega⟩ hS rfl) rfl rfl hl.1 rfl (lv_room (Nat.le_of_ble_eq_true rfl)) d_S_copyWithGap_31 ⟨Nat.le_of_ble_eq_true rfl, Nat.le_of_ble_eq_true rfl⟩) hw hA (fun C15 H locs hq16 hw => ?_)
          obtain ⟨hq16a, hq16b, hq16c, frC15⟩ := hq16
          have hS : C15 b = .inr (2, [.ref (AD (b + 1)), .ref (AD (b + 2)), .int (zI (n1 + 1))]) := hq16a
          have hSw : C15 (b + 1) = aI (k 0) 24 (zup ww n1 (wAt w n x)) := hq16b
          have hSe : C15 (b + 2) = aI (k 0) 24 e0 := hq16c.trans hSe
          have hT : C15 b2 = .inr (2, [.ref (AD (b2 + 1)), .ref (AD (b2 + 2)), .int (zI n)]) := (frC15 _ (by omega)).trans hT
          have hTw : C15 (b2 + 1) = aI (k 0) 24 w := (frC15 _ (by omega)).trans hTw
          have hTe : C15 (b2 + 2) = aI (k 0) 24 e9 := (frC15 _ (by omega)).trans hTe
          have hv3 : wAt w n x = gapW w g n1 := by
            rw [wAt_in (by omega)]
            rcases hn1 with hq | hq
            · rw [gapW_lt (by omega), hq.2]
            · rw [gapW_gt (by omega)]; congr 1; omega
          refine lv_iinc (v := zI (x + 1)) (lv' := [(3, .int (zI (x + 1))), (0, .ref (AD b)), (1, .ref (AD b2)), (2, .int (zI g))]) hx hb d_S_copyWithGap_34 hl (k := 3) rfl (zI_add _ _) (by decide) rfl (fun ls hl => ?_)
          refine lv_goto (tgt := 7) hx hb d_S_copyWithGap_37 (by decide) ?_
          exact ihlp (x + 1) (n1 + 1) (zup ww n1 (wAt w n x)) C15 H locs ls (by omega) (by omega) (zup_ok hw1 hv3) (fun j hj => by rw [frC15 j (by omega)]; exact hfr j hj) hS hSw hSe hT hTw hTe (by omega) hw (lv_sub hl [1, 2, 3, 0] rfl)
        · refine lv_aload_n hx hb d_S_copyWithGap_20 rfl (lv_at hl 0 rfl) ?_
          refine zr_iconst hx hb d_S_copyWithGap_21 ?_
          refine zr_callV (va_runV (As := [.int (zI (-1))]) (rest := []) ⟨hx, hb, hml, hown, hts⟩ (c_S_add l D k N AD C H.size b n1 ww e0 (-1) ⟨by omega, by omega⟩ ⟨by omega, by omega⟩ hS hSw hSe (by omega)) (cwV 1 hts (good_V wk_454 wk_261 wk_262 wk_29 wk_263) rfl rfl rfl (by decide +kernel) ⟨Nat.le_of_ble_eq_true rfl, Nat.le_of_ble_eq_true rfl⟩) (cPre_V hK hw b ⟨by omega, by omega⟩ hS rfl) rfl rfl hl.1 rfl (lv_room (Nat.le_of_ble_eq_true rfl)) d_S_copyWithGap_22 ⟨Nat.le_of_ble_eq_true rfl, Nat.le_of_ble_eq_true rfl⟩) hw hA (fun C17 H locs hq18 hw => ?_)
          obtain ⟨hq18a, hq18b, hq18c, frC17⟩ := hq18
          have hS : C17 b = .inr (2, [.ref (AD (b + 1)), .ref (AD (b + 2)), .int (zI (n1 + 1))]) := hq18a
          have hSw : C17 (b + 1) = aI (k 0) 24 (zup ww n1 (-1)) := hq18b
          have hSe : C17 (b + 2) = aI (k 0) 24 e0 := hq18c.trans hSe
          have hT : C17 b2 = .inr (2, [.ref (AD (b2 + 1)), .ref (AD (b2 + 2)), .int (zI n)]) := (frC17 _ (by omega)).trans hT
          have hTw : C17 (b2 + 1) = aI (k 0) 24 w := (frC17 _ (by omega)).trans hTw
          have hTe : C17 (b2 + 2) = aI (k 0) 24 e9 := (frC17 _ (by omega)).trans hTe
          refine lv_aload_n hx hb d_S_copyWithGap_25 rfl (lv_at hl 0 rfl) ?_
          refine lv_aload_n hx hb d_S_copyWithGap_26 rfl (lv_at hl 1 rfl) ?_
          refine lv_iload_n hx hb d_S_copyWithGap_27 rfl (lv_at hl 3 rfl) ?_
          refine zr_callI (va_runV (As := [.int (zI x)]) (rest := [.ref (AD b)]) ⟨hx, hb, hml, hown, hts⟩ (c_S_widthAt l D k N AD C17 H.size b2 n w e9 x ⟨by omega, by omega⟩ ⟨by omega, by omega⟩ hT hTw hTe ⟨by omega, by omega⟩) (cwV 1 hts (good_V wk_275 wk_276 wk_277 wk_29 wk_278) rfl rfl rfl (by decide +kernel) ⟨Nat.le_of_ble_eq_true rfl, Nat.le_of_ble_eq_true rfl⟩) (cPre_V hK hw b2 ⟨by omega, by omega⟩ hT rfl) rfl rfl hl.1 rfl (lv_room (Nat.le_of_ble_eq_true rfl)) d_S_copyWithGap_28 ⟨Nat.le_of_ble_eq_true rfl, Nat.le_of_ble_eq_true rfl⟩) hw hA (fun r9 C20 H locs hq19 hw => ?_)
          obtain ⟨hr9, hCe⟩ := hq19
          rw [hCe] at hw; subst hr9
          refine zr_callV (va_runV (As := [.int (zI (wAt w n x))]) (rest := []) ⟨hx, hb, hml, hown, hts⟩ (c_S_add l D k N AD C17 H.size b (n1 + 1) (zup ww n1 (-1)) e0 (wAt w n x) ⟨by omega, by omega⟩ ⟨by omega, by omega⟩ hS hSw hSe (by omega)) (cwV 1 hts (good_V wk_454 wk_261 wk_262 wk_29 wk_263) rfl rfl rfl (by decide +kernel) ⟨Nat.le_of_ble_eq_true rfl, Nat.le_of_ble_eq_true rfl⟩) (cPre_V hK hw b ⟨by omega, by omega⟩ hS rfl) rfl rfl hl.1 rfl (lv_room (Nat.le_of_ble_eq_true rfl)) d_S_copyWithGap_31 ⟨Nat.le_of_ble_eq_true rfl, Nat.le_of_ble_eq_true rfl⟩) hw hA (fun C21 H locs hq22 hw => ?_)
          obtain ⟨hq22a, hq22b, hq22c, frC21⟩ := hq22
          have hS : C21 b = .inr (2, [.ref (AD (b + 1)), .ref (AD (b + 2)), .int (zI ((n1 + 1) + 1))]) := hq22a
          have hSw : C21 (b + 1) = aI (k 0) 24 (zup (zup ww n1 (-1)) (n1 + 1) (wAt w n x)) := hq22b
          have hSe : C21 (b + 2) = aI (k 0) 24 e0 := hq22c.trans hSe
          have hT : C21 b2 = .inr (2, [.ref (AD (b2 + 1)), .ref (AD (b2 + 2)), .int (zI n)]) := (frC21 _ (by omega)).trans hT
          have hTw : C21 (b2 + 1) = aI (k 0) 24 w := (frC21 _ (by omega)).trans hTw
          have hTe : C21 (b2 + 2) = aI (k 0) 24 e9 := (frC21 _ (by omega)).trans hTe
          refine lv_iinc (v := zI (x + 1)) (lv' := [(3, .int (zI (x + 1))), (0, .ref (AD b)), (1, .ref (AD b2)), (2, .int (zI g))]) hx hb d_S_copyWithGap_34 hl (k := 3) rfl (zI_add _ _) (by decide) rfl (fun ls hl => ?_)
          refine lv_goto (tgt := 7) hx hb d_S_copyWithGap_37 (by decide) ?_
          exact ihlp (x + 1) ((n1 + 1) + 1) (zup (zup ww n1 (-1)) (n1 + 1) (wAt w n x)) C21 H locs ls (by omega) (by omega) (zup_ok (zup_ok hw1 (by rw [gapW_eq (by omega)])) (by rw [wAt_in (by omega), gapW_gt (by omega)]; congr 1; omega)) (fun j hj => by rw [frC21 j (by omega), frC17 j (by omega)]; exact hfr j hj) hS hSw hSe hT hTw hTe (by omega) hw (lv_sub hl [1, 2, 3, 0] rfl)
  exact lp ((n + 1 - 0).toNat + 1) 0 0 w0 C1 H locs ls (by omega) (by omega) (fun j h1 h2 => absurd h2 (by omega)) (fun j hj => by rw [frC1 j (by omega), hC0]) hS hSw hSe hT hTw hTe (by omega) hw (lv_sub hl [1, 2, 3, 0] rfl)
/-- how many signs a width takes -/
def dg (x : Int) : Int := if x < 10 then 1 else if x < 100 then 2 else 3
theorem dg_in (x : Int) : 1 ≤ dg x ∧ dg x ≤ 3 := by
  unfold dg
  split
  · exact ⟨by omega, by omega⟩
  · split <;> exact ⟨by omega, by omega⟩
def p10 (i : Int) : Int := if i = 0 then 1 else if i = 1 then 10 else 100
theorem p10_step (x : Int) {i : Int} (h : 0 ≤ i ∧ i < 2) : x / p10 i / 10 = x / p10 (i + 1) := by
  have hi : i = 0 ∨ i = 1 := by omega
  rcases hi with rfl | rfl
  · show x / 1 / 10 = x / 10
    omega
  · show x / 10 / 10 = x / 100
    omega
theorem p10_in {x b : Int} (h : 0 ≤ x) (hb : 0 ≤ b ∧ b ≤ 2) : 0 ≤ x / p10 b ∧ x / p10 b ≤ x := by
  rcases (show b = 0 ∨ b = 1 ∨ b = 2 by omega) with rfl | rfl | rfl
  · show 0 ≤ x / 1 ∧ x / 1 ≤ x
    omega
  · show 0 ≤ x / 10 ∧ x / 10 ≤ x
    omega
  · show 0 ≤ x / 100 ∧ x / 100 ≤ x
    omega
/-- the sign of a width that has so many behind it -/
def sgn (x b : Int) : Int := if x = -1 then 45 else 48 + x / p10 b % 10
def posR (w : Int → Int) (k : Int) : Int := sumR (fun j => dg (w j) + 1) 0 k.toNat
theorem posR_0 (w : Int → Int) : posR w 0 = 0 := rfl
theorem posR_step (w : Int → Int) {k : Int} (h : 0 ≤ k) : posR w (k + 1) = posR w k + (dg (w k) + 1) := by
  have := sumR_step (fun j => dg (w j) + 1) (lo := 0) (x := k) h
  simp only [Int.sub_zero] at this
  exact this
/-- sign i of a row's text: ring k has it -/
def tsg (w : Int → Int) (k i : Int) : Int := if i - posR w k = dg (w k) then 32 else sgn (w k) (dg (w k) - 1 - (i - posR w k))
abbrev rm_S_signsFor : Room := { frames := 0, cells := 0, slots := 0, locals := 0 }
set_option maxHeartbeats 4000000 in
set_option maxRecDepth 100000 in
theorem c_S_signsFor (l : Launch) (D : va_G) (k : Nat → ClassId) (N : Nat) (AD : Int → Nat) (C : Int → va_E) (sz : Nat) (x : Int) (hi : inI x) : MI l y_S_signsFor (Cond.code y_S_signsFor b_S_signsFor 1 (Option.some Jvm.ClassFile.FieldType.int) :: WS) rm_S_signsFor D clW (tyW k) N AD C sz [.int (zI x)] (fun r C' => r = zI (dg x) ∧ C' = C) := by
  refine MI.start (cc := b_S_signsFor) (maxL := 1) (rt := .int) (by decide) rfl (Nat.le_of_ble_eq_true rfl) ?_
  intro p e s m args below meth c Q ls hx hb hml hown hts hK hsz hw hl hret
  have hown : s.vm.findClass "RingMatches$Series" = some m.cls := hown
  have hl : lv_has ls 1 [(0, .int (zI x))] := hl
  have hA := wA_hi (N := N) (AD := AD) hsz
  obtain ⟨H, hH⟩ : ∃ H, H = s.heap := ⟨_, rfl⟩
  obtain ⟨locs, hlocs⟩ : ∃ z : List Loc, z = [] := ⟨_, rfl⟩
  have hw : WD D clW (wA N AD sz) s.heap H locs N AD C := by rw [hH, hlocs]; exact hw
  rw [← hlocs]
  suffices hgo : W p l e rm_S_signsFor s m args below meth c H locs 0 0 Q (F0 m 0 ls []) by rw [hH] at hgo; exact hgo
  refine lv_iload_n hx hb d_S_signsFor_0 rfl (lv_at hl 0 rfl) ?_
  refine zr_bipush hx hb d_S_signsFor_1 (by decide) ?_
  refine zr_icmp_ge (tgt := 8) hx hb ⟨by omega, by omega⟩ ⟨by omega, by omega⟩ d_S_signsFor_3 (by decide) (fun c1 => ?_) (fun c1 => ?_)
  · refine lv_iload_n hx hb d_S_signsFor_8 rfl (lv_at hl 0 rfl) ?_
    refine zr_bipush hx hb d_S_signsFor_9 (by decide) ?_
    refine zr_icmp_ge (tgt := 18) hx hb ⟨by omega, by omega⟩ ⟨by omega, by omega⟩ d_S_signsFor_11 (by decide) (fun c2 => ?_) (fun c2 => ?_)
    · refine zr_iconst hx hb d_S_signsFor_18 ?_
      exact hret _ _ _ _ _ _ d_S_signsFor_19 hw rfl ⟨by unfold dg; rw [if_neg (by omega), if_neg (by omega)], rfl⟩
    · refine zr_iconst hx hb d_S_signsFor_14 ?_
      refine lv_goto (tgt := 19) hx hb d_S_signsFor_15 (by decide) ?_
      exact hret _ _ _ _ _ _ d_S_signsFor_19 hw rfl ⟨by unfold dg; rw [if_neg (by omega), if_pos (by omega)], rfl⟩
  · refine zr_iconst hx hb d_S_signsFor_6 ?_
    exact hret _ _ _ _ _ _ d_S_signsFor_7 hw rfl ⟨by unfold dg; rw [if_pos (by omega)], rfl⟩
abbrev rm_S_signFor : Room := { frames := 0, cells := 0, slots := 0, locals := 0 }
set_option maxHeartbeats 4000000 in
set_option maxRecDepth 100000 in
theorem c_S_signFor (l : Launch) (D : va_G) (k : Nat → ClassId) (N : Nat) (AD : Int → Nat) (C : Int → va_E) (sz : Nat) (x : Int) (q : Int) (hx0 : x = -1 ∨ (1 ≤ x ∧ x ≤ 500)) (hq : 0 ≤ q ∧ q ≤ 2) : MI l y_S_signFor (Cond.code y_S_signFor b_S_signFor 4 (Option.some Jvm.ClassFile.FieldType.int) :: WS) rm_S_signFor D clW (tyW k) N AD C sz [.int (zI x), .int (zI q)] (fun r C' => r = zI (sgn x q) ∧ C' = C) := by
  refine MI.start (cc := b_S_signFor) (maxL := 4) (rt := .int) (by decide) rfl (Nat.le_of_ble_eq_true rfl) ?_
  intro p e s m args below meth c Q ls hx hb hml hown hts hK hsz hw hl hret
  have hown : s.vm.findClass "RingMatches$Series" = some m.cls := hown
  have hl : lv_has ls 4 [(0, .int (zI x)), (1, .int (zI q))] := hl
  have hA := wA_hi (N := N) (AD := AD) hsz
  obtain ⟨H, hH⟩ : ∃ H, H = s.heap := ⟨_, rfl⟩
  obtain ⟨locs, hlocs⟩ : ∃ z : List Loc, z = [] := ⟨_, rfl⟩
  have hw : WD D clW (wA N AD sz) s.heap H locs N AD C := by rw [hH, hlocs]; exact hw
  rw [← hlocs]
  suffices hgo : W p l e rm_S_signFor s m args below meth c H locs 0 0 Q (F0 m 0 ls []) by rw [hH] at hgo; exact hgo
  refine lv_iload_n hx hb d_S_signFor_0 rfl (lv_at hl 0 rfl) ?_
  refine zr_iconst hx hb d_S_signFor_1 ?_
  refine zr_icmp_ne (tgt := 8) hx hb ⟨by omega, by omega⟩ ⟨by omega, by omega⟩ d_S_signFor_2 (by decide) (fun c1 => ?_) (fun c1 => ?_)
  · have hne := c1
    refine lv_iload_n hx hb d_S_signFor_8 rfl (lv_at hl 0 rfl) ?_
    refine lv_istore_n (lv' := [(2, .int (zI x)), (0, .int (zI x)), (1, .int (zI q))]) hx hb d_S_signFor_9 rfl hl (by decide) rfl (fun ls hl => ?_)
    have e0 : x = x / p10 0 := by show x = x / 1; omega
    have hl : lv_has ls 4 [(2, .int (zI (x / p10 0))), (0, .int (zI x)), (1, .int (zI q))] := by rw [← e0]; exact hl
    refine zr_iconst hx hb d_S_signFor_10 ?_
    refine lv_istore_n (lv' := [(3, .int (zI 0)), (2, .int (zI (x / p10 0))), (0, .int (zI x)), (1, .int (zI q))]) hx hb d_S_signFor_11 rfl hl (by decide) rfl (fun ls hl => ?_)
    have lp : ∀ (n9 : Nat) (i : Int) (H : Heap) (locs : List Loc) (ls : Array Slot), (0 ≤ i ∧ i ≤ q) → (q + 1 - i).toNat < n9 → WD D clW (wA N AD sz) s.heap H locs N AD C → lv_has ls 4 [(0, .int (zI x)), (1, .int (zI q)), (2, .int (zI (x / p10 i))), (3, .int (zI i))] → W p l e rm_S_signFor s m args below meth c H locs 0 0 Q (F0 m 12 ls []) := by
      intro n9
      induction n9 with
      | zero => intro i H locs ls hi1  hm hw hl; exact absurd hm (by omega)
      | succ n9 ihlp =>
        intro i H locs ls hi1  hm hw hl
        refine lv_iload_n hx hb d_S_signFor_12 rfl (lv_at hl 3 rfl) ?_
        refine lv_iload_n hx hb d_S_signFor_13 rfl (lv_at hl 1 rfl) ?_
        refine zr_icmp_ge (tgt := 28) hx hb ⟨by omega, by omega⟩ ⟨by omega, by omega⟩ d_S_signFor_14 (by decide) (fun c2 => ?_) (fun c2 => ?_)
        · have hiq : i = q := by omega
          have hp := p10_in (x := x) (b := q) (by omega) (by omega)
          rw [hiq] at hl
          refine zr_bipush hx hb d_S_signFor_28 (by decide) ?_
          refine lv_iload_n hx hb d_S_signFor_30 rfl (lv_at hl 2 rfl) ?_
          refine zr_bipush hx hb d_S_signFor_31 (by decide) ?_
          refine zr_irem hx hb d_S_signFor_33 ⟨by omega, by omega⟩ ⟨by omega, by omega⟩ (by omega) (by omega) ?_
          refine zr_iadd hx hb d_S_signFor_34 ?_
          exact hret _ _ _ _ _ _ d_S_signFor_35 hw rfl ⟨by unfold sgn; rw [if_neg hne], rfl⟩
        · have hp := p10_in (x := x) (b := i) (by omega) (by omega)
          refine lv_iload_n hx hb d_S_signFor_17 rfl (lv_at hl 2 rfl) ?_
          refine zr_bipush hx hb d_S_signFor_18 (by decide) ?_
          refine zr_idiv hx hb d_S_signFor_20 ⟨by omega, by omega⟩ ⟨by omega, by omega⟩ (by omega) (by omega) ?_
          refine lv_istore_n (lv' := [(2, .int (zI ((x / p10 i) / 10))), (0, .int (zI x)), (1, .int (zI q)), (3, .int (zI i))]) hx hb d_S_signFor_21 rfl hl (by decide) rfl (fun ls hl => ?_)
          have e1 := p10_step x (i := i) (by omega)
          have hl : lv_has ls 4 [(2, .int (zI (x / p10 (i + 1)))), (0, .int (zI x)), (1, .int (zI q)), (3, .int (zI i))] := by rw [← e1]; exact hl
          refine lv_iinc (v := zI (i + 1)) (lv' := [(3, .int (zI (i + 1))), (2, .int (zI (x / p10 (i + 1)))), (0, .int (zI x)), (1, .int (zI q))]) hx hb d_S_signFor_22 hl (k := 3) rfl (zI_add _ _) (by decide) rfl (fun ls hl => ?_)
          refine lv_goto (tgt := 12) hx hb d_S_signFor_25 (by decide) ?_
          exact ihlp (i + 1) H locs ls (by omega)  (by omega) hw (lv_sub hl [2, 3, 1, 0] rfl)
    exact lp ((q + 1 - 0).toNat + 1) 0 H locs ls (by omega)  (by omega) hw (lv_sub hl [2, 3, 1, 0] rfl)
  · refine zr_bipush hx hb d_S_signFor_5 (by decide) ?_
    exact hret _ _ _ _ _ _ d_S_signFor_7 hw rfl ⟨by unfold sgn; rw [if_pos c1], rfl⟩
abbrev rm_S_textLength : Room := { frames := 1, cells := 0, slots := 0, locals := 20 }
set_option maxHeartbeats 4000000 in
set_option maxRecDepth 100000 in
theorem c_S_textLength (l : Launch) (D : va_G) (k : Nat → ClassId) (N : Nat) (AD : Int → Nat) (C : Int → va_E) (sz : Nat) (b : Int) (n : Int) (w : Int → Int) (e9 : Int → Int) (hb0 : 0 ≤ b ∧ b + 2 < (N : Int)) (hn : 0 ≤ n ∧ n ≤ 24) (hS : C b = .inr (2, [.ref (AD (b + 1)), .ref (AD (b + 2)), .int (zI n)])) (hSw : C (b + 1) = aI (k 0) 24 w) (hSe : C (b + 2) = aI (k 0) 24 e9) (hok : WOK w n) : MI l y_S_textLength (Cond.code y_S_textLength b_S_textLength 3 (Option.some Jvm.ClassFile.FieldType.int) :: WS) rm_S_textLength D clW (tyW k) N AD C sz [.ref (AD b)] (fun r C' => r = zI (posR w n - 1) ∧ C' = C) := by
  refine MI.start (cc := b_S_textLength) (maxL := 3) (rt := .int) (by decide) rfl (Nat.le_of_ble_eq_true rfl) ?_
  intro p e s m args below meth c Q ls hx hb hml hown hts hK hsz hw hl hret
  have hown : s.vm.findClass "RingMatches$Series" = some m.cls := hown
  have hl : lv_has ls 3 [(0, .ref (AD b))] := hl
  have hA := wA_hi (N := N) (AD := AD) hsz
  obtain ⟨H, hH⟩ : ∃ H, H = s.heap := ⟨_, rfl⟩
  obtain ⟨locs, hlocs⟩ : ∃ z : List Loc, z = [] := ⟨_, rfl⟩
  have hw : WD D clW (wA N AD sz) s.heap H locs N AD C := by rw [hH, hlocs]; exact hw
  rw [← hlocs]
  suffices hgo : W p l e rm_S_textLength s m args below meth c H locs 0 0 Q (F0 m 0 ls []) by rw [hH] at hgo; exact hgo
  refine lv_aload_n hx hb d_S_textLength_0 rfl (lv_at hl 0 rfl) ?_
  refine zr_get (v := .int (zI n)) hx hb hts iw_S hown hK hw b ⟨by omega, by omega⟩ hS rfl 2 (by decide) (hts _ wk_71) (fun _ h => h) rfl d_S_textLength_1 ?_
  refine zr_iconst hx hb d_S_textLength_4 ?_
  refine zr_isub hx hb d_S_textLength_5 ?_
  refine lv_istore_n (lv' := [(1, .int (zI (n - 1))), (0, .ref (AD b))]) hx hb d_S_textLength_6 rfl hl (by decide) rfl (fun ls hl => ?_)
  refine zr_iconst hx hb d_S_textLength_7 ?_
  refine lv_istore_n (lv' := [(2, .int (zI 0)), (1, .int (zI (n - 1))), (0, .ref (AD b))]) hx hb d_S_textLength_8 rfl hl (by decide) rfl (fun ls hl => ?_)
  have lp : ∀ (n9 : Nat) (x : Int) (len : Int) (H : Heap) (locs : List Loc) (ls : Array Slot), (0 ≤ x ∧ x ≤ n) → (len = n - 1 - x + posR w x) → (x ≤ posR w x ∧ posR w x ≤ 4 * x) → (n + 1 - x).toNat < n9 → WD D clW (wA N AD sz) s.heap H locs N AD C → lv_has ls 3 [(0, .ref (AD b)), (1, .int (zI len)), (2, .int (zI x))] → W p l e rm_S_textLength s m args below meth c H locs 0 0 Q (F0 m 9 ls []) := by
    intro n9
    induction n9 with
    | zero => intro x len H locs ls hx1 hl1 hp1  hm hw hl; exact absurd hm (by omega)
    | succ n9 ihlp =>
      intro x len H locs ls hx1 hl1 hp1  hm hw hl
      refine lv_iload_n hx hb d_S_textLength_9 rfl (lv_at hl 2 rfl) ?_
      refine lv_aload_n hx hb d_S_textLength_10 rfl (lv_at hl 0 rfl) ?_
      refine zr_get (v := .int (zI n)) hx hb hts iw_S hown hK hw b ⟨by omega, by omega⟩ hS rfl 2 (by decide) (hts _ wk_71) (fun _ h => h) rfl d_S_textLength_11 ?_
      refine zr_icmp_ge (tgt := 35) hx hb ⟨by omega, by omega⟩ ⟨by omega, by omega⟩ d_S_textLength_14 (by decide) (fun c1 => ?_) (fun c1 => ?_)
      · refine lv_iload_n hx hb d_S_textLength_35 rfl (lv_at hl 1 rfl) ?_
        exact hret _ _ _ _ _ _ d_S_textLength_36 hw rfl ⟨by rw [hl1, show x = n by omega]; congr 1; omega, rfl⟩
      · refine lv_iload_n hx hb d_S_textLength_17 rfl (lv_at hl 1 rfl) ?_
        refine lv_aload_n hx hb d_S_textLength_18 rfl (lv_at hl 0 rfl) ?_
        refine zr_get (v := .ref (AD (b + 1))) hx hb hts iw_S hown hK hw b ⟨by omega, by omega⟩ hS rfl 0 (by decide) (hts _ wk_69) (fun _ h => h) rfl d_S_textLength_19 ?_
        refine lv_iload_n hx hb d_S_textLength_22 rfl (lv_at hl 2 rfl) ?_
        refine zr_iald hx hb hK hw (b + 1) ⟨by omega, by omega⟩ 0 hSw rfl ⟨by omega, by omega⟩ (by decide) d_S_textLength_23 ?_
        have hwx := hok x (by omega) (by omega)
        have hdg := dg_in (w x)
        refine zr_callI (va_runS (As := [.int (zI (w x))]) (rest := [.int (zI len)]) ⟨hx, hb, hml, hown, hts⟩ (c_S_signsFor l D k N AD C H.size (w x) ⟨by omega, by omega⟩) (va_cwS 1 hts (good_S wk_332 wk_333 wk_29 wk_334) rfl rfl rfl (by decide +kernel) ⟨Nat.le_of_ble_eq_true rfl, Nat.le_of_ble_eq_true rfl⟩) (cPre_S hK hw) rfl rfl hl.1 rfl (lv_room (Nat.le_of_ble_eq_true rfl)) d_S_textLength_24 ⟨Nat.le_of_ble_eq_true rfl, Nat.le_of_ble_eq_true rfl⟩) hw hA (fun r9 C3 H locs hq2 hw => ?_)
        obtain ⟨hr9, hCe⟩ := hq2
        rw [hCe] at hw; subst hr9
        refine zr_iadd hx hb d_S_textLength_27 ?_
        refine lv_istore_n (lv' := [(1, .int (zI (len + (dg (w x))))), (0, .ref (AD b)), (2, .int (zI x))]) hx hb d_S_textLength_28 rfl hl (by decide) rfl (fun ls hl => ?_)
        refine lv_iinc (v := zI (x + 1)) (lv' := [(2, .int (zI (x + 1))), (1, .int (zI (len + (dg (w x))))), (0, .ref (AD b))]) hx hb d_S_textLength_29 hl (k := 2) rfl (zI_add _ _) (by decide) rfl (fun ls hl => ?_)
        refine lv_goto (tgt := 9) hx hb d_S_textLength_32 (by decide) ?_
        exact ihlp (x + 1) (len + (dg (w x))) H locs ls (by omega) (by rw [posR_step w (by omega)]; omega) (by rw [posR_step w (by omega)]; omega)  (by omega) hw (lv_sub hl [2, 1, 0] rfl)
  exact lp ((n + 1 - 0).toNat + 1) 0 (n - 1) H locs ls (by omega) (by rw [posR_0]; omega) (by rw [posR_0]; omega)  (by omega) hw (lv_sub hl [2, 1, 0] rfl)
abbrev rm_S_textSign : Room := { frames := 1, cells := 0, slots := 0, locals := 23 }
set_option maxHeartbeats 4000000 in
set_option maxRecDepth 100000 in
theorem c_S_textSign (l : Launch) (D : va_G) (k : Nat → ClassId) (N : Nat) (AD : Int → Nat) (C : Int → va_E) (sz : Nat) (b : Int) (n : Int) (w : Int → Int) (e9 : Int → Int) (i : Int) (hb0 : 0 ≤ b ∧ b + 2 < (N : Int)) (hn : 0 ≤ n ∧ n ≤ 24) (hS : C b = .inr (2, [.ref (AD (b + 1)), .ref (AD (b + 2)), .int (zI n)])) (hSw : C (b + 1) = aI (k 0) 24 w) (hSe : C (b + 2) = aI (k 0) 24 e9) (hok : WOK w n) (hi : 0 ≤ i ∧ i < posR w n - 1) (hi2 : i < 1000) : MI l y_S_textSign (Cond.code y_S_textSign b_S_textSign 5 (Option.some Jvm.ClassFile.FieldType.int) :: WS) rm_S_textSign D clW (tyW k) N AD C sz [.ref (AD b), .int (zI i)] (fun r C' => ∃ x : Int, 0 ≤ x ∧ x < n ∧ (posR w x ≤ i ∧ i < posR w (x + 1)) ∧ r = zI (tsg w x i) ∧ C' = C) := by
  refine MI.start (cc := b_S_textSign) (maxL := 5) (rt := .int) (by decide) rfl (Nat.le_of_ble_eq_true rfl) ?_
  intro p e s m args below meth c Q ls hx hb hml hown hts hK hsz hw hl hret
  have hown : s.vm.findClass "RingMatches$Series" = some m.cls := hown
  have hl : lv_has ls 5 [(0, .ref (AD b)), (1, .int (zI i))] := hl
  have hA := wA_hi (N := N) (AD := AD) hsz
  obtain ⟨H, hH⟩ : ∃ H, H = s.heap := ⟨_, rfl⟩
  obtain ⟨locs, hlocs⟩ : ∃ z : List Loc, z = [] := ⟨_, rfl⟩
  have hw : WD D clW (wA N AD sz) s.heap H locs N AD C := by rw [hH, hlocs]; exact hw
  rw [← hlocs]
  suffices hgo : W p l e rm_S_textSign s m args below meth c H locs 0 0 Q (F0 m 0 ls []) by rw [hH] at hgo; exact hgo
  refine lv_iload_n hx hb d_S_textSign_0 rfl (lv_at hl 1 rfl) ?_
  refine lv_istore_n (lv' := [(2, .int (zI i)), (0, .ref (AD b)), (1, .int (zI i))]) hx hb d_S_textSign_1 rfl hl (by decide) rfl (fun ls hl => ?_)
  refine zr_iconst hx hb d_S_textSign_2 ?_
  refine lv_istore_n (lv' := [(3, .int (zI 0)), (2, .int (zI i)), (0, .ref (AD b)), (1, .int (zI i))]) hx hb d_S_textSign_3 rfl hl (by decide) rfl (fun ls hl => ?_)
  have lp : ∀ (n9 : Nat) (x : Int) (lf : Int) (H : Heap) (locs : List Loc) (ls : Array Slot), (0 ≤ x ∧ x ≤ n) → (lf = i - posR w x) → (0 ≤ lf ∧ lf ≤ i) → (n + 1 - x).toNat < n9 → WD D clW (wA N AD sz) s.heap H locs N AD C → lv_has ls 5 [(0, .ref (AD b)), (1, .int (zI i)), (2, .int (zI lf)), (3, .int (zI x))] → W p l e rm_S_textSign s m args below meth c H locs 0 0 Q (F0 m 4 ls []) := by
    intro n9
    induction n9 with
    | zero => intro x lf H locs ls hx1 hl1 hl2  hm hw hl; exact absurd hm (by omega)
    | succ n9 ihlp =>
      intro x lf H locs ls hx1 hl1 hl2  hm hw hl
      refine lv_iload_n hx hb d_S_textSign_4 rfl (lv_at hl 3 rfl) ?_
      refine lv_aload_n hx hb d_S_textSign_5 rfl (lv_at hl 0 rfl) ?_
      refine zr_get (v := .int (zI n)) hx hb hts iw_S hown hK hw b ⟨by omega, by omega⟩ hS rfl 2 (by decide) (hts _ wk_71) (fun _ h => h) rfl d_S_textSign_6 ?_
      refine zr_icmp_ge (tgt := 66) hx hb ⟨by omega, by omega⟩ ⟨by omega, by omega⟩ d_S_textSign_9 (by decide) (fun c1 => ?_) (fun c1 => ?_)
      · have hx9 : x = n := by omega
        rw [hx9] at hl1
        exact absurd hl2.1 (by omega)
      · refine lv_aload_n hx hb d_S_textSign_12 rfl (lv_at hl 0 rfl) ?_
        refine zr_get (v := .ref (AD (b + 1))) hx hb hts iw_S hown hK hw b ⟨by omega, by omega⟩ hS rfl 0 (by decide) (hts _ wk_69) (fun _ h => h) rfl d_S_textSign_13 ?_
        refine lv_iload_n hx hb d_S_textSign_16 rfl (lv_at hl 3 rfl) ?_
        refine zr_iald hx hb hK hw (b + 1) ⟨by omega, by omega⟩ 0 hSw rfl ⟨by omega, by omega⟩ (by decide) d_S_textSign_17 ?_
        have hwx := hok x (by omega) (by omega)
        have hdg := dg_in (w x)
        refine zr_callI (va_runS (As := [.int (zI (w x))]) (rest := []) ⟨hx, hb, hml, hown, hts⟩ (c_S_signsFor l D k N AD C H.size (w x) ⟨by omega, by omega⟩) (va_cwS 1 hts (good_S wk_332 wk_333 wk_29 wk_334) rfl rfl rfl (by decide +kernel) ⟨Nat.le_of_ble_eq_true rfl, Nat.le_of_ble_eq_true rfl⟩) (cPre_S hK hw) rfl rfl hl.1 rfl (lv_room (Nat.le_of_ble_eq_true rfl)) d_S_textSign_18 ⟨Nat.le_of_ble_eq_true rfl, Nat.le_of_ble_eq_true rfl⟩) hw hA (fun r9 C3 H locs hq2 hw => ?_)
        obtain ⟨hr9, hCe⟩ := hq2
        rw [hCe] at hw; subst hr9
        refine lv_istore (lv' := [(4, .int (zI (dg (w x)))), (0, .ref (AD b)), (1, .int (zI i)), (2, .int (zI lf)), (3, .int (zI x))]) hx hb d_S_textSign_21 hl (by decide) rfl (fun ls hl => ?_)
        refine lv_iload_n hx hb d_S_textSign_23 rfl (lv_at hl 3 rfl) ?_
        refine lv_iload hx hb d_S_textSign_24 (lv_at hl 0 rfl) ?_
        refine zr_icmp_ge (tgt := 45) hx hb ⟨by omega, by omega⟩ ⟨by omega, by omega⟩ d_S_textSign_26 (by decide) (fun c4 => ?_) (fun c4 => ?_)
        · refine lv_iload_n hx hb d_S_textSign_45 rfl (lv_at hl 3 rfl) ?_
          refine lv_iload hx hb d_S_textSign_46 (lv_at hl 0 rfl) ?_
          refine zr_isub hx hb d_S_textSign_48 ?_
          refine lv_istore_n (lv' := [(2, .int (zI (lf - (dg (w x))))), (4, .int (zI (dg (w x)))), (0, .ref (AD b)), (1, .int (zI i)), (3, .int (zI x))]) hx hb d_S_textSign_49 rfl hl (by decide) rfl (fun ls hl => ?_)
          refine lv_iload_n hx hb d_S_textSign_50 rfl (lv_at hl 0 rfl) ?_
          refine zr_if_ne (tgt := 57) hx hb ⟨by omega, by omega⟩ d_S_textSign_51 (by decide) (fun c5 => ?_) (fun c5 => ?_)
          · refine lv_iinc (v := zI ((lf - (dg (w x))) + (-1))) (lv' := [(2, .int (zI ((lf - (dg (w x))) + (-1)))), (4, .int (zI (dg (w x)))), (0, .ref (AD b)), (1, .int (zI i)), (3, .int (zI x))]) hx hb d_S_textSign_57 hl (k := 0) rfl (zI_add _ _) (by decide) rfl (fun ls hl => ?_)
            refine lv_iinc (v := zI (x + 1)) (lv' := [(3, .int (zI (x + 1))), (2, .int (zI ((lf - (dg (w x))) + (-1)))), (4, .int (zI (dg (w x)))), (0, .ref (AD b)), (1, .int (zI i))]) hx hb d_S_textSign_60 hl (k := 4) rfl (zI_add _ _) (by decide) rfl (fun ls hl => ?_)
            refine lv_goto (tgt := 4) hx hb d_S_textSign_63 (by decide) ?_
            exact ihlp (x + 1) ((lf - (dg (w x))) + (-1)) H locs ls (by omega) (by rw [posR_step w (by omega)]; omega) (by omega)  (by omega) hw (lv_sub hl [3, 4, 1, 0] rfl)
          · refine zr_bipush hx hb d_S_textSign_54 (by decide) ?_
            exact hret _ _ _ _ _ _ d_S_textSign_56 hw rfl ⟨x, by omega, by omega, by rw [posR_step w (by omega)]; omega, by unfold tsg; rw [if_pos (by omega)], rfl⟩
        · refine lv_aload_n hx hb d_S_textSign_29 rfl (lv_at hl 1 rfl) ?_
          refine zr_get (v := .ref (AD (b + 1))) hx hb hts iw_S hown hK hw b ⟨by omega, by omega⟩ hS rfl 0 (by decide) (hts _ wk_69) (fun _ h => h) rfl d_S_textSign_30 ?_
          refine lv_iload_n hx hb d_S_textSign_33 rfl (lv_at hl 4 rfl) ?_
          refine zr_iald hx hb hK hw (b + 1) ⟨by omega, by omega⟩ 0 hSw rfl ⟨by omega, by omega⟩ (by decide) d_S_textSign_34 ?_
          refine lv_iload hx hb d_S_textSign_35 (lv_at hl 0 rfl) ?_
          refine zr_iconst hx hb d_S_textSign_37 ?_
          refine zr_isub hx hb d_S_textSign_38 ?_
          refine lv_iload_n hx hb d_S_textSign_39 rfl (lv_at hl 3 rfl) ?_
          refine zr_isub hx hb d_S_textSign_40 ?_
          refine zr_callI (va_runS (As := [.int (zI (w x)), .int (zI (((dg (w x)) - 1) - lf))]) (rest := []) ⟨hx, hb, hml, hown, hts⟩ (c_S_signFor l D k N AD C H.size (w x) (((dg (w x)) - 1) - lf) (by omega) (by omega)) (va_cwS 2 hts (good_S wk_340 wk_341 wk_29 wk_342) rfl rfl rfl (by decide +kernel) ⟨Nat.le_of_ble_eq_true rfl, Nat.le_of_ble_eq_true rfl⟩) (cPre_S hK hw) rfl rfl hl.1 rfl (lv_room (Nat.le_of_ble_eq_true rfl)) d_S_textSign_41 ⟨Nat.le_of_ble_eq_true rfl, Nat.le_of_ble_eq_true rfl⟩) hw hA (fun r9 C7 H locs hq6 hw => ?_)
          obtain ⟨hr9, hCe⟩ := hq6
          rw [hCe] at hw; subst hr9
          exact hret _ _ _ _ _ _ d_S_textSign_44 hw rfl ⟨x, by omega, by omega, by rw [posR_step w (by omega)]; omega, by unfold tsg; rw [if_neg (by omega), hl1], rfl⟩
  exact lp ((n + 1 - 0).toNat + 1) 0 i H locs ls (by omega) (by rw [posR_0]; omega) (by omega)  (by omega) hw (lv_sub hl [2, 3, 1, 0] rfl)
end
section
/-! correlation: numbers alone -/
/-- the product test: t is not too great -/
def Pd (c u v t : Int) : Prop := t * t * u * v ≤ 10000 * c * c
def tls (c u v : Int) : Nat → Int → Int
  | 0, t => t
  | m + 1, t => if (t + 1) * (t + 1) * u * v ≤ 10000 * c * c then tls c u v m (t + 1) else t
def corrT (c u v : Int) : Int := tls c u v 100 0
def corrF (c u v : Int) : Int := if u = 0 ∨ v = 0 then 0 else if c < 0 then -corrT c u v else corrT c u v
theorem tls_in (c u v : Int) : ∀ (m : Nat) (t : Int), t ≤ tls c u v m t ∧ tls c u v m t ≤ t + (m : Int) := by
  intro m
  induction m with
  | zero => intro t; show t ≤ t ∧ t ≤ t + ((0 : Nat) : Int); omega
  | succ m ih =>
    intro t
    show t ≤ (if _ then tls c u v m (t + 1) else t) ∧ (if _ then tls c u v m (t + 1) else t) ≤ t + ((m + 1 : Nat) : Int)
    split
    · have := ih (t + 1); omega
    · omega
theorem corrF_in (c u v : Int) : -100 ≤ corrF c u v ∧ corrF c u v ≤ 100 := by
  have h := tls_in c u v 100 0
  unfold corrF corrT
  split
  · omega
  · split <;> omega
theorem Pd_mono {c u v s t : Int} (hu : 0 ≤ u) (hv : 0 ≤ v) (h0 : 0 ≤ s) (h : s ≤ t) (ht : Pd c u v t) : Pd c u v s := by
  unfold Pd at *
  have h1 : s * s ≤ t * t := Int.mul_le_mul h h h0 (by omega)
  have h2 : s * s * u ≤ t * t * u := Int.mul_le_mul_of_nonneg_right h1 hu
  have h3 : s * s * u * v ≤ t * t * u * v := Int.mul_le_mul_of_nonneg_right h2 hv
  omega
theorem tls_is {c u v t : Int} (hu : 0 ≤ u) (hv : 0 ≤ v) (h1 : Pd c u v t) (h2 : ¬ Pd c u v (t + 1)) : ∀ (m : Nat) (s : Int), 0 ≤ s → s ≤ t → t ≤ s + (m : Int) → tls c u v m s = t := by
  intro m
  induction m with
  | zero => intro s h0 h3 h4; show s = t; omega
  | succ m ih =>
    intro s h0 h3 h4
    show (if (s + 1) * (s + 1) * u * v ≤ 10000 * c * c then tls c u v m (s + 1) else s) = t
    by_cases hs : s = t
    · rw [if_neg (by rw [hs]; exact h2), hs]
    · have hp : (s + 1) * (s + 1) * u * v ≤ 10000 * c * c := Pd_mono hu hv (by omega) (show s + 1 ≤ t by omega) h1
      rw [if_pos hp]
      exact ih (s + 1) (by omega) (by omega) (by omega)
theorem Pd_100 {c u v t : Int} (hu : 0 < u) (hv : 0 < v) (hcs : c * c ≤ u * v) (h : Pd c u v t) (h0 : 0 ≤ t) : t ≤ 100 := by
  apply Int.not_lt.mp
  intro ht
  have h1 : Pd c u v 101 := Pd_mono (by omega) (by omega) (by omega) (show (101 : Int) ≤ t by omega) h
  unfold Pd at h1
  have h2 : 0 < u * v := Int.mul_pos hu hv
  have e1 : (101 : Int) * 101 * u * v = 10201 * (u * v) := by rw [Int.mul_assoc, show (101 : Int) * 101 = 10201 from rfl]
  have e2 : 10000 * c * c = 10000 * (c * c) := by rw [Int.mul_assoc]
  rw [e1, e2] at h1
  omega
theorem corrT_is {c u v t : Int} (hu : 0 < u) (hv : 0 < v) (hcs : c * c ≤ u * v) (h0 : 0 ≤ t) (h1 : Pd c u v t) (h2 : ¬ Pd c u v (t + 1) ∨ 128 ≤ t + 1) : corrT c u v = t := by
  have h3 := Pd_100 hu hv hcs h1 h0
  have h4 : ¬ Pd c u v (t + 1) := by rcases h2 with h | h; exact h; omega
  exact tls_is (by omega) (by omega) h1 h4 100 0 (by omega) h0 (by omega)
/-! sums over pairs -/
def prT (x y : Int → Int) (g : Int → Int → Int) (p : Int) : Int := if x p = -1 ∨ y p = -1 then 0 else g (x p) (y p)
theorem prT_t {x y : Int → Int} {g : Int → Int → Int} {p : Int} (h : x p = -1 ∨ y p = -1) : prT x y g p = 0 := if_pos h
theorem prT_f {x y : Int → Int} {g : Int → Int → Int} {p : Int} (h1 : ¬ x p = -1) (h2 : ¬ y p = -1) : prT x y g p = g (x p) (y p) := if_neg (by omega)
/-- sums of squares of differences are not below 0 -/
theorem vr1 (x y : Int → Int) (a b lo t : Int) : ∀ m : Nat, 0 ≤ (a * a * sumR (prT x y (fun p _ => p * p)) lo m + 2 * a * b * sumR (prT x y (fun p q => p * q)) lo m + b * b * sumR (prT x y (fun _ q => q * q)) lo m) - 2 * t * (a * sumR (prT x y (fun p _ => p)) lo m + b * sumR (prT x y (fun _ q => q)) lo m) + sumR (prT x y (fun _ _ => 1)) lo m * (t * t) := by
  intro m
  induction m with
  | zero => show 0 ≤ (a * a * 0 + 2 * a * b * 0 + b * b * 0) - 2 * t * (a * 0 + b * 0) + 0 * (t * t); simp
  | succ m ih =>
    simp only [sumR]
    by_cases h : x (lo + (m : Int)) = -1 ∨ y (lo + (m : Int)) = -1
    · simp only [prT_t h, Int.add_zero]
      exact ih
    · have h1 : ¬ x (lo + (m : Int)) = -1 := fun q => h (Or.inl q)
      have h2 : ¬ y (lo + (m : Int)) = -1 := fun q => h (Or.inr q)
      simp only [prT_f h1 h2]
      generalize x (lo + (m : Int)) = p0 at *
      generalize y (lo + (m : Int)) = q0 at *
      have h3 : 0 ≤ (a * p0 + b * q0 - t) * (a * p0 + b * q0 - t) := by
        rcases Int.le_total 0 (a * p0 + b * q0 - t) with h | h
        · exact Int.mul_nonneg h h
        · exact Int.mul_nonneg_of_nonpos_of_nonpos h h
      generalize sumR (prT x y (fun p _ => p * p)) lo m = s1 at *
      generalize sumR (prT x y (fun p q => p * q)) lo m = s2 at *
      generalize sumR (prT x y (fun _ q => q * q)) lo m = s3 at *
      generalize sumR (prT x y (fun p _ => p)) lo m = s4 at *
      generalize sumR (prT x y (fun _ q => q)) lo m = s5 at *
      generalize sumR (prT x y (fun _ _ => 1)) lo m = s6 at *
      have h4 : (a * a * (s1 + p0 * p0) + 2 * a * b * (s2 + p0 * q0) + b * b * (s3 + q0 * q0)) - 2 * t * (a * (s4 + p0) + b * (s5 + q0)) + (s6 + 1) * (t * t) = ((a * a * s1 + 2 * a * b * s2 + b * b * s3) - 2 * t * (a * s4 + b * s5) + s6 * (t * t)) + (a * p0 + b * q0 - t) * (a * p0 + b * q0 - t) := by grind
      rw [h4]
      omega
theorem vr2 (x y : Int → Int) (a b lo : Int) : ∀ m : Nat, 0 ≤ sumR (prT x y (fun _ _ => 1)) lo m * (a * a * sumR (prT x y (fun p _ => p * p)) lo m + 2 * a * b * sumR (prT x y (fun p q => p * q)) lo m + b * b * sumR (prT x y (fun _ q => q * q)) lo m) - (a * sumR (prT x y (fun p _ => p)) lo m + b * sumR (prT x y (fun _ q => q)) lo m) * (a * sumR (prT x y (fun p _ => p)) lo m + b * sumR (prT x y (fun _ q => q)) lo m) := by
  intro m
  induction m with
  | zero => show 0 ≤ 0 * (a * a * 0 + 2 * a * b * 0 + b * b * 0) - (a * 0 + b * 0) * (a * 0 + b * 0); simp
  | succ m ih =>
    simp only [sumR]
    by_cases h : x (lo + (m : Int)) = -1 ∨ y (lo + (m : Int)) = -1
    · simp only [prT_t h, Int.add_zero]
      exact ih
    · have h1 : ¬ x (lo + (m : Int)) = -1 := fun q => h (Or.inl q)
      have h2 : ¬ y (lo + (m : Int)) = -1 := fun q => h (Or.inr q)
      have h5 := vr1 x y a b lo (a * x (lo + (m : Int)) + b * y (lo + (m : Int))) m
      simp only [prT_f h1 h2]
      generalize x (lo + (m : Int)) = p0 at *
      generalize y (lo + (m : Int)) = q0 at *
      generalize sumR (prT x y (fun p _ => p * p)) lo m = s1 at *
      generalize sumR (prT x y (fun p q => p * q)) lo m = s2 at *
      generalize sumR (prT x y (fun _ q => q * q)) lo m = s3 at *
      generalize sumR (prT x y (fun p _ => p)) lo m = s4 at *
      generalize sumR (prT x y (fun _ q => q)) lo m = s5 at *
      generalize sumR (prT x y (fun _ _ => 1)) lo m = s6 at *
      have h4 : (s6 + 1) * (a * a * (s1 + p0 * p0) + 2 * a * b * (s2 + p0 * q0) + b * b * (s3 + q0 * q0)) - (a * (s4 + p0) + b * (s5 + q0)) * (a * (s4 + p0) + b * (s5 + q0)) = (s6 * (a * a * s1 + 2 * a * b * s2 + b * b * s3) - (a * s4 + b * s5) * (a * s4 + b * s5)) + ((a * a * s1 + 2 * a * b * s2 + b * b * s3) - 2 * (a * p0 + b * q0) * (a * s4 + b * s5) + s6 * ((a * p0 + b * q0) * (a * p0 + b * q0))) := by grind
      rw [h4]
      omega
/-- Cauchy and Schwarz, and that u, v are not below 0 -/
theorem cs_all (x y : Int → Int) (lo : Int) (m : Nat) {n sx sy sxx syy sxy : Int} (hn : n = sumR (prT x y (fun _ _ => 1)) lo m) (hx : sx = sumR (prT x y (fun p _ => p)) lo m) (hy : sy = sumR (prT x y (fun _ q => q)) lo m) (hxx : sxx = sumR (prT x y (fun p _ => p * p)) lo m) (hyy : syy = sumR (prT x y (fun _ q => q * q)) lo m) (hxy : sxy = sumR (prT x y (fun p q => p * q)) lo m) :
    0 ≤ n * sxx - sx * sx ∧ 0 ≤ n * syy - sy * sy ∧ (n * sxy - sx * sy) * (n * sxy - sx * sy) ≤ (n * sxx - sx * sx) * (n * syy - sy * sy) := by
  have hu := vr2 x y 1 0 lo m
  have hv := vr2 x y 0 1 lo m
  have hc := vr2 x y (n * syy - sy * sy) (-(n * sxy - sx * sy)) lo m
  have hd := vr2 x y (-(n * sxy - sx * sy)) (n * sxx - sx * sx) lo m
  rw [← hn, ← hx, ← hy, ← hxx, ← hyy, ← hxy] at hu hv hc hd
  have eu : n * (1 * 1 * sxx + 2 * 1 * 0 * sxy + 0 * 0 * syy) - (1 * sx + 0 * sy) * (1 * sx + 0 * sy) = n * sxx - sx * sx := by grind
  have ev : n * (0 * 0 * sxx + 2 * 0 * 1 * sxy + 1 * 1 * syy) - (0 * sx + 1 * sy) * (0 * sx + 1 * sy) = n * syy - sy * sy := by grind
  rw [eu] at hu
  rw [ev] at hv
  refine ⟨hu, hv, ?_⟩
  obtain ⟨u, eu⟩ : ∃ u, u = n * sxx - sx * sx := ⟨_, rfl⟩
  obtain ⟨v, ev⟩ : ∃ v, v = n * syy - sy * sy := ⟨_, rfl⟩
  obtain ⟨c, ec⟩ : ∃ c, c = n * sxy - sx * sy := ⟨_, rfl⟩
  have e1 : n * ((n * syy - sy * sy) * (n * syy - sy * sy) * sxx + 2 * (n * syy - sy * sy) * (-(n * sxy - sx * sy)) * sxy + -(n * sxy - sx * sy) * -(n * sxy - sx * sy) * syy) - ((n * syy - sy * sy) * sx + -(n * sxy - sx * sy) * sy) * ((n * syy - sy * sy) * sx + -(n * sxy - sx * sy) * sy) = v * (u * v - c * c) := by rw [← ev, ← ec, eu]; grind
  have e2 : n * (-(n * sxy - sx * sy) * -(n * sxy - sx * sy) * sxx + 2 * (-(n * sxy - sx * sy)) * (n * sxx - sx * sx) * sxy + (n * sxx - sx * sx) * (n * sxx - sx * sx) * syy) - (-(n * sxy - sx * sy) * sx + (n * sxx - sx * sx) * sy) * (-(n * sxy - sx * sy) * sx + (n * sxx - sx * sx) * sy) = u * (u * v - c * c) := by rw [← eu, ← ec, ev]; grind
  rw [e1] at hc
  rw [e2] at hd
  rw [← eu, ← ev, ← ec]
  rw [← eu] at hu
  rw [← ev] at hv
  by_cases hv0 : 0 < v
  · have h9 : 0 ≤ u * v - c * c := by
      apply Int.not_lt.mp
      intro h
      have := Int.mul_neg_of_pos_of_neg hv0 h
      omega
    omega
  · by_cases hu0 : 0 < u
    · have h9 : 0 ≤ u * v - c * c := by
        apply Int.not_lt.mp
        intro h
        have := Int.mul_neg_of_pos_of_neg hu0 h
        omega
      omega
    · have z1 : u = 0 := by omega
      have z2 : v = 0 := by omega
      have h8 := vr2 x y 1 1 lo m
      have h7 := vr2 x y 1 (-1) lo m
      rw [← hn, ← hx, ← hy, ← hxx, ← hyy, ← hxy] at h8 h7
      have e3 : n * (1 * 1 * sxx + 2 * 1 * 1 * sxy + 1 * 1 * syy) - (1 * sx + 1 * sy) * (1 * sx + 1 * sy) = u + 2 * c + v := by rw [eu, ev, ec]; grind
      have e4 : n * (1 * 1 * sxx + 2 * 1 * -1 * sxy + -1 * -1 * syy) - (1 * sx + -1 * sy) * (1 * sx + -1 * sy) = u - 2 * c + v := by rw [eu, ev, ec]; grind
      rw [e3] at h8
      rw [e4] at h7
      have z3 : c = 0 := by omega
      rw [z1, z2, z3]
      decide
end
section
section ZD
variable {p : Program} {l : Launch} {e : Env} {R : Room} {s : State} {m : MethodId} {args : Array Value} {below : List Frame} {meth : Method} {c : Code} {H : Heap} {locs : List Loc} {cells slots : Nat} {Q : State → Prop} {cc : ByteArray} {pc : Nat} {ls : Array Slot} {rest : List Value}
theorem zr_ldc2 (a : Int) (hx : p.tables.exec = Jvm.exec) (hb : c.code = cc) {own : String} {index : Nat} {v : Int64} (hown : s.vm.findClass own = some m.cls) (hconst : (Jvm.Cond.constantLong own index v).before args s = true) (hv : v = zL a) (hdg : decode cc pc = .ok (.ldc2_w index, 3)) (k : W p l e R s m args below meth c H locs cells slots Q (F0 m (pc + 3) ls (.long (zL a) :: rest))) : W p l e R s m args below meth c H locs cells slots Q (F0 m pc ls rest) := by
  subst hv
  exact lv_ldc2 hx hb hown hconst hdg k
end ZD
/-- 2: alike, 1: just one stays, else 0 -/
def lik (x y : Int) : Int := if x = y then 2 else if x = 0 ∨ y = 0 then 1 else 0
theorem lik_in (x y : Int) : 0 ≤ lik x y ∧ lik x y ≤ 2 := by
  unfold lik
  split
  · omega
  · split <;> omega
/-- the sign of the step from ring k - 1 to ring k -/
def ris (w : Int → Int) (n k : Int) : Int := if wAt w n (k - 1) < wAt w n k then 1 else if wAt w n k < wAt w n (k - 1) then -1 else 0
theorem ris_in (w : Int → Int) (n k : Int) : -1 ≤ ris w n k ∧ ris w n k ≤ 1 := by
  unfold ris
  split
  · omega
  · split <;> omega
abbrev rm_O_likeness : Room := { frames := 0, cells := 0, slots := 0, locals := 0 }
set_option maxHeartbeats 4000000 in
set_option maxRecDepth 100000 in
theorem c_O_likeness (l : Launch) (D : va_G) (k : Nat → ClassId) (N : Nat) (AD : Int → Nat) (C : Int → va_E) (sz : Nat) (x : Int) (y : Int) (hx0 : inI x) (hy0 : inI y) : MI l y_O_likeness (Cond.code y_O_likeness b_O_likeness 2 (Option.some Jvm.ClassFile.FieldType.int) :: WS) rm_O_likeness D clW (tyW k) N AD C sz [.int (zI x), .int (zI y)] (fun r C' => r = zI (lik x y) ∧ C' = C) := by
  refine MI.start (cc := b_O_likeness) (maxL := 2) (rt := .int) (by decide) rfl (Nat.le_of_ble_eq_true rfl) ?_
  intro p e s m args below meth c Q ls hx hb hml hown hts hK hsz hw hl hret
  have hown : s.vm.findClass "RingMatches$Overlap" = some m.cls := hown
  have hl : lv_has ls 2 [(0, .int (zI x)), (1, .int (zI y))] := hl
  have hA := wA_hi (N := N) (AD := AD) hsz
  obtain ⟨H, hH⟩ : ∃ H, H = s.heap := ⟨_, rfl⟩
  obtain ⟨locs, hlocs⟩ : ∃ z : List Loc, z = [] := ⟨_, rfl⟩
  have hw : WD D clW (wA N AD sz) s.heap H locs N AD C := by rw [hH, hlocs]; exact hw
  rw [← hlocs]
  suffices hgo : W p l e rm_O_likeness s m args below meth c H locs 0 0 Q (F0 m 0 ls []) by rw [hH] at hgo; exact hgo
  refine lv_iload_n hx hb d_O_likeness_0 rfl (lv_at hl 0 rfl) ?_
  refine lv_iload_n hx hb d_O_likeness_1 rfl (lv_at hl 1 rfl) ?_
  refine zr_icmp_ne (tgt := 7) hx hb ⟨by omega, by omega⟩ ⟨by omega, by omega⟩ d_O_likeness_2 (by decide) (fun c1 => ?_) (fun c1 => ?_)
  · refine lv_iload_n hx hb d_O_likeness_7 rfl (lv_at hl 0 rfl) ?_
    refine zr_if_eq (tgt := 15) hx hb ⟨by omega, by omega⟩ d_O_likeness_8 (by decide) (fun c2 => ?_) (fun c2 => ?_)
    · refine zr_iconst hx hb d_O_likeness_15 ?_
      refine lv_goto (tgt := 20) hx hb d_O_likeness_16 (by decide) ?_
      exact hret _ _ _ _ _ _ d_O_likeness_20 hw rfl ⟨by unfold lik; rw [if_neg (by omega), if_pos (by omega)], rfl⟩
    · refine lv_iload_n hx hb d_O_likeness_11 rfl (lv_at hl 1 rfl) ?_
      refine zr_if_ne (tgt := 19) hx hb ⟨by omega, by omega⟩ d_O_likeness_12 (by decide) (fun c3 => ?_) (fun c3 => ?_)
      · refine zr_iconst hx hb d_O_likeness_19 ?_
        exact hret _ _ _ _ _ _ d_O_likeness_20 hw rfl ⟨by unfold lik; rw [if_neg (by omega), if_neg (by omega)], rfl⟩
      · refine zr_iconst hx hb d_O_likeness_15 ?_
        refine lv_goto (tgt := 20) hx hb d_O_likeness_16 (by decide) ?_
        exact hret _ _ _ _ _ _ d_O_likeness_20 hw rfl ⟨by unfold lik; rw [if_neg (by omega), if_pos (by omega)], rfl⟩
  · refine zr_iconst hx hb d_O_likeness_5 ?_
    exact hret _ _ _ _ _ _ d_O_likeness_6 hw rfl ⟨by unfold lik; rw [if_pos (by omega)], rfl⟩
abbrev rm_O_rise : Room := { frames := 2, cells := 0, slots := 0, locals := 42 }
set_option maxHeartbeats 4000000 in
set_option maxRecDepth 100000 in
theorem c_O_rise (l : Launch) (D : va_G) (k : Nat → ClassId) (N : Nat) (AD : Int → Nat) (C : Int → va_E) (sz : Nat) (b : Int) (n : Int) (w : Int → Int) (e9 : Int → Int) (i : Int) (hb0 : 0 ≤ b ∧ b + 2 < (N : Int)) (hn : 0 ≤ n ∧ n ≤ 24) (hS : C b = .inr (2, [.ref (AD (b + 1)), .ref (AD (b + 2)), .int (zI n)])) (hSw : C (b + 1) = aI (k 0) 24 w) (hSe : C (b + 2) = aI (k 0) 24 e9) (hok : WOK w n) (hi : -100 ≤ i ∧ i ≤ 100) : MI l y_O_rise (Cond.code y_O_rise b_O_rise 4 (Option.some Jvm.ClassFile.FieldType.int) :: WS) rm_O_rise D clW (tyW k) N AD C sz [.ref (AD b), .int (zI i)] (fun r C' => r = zI (ris w n i) ∧ C' = C) := by
  refine MI.start (cc := b_O_rise) (maxL := 4) (rt := .int) (by decide) rfl (Nat.le_of_ble_eq_true rfl) ?_
  intro p e s m args below meth c Q ls hx hb hml hown hts hK hsz hw hl hret
  have hown : s.vm.findClass "RingMatches$Overlap" = some m.cls := hown
  have hl : lv_has ls 4 [(0, .ref (AD b)), (1, .int (zI i))] := hl
  have hA := wA_hi (N := N) (AD := AD) hsz
  obtain ⟨H, hH⟩ : ∃ H, H = s.heap := ⟨_, rfl⟩
  obtain ⟨locs, hlocs⟩ : ∃ z : List Loc, z = [] := ⟨_, rfl⟩
  have hw : WD D clW (wA N AD sz) s.heap H locs N AD C := by rw [hH, hlocs]; exact hw
  rw [← hlocs]
  suffices hgo : W p l e rm_O_rise s m args below meth c H locs 0 0 Q (F0 m 0 ls []) by rw [hH] at hgo; exact hgo
  refine lv_aload_n hx hb d_O_rise_0 rfl (lv_at hl 0 rfl) ?_
  refine lv_iload_n hx hb d_O_rise_1 rfl (lv_at hl 1 rfl) ?_
  refine zr_iconst hx hb d_O_rise_2 ?_
  refine zr_isub hx hb d_O_rise_3 ?_
  refine zr_callI (va_runV (As := [.int (zI (i - 1))]) (rest := []) ⟨hx, hb, hml, hown, hts⟩ (c_S_widthAt l D k N AD C H.size b n w e9 (i - 1) ⟨by omega, by omega⟩ ⟨by omega, by omega⟩ hS hSw hSe ⟨by omega, by omega⟩) (cwV 1 hts (good_V wk_386 wk_276 wk_277 wk_29 wk_278) rfl rfl rfl (by decide +kernel) ⟨Nat.le_of_ble_eq_true rfl, Nat.le_of_ble_eq_true rfl⟩) (cPre_V hK hw b ⟨by omega, by omega⟩ hS rfl) rfl rfl hl.1 rfl (lv_room (Nat.le_of_ble_eq_true rfl)) d_O_rise_4 ⟨Nat.le_of_ble_eq_true rfl, Nat.le_of_ble_eq_true rfl⟩) hw hA (fun r9 C2 H locs hq1 hw => ?_)
  obtain ⟨hr9, hCe⟩ := hq1
  rw [hCe] at hw; subst hr9
  refine lv_istore_n (lv' := [(2, .int (zI (wAt w n (i - 1)))), (0, .ref (AD b)), (1, .int (zI i))]) hx hb d_O_rise_7 rfl hl (by decide) rfl (fun ls hl => ?_)
  refine lv_aload_n hx hb d_O_rise_8 rfl (lv_at hl 1 rfl) ?_
  refine lv_iload_n hx hb d_O_rise_9 rfl (lv_at hl 2 rfl) ?_
  refine zr_callI (va_runV (As := [.int (zI i)]) (rest := []) ⟨hx, hb, hml, hown, hts⟩ (c_S_widthAt l D k N AD C H.size b n w e9 i ⟨by omega, by omega⟩ ⟨by omega, by omega⟩ hS hSw hSe ⟨by omega, by omega⟩) (cwV 1 hts (good_V wk_386 wk_276 wk_277 wk_29 wk_278) rfl rfl rfl (by decide +kernel) ⟨Nat.le_of_ble_eq_true rfl, Nat.le_of_ble_eq_true rfl⟩) (cPre_V hK hw b ⟨by omega, by omega⟩ hS rfl) rfl rfl hl.1 rfl (lv_room (Nat.le_of_ble_eq_true rfl)) d_O_rise_10 ⟨Nat.le_of_ble_eq_true rfl, Nat.le_of_ble_eq_true rfl⟩) hw hA (fun r9 C4 H locs hq3 hw => ?_)
  obtain ⟨hr9, hCe⟩ := hq3
  rw [hCe] at hw; subst hr9
  refine lv_istore_n (lv' := [(3, .int (zI (wAt w n i))), (2, .int (zI (wAt w n (i - 1)))), (0, .ref (AD b)), (1, .int (zI i))]) hx hb d_O_rise_13 rfl hl (by decide) rfl (fun ls hl => ?_)
  have hc1 := wAt_cases hok i
  have hc2 := wAt_cases hok (i - 1)
  refine lv_iload_n hx hb d_O_rise_14 rfl (lv_at hl 0 rfl) ?_
  refine lv_iload_n hx hb d_O_rise_15 rfl (lv_at hl 1 rfl) ?_
  refine zr_icmp_le (tgt := 21) hx hb ⟨by omega, by omega⟩ ⟨by omega, by omega⟩ d_O_rise_16 (by decide) (fun c5 => ?_) (fun c5 => ?_)
  · refine lv_iload_n hx hb d_O_rise_21 rfl (lv_at hl 0 rfl) ?_
    refine lv_iload_n hx hb d_O_rise_22 rfl (lv_at hl 1 rfl) ?_
    refine zr_icmp_ge (tgt := 30) hx hb ⟨by omega, by omega⟩ ⟨by omega, by omega⟩ d_O_rise_23 (by decide) (fun c6 => ?_) (fun c6 => ?_)
    · refine zr_iconst hx hb d_O_rise_30 ?_
      exact hret _ _ _ _ _ _ d_O_rise_31 hw rfl ⟨by unfold ris; rw [if_neg (by omega), if_neg (by omega)], rfl⟩
    · refine zr_iconst hx hb d_O_rise_26 ?_
      refine lv_goto (tgt := 31) hx hb d_O_rise_27 (by decide) ?_
      exact hret _ _ _ _ _ _ d_O_rise_31 hw rfl ⟨by unfold ris; rw [if_neg (by omega), if_pos (by omega)], rfl⟩
  · refine zr_iconst hx hb d_O_rise_19 ?_
    exact hret _ _ _ _ _ _ d_O_rise_20 hw rfl ⟨by unfold ris; rw [if_pos (by omega)], rfl⟩
abbrev rm_O_isPair : Room := { frames := 2, cells := 0, slots := 0, locals := 42 }
set_option maxHeartbeats 4000000 in
set_option maxRecDepth 100000 in
theorem c_O_isPair (l : Launch) (D : va_G) (k : Nat → ClassId) (N : Nat) (AD : Int → Nat) (C : Int → va_E) (sz : Nat) (o : Int) (s0 : Int) (p0 : Int) (r0 : Int) (t0 : Int) (a0 : Int) (b1 : Int) (n1 : Int) (w1 : Int → Int) (e1 : Int → Int) (b2 : Int) (n2 : Int) (w2 : Int → Int) (e2 : Int → Int) (i : Int) (ho : 0 ≤ o ∧ o < (N : Int)) (hO : C o = .inr (0, [.int (zI s0), .int (zI p0), .int (zI r0), .int (zI t0), .int (zI a0)])) (hb1 : 0 ≤ b1 ∧ b1 + 2 < (N : Int)) (hn1 : 0 ≤ n1 ∧ n1 ≤ 24) (hS : C b1 = .inr (2, [.ref (AD (b1 + 1)), .ref (AD (b1 + 2)), .int (zI n1)])) (hSw : C (b1 + 1) = aI (k 0) 24 w1) (hSe : C (b1 + 2) = aI (k 0) 24 e1) (hb2 : 0 ≤ b2 ∧ b2 + 2 < (N : Int)) (hn2 : 0 ≤ n2 ∧ n2 ≤ 24) (hT : C b2 = .inr (2, [.ref (AD (b2 + 1)), .ref (AD (b2 + 2)), .int (zI n2)])) (hTw : C (b2 + 1) = aI (k 0) 24 w2) (hTe : C (b2 + 2) = aI (k 0) 24 e2) (hok1 : WOK w1 n1) (hok2 : WOK w2 n2) (hi : -100 ≤ i ∧ i ≤ 100) (hs : -100 ≤ s0 ∧ s0 ≤ 100) : MI l y_O_isPair (Cond.code y_O_isPair b_O_isPair 4 (Option.some Jvm.ClassFile.FieldType.boolean) :: WS) rm_O_isPair D clW (tyW k) N AD C sz [.ref (AD o), .ref (AD b1), .ref (AD b2), .int (zI i)] (fun r C' => (r = zI 1 ∧ (¬ wAt w1 n1 i = -1 ∧ ¬ wAt w2 n2 (i - s0) = -1) ∨ r = zI 0 ∧ (wAt w1 n1 i = -1 ∨ wAt w2 n2 (i - s0) = -1)) ∧ C' = C) := by
  refine MI.start (cc := b_O_isPair) (maxL := 4) (rt := .boolean) (by decide) rfl (Nat.le_of_ble_eq_true rfl) ?_
  intro p e s m args below meth c Q ls hx hb hml hown hts hK hsz hw hl hret
  have hown : s.vm.findClass "RingMatches$Overlap" = some m.cls := hown
  have hl : lv_has ls 4 [(0, .ref (AD o)), (1, .ref (AD b1)), (2, .ref (AD b2)), (3, .int (zI i))] := hl
  have hA := wA_hi (N := N) (AD := AD) hsz
  obtain ⟨H, hH⟩ : ∃ H, H = s.heap := ⟨_, rfl⟩
  obtain ⟨locs, hlocs⟩ : ∃ z : List Loc, z = [] := ⟨_, rfl⟩
  have hw : WD D clW (wA N AD sz) s.heap H locs N AD C := by rw [hH, hlocs]; exact hw
  rw [← hlocs]
  suffices hgo : W p l e rm_O_isPair s m args below meth c H locs 0 0 Q (F0 m 0 ls []) by rw [hH] at hgo; exact hgo
  have hc1 := wAt_cases hok1 i
  refine lv_aload_n hx hb d_O_isPair_0 rfl (lv_at hl 1 rfl) ?_
  refine lv_iload_n hx hb d_O_isPair_1 rfl (lv_at hl 3 rfl) ?_
  refine zr_callI (va_runV (As := [.int (zI i)]) (rest := []) ⟨hx, hb, hml, hown, hts⟩ (c_S_widthAt l D k N AD C H.size b1 n1 w1 e1 i ⟨by omega, by omega⟩ ⟨by omega, by omega⟩ hS hSw hSe ⟨by omega, by omega⟩) (cwV 1 hts (good_V wk_386 wk_276 wk_277 wk_29 wk_278) rfl rfl rfl (by decide +kernel) ⟨Nat.le_of_ble_eq_true rfl, Nat.le_of_ble_eq_true rfl⟩) (cPre_V hK hw b1 ⟨by omega, by omega⟩ hS rfl) rfl rfl hl.1 rfl (lv_room (Nat.le_of_ble_eq_true rfl)) d_O_isPair_2 ⟨Nat.le_of_ble_eq_true rfl, Nat.le_of_ble_eq_true rfl⟩) hw hA (fun r9 C2 H locs hq1 hw => ?_)
  obtain ⟨hr9, hCe⟩ := hq1
  rw [hCe] at hw; subst hr9
  refine zr_iconst hx hb d_O_isPair_5 ?_
  refine zr_icmp_eq (tgt := 27) hx hb ⟨by omega, by omega⟩ ⟨by omega, by omega⟩ d_O_isPair_6 (by decide) (fun c3 => ?_) (fun c3 => ?_)
  · refine zr_iconst hx hb d_O_isPair_27 ?_
    exact hret _ _ _ _ _ _ d_O_isPair_28 hw (by decide +kernel) ⟨Or.inr ⟨rfl, by omega⟩, rfl⟩
  · refine lv_aload_n hx hb d_O_isPair_9 rfl (lv_at hl 2 rfl) ?_
    refine lv_iload_n hx hb d_O_isPair_10 rfl (lv_at hl 3 rfl) ?_
    refine lv_aload_n hx hb d_O_isPair_11 rfl (lv_at hl 0 rfl) ?_
    refine zr_get (v := .int (zI s0)) hx hb hts iw_O hown hK hw o ⟨by omega, by omega⟩ hO rfl 0 (by decide) (hts _ wk_89) (fun _ h => h) rfl d_O_isPair_12 ?_
    refine zr_isub hx hb d_O_isPair_15 ?_
    have hc2 := wAt_cases hok2 (i - s0)
    refine zr_callI (va_runV (As := [.int (zI (i - s0))]) (rest := []) ⟨hx, hb, hml, hown, hts⟩ (c_S_widthAt l D k N AD C H.size b2 n2 w2 e2 (i - s0) ⟨by omega, by omega⟩ ⟨by omega, by omega⟩ hT hTw hTe ⟨by omega, by omega⟩) (cwV 1 hts (good_V wk_386 wk_276 wk_277 wk_29 wk_278) rfl rfl rfl (by decide +kernel) ⟨Nat.le_of_ble_eq_true rfl, Nat.le_of_ble_eq_true rfl⟩) (cPre_V hK hw b2 ⟨by omega, by omega⟩ hT rfl) rfl rfl hl.1 rfl (lv_room (Nat.le_of_ble_eq_true rfl)) d_O_isPair_16 ⟨Nat.le_of_ble_eq_true rfl, Nat.le_of_ble_eq_true rfl⟩) hw hA (fun r9 C5 H locs hq4 hw => ?_)
    obtain ⟨hr9, hCe⟩ := hq4
    rw [hCe] at hw; subst hr9
    refine zr_iconst hx hb d_O_isPair_19 ?_
    refine zr_icmp_eq (tgt := 27) hx hb ⟨by omega, by omega⟩ ⟨by omega, by omega⟩ d_O_isPair_20 (by decide) (fun c6 => ?_) (fun c6 => ?_)
    · refine zr_iconst hx hb d_O_isPair_27 ?_
      exact hret _ _ _ _ _ _ d_O_isPair_28 hw (by decide +kernel) ⟨Or.inr ⟨rfl, by omega⟩, rfl⟩
    · refine zr_iconst hx hb d_O_isPair_23 ?_
      refine lv_goto (tgt := 28) hx hb d_O_isPair_24 (by decide) ?_
      exact hret _ _ _ _ _ _ d_O_isPair_28 hw (by decide +kernel) ⟨Or.inl ⟨rfl, by omega⟩, rfl⟩
abbrev rm_O_outranks : Room := { frames := 0, cells := 0, slots := 0, locals := 0 }
set_option maxHeartbeats 4000000 in
set_option maxRecDepth 100000 in
theorem c_O_outranks (l : Launch) (D : va_G) (k : Nat → ClassId) (N : Nat) (AD : Int → Nat) (C : Int → va_E) (sz : Nat) (o : Int) (s0 : Int) (p0 : Int) (r0 : Int) (t0 : Int) (a0 : Int) (o2 : Int) (s1 : Int) (p1 : Int) (r1 : Int) (t1 : Int) (a1 : Int) (ho : 0 ≤ o ∧ o < (N : Int)) (hO : C o = .inr (0, [.int (zI s0), .int (zI p0), .int (zI r0), .int (zI t0), .int (zI a0)])) (ho2 : 0 ≤ o2 ∧ o2 < (N : Int)) (hP : C o2 = .inr (0, [.int (zI s1), .int (zI p1), .int (zI r1), .int (zI t1), .int (zI a1)])) (hb9 : inI p0 ∧ inI r0 ∧ inI p1 ∧ inI r1) : MI l y_O_outranks (Cond.code y_O_outranks b_O_outranks 2 (Option.some Jvm.ClassFile.FieldType.boolean) :: WS) rm_O_outranks D clW (tyW k) N AD C sz [.ref (AD o), .ref (AD o2)] (fun r C' => (r = zI 1 ∧ (r1 < r0 ∨ (r0 = r1 ∧ p1 < p0)) ∨ r = zI 0 ∧ ¬ (r1 < r0 ∨ (r0 = r1 ∧ p1 < p0))) ∧ C' = C) := by
  refine MI.start (cc := b_O_outranks) (maxL := 2) (rt := .boolean) (by decide) rfl (Nat.le_of_ble_eq_true rfl) ?_
  intro p e s m args below meth c Q ls hx hb hml hown hts hK hsz hw hl hret
  have hown : s.vm.findClass "RingMatches$Overlap" = some m.cls := hown
  have hl : lv_has ls 2 [(0, .ref (AD o)), (1, .ref (AD o2))] := hl
  have hA := wA_hi (N := N) (AD := AD) hsz
  obtain ⟨H, hH⟩ : ∃ H, H = s.heap := ⟨_, rfl⟩
  obtain ⟨locs, hlocs⟩ : ∃ z : List Loc, z = [] := ⟨_, rfl⟩
  have hw : WD D clW (wA N AD sz) s.heap H locs N AD C := by rw [hH, hlocs]; exact hw
  rw [← hlocs]
  suffices hgo : W p l e rm_O_outranks s m args below meth c H locs 0 0 Q (F0 m 0 ls []) by rw [hH] at hgo; exact hgo
  refine lv_aload_n hx hb d_O_outranks_0 rfl (lv_at hl 0 rfl) ?_
  refine zr_get (v := .int (zI r0)) hx hb hts iw_O hown hK hw o ⟨by omega, by omega⟩ hO rfl 2 (by decide) (hts _ wk_93) (fun _ h => h) rfl d_O_outranks_1 ?_
  refine lv_aload_n hx hb d_O_outranks_4 rfl (lv_at hl 1 rfl) ?_
  refine zr_get (v := .int (zI r1)) hx hb hts iw_O hown hK hw o2 ⟨by omega, by omega⟩ hP rfl 2 (by decide) (hts _ wk_93) (fun _ h => h) rfl d_O_outranks_5 ?_
  refine zr_icmp_eq (tgt := 28) hx hb ⟨by omega, by omega⟩ ⟨by omega, by omega⟩ d_O_outranks_8 (by decide) (fun c1 => ?_) (fun c1 => ?_)
  · refine lv_aload_n hx hb d_O_outranks_28 rfl (lv_at hl 0 rfl) ?_
    refine zr_get (v := .int (zI p0)) hx hb hts iw_O hown hK hw o ⟨by omega, by omega⟩ hO rfl 1 (by decide) (hts _ wk_91) (fun _ h => h) rfl d_O_outranks_29 ?_
    refine lv_aload_n hx hb d_O_outranks_32 rfl (lv_at hl 1 rfl) ?_
    refine zr_get (v := .int (zI p1)) hx hb hts iw_O hown hK hw o2 ⟨by omega, by omega⟩ hP rfl 1 (by decide) (hts _ wk_91) (fun _ h => h) rfl d_O_outranks_33 ?_
    refine zr_icmp_le (tgt := 43) hx hb ⟨by omega, by omega⟩ ⟨by omega, by omega⟩ d_O_outranks_36 (by decide) (fun c2 => ?_) (fun c2 => ?_)
    · refine zr_iconst hx hb d_O_outranks_43 ?_
      exact hret _ _ _ _ _ _ d_O_outranks_44 hw (by decide +kernel) ⟨Or.inr ⟨rfl, by omega⟩, rfl⟩
    · refine zr_iconst hx hb d_O_outranks_39 ?_
      refine lv_goto (tgt := 44) hx hb d_O_outranks_40 (by decide) ?_
      exact hret _ _ _ _ _ _ d_O_outranks_44 hw (by decide +kernel) ⟨Or.inl ⟨rfl, by omega⟩, rfl⟩
  · refine lv_aload_n hx hb d_O_outranks_11 rfl (lv_at hl 0 rfl) ?_
    refine zr_get (v := .int (zI r0)) hx hb hts iw_O hown hK hw o ⟨by omega, by omega⟩ hO rfl 2 (by decide) (hts _ wk_93) (fun _ h => h) rfl d_O_outranks_12 ?_
    refine lv_aload_n hx hb d_O_outranks_15 rfl (lv_at hl 1 rfl) ?_
    refine zr_get (v := .int (zI r1)) hx hb hts iw_O hown hK hw o2 ⟨by omega, by omega⟩ hP rfl 2 (by decide) (hts _ wk_93) (fun _ h => h) rfl d_O_outranks_16 ?_
    refine zr_icmp_le (tgt := 26) hx hb ⟨by omega, by omega⟩ ⟨by omega, by omega⟩ d_O_outranks_19 (by decide) (fun c3 => ?_) (fun c3 => ?_)
    · refine zr_iconst hx hb d_O_outranks_26 ?_
      exact hret _ _ _ _ _ _ d_O_outranks_27 hw (by decide +kernel) ⟨Or.inr ⟨rfl, by omega⟩, rfl⟩
    · refine zr_iconst hx hb d_O_outranks_22 ?_
      refine lv_goto (tgt := 27) hx hb d_O_outranks_23 (by decide) ?_
      exact hret _ _ _ _ _ _ d_O_outranks_27 hw (by decide +kernel) ⟨Or.inl ⟨rfl, by omega⟩, rfl⟩
theorem mul_b {a b A B : Int} (h1 : 0 ≤ a) (h2 : a ≤ A) (h3 : 0 ≤ b) (h4 : b ≤ B) : 0 ≤ a * b ∧ a * b ≤ A * B := ⟨Int.mul_nonneg h1 h3, Int.mul_le_mul h2 h4 h3 (by omega)⟩
theorem sq_nn (a : Int) : 0 ≤ a * a := by
  rcases Int.le_total 0 a with h | h
  · exact Int.mul_nonneg h h
  · exact Int.mul_nonneg_of_nonpos_of_nonpos h h
theorem hund1 {P : Int → Prop} {t bt : Int} (hbt : bt = 64 ∨ bt = 32 ∨ bt = 16 ∨ bt = 8 ∨ bt = 4 ∨ bt = 2 ∨ bt = 1 ∨ bt = 0) (h0 : 0 < bt) (h : ¬ P (t + bt)) : (1 ≤ bt / 2 ∧ (¬ P (t + 2 * (bt / 2)) ∨ 128 ≤ t + 2 * (bt / 2))) ∨ (bt / 2 = 0 ∧ (¬ P (t + 1) ∨ 128 ≤ t + 1)) := by
  by_cases h1 : bt = 1
  · subst h1; exact Or.inr ⟨by omega, Or.inl h⟩
  · have e : 2 * (bt / 2) = bt := by omega
    rw [e]; exact Or.inl ⟨by omega, Or.inl h⟩
theorem hund2 {P : Int → Prop} {t bt : Int} (hbt : bt = 64 ∨ bt = 32 ∨ bt = 16 ∨ bt = 8 ∨ bt = 4 ∨ bt = 2 ∨ bt = 1 ∨ bt = 0) (h0 : 0 < bt) (h : (1 ≤ bt ∧ (¬ P (t + 2 * bt) ∨ 128 ≤ t + 2 * bt)) ∨ (bt = 0 ∧ (¬ P (t + 1) ∨ 128 ≤ t + 1))) : (1 ≤ bt / 2 ∧ (¬ P (t + bt + 2 * (bt / 2)) ∨ 128 ≤ t + bt + 2 * (bt / 2))) ∨ (bt / 2 = 0 ∧ (¬ P (t + bt + 1) ∨ 128 ≤ t + bt + 1)) := by
  have h2 : ¬ P (t + 2 * bt) ∨ 128 ≤ t + 2 * bt := by rcases h with h | h; exact h.2; omega
  by_cases h1 : bt = 1
  · subst h1
    rw [show t + 2 * 1 = t + 1 + 1 by omega] at h2
    exact Or.inr ⟨by omega, h2⟩
  · have e : t + bt + 2 * (bt / 2) = t + 2 * bt := by omega
    rw [e]; exact Or.inl ⟨by omega, h2⟩
abbrev rm_O_hundredths : Room := { frames := 0, cells := 0, slots := 0, locals := 0 }
set_option maxHeartbeats 4000000 in
set_option maxRecDepth 100000 in
theorem c_O_hundredths (l : Launch) (D : va_G) (k : Nat → ClassId) (N : Nat) (AD : Int → Nat) (C : Int → va_E) (sz : Nat) (c0 : Int) (u : Int) (v : Int) (hc0 : -23040000 ≤ c0 ∧ c0 ≤ 23040000) (hu0 : 0 ≤ u ∧ u ≤ 23040000) (hv0 : 0 ≤ v ∧ v ≤ 23040000) (hcs : c0 * c0 ≤ u * v) : MI l y_O_hundredths (Cond.code y_O_hundredths b_O_hundredths 13 (Option.some Jvm.ClassFile.FieldType.int) :: WS) rm_O_hundredths D clW (tyW k) N AD C sz [.long (zL c0), .long (zL u), .long (zL v)] (fun r C' => r = zI (corrF c0 u v) ∧ C' = C) := by
  refine MI.start (cc := b_O_hundredths) (maxL := 13) (rt := .int) (by decide) rfl (Nat.le_of_ble_eq_true rfl) ?_
  intro p e s m args below meth c Q ls hx hb hml hown hts hK hsz hw hl hret
  have hown : s.vm.findClass "RingMatches$Overlap" = some m.cls := hown
  have hl : lv_has ls 13 [(0, .long (zL c0)), (2, .long (zL u)), (4, .long (zL v))] := hl
  have hA := wA_hi (N := N) (AD := AD) hsz
  obtain ⟨H, hH⟩ : ∃ H, H = s.heap := ⟨_, rfl⟩
  obtain ⟨locs, hlocs⟩ : ∃ z : List Loc, z = [] := ⟨_, rfl⟩
  have hw : WD D clW (wA N AD sz) s.heap H locs N AD C := by rw [hH, hlocs]; exact hw
  rw [← hlocs]
  suffices hgo : W p l e rm_O_hundredths s m args below meth c H locs 0 0 Q (F0 m 0 ls []) by rw [hH] at hgo; exact hgo
  have hsq := sq_nn c0
  have hsq2 : c0 * c0 ≤ 530841600000000 := by have := mul_b (a := u) (b := v) hu0.1 hu0.2 hv0.1 hv0.2; omega
  have hlim : 10000 * c0 * c0 = 10000 * (c0 * c0) := Int.mul_assoc _ _ _
  refine lv_lload_n hx hb d_O_hundredths_0 rfl (lv_at hl 1 rfl) ?_
  refine zr_lconst0 hx hb d_O_hundredths_1 ?_
  refine zr_lcmp_eq (tgt := 13) hx hb ⟨by omega, by omega⟩ inL0 d_O_hundredths_2 d_O_hundredths_3 (by decide) (fun c1 => ?_) (fun c1 => ?_)
  · refine zr_iconst hx hb d_O_hundredths_13 ?_
    exact hret _ _ _ _ _ _ d_O_hundredths_14 hw rfl ⟨by unfold corrF; rw [if_pos (by omega)], rfl⟩
  · refine lv_lload hx hb d_O_hundredths_6 (lv_at hl 2 rfl) ?_
    refine zr_lconst0 hx hb d_O_hundredths_8 ?_
    refine zr_lcmp_ne (tgt := 15) hx hb ⟨by omega, by omega⟩ inL0 d_O_hundredths_9 d_O_hundredths_10 (by decide) (fun c2 => ?_) (fun c2 => ?_)
    · have hP0 : Pd c0 u v 0 := by unfold Pd; rw [Int.mul_assoc 10000]; simp; omega
      refine zr_ldc2 10000 hx hb hown (hts _ wk_377) (by decide +kernel) d_O_hundredths_15 ?_
      refine lv_lload_n hx hb d_O_hundredths_18 rfl (lv_at hl 0 rfl) ?_
      refine zr_lmul hx hb d_O_hundredths_19 ?_
      refine lv_lload_n hx hb d_O_hundredths_20 rfl (lv_at hl 0 rfl) ?_
      refine zr_lmul hx hb d_O_hundredths_21 ?_
      refine lv_lstore (lv' := [(6, .long (zL ((10000 * c0) * c0))), (0, .long (zL c0)), (2, .long (zL u)), (4, .long (zL v))]) hx hb d_O_hundredths_22 hl (by decide) rfl (fun ls hl => ?_)
      refine zr_lconst0 hx hb d_O_hundredths_24 ?_
      refine lv_lstore (lv' := [(8, .long (zL 0)), (6, .long (zL ((10000 * c0) * c0))), (0, .long (zL c0)), (2, .long (zL u)), (4, .long (zL v))]) hx hb d_O_hundredths_25 hl (by decide) rfl (fun ls hl => ?_)
      refine zr_bipush hx hb d_O_hundredths_27 (by decide) ?_
      refine lv_istore (lv' := [(10, .int (zI 64)), (8, .long (zL 0)), (6, .long (zL ((10000 * c0) * c0))), (0, .long (zL c0)), (2, .long (zL u)), (4, .long (zL v))]) hx hb d_O_hundredths_29 hl (by decide) rfl (fun ls hl => ?_)
      have lp : ∀ (n9 : Nat) (t : Int) (bt : Int) (H : Heap) (locs : List Loc) (ls : Array Slot), (0 ≤ t ∧ t + 2 * bt ≤ 128 ∧ (bt = 0 → t ≤ 127)) → (bt = 64 ∨ bt = 32 ∨ bt = 16 ∨ bt = 8 ∨ bt = 4 ∨ bt = 2 ∨ bt = 1 ∨ bt = 0) → (Pd c0 u v t) → ((1 ≤ bt ∧ (¬ Pd c0 u v (t + 2 * bt) ∨ 128 ≤ t + 2 * bt)) ∨ (bt = 0 ∧ (¬ Pd c0 u v (t + 1) ∨ 128 ≤ t + 1))) → (bt).toNat < n9 → WD D clW (wA N AD sz) s.heap H locs N AD C → lv_has ls 13 [(0, .long (zL c0)), (2, .long (zL u)), (4, .long (zL v)), (6, .long (zL ((10000 * c0) * c0))), (8, .long (zL t)), (10, .int (zI bt))] → W p l e rm_O_hundredths s m args below meth c H locs 0 0 Q (F0 m 31 ls []) := by
        intro n9
        induction n9 with
        | zero => intro t bt H locs ls ht1 hbt hP1 hP2  hm hw hl; exact absurd hm (by omega)
        | succ n9 ihlp =>
          intro t bt H locs ls ht1 hbt hP1 hP2  hm hw hl
          refine lv_iload hx hb d_O_hundredths_31 (lv_at hl 5 rfl) ?_
          refine zr_if_le (tgt := 73) hx hb ⟨by omega, by omega⟩ d_O_hundredths_33 (by decide) (fun c3 => ?_) (fun c3 => ?_)
          · have hb0 : bt = 0 := by omega
            have hP3 : ¬ Pd c0 u v (t + 1) ∨ 128 ≤ t + 1 := by rcases hP2 with h | h; omega; exact h.2
            have hT := corrT_is (by omega) (by omega) hcs ht1.1 hP1 hP3
            refine lv_lload_n hx hb d_O_hundredths_73 rfl (lv_at hl 0 rfl) ?_
            refine zr_lconst0 hx hb d_O_hundredths_74 ?_
            refine zr_lcmp_ge (tgt := 85) hx hb ⟨by omega, by omega⟩ inL0 d_O_hundredths_75 d_O_hundredths_76 (by decide) (fun c4 => ?_) (fun c4 => ?_)
            · refine lv_lload hx hb d_O_hundredths_85 (lv_at hl 4 rfl) ?_
              refine zr_l2i hx hb d_O_hundredths_87 ?_
              exact hret _ _ _ _ _ _ d_O_hundredths_88 hw rfl ⟨by unfold corrF; rw [if_neg (by omega), if_neg (by omega), hT], rfl⟩
            · refine lv_lload hx hb d_O_hundredths_79 (lv_at hl 4 rfl) ?_
              refine zr_lneg hx hb d_O_hundredths_81 ?_
              refine lv_goto (tgt := 87) hx hb d_O_hundredths_82 (by decide) ?_
              refine zr_l2i hx hb d_O_hundredths_87 ?_
              exact hret _ _ _ _ _ _ d_O_hundredths_88 hw rfl ⟨by unfold corrF; rw [if_neg (by omega), if_pos (by omega), hT], rfl⟩
          · refine lv_lload hx hb d_O_hundredths_36 (lv_at hl 4 rfl) ?_
            refine lv_iload hx hb d_O_hundredths_38 (lv_at hl 5 rfl) ?_
            refine zr_i2l hx hb d_O_hundredths_40 ⟨by omega, by omega⟩ ?_
            refine zr_ladd hx hb d_O_hundredths_41 ?_
            refine lv_lstore (lv' := [(11, .long (zL (t + bt))), (0, .long (zL c0)), (2, .long (zL u)), (4, .long (zL v)), (6, .long (zL ((10000 * c0) * c0))), (8, .long (zL t)), (10, .int (zI bt))]) hx hb d_O_hundredths_42 hl (by decide) rfl (fun ls hl => ?_)
            have hm0 := mul_b (a := t + bt) (b := t + bt) (A := 127) (B := 127) (by omega) (by omega) (by omega) (by omega)
            have hm1 := mul_b (a := (t + bt) * (t + bt)) (b := u) (A := 16129) (B := 23040000) (by omega) (by omega) (by omega) (by omega)
            have hm2 := mul_b (a := (t + bt) * (t + bt) * u) (b := v) (A := 371612160000) (B := 23040000) (by omega) (by omega) (by omega) (by omega)
            refine lv_lload hx hb d_O_hundredths_44 (lv_at hl 0 rfl) ?_
            refine lv_lload hx hb d_O_hundredths_46 (lv_at hl 0 rfl) ?_
            refine zr_lmul hx hb d_O_hundredths_48 ?_
            refine lv_lload_n hx hb d_O_hundredths_49 rfl (lv_at hl 2 rfl) ?_
            refine zr_lmul hx hb d_O_hundredths_50 ?_
            refine lv_lload hx hb d_O_hundredths_51 (lv_at hl 3 rfl) ?_
            refine zr_lmul hx hb d_O_hundredths_53 ?_
            refine lv_lload hx hb d_O_hundredths_54 (lv_at hl 4 rfl) ?_
            refine zr_lcmp_gt (tgt := 64) hx hb ⟨by omega, by omega⟩ ⟨by omega, by omega⟩ d_O_hundredths_56 d_O_hundredths_57 (by decide) (fun c5 => ?_) (fun c5 => ?_)
            · have hq1 : ¬ Pd c0 u v (t + bt) := by unfold Pd; omega
              have hq2 : (1 ≤ bt / 2 ∧ (¬ Pd c0 u v (t + 2 * (bt / 2)) ∨ 128 ≤ t + 2 * (bt / 2))) ∨ (bt / 2 = 0 ∧ (¬ Pd c0 u v (t + 1) ∨ 128 ≤ t + 1)) := hund1 hbt (by omega) hq1
              refine lv_iload hx hb d_O_hundredths_64 (lv_at hl 6 rfl) ?_
              refine zr_iconst hx hb d_O_hundredths_66 ?_
              refine zr_idiv hx hb d_O_hundredths_67 ⟨by omega, by omega⟩ ⟨by omega, by omega⟩ (by omega) (by omega) ?_
              refine lv_istore (lv' := [(10, .int (zI (bt / 2))), (11, .long (zL (t + bt))), (0, .long (zL c0)), (2, .long (zL u)), (4, .long (zL v)), (6, .long (zL ((10000 * c0) * c0))), (8, .long (zL t))]) hx hb d_O_hundredths_68 hl (by decide) rfl (fun ls hl => ?_)
              refine lv_goto (tgt := 31) hx hb d_O_hundredths_70 (by decide) ?_
              exact ihlp t (bt / 2) H locs ls (by omega) (by omega) hP1 hq2  (by omega) hw (lv_sub hl [2, 3, 4, 5, 6, 0] rfl)
            · have hq1 : Pd c0 u v (t + bt) := by unfold Pd; omega
              have hq2 : (1 ≤ bt / 2 ∧ (¬ Pd c0 u v (t + bt + 2 * (bt / 2)) ∨ 128 ≤ t + bt + 2 * (bt / 2))) ∨ (bt / 2 = 0 ∧ (¬ Pd c0 u v (t + bt + 1) ∨ 128 ≤ t + bt + 1)) := hund2 hbt (by omega) hP2
              refine lv_lload hx hb d_O_hundredths_60 (lv_at hl 0 rfl) ?_
              refine lv_lstore (lv' := [(8, .long (zL (t + bt))), (11, .long (zL (t + bt))), (0, .long (zL c0)), (2, .long (zL u)), (4, .long (zL v)), (6, .long (zL ((10000 * c0) * c0))), (10, .int (zI bt))]) hx hb d_O_hundredths_62 hl (by decide) rfl (fun ls hl => ?_)
              refine lv_iload hx hb d_O_hundredths_64 (lv_at hl 6 rfl) ?_
              refine zr_iconst hx hb d_O_hundredths_66 ?_
              refine zr_idiv hx hb d_O_hundredths_67 ⟨by omega, by omega⟩ ⟨by omega, by omega⟩ (by omega) (by omega) ?_
              refine lv_istore (lv' := [(10, .int (zI (bt / 2))), (8, .long (zL (t + bt))), (11, .long (zL (t + bt))), (0, .long (zL c0)), (2, .long (zL u)), (4, .long (zL v)), (6, .long (zL ((10000 * c0) * c0)))]) hx hb d_O_hundredths_68 hl (by decide) rfl (fun ls hl => ?_)
              refine lv_goto (tgt := 31) hx hb d_O_hundredths_70 (by decide) ?_
              exact ihlp (t + bt) (bt / 2) H locs ls (by omega) (by omega) hq1 hq2  (by omega) hw (lv_sub hl [3, 4, 5, 6, 1, 0] rfl)
      exact lp ((64 : Int).toNat + 1) 0 64 H locs ls (by omega) (by omega) hP0 (by omega)  (by omega) hw (lv_sub hl [3, 4, 5, 2, 1, 0] rfl)
    · refine zr_iconst hx hb d_O_hundredths_13 ?_
      exact hret _ _ _ _ _ _ d_O_hundredths_14 hw rfl ⟨by unfold corrF; rw [if_pos (by omega)], rfl⟩
end
section
/-- a ring evened, -1 where there is none -/
def xV (w : Int → Int) (n p : Int) : Int := wAt (evF w n) n p
theorem xV_e {w e : Int → Int} {n : Int} (h : EvOK w e n) (p : Int) : wAt e n p = xV w n p := by
  unfold xV wAt
  split
  · rename_i hp; exact h p hp.1 hp.2
  · rfl
theorem xV_in {w : Int → Int} {n : Int} (h : WOK w n) (p : Int) : xV w n p = -1 ∨ (0 ≤ xV w n p ∧ xV w n p ≤ 200) := by
  unfold xV wAt
  split
  · rename_i hp; exact evF_in h hp.1 hp.2
  · exact Or.inl rfl
/-- a sum over the pairs of an overlap -/
def ovT (w1 : Int → Int) (n1 : Int) (w2 : Int → Int) (n2 a : Int) (g : Int → Int → Int) : Int → Int := prT (xV w1 n1) (fun p => xV w2 n2 (p - a)) g
def ovS (w1 : Int → Int) (n1 : Int) (w2 : Int → Int) (n2 a : Int) (g : Int → Int → Int) : Int := sumR (ovT w1 n1 w2 n2 a g) (max 0 a) (min n1 (n2 + a) - max 0 a).toNat
def ovN (w1 : Int → Int) (n1 : Int) (w2 : Int → Int) (n2 a : Int) : Int := ovS w1 n1 w2 n2 a (fun _ _ => 1)
def ovC (w1 : Int → Int) (n1 : Int) (w2 : Int → Int) (n2 a : Int) : Int :=
  corrF (ovN w1 n1 w2 n2 a * ovS w1 n1 w2 n2 a (fun p q => p * q) - ovS w1 n1 w2 n2 a (fun p _ => p) * ovS w1 n1 w2 n2 a (fun _ q => q))
    (ovN w1 n1 w2 n2 a * ovS w1 n1 w2 n2 a (fun p _ => p * p) - ovS w1 n1 w2 n2 a (fun p _ => p) * ovS w1 n1 w2 n2 a (fun p _ => p))
    (ovN w1 n1 w2 n2 a * ovS w1 n1 w2 n2 a (fun _ q => q * q) - ovS w1 n1 w2 n2 a (fun _ q => q) * ovS w1 n1 w2 n2 a (fun _ q => q))
theorem ovT_f {w1 w2 : Int → Int} {n1 n2 a x : Int} {g : Int → Int → Int} (h1 : ¬ xV w1 n1 x = -1) (h2 : ¬ xV w2 n2 (x - a) = -1) : ovT w1 n1 w2 n2 a g x = g (xV w1 n1 x) (xV w2 n2 (x - a)) := prT_f (x := xV w1 n1) (y := fun p => xV w2 n2 (p - a)) h1 h2
theorem ovT_t {w1 w2 : Int → Int} {n1 n2 a x : Int} {g : Int → Int → Int} (h : xV w1 n1 x = -1 ∨ xV w2 n2 (x - a) = -1) : ovT w1 n1 w2 n2 a g x = 0 := prT_t (x := xV w1 n1) (y := fun p => xV w2 n2 (p - a)) h
abbrev rm_O_lay : Room := { frames := 2, cells := 0, slots := 0, locals := 42 }
set_option maxHeartbeats 4000000 in
set_option maxRecDepth 100000 in
theorem c_O_lay (l : Launch) (D : va_G) (k : Nat → ClassId) (N : Nat) (AD : Int → Nat) (C : Int → va_E) (sz : Nat) (o : Int) (s0 : Int) (p0 : Int) (r0 : Int) (t0 : Int) (a0 : Int) (b1 : Int) (n1 : Int) (w1 : Int → Int) (e1 : Int → Int) (b2 : Int) (n2 : Int) (w2 : Int → Int) (e2 : Int → Int) (a : Int) (ho : 0 ≤ o ∧ o < (N : Int)) (hO : C o = .inr (0, [.int (zI s0), .int (zI p0), .int (zI r0), .int (zI t0), .int (zI a0)])) (hb1 : 0 ≤ b1 ∧ b1 + 2 < (N : Int)) (hn1 : 0 ≤ n1 ∧ n1 ≤ 24) (hS : C b1 = .inr (2, [.ref (AD (b1 + 1)), .ref (AD (b1 + 2)), .int (zI n1)])) (hSw : C (b1 + 1) = aI (k 0) 24 w1) (hSe : C (b1 + 2) = aI (k 0) 24 e1) (hb2 : 0 ≤ b2 ∧ b2 + 2 < (N : Int)) (hn2 : 0 ≤ n2 ∧ n2 ≤ 24) (hT : C b2 = .inr (2, [.ref (AD (b2 + 1)), .ref (AD (b2 + 2)), .int (zI n2)])) (hTw : C (b2 + 1) = aI (k 0) 24 w2) (hTe : C (b2 + 2) = aI (k 0) 24 e2) (hok1 : WOK w1 n1) (hok2 : WOK w2 n2) (hev1 : EvOK w1 e1 n1) (hev2 : EvOK w2 e2 n2) (ha : -24 ≤ a ∧ a ≤ 24) (hd1 : o < b1 ∨ b1 + 2 < o) (hd2 : o < b2 ∨ b2 + 2 < o) : MV l y_O_lay (Cond.code y_O_lay b_O_lay 19 (Option.none : Option FieldType) :: WS) rm_O_lay D clW (tyW k) N AD C sz [.ref (AD o), .ref (AD b1), .ref (AD b2), .int (zI a)] (fun C' => C' o = .inr (0, [.int (zI a), .int (zI (ovN w1 n1 w2 n2 a)), .int (zI (ovC w1 n1 w2 n2 a)), .int (zI t0), .int (zI a0)]) ∧ ∀ j : Int, j ≠ o → C' j = C j) := by
  refine MV.start (cc := b_O_lay) (maxL := 19) (by decide) rfl (Nat.le_of_ble_eq_true rfl) ?_
  intro p e s m args below meth c Q ls hx hb hml hown hts hK hsz hw hl hret
  have hown : s.vm.findClass "RingMatches$Overlap" = some m.cls := hown
  have hl : lv_has ls 19 [(0, .ref (AD o)), (1, .ref (AD b1)), (2, .ref (AD b2)), (3, .int (zI a))] := hl
  have hA := wA_hi (N := N) (AD := AD) hsz
  obtain ⟨H, hH⟩ : ∃ H, H = s.heap := ⟨_, rfl⟩
  obtain ⟨locs, hlocs⟩ : ∃ z : List Loc, z = [] := ⟨_, rfl⟩
  have hw : WD D clW (wA N AD sz) s.heap H locs N AD C := by rw [hH, hlocs]; exact hw
  rw [← hlocs]
  suffices hgo : W p l e rm_O_lay s m args below meth c H locs 0 0 Q (F0 m 0 ls []) by rw [hH] at hgo; exact hgo
  refine zr_iconst hx hb d_O_lay_0 ?_
  refine lv_istore (lv' := [(4, .int (zI 0)), (0, .ref (AD o)), (1, .ref (AD b1)), (2, .ref (AD b2)), (3, .int (zI a))]) hx hb d_O_lay_1 hl (by decide) rfl (fun ls hl => ?_)
  refine zr_lconst0 hx hb d_O_lay_3 ?_
  refine lv_lstore (lv' := [(5, .long (zL 0)), (4, .int (zI 0)), (0, .ref (AD o)), (1, .ref (AD b1)), (2, .ref (AD b2)), (3, .int (zI a))]) hx hb d_O_lay_4 hl (by decide) rfl (fun ls hl => ?_)
  refine zr_lconst0 hx hb d_O_lay_6 ?_
  refine lv_lstore (lv' := [(7, .long (zL 0)), (5, .long (zL 0)), (4, .int (zI 0)), (0, .ref (AD o)), (1, .ref (AD b1)), (2, .ref (AD b2)), (3, .int (zI a))]) hx hb d_O_lay_7 hl (by decide) rfl (fun ls hl => ?_)
  refine zr_lconst0 hx hb d_O_lay_9 ?_
  refine lv_lstore (lv' := [(9, .long (zL 0)), (7, .long (zL 0)), (5, .long (zL 0)), (4, .int (zI 0)), (0, .ref (AD o)), (1, .ref (AD b1)), (2, .ref (AD b2)), (3, .int (zI a))]) hx hb d_O_lay_10 hl (by decide) rfl (fun ls hl => ?_)
  refine zr_lconst0 hx hb d_O_lay_12 ?_
  refine lv_lstore (lv' := [(11, .long (zL 0)), (9, .long (zL 0)), (7, .long (zL 0)), (5, .long (zL 0)), (4, .int (zI 0)), (0, .ref (AD o)), (1, .ref (AD b1)), (2, .ref (AD b2)), (3, .int (zI a))]) hx hb d_O_lay_13 hl (by decide) rfl (fun ls hl => ?_)
  refine zr_lconst0 hx hb d_O_lay_15 ?_
  refine lv_lstore (lv' := [(13, .long (zL 0)), (11, .long (zL 0)), (9, .long (zL 0)), (7, .long (zL 0)), (5, .long (zL 0)), (4, .int (zI 0)), (0, .ref (AD o)), (1, .ref (AD b1)), (2, .ref (AD b2)), (3, .int (zI a))]) hx hb d_O_lay_16 hl (by decide) rfl (fun ls hl => ?_)
  refine lv_aload_n hx hb d_O_lay_18 rfl (lv_at hl 7 rfl) ?_
  refine zr_get (v := .int (zI n1)) hx hb hts iw_S hown hK hw b1 ⟨by omega, by omega⟩ hS rfl 2 (by decide) (hts _ wk_72) (fun _ h => h) rfl d_O_lay_19 ?_
  refine lv_aload_n hx hb d_O_lay_22 rfl (lv_at hl 8 rfl) ?_
  refine zr_get (v := .int (zI n2)) hx hb hts iw_S hown hK hw b2 ⟨by omega, by omega⟩ hT rfl 2 (by decide) (hts _ wk_72) (fun _ h => h) rfl d_O_lay_23 ?_
  refine lv_iload_n hx hb d_O_lay_26 rfl (lv_at hl 9 rfl) ?_
  refine zr_iadd hx hb d_O_lay_27 ?_
  refine zr_min hx hb (hml.trans hl.1.symm) hown hts wk_369 (Nat.le_of_ble_eq_true rfl) (Nat.le_of_ble_eq_true rfl) (Nat.le_of_ble_eq_true rfl) (Nat.le_of_ble_eq_true rfl) ⟨by omega, by omega⟩ ⟨by omega, by omega⟩ d_O_lay_28 ?_
  refine lv_istore (lv' := [(15, .int (zI (min n1 (n2 + a)))), (13, .long (zL 0)), (11, .long (zL 0)), (9, .long (zL 0)), (7, .long (zL 0)), (5, .long (zL 0)), (4, .int (zI 0)), (0, .ref (AD o)), (1, .ref (AD b1)), (2, .ref (AD b2)), (3, .int (zI a))]) hx hb d_O_lay_31 hl (by decide) rfl (fun ls hl => ?_)
  refine zr_iconst hx hb d_O_lay_33 ?_
  refine lv_iload_n hx hb d_O_lay_34 rfl (lv_at hl 10 rfl) ?_
  refine zr_max hx hb (hml.trans hl.1.symm) hown hts wk_370 (Nat.le_of_ble_eq_true rfl) (Nat.le_of_ble_eq_true rfl) (Nat.le_of_ble_eq_true rfl) (Nat.le_of_ble_eq_true rfl) ⟨by omega, by omega⟩ ⟨by omega, by omega⟩ d_O_lay_35 ?_
  refine lv_istore (lv' := [(16, .int (zI (max 0 a))), (15, .int (zI (min n1 (n2 + a)))), (13, .long (zL 0)), (11, .long (zL 0)), (9, .long (zL 0)), (7, .long (zL 0)), (5, .long (zL 0)), (4, .int (zI 0)), (0, .ref (AD o)), (1, .ref (AD b1)), (2, .ref (AD b2)), (3, .int (zI a))]) hx hb d_O_lay_38 hl (by decide) rfl (fun ls hl => ?_)
  have lp : ∀ (n9 : Nat) (x : Int) (cn : Int) (sx : Int) (sy : Int) (sxx : Int) (syy : Int) (sxy : Int) (H : Heap) (locs : List Loc) (ls : Array Slot), (max 0 a ≤ x) → (cn = sumR (ovT w1 n1 w2 n2 a (fun _ _ => 1)) (max 0 a) (x - max 0 a).toNat) → (sx = sumR (ovT w1 n1 w2 n2 a (fun p _ => p)) (max 0 a) (x - max 0 a).toNat) → (sy = sumR (ovT w1 n1 w2 n2 a (fun _ q => q)) (max 0 a) (x - max 0 a).toNat) → (sxx = sumR (ovT w1 n1 w2 n2 a (fun p _ => p * p)) (max 0 a) (x - max 0 a).toNat) → (syy = sumR (ovT w1 n1 w2 n2 a (fun _ q => q * q)) (max 0 a) (x - max 0 a).toNat) → (sxy = sumR (ovT w1 n1 w2 n2 a (fun p q => p * q)) (max 0 a) (x - max 0 a).toNat) → ((0 ≤ cn ∧ cn ≤ x - max 0 a) ∧ (0 ≤ sx ∧ sx ≤ 200 * (x - max 0 a)) ∧ (0 ≤ sy ∧ sy ≤ 200 * (x - max 0 a)) ∧ (0 ≤ sxx ∧ sxx ≤ 40000 * (x - max 0 a)) ∧ (0 ≤ syy ∧ syy ≤ 40000 * (x - max 0 a)) ∧ (0 ≤ sxy ∧ sxy ≤ 40000 * (x - max 0 a))) → (x ≤ max (max 0 a) (min n1 (n2 + a))) → (min n1 (n2 + a) - x).toNat < n9 → WD D clW (wA N AD sz) s.heap H locs N AD C → lv_has ls 19 [(0, .ref (AD o)), (1, .ref (AD b1)), (2, .ref (AD b2)), (3, .int (zI a)), (4, .int (zI cn)), (5, .long (zL sx)), (7, .long (zL sy)), (9, .long (zL sxx)), (11, .long (zL syy)), (13, .long (zL sxy)), (15, .int (zI (min n1 (n2 + a)))), (16, .int (zI x))] → W p l e rm_O_lay s m args below meth c H locs 0 0 Q (F0 m 40 ls []) := by
    intro n9
    induction n9 with
    | zero => intro x cn sx sy sxx syy sxy H locs ls hx1 h_cn h_sx h_sy h_sxx h_syy h_sxy hbd hx2  hm hw hl; exact absurd hm (by omega)
    | succ n9 ihlp =>
      intro x cn sx sy sxx syy sxy H locs ls hx1 h_cn h_sx h_sy h_sxx h_syy h_sxy hbd hx2  hm hw hl
      refine lv_iload hx hb d_O_lay_40 (lv_at hl 11 rfl) ?_
      refine lv_iload hx hb d_O_lay_42 (lv_at hl 10 rfl) ?_
      refine zr_icmp_ge (tgt := 135) hx hb ⟨by omega, by omega⟩ ⟨by omega, by omega⟩ d_O_lay_44 (by decide) (fun c1 => ?_) (fun c1 => ?_)
      · have hxe : (x - max 0 a).toNat = (min n1 (n2 + a) - max 0 a).toNat := by omega
        rw [hxe] at h_cn
        rw [hxe] at h_sx
        rw [hxe] at h_sy
        rw [hxe] at h_sxx
        rw [hxe] at h_syy
        rw [hxe] at h_sxy
        have hcs9 := cs_all (xV w1 n1) (fun p => xV w2 n2 (p - a)) (max 0 a) (min n1 (n2 + a) - max 0 a).toNat h_cn h_sx h_sy h_sxx h_syy h_sxy
        obtain ⟨hu9, hv9, hcs⟩ := hcs9
        have q1 := mul_b (a := cn) (b := sxx) (A := 24) (B := 960000) (by omega) (by omega) (by omega) (by omega)
        have q2 := mul_b (a := cn) (b := syy) (A := 24) (B := 960000) (by omega) (by omega) (by omega) (by omega)
        have q3 := mul_b (a := cn) (b := sxy) (A := 24) (B := 960000) (by omega) (by omega) (by omega) (by omega)
        have q4 := mul_b (a := sx) (b := sy) (A := 4800) (B := 4800) (by omega) (by omega) (by omega) (by omega)
        have q5 := mul_b (a := sx) (b := sx) (A := 4800) (B := 4800) (by omega) (by omega) (by omega) (by omega)
        have q6 := mul_b (a := sy) (b := sy) (A := 4800) (B := 4800) (by omega) (by omega) (by omega) (by omega)
        refine lv_aload_n hx hb d_O_lay_135 rfl (lv_at hl 0 rfl) ?_
        refine lv_iload_n hx hb d_O_lay_136 rfl (lv_at hl 3 rfl) ?_
        refine zr_put (ty := .int) (v := .int (zI a)) hx hb hts iw_O tyO tyO_ok nmO hown hK hw o ⟨by omega, by omega⟩ hO rfl 0 (by decide) (hts _ wk_89) (fun _ h => h) rfl (by decide +kernel) rfl rfl (Nat.le_of_ble_eq_true rfl) d_O_lay_137 (fun H locs hw => ?_)
        obtain ⟨C2, hC2⟩ : ∃ z : Int → va_E, z = zup C o (.inr (0, [.int (zI a), .int (zI p0), .int (zI r0), .int (zI t0), .int (zI a0)])) := ⟨_, rfl⟩
        have hw : WD D clW (wA N AD sz) s.heap H locs N AD C2 := by rw [hC2]; exact hw
        have frC2 : ∀ j : Int, j ≠ o → C2 j = C j := fun j h => by rw [hC2]; exact zup_n h
        have hS : C2 b1 = .inr (2, [.ref (AD (b1 + 1)), .ref (AD (b1 + 2)), .int (zI n1)]) := (frC2 _ (by omega)).trans hS
        have hSw : C2 (b1 + 1) = aI (k 0) 24 w1 := (frC2 _ (by omega)).trans hSw
        have hSe : C2 (b1 + 2) = aI (k 0) 24 e1 := (frC2 _ (by omega)).trans hSe
        have hT : C2 b2 = .inr (2, [.ref (AD (b2 + 1)), .ref (AD (b2 + 2)), .int (zI n2)]) := (frC2 _ (by omega)).trans hT
        have hTw : C2 (b2 + 1) = aI (k 0) 24 w2 := (frC2 _ (by omega)).trans hTw
        have hTe : C2 (b2 + 2) = aI (k 0) 24 e2 := (frC2 _ (by omega)).trans hTe
        have hO : C2 o = .inr (0, [.int (zI a), .int (zI p0), .int (zI r0), .int (zI t0), .int (zI a0)]) := by rw [hC2]; exact zup_s
        refine lv_aload_n hx hb d_O_lay_140 rfl (lv_at hl 0 rfl) ?_
        refine lv_iload hx hb d_O_lay_141 (lv_at hl 4 rfl) ?_
        refine zr_put (ty := .int) (v := .int (zI cn)) hx hb hts iw_O tyO tyO_ok nmO hown hK hw o ⟨by omega, by omega⟩ hO rfl 1 (by decide) (hts _ wk_91) (fun _ h => h) rfl (by decide +kernel) rfl rfl (Nat.le_of_ble_eq_true rfl) d_O_lay_143 (fun H locs hw => ?_)
        obtain ⟨C3, hC3⟩ : ∃ z : Int → va_E, z = zup C2 o (.inr (0, [.int (zI a), .int (zI cn), .int (zI r0), .int (zI t0), .int (zI a0)])) := ⟨_, rfl⟩
        have hw : WD D clW (wA N AD sz) s.heap H locs N AD C3 := by rw [hC3]; exact hw
        have frC3 : ∀ j : Int, j ≠ o → C3 j = C2 j := fun j h => by rw [hC3]; exact zup_n h
        have hS : C3 b1 = .inr (2, [.ref (AD (b1 + 1)), .ref (AD (b1 + 2)), .int (zI n1)]) := (frC3 _ (by omega)).trans hS
        have hSw : C3 (b1 + 1) = aI (k 0) 24 w1 := (frC3 _ (by omega)).trans hSw
        have hSe : C3 (b1 + 2) = aI (k 0) 24 e1 := (frC3 _ (by omega)).trans hSe
        have hT : C3 b2 = .inr (2, [.ref (AD (b2 + 1)), .ref (AD (b2 + 2)), .int (zI n2)]) := (frC3 _ (by omega)).trans hT
        have hTw : C3 (b2 + 1) = aI (k 0) 24 w2 := (frC3 _ (by omega)).trans hTw
        have hTe : C3 (b2 + 2) = aI (k 0) 24 e2 := (frC3 _ (by omega)).trans hTe
        have hO : C3 o = .inr (0, [.int (zI a), .int (zI cn), .int (zI r0), .int (zI t0), .int (zI a0)]) := by rw [hC3]; exact zup_s
        refine lv_aload_n hx hb d_O_lay_146 rfl (lv_at hl 0 rfl) ?_
        refine lv_iload hx hb d_O_lay_147 (lv_at hl 4 rfl) ?_
        refine zr_i2l hx hb d_O_lay_149 ⟨by omega, by omega⟩ ?_
        refine lv_lload hx hb d_O_lay_150 (lv_at hl 9 rfl) ?_
        refine zr_lmul hx hb d_O_lay_152 ?_
        refine lv_lload hx hb d_O_lay_153 (lv_at hl 5 rfl) ?_
        refine lv_lload hx hb d_O_lay_155 (lv_at hl 6 rfl) ?_
        refine zr_lmul hx hb d_O_lay_157 ?_
        refine zr_lsub hx hb d_O_lay_158 ?_
        refine lv_iload hx hb d_O_lay_159 (lv_at hl 4 rfl) ?_
        refine zr_i2l hx hb d_O_lay_161 ⟨by omega, by omega⟩ ?_
        refine lv_lload hx hb d_O_lay_162 (lv_at hl 7 rfl) ?_
        refine zr_lmul hx hb d_O_lay_164 ?_
        refine lv_lload hx hb d_O_lay_165 (lv_at hl 5 rfl) ?_
        refine lv_lload hx hb d_O_lay_167 (lv_at hl 5 rfl) ?_
        refine zr_lmul hx hb d_O_lay_169 ?_
        refine zr_lsub hx hb d_O_lay_170 ?_
        refine lv_iload hx hb d_O_lay_171 (lv_at hl 4 rfl) ?_
        refine zr_i2l hx hb d_O_lay_173 ⟨by omega, by omega⟩ ?_
        refine lv_lload hx hb d_O_lay_174 (lv_at hl 8 rfl) ?_
        refine zr_lmul hx hb d_O_lay_176 ?_
        refine lv_lload hx hb d_O_lay_177 (lv_at hl 6 rfl) ?_
        refine lv_lload hx hb d_O_lay_179 (lv_at hl 6 rfl) ?_
        refine zr_lmul hx hb d_O_lay_181 ?_
        refine zr_lsub hx hb d_O_lay_182 ?_
        refine zr_callI (va_runS (As := [.long (zL ((cn * sxy) - (sx * sy))), .long (zL ((cn * sxx) - (sx * sx))), .long (zL ((cn * syy) - (sy * sy)))]) (rest := [.ref (AD o)]) ⟨hx, hb, hml, hown, hts⟩ (c_O_hundredths l D k N AD C3 H.size ((cn * sxy) - (sx * sy)) ((cn * sxx) - (sx * sx)) ((cn * syy) - (sy * sy)) (by omega) (by omega) (by omega) hcs) (va_cwS 3 hts (good_S wk_374 wk_375 wk_30 wk_376) rfl rfl rfl (by decide +kernel) ⟨Nat.le_of_ble_eq_true rfl, Nat.le_of_ble_eq_true rfl⟩) (cPre_S hK hw) rfl rfl hl.1 rfl (lv_room (Nat.le_of_ble_eq_true rfl)) d_O_lay_183 ⟨Nat.le_of_ble_eq_true rfl, Nat.le_of_ble_eq_true rfl⟩) hw hA (fun r9 C5 H locs hq4 hw => ?_)
        obtain ⟨hr9, hCe⟩ := hq4
        rw [hCe] at hw; subst hr9
        refine zr_put (ty := .int) (v := .int (zI (corrF ((cn * sxy) - (sx * sy)) ((cn * sxx) - (sx * sx)) ((cn * syy) - (sy * sy))))) hx hb hts iw_O tyO tyO_ok nmO hown hK hw o ⟨by omega, by omega⟩ hO rfl 2 (by decide) (hts _ wk_93) (fun _ h => h) rfl (by decide +kernel) rfl rfl (Nat.le_of_ble_eq_true rfl) d_O_lay_186 (fun H locs hw => ?_)
        obtain ⟨C6, hC6⟩ : ∃ z : Int → va_E, z = zup C3 o (.inr (0, [.int (zI a), .int (zI cn), .int (zI (corrF ((cn * sxy) - (sx * sy)) ((cn * sxx) - (sx * sx)) ((cn * syy) - (sy * sy)))), .int (zI t0), .int (zI a0)])) := ⟨_, rfl⟩
        have hw : WD D clW (wA N AD sz) s.heap H locs N AD C6 := by rw [hC6]; exact hw
        have frC6 : ∀ j : Int, j ≠ o → C6 j = C3 j := fun j h => by rw [hC6]; exact zup_n h
        have hS : C6 b1 = .inr (2, [.ref (AD (b1 + 1)), .ref (AD (b1 + 2)), .int (zI n1)]) := (frC6 _ (by omega)).trans hS
        have hSw : C6 (b1 + 1) = aI (k 0) 24 w1 := (frC6 _ (by omega)).trans hSw
        have hSe : C6 (b1 + 2) = aI (k 0) 24 e1 := (frC6 _ (by omega)).trans hSe
        have hT : C6 b2 = .inr (2, [.ref (AD (b2 + 1)), .ref (AD (b2 + 2)), .int (zI n2)]) := (frC6 _ (by omega)).trans hT
        have hTw : C6 (b2 + 1) = aI (k 0) 24 w2 := (frC6 _ (by omega)).trans hTw
        have hTe : C6 (b2 + 2) = aI (k 0) 24 e2 := (frC6 _ (by omega)).trans hTe
        have hO : C6 o = .inr (0, [.int (zI a), .int (zI cn), .int (zI (corrF ((cn * sxy) - (sx * sy)) ((cn * sxx) - (sx * sx)) ((cn * syy) - (sy * sy)))), .int (zI t0), .int (zI a0)]) := by rw [hC6]; exact zup_s
        exact hret _ _ _ _ _ d_O_lay_189 hw ⟨by rw [hO]; unfold ovC ovN ovS; rw [← h_cn, ← h_sx, ← h_sy, ← h_sxx, ← h_syy, ← h_sxy], fun j hj => by rw [frC6 j hj, frC3 j hj, frC2 j hj]⟩
      · refine lv_aload_n hx hb d_O_lay_47 rfl (lv_at hl 1 rfl) ?_
        refine lv_iload hx hb d_O_lay_48 (lv_at hl 11 rfl) ?_
        refine zr_callI (va_runV (As := [.int (zI x)]) (rest := []) ⟨hx, hb, hml, hown, hts⟩ (c_S_evenAt l D k N AD C H.size b1 n1 w1 e1 x ⟨by omega, by omega⟩ ⟨by omega, by omega⟩ hS hSw hSe ⟨by omega, by omega⟩) (cwV 1 hts (good_V wk_373 wk_351 wk_352 wk_29 wk_353) rfl rfl rfl (by decide +kernel) ⟨Nat.le_of_ble_eq_true rfl, Nat.le_of_ble_eq_true rfl⟩) (cPre_V hK hw b1 ⟨by omega, by omega⟩ hS rfl) rfl rfl hl.1 rfl (lv_room (Nat.le_of_ble_eq_true rfl)) d_O_lay_50 ⟨Nat.le_of_ble_eq_true rfl, Nat.le_of_ble_eq_true rfl⟩) hw hA (fun r9 C8 H locs hq7 hw => ?_)
        obtain ⟨hr9, hCe⟩ := hq7
        rw [hCe] at hw; subst hr9
        refine lv_istore (lv' := [(17, .int (zI (wAt e1 n1 x))), (0, .ref (AD o)), (1, .ref (AD b1)), (2, .ref (AD b2)), (3, .int (zI a)), (4, .int (zI cn)), (5, .long (zL sx)), (7, .long (zL sy)), (9, .long (zL sxx)), (11, .long (zL syy)), (13, .long (zL sxy)), (15, .int (zI (min n1 (n2 + a)))), (16, .int (zI x))]) hx hb d_O_lay_53 hl (by decide) rfl (fun ls hl => ?_)
        rw [xV_e hev1] at hl
        refine lv_aload_n hx hb d_O_lay_55 rfl (lv_at hl 3 rfl) ?_
        refine lv_iload hx hb d_O_lay_56 (lv_at hl 12 rfl) ?_
        refine lv_iload_n hx hb d_O_lay_58 rfl (lv_at hl 4 rfl) ?_
        refine zr_isub hx hb d_O_lay_59 ?_
        refine zr_callI (va_runV (As := [.int (zI (x - a))]) (rest := []) ⟨hx, hb, hml, hown, hts⟩ (c_S_evenAt l D k N AD C H.size b2 n2 w2 e2 (x - a) ⟨by omega, by omega⟩ ⟨by omega, by omega⟩ hT hTw hTe ⟨by omega, by omega⟩) (cwV 1 hts (good_V wk_373 wk_351 wk_352 wk_29 wk_353) rfl rfl rfl (by decide +kernel) ⟨Nat.le_of_ble_eq_true rfl, Nat.le_of_ble_eq_true rfl⟩) (cPre_V hK hw b2 ⟨by omega, by omega⟩ hT rfl) rfl rfl hl.1 rfl (lv_room (Nat.le_of_ble_eq_true rfl)) d_O_lay_60 ⟨Nat.le_of_ble_eq_true rfl, Nat.le_of_ble_eq_true rfl⟩) hw hA (fun r9 C10 H locs hq9 hw => ?_)
        obtain ⟨hr9, hCe⟩ := hq9
        rw [hCe] at hw; subst hr9
        refine lv_istore (lv' := [(18, .int (zI (wAt e2 n2 (x - a)))), (17, .int (zI (xV w1 n1 x))), (0, .ref (AD o)), (1, .ref (AD b1)), (2, .ref (AD b2)), (3, .int (zI a)), (4, .int (zI cn)), (5, .long (zL sx)), (7, .long (zL sy)), (9, .long (zL sxx)), (11, .long (zL syy)), (13, .long (zL sxy)), (15, .int (zI (min n1 (n2 + a)))), (16, .int (zI x))]) hx hb d_O_lay_63 hl (by decide) rfl (fun ls hl => ?_)
        rw [xV_e hev2] at hl
        have hv1 := xV_in hok1 x
        have hv2 := xV_in hok2 (x - a)
        refine lv_iload hx hb d_O_lay_65 (lv_at hl 1 rfl) ?_
        refine zr_iconst hx hb d_O_lay_67 ?_
        refine zr_icmp_eq (tgt := 129) hx hb ⟨by omega, by omega⟩ ⟨by omega, by omega⟩ d_O_lay_68 (by decide) (fun c11 => ?_) (fun c11 => ?_)
        · have hp1 : xV w1 n1 x = -1 ∨ xV w2 n2 (x - a) = -1 := Or.inl c11
          refine lv_iinc (v := zI (x + 1)) (lv' := [(16, .int (zI (x + 1))), (18, .int (zI (xV w2 n2 (x - a)))), (17, .int (zI (xV w1 n1 x))), (0, .ref (AD o)), (1, .ref (AD b1)), (2, .ref (AD b2)), (3, .int (zI a)), (4, .int (zI cn)), (5, .long (zL sx)), (7, .long (zL sy)), (9, .long (zL sxx)), (11, .long (zL syy)), (13, .long (zL sxy)), (15, .int (zI (min n1 (n2 + a))))]) hx hb d_O_lay_129 hl (k := 13) rfl (zI_add _ _) (by decide) rfl (fun ls hl => ?_)
          refine lv_goto (tgt := 40) hx hb d_O_lay_132 (by decide) ?_
          exact ihlp (x + 1) cn sx sy sxx syy sxy H locs ls (by omega) (by rw [sumR_step _ hx1, ← h_cn, ovT_t hp1]; omega) (by rw [sumR_step _ hx1, ← h_sx, ovT_t hp1]; omega) (by rw [sumR_step _ hx1, ← h_sy, ovT_t hp1]; omega) (by rw [sumR_step _ hx1, ← h_sxx, ovT_t hp1]; omega) (by rw [sumR_step _ hx1, ← h_syy, ovT_t hp1]; omega) (by rw [sumR_step _ hx1, ← h_sxy, ovT_t hp1]; omega) (by omega) (by omega)  (by omega) hw (lv_sub hl [3, 4, 5, 6, 7, 8, 9, 10, 11, 12, 13, 0] rfl)
        · have hp1 := c11
          refine lv_iload hx hb d_O_lay_71 (lv_at hl 0 rfl) ?_
          refine zr_iconst hx hb d_O_lay_73 ?_
          refine zr_icmp_eq (tgt := 129) hx hb ⟨by omega, by omega⟩ ⟨by omega, by omega⟩ d_O_lay_74 (by decide) (fun c12 => ?_) (fun c12 => ?_)
          · have hp1 : xV w1 n1 x = -1 ∨ xV w2 n2 (x - a) = -1 := Or.inr c12
            refine lv_iinc (v := zI (x + 1)) (lv' := [(16, .int (zI (x + 1))), (18, .int (zI (xV w2 n2 (x - a)))), (17, .int (zI (xV w1 n1 x))), (0, .ref (AD o)), (1, .ref (AD b1)), (2, .ref (AD b2)), (3, .int (zI a)), (4, .int (zI cn)), (5, .long (zL sx)), (7, .long (zL sy)), (9, .long (zL sxx)), (11, .long (zL syy)), (13, .long (zL sxy)), (15, .int (zI (min n1 (n2 + a))))]) hx hb d_O_lay_129 hl (k := 13) rfl (zI_add _ _) (by decide) rfl (fun ls hl => ?_)
            refine lv_goto (tgt := 40) hx hb d_O_lay_132 (by decide) ?_
            exact ihlp (x + 1) cn sx sy sxx syy sxy H locs ls (by omega) (by rw [sumR_step _ hx1, ← h_cn, ovT_t hp1]; omega) (by rw [sumR_step _ hx1, ← h_sx, ovT_t hp1]; omega) (by rw [sumR_step _ hx1, ← h_sy, ovT_t hp1]; omega) (by rw [sumR_step _ hx1, ← h_sxx, ovT_t hp1]; omega) (by rw [sumR_step _ hx1, ← h_syy, ovT_t hp1]; omega) (by rw [sumR_step _ hx1, ← h_sxy, ovT_t hp1]; omega) (by omega) (by omega)  (by omega) hw (lv_sub hl [3, 4, 5, 6, 7, 8, 9, 10, 11, 12, 13, 0] rfl)
          · have hp2 := c12
            have hm1 := mul_b (a := xV w1 n1 x) (b := xV w1 n1 x) (A := 200) (B := 200) (by omega) (by omega) (by omega) (by omega)
            have hm2 := mul_b (a := xV w2 n2 (x - a)) (b := xV w2 n2 (x - a)) (A := 200) (B := 200) (by omega) (by omega) (by omega) (by omega)
            have hm3 := mul_b (a := xV w1 n1 x) (b := xV w2 n2 (x - a)) (A := 200) (B := 200) (by omega) (by omega) (by omega) (by omega)
            refine lv_iinc (v := zI (cn + 1)) (lv' := [(4, .int (zI (cn + 1))), (18, .int (zI (xV w2 n2 (x - a)))), (17, .int (zI (xV w1 n1 x))), (0, .ref (AD o)), (1, .ref (AD b1)), (2, .ref (AD b2)), (3, .int (zI a)), (5, .long (zL sx)), (7, .long (zL sy)), (9, .long (zL sxx)), (11, .long (zL syy)), (13, .long (zL sxy)), (15, .int (zI (min n1 (n2 + a)))), (16, .int (zI x))]) hx hb d_O_lay_77 hl (k := 6) rfl (zI_add _ _) (by decide) rfl (fun ls hl => ?_)
            refine lv_lload hx hb d_O_lay_80 (lv_at hl 7 rfl) ?_
            refine lv_iload hx hb d_O_lay_82 (lv_at hl 2 rfl) ?_
            refine zr_i2l hx hb d_O_lay_84 ⟨by omega, by omega⟩ ?_
            refine zr_ladd hx hb d_O_lay_85 ?_
            refine lv_lstore (lv' := [(5, .long (zL (sx + (xV w1 n1 x)))), (4, .int (zI (cn + 1))), (18, .int (zI (xV w2 n2 (x - a)))), (17, .int (zI (xV w1 n1 x))), (0, .ref (AD o)), (1, .ref (AD b1)), (2, .ref (AD b2)), (3, .int (zI a)), (7, .long (zL sy)), (9, .long (zL sxx)), (11, .long (zL syy)), (13, .long (zL sxy)), (15, .int (zI (min n1 (n2 + a)))), (16, .int (zI x))]) hx hb d_O_lay_86 hl (by decide) rfl (fun ls hl => ?_)
            refine lv_lload hx hb d_O_lay_88 (lv_at hl 8 rfl) ?_
            refine lv_iload hx hb d_O_lay_90 (lv_at hl 2 rfl) ?_
            refine zr_i2l hx hb d_O_lay_92 ⟨by omega, by omega⟩ ?_
            refine zr_ladd hx hb d_O_lay_93 ?_
            refine lv_lstore (lv' := [(7, .long (zL (sy + (xV w2 n2 (x - a))))), (5, .long (zL (sx + (xV w1 n1 x)))), (4, .int (zI (cn + 1))), (18, .int (zI (xV w2 n2 (x - a)))), (17, .int (zI (xV w1 n1 x))), (0, .ref (AD o)), (1, .ref (AD b1)), (2, .ref (AD b2)), (3, .int (zI a)), (9, .long (zL sxx)), (11, .long (zL syy)), (13, .long (zL sxy)), (15, .int (zI (min n1 (n2 + a)))), (16, .int (zI x))]) hx hb d_O_lay_94 hl (by decide) rfl (fun ls hl => ?_)
            refine lv_lload hx hb d_O_lay_96 (lv_at hl 9 rfl) ?_
            refine lv_iload hx hb d_O_lay_98 (lv_at hl 4 rfl) ?_
            refine lv_iload hx hb d_O_lay_100 (lv_at hl 4 rfl) ?_
            refine zr_imul hx hb d_O_lay_102 ?_
            refine zr_i2l hx hb d_O_lay_103 ⟨by omega, by omega⟩ ?_
            refine zr_ladd hx hb d_O_lay_104 ?_
            refine lv_lstore (lv' := [(9, .long (zL (sxx + ((xV w1 n1 x) * (xV w1 n1 x))))), (7, .long (zL (sy + (xV w2 n2 (x - a))))), (5, .long (zL (sx + (xV w1 n1 x)))), (4, .int (zI (cn + 1))), (18, .int (zI (xV w2 n2 (x - a)))), (17, .int (zI (xV w1 n1 x))), (0, .ref (AD o)), (1, .ref (AD b1)), (2, .ref (AD b2)), (3, .int (zI a)), (11, .long (zL syy)), (13, .long (zL sxy)), (15, .int (zI (min n1 (n2 + a)))), (16, .int (zI x))]) hx hb d_O_lay_105 hl (by decide) rfl (fun ls hl => ?_)
            refine lv_lload hx hb d_O_lay_107 (lv_at hl 10 rfl) ?_
            refine lv_iload hx hb d_O_lay_109 (lv_at hl 4 rfl) ?_
            refine lv_iload hx hb d_O_lay_111 (lv_at hl 4 rfl) ?_
            refine zr_imul hx hb d_O_lay_113 ?_
            refine zr_i2l hx hb d_O_lay_114 ⟨by omega, by omega⟩ ?_
            refine zr_ladd hx hb d_O_lay_115 ?_
            refine lv_lstore (lv' := [(11, .long (zL (syy + ((xV w2 n2 (x - a)) * (xV w2 n2 (x - a)))))), (9, .long (zL (sxx + ((xV w1 n1 x) * (xV w1 n1 x))))), (7, .long (zL (sy + (xV w2 n2 (x - a))))), (5, .long (zL (sx + (xV w1 n1 x)))), (4, .int (zI (cn + 1))), (18, .int (zI (xV w2 n2 (x - a)))), (17, .int (zI (xV w1 n1 x))), (0, .ref (AD o)), (1, .ref (AD b1)), (2, .ref (AD b2)), (3, .int (zI a)), (13, .long (zL sxy)), (15, .int (zI (min n1 (n2 + a)))), (16, .int (zI x))]) hx hb d_O_lay_116 hl (by decide) rfl (fun ls hl => ?_)
            refine lv_lload hx hb d_O_lay_118 (lv_at hl 11 rfl) ?_
            refine lv_iload hx hb d_O_lay_120 (lv_at hl 6 rfl) ?_
            refine lv_iload hx hb d_O_lay_122 (lv_at hl 5 rfl) ?_
            refine zr_imul hx hb d_O_lay_124 ?_
            refine zr_i2l hx hb d_O_lay_125 ⟨by omega, by omega⟩ ?_
            refine zr_ladd hx hb d_O_lay_126 ?_
            refine lv_lstore (lv' := [(13, .long (zL (sxy + ((xV w1 n1 x) * (xV w2 n2 (x - a)))))), (11, .long (zL (syy + ((xV w2 n2 (x - a)) * (xV w2 n2 (x - a)))))), (9, .long (zL (sxx + ((xV w1 n1 x) * (xV w1 n1 x))))), (7, .long (zL (sy + (xV w2 n2 (x - a))))), (5, .long (zL (sx + (xV w1 n1 x)))), (4, .int (zI (cn + 1))), (18, .int (zI (xV w2 n2 (x - a)))), (17, .int (zI (xV w1 n1 x))), (0, .ref (AD o)), (1, .ref (AD b1)), (2, .ref (AD b2)), (3, .int (zI a)), (15, .int (zI (min n1 (n2 + a)))), (16, .int (zI x))]) hx hb d_O_lay_127 hl (by decide) rfl (fun ls hl => ?_)
            refine lv_iinc (v := zI (x + 1)) (lv' := [(16, .int (zI (x + 1))), (13, .long (zL (sxy + ((xV w1 n1 x) * (xV w2 n2 (x - a)))))), (11, .long (zL (syy + ((xV w2 n2 (x - a)) * (xV w2 n2 (x - a)))))), (9, .long (zL (sxx + ((xV w1 n1 x) * (xV w1 n1 x))))), (7, .long (zL (sy + (xV w2 n2 (x - a))))), (5, .long (zL (sx + (xV w1 n1 x)))), (4, .int (zI (cn + 1))), (18, .int (zI (xV w2 n2 (x - a)))), (17, .int (zI (xV w1 n1 x))), (0, .ref (AD o)), (1, .ref (AD b1)), (2, .ref (AD b2)), (3, .int (zI a)), (15, .int (zI (min n1 (n2 + a))))]) hx hb d_O_lay_129 hl (k := 13) rfl (zI_add _ _) (by decide) rfl (fun ls hl => ?_)
            refine lv_goto (tgt := 40) hx hb d_O_lay_132 (by decide) ?_
            exact ihlp (x + 1) (cn + 1) (sx + (xV w1 n1 x)) (sy + (xV w2 n2 (x - a))) (sxx + ((xV w1 n1 x) * (xV w1 n1 x))) (syy + ((xV w2 n2 (x - a)) * (xV w2 n2 (x - a)))) (sxy + ((xV w1 n1 x) * (xV w2 n2 (x - a)))) H locs ls (by omega) (by rw [sumR_step _ hx1, ← h_cn, ovT_f hp1 hp2]) (by rw [sumR_step _ hx1, ← h_sx, ovT_f hp1 hp2]) (by rw [sumR_step _ hx1, ← h_sy, ovT_f hp1 hp2]) (by rw [sumR_step _ hx1, ← h_sxx, ovT_f hp1 hp2]) (by rw [sumR_step _ hx1, ← h_syy, ovT_f hp1 hp2]) (by rw [sumR_step _ hx1, ← h_sxy, ovT_f hp1 hp2]) (by omega) (by omega)  (by omega) hw (lv_sub hl [9, 10, 11, 12, 6, 5, 4, 3, 2, 1, 13, 0] rfl)
  exact lp ((min n1 (n2 + a) - (max 0 a) : Int).toNat + 1) (max 0 a) 0 0 0 0 0 0 H locs ls (by omega) (sumR_self _ _).symm (sumR_self _ _).symm (sumR_self _ _).symm (sumR_self _ _).symm (sumR_self _ _).symm (sumR_self _ _).symm (by omega) (by omega)  (by omega) hw (lv_sub hl [8, 9, 10, 11, 7, 6, 5, 4, 3, 2, 1, 0] rfl)
/-- what a place adds to the number of rises, to the agreement -/
def rsT (w1 : Int → Int) (n1 : Int) (w2 : Int → Int) (n2 a p : Int) : Int := if (wAt w1 n1 (p - 1) = -1 ∨ wAt w2 n2 (p - 1 - a) = -1) ∨ (wAt w1 n1 p = -1 ∨ wAt w2 n2 (p - a) = -1) then 0 else 1
def agT (w1 : Int → Int) (n1 : Int) (w2 : Int → Int) (n2 a p : Int) : Int := if (wAt w1 n1 (p - 1) = -1 ∨ wAt w2 n2 (p - 1 - a) = -1) ∨ (wAt w1 n1 p = -1 ∨ wAt w2 n2 (p - a) = -1) then 0 else lik (ris w1 n1 p) (ris w2 n2 (p - a))
def ovR (w1 : Int → Int) (n1 : Int) (w2 : Int → Int) (n2 a : Int) : Int := sumR (rsT w1 n1 w2 n2 a) (max 0 a + 1) (min n1 (n2 + a) - (max 0 a + 1)).toNat
def ovA (w1 : Int → Int) (n1 : Int) (w2 : Int → Int) (n2 a : Int) : Int := sumR (agT w1 n1 w2 n2 a) (max 0 a + 1) (min n1 (n2 + a) - (max 0 a + 1)).toNat
abbrev rm_O_compareRises : Room := { frames := 3, cells := 0, slots := 0, locals := 65 }
set_option maxHeartbeats 4000000 in
set_option maxRecDepth 100000 in
theorem c_O_compareRises (l : Launch) (D : va_G) (k : Nat → ClassId) (N : Nat) (AD : Int → Nat) (C : Int → va_E) (sz : Nat) (o : Int) (s0 : Int) (p0 : Int) (r0 : Int) (t0 : Int) (a0 : Int) (b1 : Int) (n1 : Int) (w1 : Int → Int) (e1 : Int → Int) (b2 : Int) (n2 : Int) (w2 : Int → Int) (e2 : Int → Int) (ho : 0 ≤ o ∧ o < (N : Int)) (hO : C o = .inr (0, [.int (zI s0), .int (zI p0), .int (zI r0), .int (zI t0), .int (zI a0)])) (hb1 : 0 ≤ b1 ∧ b1 + 2 < (N : Int)) (hn1 : 0 ≤ n1 ∧ n1 ≤ 24) (hS : C b1 = .inr (2, [.ref (AD (b1 + 1)), .ref (AD (b1 + 2)), .int (zI n1)])) (hSw : C (b1 + 1) = aI (k 0) 24 w1) (hSe : C (b1 + 2) = aI (k 0) 24 e1) (hb2 : 0 ≤ b2 ∧ b2 + 2 < (N : Int)) (hn2 : 0 ≤ n2 ∧ n2 ≤ 24) (hT : C b2 = .inr (2, [.ref (AD (b2 + 1)), .ref (AD (b2 + 2)), .int (zI n2)])) (hTw : C (b2 + 1) = aI (k 0) 24 w2) (hTe : C (b2 + 2) = aI (k 0) 24 e2) (hok1 : WOK w1 n1) (hok2 : WOK w2 n2) (ha : -24 ≤ s0 ∧ s0 ≤ 24) (hd1 : o < b1 ∨ b1 + 2 < o) (hd2 : o < b2 ∨ b2 + 2 < o) : MV l y_O_compareRises (Cond.code y_O_compareRises b_O_compareRises 5 (Option.none : Option FieldType) :: WS) rm_O_compareRises D clW (tyW k) N AD C sz [.ref (AD o), .ref (AD b1), .ref (AD b2)] (fun C' => C' o = .inr (0, [.int (zI s0), .int (zI p0), .int (zI r0), .int (zI (ovR w1 n1 w2 n2 s0)), .int (zI (ovA w1 n1 w2 n2 s0))]) ∧ ∀ j : Int, j ≠ o → C' j = C j) := by
  refine MV.start (cc := b_O_compareRises) (maxL := 5) (by decide) rfl (Nat.le_of_ble_eq_true rfl) ?_
  intro p e s m args below meth c Q ls hx hb hml hown hts hK hsz hw hl hret
  have hown : s.vm.findClass "RingMatches$Overlap" = some m.cls := hown
  have hl : lv_has ls 5 [(0, .ref (AD o)), (1, .ref (AD b1)), (2, .ref (AD b2))] := hl
  have hA := wA_hi (N := N) (AD := AD) hsz
  obtain ⟨H, hH⟩ : ∃ H, H = s.heap := ⟨_, rfl⟩
  obtain ⟨locs, hlocs⟩ : ∃ z : List Loc, z = [] := ⟨_, rfl⟩
  have hw : WD D clW (wA N AD sz) s.heap H locs N AD C := by rw [hH, hlocs]; exact hw
  rw [← hlocs]
  suffices hgo : W p l e rm_O_compareRises s m args below meth c H locs 0 0 Q (F0 m 0 ls []) by rw [hH] at hgo; exact hgo
  obtain ⟨C0, hC0⟩ : ∃ z : Int → va_E, z = C := ⟨_, rfl⟩
  rw [← hC0] at hret
  refine lv_aload_n hx hb d_O_compareRises_0 rfl (lv_at hl 0 rfl) ?_
  refine zr_iconst hx hb d_O_compareRises_1 ?_
  refine zr_put (ty := .int) (v := .int (zI 0)) hx hb hts iw_O tyO tyO_ok nmO hown hK hw o ⟨by omega, by omega⟩ hO rfl 3 (by decide) (hts _ wk_95) (fun _ h => h) rfl (by decide +kernel) rfl rfl (Nat.le_of_ble_eq_true rfl) d_O_compareRises_2 (fun H locs hw => ?_)
  obtain ⟨C1, hC1⟩ : ∃ z : Int → va_E, z = zup C o (.inr (0, [.int (zI s0), .int (zI p0), .int (zI r0), .int (zI 0), .int (zI a0)])) := ⟨_, rfl⟩
  have hw : WD D clW (wA N AD sz) s.heap H locs N AD C1 := by rw [hC1]; exact hw
  have frC1 : ∀ j : Int, j ≠ o → C1 j = C j := fun j h => by rw [hC1]; exact zup_n h
  have hS : C1 b1 = .inr (2, [.ref (AD (b1 + 1)), .ref (AD (b1 + 2)), .int (zI n1)]) := (frC1 _ (by omega)).trans hS
  have hSw : C1 (b1 + 1) = aI (k 0) 24 w1 := (frC1 _ (by omega)).trans hSw
  have hSe : C1 (b1 + 2) = aI (k 0) 24 e1 := (frC1 _ (by omega)).trans hSe
  have hT : C1 b2 = .inr (2, [.ref (AD (b2 + 1)), .ref (AD (b2 + 2)), .int (zI n2)]) := (frC1 _ (by omega)).trans hT
  have hTw : C1 (b2 + 1) = aI (k 0) 24 w2 := (frC1 _ (by omega)).trans hTw
  have hTe : C1 (b2 + 2) = aI (k 0) 24 e2 := (frC1 _ (by omega)).trans hTe
  have hO : C1 o = .inr (0, [.int (zI s0), .int (zI p0), .int (zI r0), .int (zI 0), .int (zI a0)]) := by rw [hC1]; exact zup_s
  refine lv_aload_n hx hb d_O_compareRises_5 rfl (lv_at hl 0 rfl) ?_
  refine zr_iconst hx hb d_O_compareRises_6 ?_
  refine zr_put (ty := .int) (v := .int (zI 0)) hx hb hts iw_O tyO tyO_ok nmO hown hK hw o ⟨by omega, by omega⟩ hO rfl 4 (by decide) (hts _ wk_97) (fun _ h => h) rfl (by decide +kernel) rfl rfl (Nat.le_of_ble_eq_true rfl) d_O_compareRises_7 (fun H locs hw => ?_)
  obtain ⟨C2, hC2⟩ : ∃ z : Int → va_E, z = zup C1 o (.inr (0, [.int (zI s0), .int (zI p0), .int (zI r0), .int (zI 0), .int (zI 0)])) := ⟨_, rfl⟩
  have hw : WD D clW (wA N AD sz) s.heap H locs N AD C2 := by rw [hC2]; exact hw
  have frC2 : ∀ j : Int, j ≠ o → C2 j = C1 j := fun j h => by rw [hC2]; exact zup_n h
  have hS : C2 b1 = .inr (2, [.ref (AD (b1 + 1)), .ref (AD (b1 + 2)), .int (zI n1)]) := (frC2 _ (by omega)).trans hS
  have hSw : C2 (b1 + 1) = aI (k 0) 24 w1 := (frC2 _ (by omega)).trans hSw
  have hSe : C2 (b1 + 2) = aI (k 0) 24 e1 := (frC2 _ (by omega)).trans hSe
  have hT : C2 b2 = .inr (2, [.ref (AD (b2 + 1)), .ref (AD (b2 + 2)), .int (zI n2)]) := (frC2 _ (by omega)).trans hT
  have hTw : C2 (b2 + 1) = aI (k 0) 24 w2 := (frC2 _ (by omega)).trans hTw
  have hTe : C2 (b2 + 2) = aI (k 0) 24 e2 := (frC2 _ (by omega)).trans hTe
  have hO : C2 o = .inr (0, [.int (zI s0), .int (zI p0), .int (zI r0), .int (zI 0), .int (zI 0)]) := by rw [hC2]; exact zup_s
  refine lv_aload_n hx hb d_O_compareRises_10 rfl (lv_at hl 1 rfl) ?_
  refine zr_get (v := .int (zI n1)) hx hb hts iw_S hown hK hw b1 ⟨by omega, by omega⟩ hS rfl 2 (by decide) (hts _ wk_72) (fun _ h => h) rfl d_O_compareRises_11 ?_
  refine lv_aload_n hx hb d_O_compareRises_14 rfl (lv_at hl 2 rfl) ?_
  refine zr_get (v := .int (zI n2)) hx hb hts iw_S hown hK hw b2 ⟨by omega, by omega⟩ hT rfl 2 (by decide) (hts _ wk_72) (fun _ h => h) rfl d_O_compareRises_15 ?_
  refine lv_aload_n hx hb d_O_compareRises_18 rfl (lv_at hl 0 rfl) ?_
  refine zr_get (v := .int (zI s0)) hx hb hts iw_O hown hK hw o ⟨by omega, by omega⟩ hO rfl 0 (by decide) (hts _ wk_89) (fun _ h => h) rfl d_O_compareRises_19 ?_
  refine zr_iadd hx hb d_O_compareRises_22 ?_
  refine zr_min hx hb (hml.trans hl.1.symm) hown hts wk_369 (Nat.le_of_ble_eq_true rfl) (Nat.le_of_ble_eq_true rfl) (Nat.le_of_ble_eq_true rfl) (Nat.le_of_ble_eq_true rfl) ⟨by omega, by omega⟩ ⟨by omega, by omega⟩ d_O_compareRises_23 ?_
  refine lv_istore_n (lv' := [(3, .int (zI (min n1 (n2 + s0)))), (0, .ref (AD o)), (1, .ref (AD b1)), (2, .ref (AD b2))]) hx hb d_O_compareRises_26 rfl hl (by decide) rfl (fun ls hl => ?_)
  refine zr_iconst hx hb d_O_compareRises_27 ?_
  refine lv_aload_n hx hb d_O_compareRises_28 rfl (lv_at hl 1 rfl) ?_
  refine zr_get (v := .int (zI s0)) hx hb hts iw_O hown hK hw o ⟨by omega, by omega⟩ hO rfl 0 (by decide) (hts _ wk_89) (fun _ h => h) rfl d_O_compareRises_29 ?_
  refine zr_max hx hb (hml.trans hl.1.symm) hown hts wk_370 (Nat.le_of_ble_eq_true rfl) (Nat.le_of_ble_eq_true rfl) (Nat.le_of_ble_eq_true rfl) (Nat.le_of_ble_eq_true rfl) ⟨by omega, by omega⟩ ⟨by omega, by omega⟩ d_O_compareRises_32 ?_
  refine zr_iconst hx hb d_O_compareRises_35 ?_
  refine zr_iadd hx hb d_O_compareRises_36 ?_
  refine lv_istore (lv' := [(4, .int (zI ((max 0 s0) + 1))), (3, .int (zI (min n1 (n2 + s0)))), (0, .ref (AD o)), (1, .ref (AD b1)), (2, .ref (AD b2))]) hx hb d_O_compareRises_37 hl (by decide) rfl (fun ls hl => ?_)
  have lp : ∀ (n9 : Nat) (x : Int) (st : Int) (ag : Int) (C : Int → va_E) (H : Heap) (locs : List Loc) (ls : Array Slot), (max 0 s0 + 1 ≤ x) → (st = sumR (rsT w1 n1 w2 n2 s0) (max 0 s0 + 1) (x - (max 0 s0 + 1)).toNat) → (ag = sumR (agT w1 n1 w2 n2 s0) (max 0 s0 + 1) (x - (max 0 s0 + 1)).toNat) → (0 ≤ st ∧ st ≤ x - (max 0 s0 + 1) ∧ 0 ≤ ag ∧ ag ≤ 2 * st) → (x ≤ max (max 0 s0 + 1) (min n1 (n2 + s0))) → (∀ j : Int, j ≠ o → C j = C0 j) → (C b1 = .inr (2, [.ref (AD (b1 + 1)), .ref (AD (b1 + 2)), .int (zI n1)])) → (C (b1 + 1) = aI (k 0) 24 w1) → (C (b1 + 2) = aI (k 0) 24 e1) → (C b2 = .inr (2, [.ref (AD (b2 + 1)), .ref (AD (b2 + 2)), .int (zI n2)])) → (C (b2 + 1) = aI (k 0) 24 w2) → (C (b2 + 2) = aI (k 0) 24 e2) → (C o = .inr (0, [.int (zI s0), .int (zI p0), .int (zI r0), .int (zI st), .int (zI ag)])) → (min n1 (n2 + s0) - x).toNat < n9 → WD D clW (wA N AD sz) s.heap H locs N AD C → lv_has ls 5 [(0, .ref (AD o)), (1, .ref (AD b1)), (2, .ref (AD b2)), (3, .int (zI (min n1 (n2 + s0)))), (4, .int (zI x))] → W p l e rm_O_compareRises s m args below meth c H locs 0 0 Q (F0 m 39 ls []) := by
    intro n9
    induction n9 with
    | zero => intro x st ag C H locs ls hx1 hst hag hbd hx2 hfr hS hSw hSe hT hTw hTe hO hm hw hl; exact absurd hm (by omega)
    | succ n9 ihlp =>
      intro x st ag C H locs ls hx1 hst hag hbd hx2 hfr hS hSw hSe hT hTw hTe hO hm hw hl
      refine lv_iload hx hb d_O_compareRises_39 (lv_at hl 4 rfl) ?_
      refine lv_iload_n hx hb d_O_compareRises_41 rfl (lv_at hl 3 rfl) ?_
      refine zr_icmp_ge (tgt := 114) hx hb ⟨by omega, by omega⟩ ⟨by omega, by omega⟩ d_O_compareRises_42 (by decide) (fun c3 => ?_) (fun c3 => ?_)
      · have hxe : (x - (max 0 s0 + 1)).toNat = (min n1 (n2 + s0) - (max 0 s0 + 1)).toNat := by omega
        rw [hxe] at hst hag
        exact hret _ _ _ _ _ d_O_compareRises_114 hw ⟨by rw [hO]; unfold ovR ovA; rw [← hst, ← hag], hfr⟩
      · refine lv_aload_n hx hb d_O_compareRises_45 rfl (lv_at hl 0 rfl) ?_
        refine lv_aload_n hx hb d_O_compareRises_46 rfl (lv_at hl 1 rfl) ?_
        refine lv_aload_n hx hb d_O_compareRises_47 rfl (lv_at hl 2 rfl) ?_
        refine lv_iload hx hb d_O_compareRises_48 (lv_at hl 4 rfl) ?_
        refine zr_iconst hx hb d_O_compareRises_50 ?_
        refine zr_isub hx hb d_O_compareRises_51 ?_
        refine zr_callI (va_runV (As := [.ref (AD b1), .ref (AD b2), .int (zI (x - 1))]) (rest := []) ⟨hx, hb, hml, hown, hts⟩ (c_O_isPair l D k N AD C H.size o s0 p0 r0 st ag b1 n1 w1 e1 b2 n2 w2 e2 (x - 1) ⟨by omega, by omega⟩ hO ⟨by omega, by omega⟩ ⟨by omega, by omega⟩ hS hSw hSe ⟨by omega, by omega⟩ ⟨by omega, by omega⟩ hT hTw hTe hok1 hok2 (by omega) (by omega)) (cwV 3 hts (good_V wk_382 wk_384 wk_4 wk_30 wk_385) rfl rfl rfl (by decide +kernel) ⟨Nat.le_of_ble_eq_true rfl, Nat.le_of_ble_eq_true rfl⟩) (cPre_V hK hw o ⟨by omega, by omega⟩ hO rfl) rfl rfl hl.1 rfl (lv_room (Nat.le_of_ble_eq_true rfl)) d_O_compareRises_52 ⟨Nat.le_of_ble_eq_true rfl, Nat.le_of_ble_eq_true rfl⟩) hw hA (fun r9 C5 H locs hq4 hw => ?_)
        obtain ⟨hq4, hCe⟩ := hq4
        rw [hCe] at hw
        rcases hq4 with ⟨hr9, hq4⟩ | ⟨hr9, hq4⟩ <;> subst hr9
        · refine zr_if_eq (tgt := 108) hx hb ⟨by omega, by omega⟩ d_O_compareRises_55 (by decide) (fun c9 => absurd c9 (by decide)) (fun c6 => ?_)
          refine lv_aload_n hx hb d_O_compareRises_58 rfl (lv_at hl 0 rfl) ?_
          refine lv_aload_n hx hb d_O_compareRises_59 rfl (lv_at hl 1 rfl) ?_
          refine lv_aload_n hx hb d_O_compareRises_60 rfl (lv_at hl 2 rfl) ?_
          refine lv_iload hx hb d_O_compareRises_61 (lv_at hl 4 rfl) ?_
          refine zr_callI (va_runV (As := [.ref (AD b1), .ref (AD b2), .int (zI x)]) (rest := []) ⟨hx, hb, hml, hown, hts⟩ (c_O_isPair l D k N AD C H.size o s0 p0 r0 st ag b1 n1 w1 e1 b2 n2 w2 e2 x ⟨by omega, by omega⟩ hO ⟨by omega, by omega⟩ ⟨by omega, by omega⟩ hS hSw hSe ⟨by omega, by omega⟩ ⟨by omega, by omega⟩ hT hTw hTe hok1 hok2 (by omega) (by omega)) (cwV 3 hts (good_V wk_382 wk_384 wk_4 wk_30 wk_385) rfl rfl rfl (by decide +kernel) ⟨Nat.le_of_ble_eq_true rfl, Nat.le_of_ble_eq_true rfl⟩) (cPre_V hK hw o ⟨by omega, by omega⟩ hO rfl) rfl rfl hl.1 rfl (lv_room (Nat.le_of_ble_eq_true rfl)) d_O_compareRises_63 ⟨Nat.le_of_ble_eq_true rfl, Nat.le_of_ble_eq_true rfl⟩) hw hA (fun r9 C8 H locs hq7 hw => ?_)
          obtain ⟨hq7, hCe⟩ := hq7
          rw [hCe] at hw
          rcases hq7 with ⟨hr9, hq7⟩ | ⟨hr9, hq7⟩ <;> subst hr9
          · refine zr_if_eq (tgt := 108) hx hb ⟨by omega, by omega⟩ d_O_compareRises_66 (by decide) (fun c9 => absurd c9 (by decide)) (fun c9 => ?_)
            refine lv_aload_n hx hb d_O_compareRises_69 rfl (lv_at hl 0 rfl) ?_
            refine lv_dup hx hb d_O_compareRises_70 rfl ?_
            refine zr_get (v := .int (zI st)) hx hb hts iw_O hown hK hw o ⟨by omega, by omega⟩ hO rfl 3 (by decide) (hts _ wk_95) (fun _ h => h) rfl d_O_compareRises_71 ?_
            refine zr_iconst hx hb d_O_compareRises_74 ?_
            refine zr_iadd hx hb d_O_compareRises_75 ?_
            refine zr_put (ty := .int) (v := .int (zI (st + 1))) hx hb hts iw_O tyO tyO_ok nmO hown hK hw o ⟨by omega, by omega⟩ hO rfl 3 (by decide) (hts _ wk_95) (fun _ h => h) rfl (by decide +kernel) rfl rfl (Nat.le_of_ble_eq_true rfl) d_O_compareRises_76 (fun H locs hw => ?_)
            obtain ⟨C10, hC10⟩ : ∃ z : Int → va_E, z = zup C o (.inr (0, [.int (zI s0), .int (zI p0), .int (zI r0), .int (zI (st + 1)), .int (zI ag)])) := ⟨_, rfl⟩
            have hw : WD D clW (wA N AD sz) s.heap H locs N AD C10 := by rw [hC10]; exact hw
            have frC10 : ∀ j : Int, j ≠ o → C10 j = C j := fun j h => by rw [hC10]; exact zup_n h
            have hS : C10 b1 = .inr (2, [.ref (AD (b1 + 1)), .ref (AD (b1 + 2)), .int (zI n1)]) := (frC10 _ (by omega)).trans hS
            have hSw : C10 (b1 + 1) = aI (k 0) 24 w1 := (frC10 _ (by omega)).trans hSw
            have hSe : C10 (b1 + 2) = aI (k 0) 24 e1 := (frC10 _ (by omega)).trans hSe
            have hT : C10 b2 = .inr (2, [.ref (AD (b2 + 1)), .ref (AD (b2 + 2)), .int (zI n2)]) := (frC10 _ (by omega)).trans hT
            have hTw : C10 (b2 + 1) = aI (k 0) 24 w2 := (frC10 _ (by omega)).trans hTw
            have hTe : C10 (b2 + 2) = aI (k 0) 24 e2 := (frC10 _ (by omega)).trans hTe
            have hO : C10 o = .inr (0, [.int (zI s0), .int (zI p0), .int (zI r0), .int (zI (st + 1)), .int (zI ag)]) := by rw [hC10]; exact zup_s
            refine lv_aload_n hx hb d_O_compareRises_79 rfl (lv_at hl 0 rfl) ?_
            refine lv_dup hx hb d_O_compareRises_80 rfl ?_
            refine zr_get (v := .int (zI ag)) hx hb hts iw_O hown hK hw o ⟨by omega, by omega⟩ hO rfl 4 (by decide) (hts _ wk_97) (fun _ h => h) rfl d_O_compareRises_81 ?_
            refine lv_aload_n hx hb d_O_compareRises_84 rfl (lv_at hl 1 rfl) ?_
            refine lv_iload hx hb d_O_compareRises_85 (lv_at hl 4 rfl) ?_
            refine zr_callI (va_runS (As := [.ref (AD b1), .int (zI x)]) (rest := [.int (zI ag), .ref (AD o)]) ⟨hx, hb, hml, hown, hts⟩ (c_O_rise l D k N AD C10 H.size b1 n1 w1 e1 x ⟨by omega, by omega⟩ ⟨by omega, by omega⟩ hS hSw hSe hok1 (by omega)) (va_cwS 2 hts (good_S wk_387 wk_388 wk_30 wk_389) rfl rfl rfl (by decide +kernel) ⟨Nat.le_of_ble_eq_true rfl, Nat.le_of_ble_eq_true rfl⟩) (cPre_S hK hw) rfl rfl hl.1 rfl (lv_room (Nat.le_of_ble_eq_true rfl)) d_O_compareRises_87 ⟨Nat.le_of_ble_eq_true rfl, Nat.le_of_ble_eq_true rfl⟩) hw hA (fun r9 C12 H locs hq11 hw => ?_)
            obtain ⟨hr9, hCe⟩ := hq11
            rw [hCe] at hw; subst hr9
            refine lv_aload_n hx hb d_O_compareRises_90 rfl (lv_at hl 2 rfl) ?_
            refine lv_iload hx hb d_O_compareRises_91 (lv_at hl 4 rfl) ?_
            refine lv_aload_n hx hb d_O_compareRises_93 rfl (lv_at hl 0 rfl) ?_
            refine zr_get (v := .int (zI s0)) hx hb hts iw_O hown hK hw o ⟨by omega, by omega⟩ hO rfl 0 (by decide) (hts _ wk_89) (fun _ h => h) rfl d_O_compareRises_94 ?_
            refine zr_isub hx hb d_O_compareRises_97 ?_
            refine zr_callI (va_runS (As := [.ref (AD b2), .int (zI (x - s0))]) (rest := [.int (zI (ris w1 n1 x)), .int (zI ag), .ref (AD o)]) ⟨hx, hb, hml, hown, hts⟩ (c_O_rise l D k N AD C10 H.size b2 n2 w2 e2 (x - s0) ⟨by omega, by omega⟩ ⟨by omega, by omega⟩ hT hTw hTe hok2 (by omega)) (va_cwS 2 hts (good_S wk_387 wk_388 wk_30 wk_389) rfl rfl rfl (by decide +kernel) ⟨Nat.le_of_ble_eq_true rfl, Nat.le_of_ble_eq_true rfl⟩) (cPre_S hK hw) rfl rfl hl.1 rfl (lv_room (Nat.le_of_ble_eq_true rfl)) d_O_compareRises_98 ⟨Nat.le_of_ble_eq_true rfl, Nat.le_of_ble_eq_true rfl⟩) hw hA (fun r9 C14 H locs hq13 hw => ?_)
            obtain ⟨hr9, hCe⟩ := hq13
            rw [hCe] at hw; subst hr9
            have hr1 := ris_in w1 n1 x
            have hr2 := ris_in w2 n2 (x - s0)
            refine zr_callI (va_runS (As := [.int (zI (ris w1 n1 x)), .int (zI (ris w2 n2 (x - s0)))]) (rest := [.int (zI ag), .ref (AD o)]) ⟨hx, hb, hml, hown, hts⟩ (c_O_likeness l D k N AD C10 H.size (ris w1 n1 x) (ris w2 n2 (x - s0)) ⟨by omega, by omega⟩ ⟨by omega, by omega⟩) (va_cwS 2 hts (good_S wk_390 wk_391 wk_30 wk_392) rfl rfl rfl (by decide +kernel) ⟨Nat.le_of_ble_eq_true rfl, Nat.le_of_ble_eq_true rfl⟩) (cPre_S hK hw) rfl rfl hl.1 rfl (lv_room (Nat.le_of_ble_eq_true rfl)) d_O_compareRises_101 ⟨Nat.le_of_ble_eq_true rfl, Nat.le_of_ble_eq_true rfl⟩) hw hA (fun r9 C16 H locs hq15 hw => ?_)
            obtain ⟨hr9, hCe⟩ := hq15
            rw [hCe] at hw; subst hr9
            have hl9 := lik_in (ris w1 n1 x) (ris w2 n2 (x - s0))
            refine zr_iadd hx hb d_O_compareRises_104 ?_
            refine zr_put (ty := .int) (v := .int (zI (ag + (lik (ris w1 n1 x) (ris w2 n2 (x - s0)))))) hx hb hts iw_O tyO tyO_ok nmO hown hK hw o ⟨by omega, by omega⟩ hO rfl 4 (by decide) (hts _ wk_97) (fun _ h => h) rfl (by decide +kernel) rfl rfl (Nat.le_of_ble_eq_true rfl) d_O_compareRises_105 (fun H locs hw => ?_)
            obtain ⟨C17, hC17⟩ : ∃ z : Int → va_E, z = zup C10 o (.inr (0, [.int (zI s0), .int (zI p0), .int (zI r0), .int (zI (st + 1)), .int (zI (ag + (lik (ris w1 n1 x) (ris w2 n2 (x - s0)))))])) := ⟨_, rfl⟩
            have hw : WD D clW (wA N AD sz) s.heap H locs N AD C17 := by rw [hC17]; exact hw
            have frC17 : ∀ j : Int, j ≠ o → C17 j = C10 j := fun j h => by rw [hC17]; exact zup_n h
            have hS : C17 b1 = .inr (2, [.ref (AD (b1 + 1)), .ref (AD (b1 + 2)), .int (zI n1)]) := (frC17 _ (by omega)).trans hS
            have hSw : C17 (b1 + 1) = aI (k 0) 24 w1 := (frC17 _ (by omega)).trans hSw
            have hSe : C17 (b1 + 2) = aI (k 0) 24 e1 := (frC17 _ (by omega)).trans hSe
            have hT : C17 b2 = .inr (2, [.ref (AD (b2 + 1)), .ref (AD (b2 + 2)), .int (zI n2)]) := (frC17 _ (by omega)).trans hT
            have hTw : C17 (b2 + 1) = aI (k 0) 24 w2 := (frC17 _ (by omega)).trans hTw
            have hTe : C17 (b2 + 2) = aI (k 0) 24 e2 := (frC17 _ (by omega)).trans hTe
            have hO : C17 o = .inr (0, [.int (zI s0), .int (zI p0), .int (zI r0), .int (zI (st + 1)), .int (zI (ag + (lik (ris w1 n1 x) (ris w2 n2 (x - s0)))))]) := by rw [hC17]; exact zup_s
            refine lv_iinc (v := zI (x + 1)) (lv' := [(4, .int (zI (x + 1))), (0, .ref (AD o)), (1, .ref (AD b1)), (2, .ref (AD b2)), (3, .int (zI (min n1 (n2 + s0))))]) hx hb d_O_compareRises_108 hl (k := 4) rfl (zI_add _ _) (by decide) rfl (fun ls hl => ?_)
            refine lv_goto (tgt := 39) hx hb d_O_compareRises_111 (by decide) ?_
            exact ihlp (x + 1) (st + 1) (ag + (lik (ris w1 n1 x) (ris w2 n2 (x - s0)))) C17 H locs ls (by omega) (by rw [sumR_step _ hx1, ← hst]; unfold rsT; rw [if_neg (by omega)]) (by rw [sumR_step _ hx1, ← hag]; unfold agT; rw [if_neg (by omega)]) (by omega) (by omega) (fun j hj => by rw [frC17 j hj, frC10 j hj]; exact hfr j hj) hS hSw hSe hT hTw hTe hO (by omega) hw (lv_sub hl [1, 2, 3, 4, 0] rfl)
          · refine zr_if_eq (tgt := 108) hx hb ⟨by omega, by omega⟩ d_O_compareRises_66 (by decide) (fun c18 => ?_) (fun c9 => absurd c9 (by decide))
            refine lv_iinc (v := zI (x + 1)) (lv' := [(4, .int (zI (x + 1))), (0, .ref (AD o)), (1, .ref (AD b1)), (2, .ref (AD b2)), (3, .int (zI (min n1 (n2 + s0))))]) hx hb d_O_compareRises_108 hl (k := 4) rfl (zI_add _ _) (by decide) rfl (fun ls hl => ?_)
            refine lv_goto (tgt := 39) hx hb d_O_compareRises_111 (by decide) ?_
            exact ihlp (x + 1) st ag C H locs ls (by omega) (by rw [sumR_step _ hx1, ← hst]; unfold rsT; rw [if_pos (by omega)]; omega) (by rw [sumR_step _ hx1, ← hag]; unfold agT; rw [if_pos (by omega)]; omega) (by omega) (by omega) hfr hS hSw hSe hT hTw hTe hO (by omega) hw (lv_sub hl [1, 2, 3, 4, 0] rfl)
        · refine zr_if_eq (tgt := 108) hx hb ⟨by omega, by omega⟩ d_O_compareRises_55 (by decide) (fun c19 => ?_) (fun c9 => absurd c9 (by decide))
          refine lv_iinc (v := zI (x + 1)) (lv' := [(4, .int (zI (x + 1))), (0, .ref (AD o)), (1, .ref (AD b1)), (2, .ref (AD b2)), (3, .int (zI (min n1 (n2 + s0))))]) hx hb d_O_compareRises_108 hl (k := 4) rfl (zI_add _ _) (by decide) rfl (fun ls hl => ?_)
          refine lv_goto (tgt := 39) hx hb d_O_compareRises_111 (by decide) ?_
          exact ihlp (x + 1) st ag C H locs ls (by omega) (by rw [sumR_step _ hx1, ← hst]; unfold rsT; rw [if_pos (by omega)]; omega) (by rw [sumR_step _ hx1, ← hag]; unfold agT; rw [if_pos (by omega)]; omega) (by omega) (by omega) hfr hS hSw hSe hT hTw hTe hO (by omega) hw (lv_sub hl [1, 2, 3, 4, 0] rfl)
  exact lp ((min n1 (n2 + s0) - ((max 0 s0) + 1) : Int).toNat + 1) ((max 0 s0) + 1) 0 0 C2 H locs ls (by omega) (sumR_self _ _).symm (sumR_self _ _).symm (by omega) (by omega) (fun j hj => by rw [frC2 j hj, frC1 j hj, hC0]) hS hSw hSe hT hTw hTe hO (by omega) hw (lv_sub hl [2, 3, 4, 1, 0] rfl)
end
section
/-- the q-th eight bits of a, the lowest first -/
def bq (q : Int) : Int := if q = 0 then 1 else if q = 1 then 256 else if q = 2 then 65536 else 16777216
def byt (a q : Int) : Int := a / bq q % 256
theorem byt_in (a q : Int) : 0 ≤ byt a q ∧ byt a q < 256 := by unfold byt; omega
theorem byt_nat {a q : Int} (hq : 0 ≤ q ∧ q < 4) : (((a % 4294967296).toNat / 2 ^ (8 * q.toNat) % 256 : Nat) : Int) = byt a q := by
  rcases (show q = 0 ∨ q = 1 ∨ q = 2 ∨ q = 3 by omega) with rfl | rfl | rfl | rfl
  · show (((a % 4294967296).toNat / 1 % 256 : Nat) : Int) = a / 1 % 256
    omega
  · show (((a % 4294967296).toNat / 256 % 256 : Nat) : Int) = a / 256 % 256
    omega
  · show (((a % 4294967296).toNat / 65536 % 256 : Nat) : Int) = a / 65536 % 256
    omega
  · show (((a % 4294967296).toNat / 16777216 % 256 : Nat) : Int) = a / 16777216 % 256
    omega
theorem byt_is {a q : Int} (hq : 0 ≤ q ∧ q < 4) : ((zI a).toUInt32 >>> ((zI (8 * q)).toUInt32 &&& Int32.toUInt32 31)).toInt32 &&& zI 255 = zI (byt a q) := by
  have h1 : ((zI a).toUInt32 >>> ((zI (8 * q)).toUInt32 &&& Int32.toUInt32 31)).toInt32.toBitVec.toNat = (zI a).toBitVec.toNat / 2 ^ (8 * q.toNat) := by
    apply pk_ushr
    rcases (show q = 0 ∨ q = 1 ∨ q = 2 ∨ q = 3 by omega) with rfl | rfl | rfl | rfl <;> decide +kernel
  rw [pk_and _ 8 (by decide +kernel), h1]
  have h2 : (zI a).toBitVec.toNat = (a % 4294967296).toNat := by
    show (BitVec.ofInt 32 a).toNat = _
    rw [BitVec.toNat_ofInt]
    rfl
  rw [h2, ← byt_nat hq]
  exact (Int32.ofInt_eq_ofNat).symm
section ZB
variable {p : Program} {l : Launch} {e : Env} {R : Room} {s : State} {m : MethodId} {args : Array Value} {below : List Frame} {meth : Method} {c : Code} {H : Heap} {locs : List Loc} {cells slots : Nat} {Q : State → Prop} {cc : ByteArray} {pc : Nat} {ls : Array Slot} {rest : List Value}
theorem zr_byte (hx : p.tables.exec = Jvm.exec) (hb : c.code = cc) {a q : Int} (hq : 0 ≤ q ∧ q < 4) (hd0 : decode cc pc = .ok (.iushr, 1)) (hd1 : decode cc (pc + 1) = .ok (.sipush 255, 3)) (hd2 : decode cc (pc + 1 + 3) = .ok (.iand, 1)) (k : W p l e R s m args below meth c H locs cells slots Q (F0 m (pc + 1 + 3 + 1) ls (.int (zI (byt a q)) :: rest))) : W p l e R s m args below meth c H locs cells slots Q (F0 m pc ls (.int (zI (8 * q)) :: .int (zI a) :: rest)) :=
  lv_iushr hx hb hd0 rfl (zr_sipush hx hb hd1 (by decide) (lv_iand hx hb hd2 (by rw [byt_is hq]; exact k)))
end ZB
/-- a sign of a pad, or none -/
def okB (s : Int) : Prop := s = 0 ∨ (32 ≤ s ∧ s ≤ 126)
def TK (a : Int) : Prop := ∀ q : Int, 0 ≤ q → q < 4 → okB (byt a q)
def nzT (a q : Int) : Int := if byt a q = 0 then 0 else 1
theorem nzT_in (a q : Int) : 0 ≤ nzT a q ∧ nzT a q ≤ 1 := by unfold nzT; split <;> omega
def nz (a : Int) : Int := sumR (nzT a) 0 4
theorem sumR_le {f : Int → Int} {lo : Int} (h : ∀ x, 0 ≤ f x) : ∀ (m d : Nat), sumR f lo m ≤ sumR f lo (m + d) := by
  intro m d
  induction d with
  | zero => exact Int.le_refl _
  | succ d ih =>
    have h1 : sumR f lo (m + (d + 1)) = sumR f lo (m + d) + f (lo + ((m + d : Nat) : Int)) := rfl
    have h2 := h (lo + ((m + d : Nat) : Int))
    omega
theorem sumR_nn {f : Int → Int} {lo : Int} (h : ∀ x, 0 ≤ f x) (m : Nat) : 0 ≤ sumR f lo m := by
  have := sumR_le (lo := lo) h 0 m
  rw [Nat.zero_add] at this
  exact this
theorem nz_le (a : Int) {q : Int} (h : 0 ≤ q ∧ q ≤ 4) : 0 ≤ sumR (nzT a) 0 (q - 0).toNat ∧ sumR (nzT a) 0 (q - 0).toNat ≤ nz a := by
  refine ⟨sumR_nn (fun x => (nzT_in a x).1) _, ?_⟩
  have := sumR_le (lo := 0) (fun x => (nzT_in a x).1) (q - 0).toNat (4 - (q - 0).toNat)
  rw [show (q - 0).toNat + (4 - (q - 0).toNat) = 4 by omega] at this
  exact this
theorem nz_in (a : Int) : 0 ≤ nz a ∧ nz a ≤ 4 := by
  have h0 := nzT_in a 0; have h1 := nzT_in a 1; have h2 := nzT_in a 2; have h3 := nzT_in a 3
  have e : nz a = 0 + nzT a (0 + ((0 : Nat) : Int)) + nzT a (0 + ((1 : Nat) : Int)) + nzT a (0 + ((2 : Nat) : Int)) + nzT a (0 + ((3 : Nat) : Int)) := rfl
  have e0 : (0 : Int) + ((0 : Nat) : Int) = 0 := rfl
  have e1 : (0 : Int) + ((1 : Nat) : Int) = 1 := rfl
  have e2 : (0 : Int) + ((2 : Nat) : Int) = 2 := rfl
  have e3 : (0 : Int) + ((3 : Nat) : Int) = 3 := rfl
  rw [e0, e1, e2, e3] at e
  omega
/-- a pad's signs when m of the four of a have come behind n signs -/
def padF (f : Int → Int) (n a : Int) : Nat → Int → Int
  | 0 => f
  | m + 1 => if byt a (m : Int) = 0 then padF f n a m else zup (padF f n a m) (n + sumR (nzT a) 0 m) (byt a (m : Int))
theorem padF_t {f : Int → Int} {n a x : Int} (hx : 0 ≤ x) (h : byt a x = 0) : padF f n a (x + 1).toNat = padF f n a x.toNat := by
  have e1 : (x + 1).toNat = x.toNat + 1 := by omega
  have e2 : ((x.toNat : Nat) : Int) = x := by omega
  rw [e1]
  show (if byt a ((x.toNat : Nat) : Int) = 0 then _ else _) = _
  rw [e2, if_pos h]
theorem padF_f {f : Int → Int} {n a x : Int} (hx : 0 ≤ x) (h : ¬ byt a x = 0) : padF f n a (x + 1).toNat = zup (padF f n a x.toNat) (n + sumR (nzT a) 0 (x - 0).toNat) (byt a x) := by
  have e1 : (x + 1).toNat = x.toNat + 1 := by omega
  have e2 : ((x.toNat : Nat) : Int) = x := by omega
  have e3 : (x - 0).toNat = x.toNat := by omega
  rw [e1, e3]
  show (if byt a ((x.toNat : Nat) : Int) = 0 then _ else _) = _
  rw [e2, if_neg h]
abbrev rm_P_signOf : Room := { frames := 0, cells := 0, slots := 0, locals := 0 }
set_option maxHeartbeats 4000000 in
set_option maxRecDepth 100000 in
theorem c_P_signOf (l : Launch) (D : va_G) (k : Nat → ClassId) (N : Nat) (AD : Int → Nat) (C : Int → va_E) (sz : Nat) (a : Int) (q : Int) (hq : 0 ≤ q ∧ q < 4) : MI l y_P_signOf (Cond.code y_P_signOf b_P_signOf 2 (Option.some Jvm.ClassFile.FieldType.int) :: WS) rm_P_signOf D clW (tyW k) N AD C sz [.int (zI a), .int (zI q)] (fun r C' => r = zI (byt a q) ∧ C' = C) := by
  refine MI.start (cc := b_P_signOf) (maxL := 2) (rt := .int) (by decide) rfl (Nat.le_of_ble_eq_true rfl) ?_
  intro p e s m args below meth c Q ls hx hb hml hown hts hK hsz hw hl hret
  have hown : s.vm.findClass "RingMatches$Pad" = some m.cls := hown
  have hl : lv_has ls 2 [(0, .int (zI a)), (1, .int (zI q))] := hl
  have hA := wA_hi (N := N) (AD := AD) hsz
  obtain ⟨H, hH⟩ : ∃ H, H = s.heap := ⟨_, rfl⟩
  obtain ⟨locs, hlocs⟩ : ∃ z : List Loc, z = [] := ⟨_, rfl⟩
  have hw : WD D clW (wA N AD sz) s.heap H locs N AD C := by rw [hH, hlocs]; exact hw
  rw [← hlocs]
  suffices hgo : W p l e rm_P_signOf s m args below meth c H locs 0 0 Q (F0 m 0 ls []) by rw [hH] at hgo; exact hgo
  refine lv_iload_n hx hb d_P_signOf_0 rfl (lv_at hl 0 rfl) ?_
  refine zr_bipush hx hb d_P_signOf_1 (by decide) ?_
  refine lv_iload_n hx hb d_P_signOf_3 rfl (lv_at hl 1 rfl) ?_
  refine zr_imul hx hb d_P_signOf_4 ?_
  refine zr_byte hx hb (a := a) (q := q) (by omega) d_P_signOf_5 d_P_signOf_6 d_P_signOf_9 ?_
  exact hret _ _ _ _ _ _ d_P_signOf_10 hw rfl ⟨rfl, rfl⟩
abbrev rm_P_takes : Room := { frames := 1, cells := 0, slots := 0, locals := 21 }
set_option maxHeartbeats 4000000 in
set_option maxRecDepth 100000 in
theorem c_P_takes (l : Launch) (D : va_G) (k : Nat → ClassId) (N : Nat) (AD : Int → Nat) (C : Int → va_E) (sz : Nat) (a : Int)  : MI l y_P_takes (Cond.code y_P_takes b_P_takes 3 (Option.some Jvm.ClassFile.FieldType.boolean) :: WS) rm_P_takes D clW (tyW k) N AD C sz [.int (zI a)] (fun r C' => (r = zI 1 ∧ TK a ∨ r = zI 0 ∧ ¬ TK a) ∧ C' = C) := by
  refine MI.start (cc := b_P_takes) (maxL := 3) (rt := .boolean) (by decide) rfl (Nat.le_of_ble_eq_true rfl) ?_
  intro p e s m args below meth c Q ls hx hb hml hown hts hK hsz hw hl hret
  have hown : s.vm.findClass "RingMatches$Pad" = some m.cls := hown
  have hl : lv_has ls 3 [(0, .int (zI a))] := hl
  have hA := wA_hi (N := N) (AD := AD) hsz
  obtain ⟨H, hH⟩ : ∃ H, H = s.heap := ⟨_, rfl⟩
  obtain ⟨locs, hlocs⟩ : ∃ z : List Loc, z = [] := ⟨_, rfl⟩
  have hw : WD D clW (wA N AD sz) s.heap H locs N AD C := by rw [hH, hlocs]; exact hw
  rw [← hlocs]
  suffices hgo : W p l e rm_P_takes s m args below meth c H locs 0 0 Q (F0 m 0 ls []) by rw [hH] at hgo; exact hgo
  refine zr_iconst hx hb d_P_takes_0 ?_
  refine lv_istore_n (lv' := [(1, .int (zI 0)), (0, .int (zI a))]) hx hb d_P_takes_1 rfl hl (by decide) rfl (fun ls hl => ?_)
  have lp : ∀ (n9 : Nat) (x : Int) (H : Heap) (locs : List Loc) (ls : Array Slot), (0 ≤ x ∧ x ≤ 4) → (∀ q : Int, 0 ≤ q → q < x → okB (byt a q)) → (4 - x).toNat < n9 → WD D clW (wA N AD sz) s.heap H locs N AD C → lv_has ls 3 [(0, .int (zI a)), (1, .int (zI x))] → W p l e rm_P_takes s m args below meth c H locs 0 0 Q (F0 m 2 ls []) := by
    intro n9
    induction n9 with
    | zero => intro x H locs ls hx1 hT  hm hw hl; exact absurd hm (by omega)
    | succ n9 ihlp =>
      intro x H locs ls hx1 hT  hm hw hl
      refine lv_iload_n hx hb d_P_takes_2 rfl (lv_at hl 1 rfl) ?_
      refine zr_iconst hx hb d_P_takes_3 ?_
      refine zr_icmp_ge (tgt := 37) hx hb ⟨by omega, by omega⟩ ⟨by omega, by omega⟩ d_P_takes_4 (by decide) (fun c1 => ?_) (fun c1 => ?_)
      · refine zr_iconst hx hb d_P_takes_37 ?_
        exact hret _ _ _ _ _ _ d_P_takes_38 hw (by decide +kernel) ⟨Or.inl ⟨rfl, fun q h1 h2 => hT q h1 (by omega)⟩, rfl⟩
      · refine lv_iload_n hx hb d_P_takes_7 rfl (lv_at hl 0 rfl) ?_
        refine lv_iload_n hx hb d_P_takes_8 rfl (lv_at hl 1 rfl) ?_
        refine zr_callI (va_runS (As := [.int (zI a), .int (zI x)]) (rest := []) ⟨hx, hb, hml, hown, hts⟩ (c_P_signOf l D k N AD C H.size a x (by omega)) (va_cwS 2 hts (good_S wk_154 wk_155 wk_28 wk_156) rfl rfl rfl (by decide +kernel) ⟨Nat.le_of_ble_eq_true rfl, Nat.le_of_ble_eq_true rfl⟩) (cPre_S hK hw) rfl rfl hl.1 rfl (lv_room (Nat.le_of_ble_eq_true rfl)) d_P_takes_9 ⟨Nat.le_of_ble_eq_true rfl, Nat.le_of_ble_eq_true rfl⟩) hw hA (fun r9 C3 H locs hq2 hw => ?_)
        obtain ⟨hr9, hCe⟩ := hq2
        rw [hCe] at hw; subst hr9
        refine lv_istore_n (lv' := [(2, .int (zI (byt a x))), (0, .int (zI a)), (1, .int (zI x))]) hx hb d_P_takes_12 rfl hl (by decide) rfl (fun ls hl => ?_)
        have hb9 := byt_in a x
        refine lv_iload_n hx hb d_P_takes_13 rfl (lv_at hl 0 rfl) ?_
        refine zr_if_eq (tgt := 31) hx hb ⟨by omega, by omega⟩ d_P_takes_14 (by decide) (fun c4 => ?_) (fun c4 => ?_)
        · refine lv_iinc (v := zI (x + 1)) (lv' := [(1, .int (zI (x + 1))), (2, .int (zI (byt a x))), (0, .int (zI a))]) hx hb d_P_takes_31 hl (k := 2) rfl (zI_add _ _) (by decide) rfl (fun ls hl => ?_)
          refine lv_goto (tgt := 2) hx hb d_P_takes_34 (by decide) ?_
          exact ihlp (x + 1) H locs ls (by omega) (fun q h1 h2 => (Int.lt_or_eq_of_le (Int.lt_add_one_iff.mp h2)).elim (hT q h1) (fun e9 => by rw [e9]; unfold okB; omega))  (by omega) hw (lv_sub hl [2, 0] rfl)
        · refine lv_iload_n hx hb d_P_takes_17 rfl (lv_at hl 0 rfl) ?_
          refine zr_bipush hx hb d_P_takes_18 (by decide) ?_
          refine zr_icmp_lt (tgt := 29) hx hb ⟨by omega, by omega⟩ ⟨by omega, by omega⟩ d_P_takes_20 (by decide) (fun c5 => ?_) (fun c5 => ?_)
          · refine zr_iconst hx hb d_P_takes_29 ?_
            exact hret _ _ _ _ _ _ d_P_takes_30 hw (by decide +kernel) ⟨Or.inr ⟨rfl, fun h9 => by have := h9 x (by omega) (by omega); unfold okB at this; omega⟩, rfl⟩
          · refine lv_iload_n hx hb d_P_takes_23 rfl (lv_at hl 0 rfl) ?_
            refine zr_bipush hx hb d_P_takes_24 (by decide) ?_
            refine zr_icmp_le (tgt := 31) hx hb ⟨by omega, by omega⟩ ⟨by omega, by omega⟩ d_P_takes_26 (by decide) (fun c6 => ?_) (fun c6 => ?_)
            · refine lv_iinc (v := zI (x + 1)) (lv' := [(1, .int (zI (x + 1))), (2, .int (zI (byt a x))), (0, .int (zI a))]) hx hb d_P_takes_31 hl (k := 2) rfl (zI_add _ _) (by decide) rfl (fun ls hl => ?_)
              refine lv_goto (tgt := 2) hx hb d_P_takes_34 (by decide) ?_
              exact ihlp (x + 1) H locs ls (by omega) (fun q h1 h2 => (Int.lt_or_eq_of_le (Int.lt_add_one_iff.mp h2)).elim (hT q h1) (fun e9 => by rw [e9]; unfold okB; omega))  (by omega) hw (lv_sub hl [2, 0] rfl)
            · refine zr_iconst hx hb d_P_takes_29 ?_
              exact hret _ _ _ _ _ _ d_P_takes_30 hw (by decide +kernel) ⟨Or.inr ⟨rfl, fun h9 => by have := h9 x (by omega) (by omega); unfold okB at this; omega⟩, rfl⟩
  exact lp ((4 - 0 : Int).toNat + 1) 0 H locs ls (by omega) (fun q h1 h2 => absurd h2 (by omega))  (by omega) hw (lv_sub hl [1, 0] rfl)
abbrev rm_P_signsIn : Room := { frames := 1, cells := 0, slots := 0, locals := 21 }
set_option maxHeartbeats 4000000 in
set_option maxRecDepth 100000 in
theorem c_P_signsIn (l : Launch) (D : va_G) (k : Nat → ClassId) (N : Nat) (AD : Int → Nat) (C : Int → va_E) (sz : Nat) (a : Int)  : MI l y_P_signsIn (Cond.code y_P_signsIn b_P_signsIn 3 (Option.some Jvm.ClassFile.FieldType.int) :: WS) rm_P_signsIn D clW (tyW k) N AD C sz [.int (zI a)] (fun r C' => r = zI (nz a) ∧ C' = C) := by
  refine MI.start (cc := b_P_signsIn) (maxL := 3) (rt := .int) (by decide) rfl (Nat.le_of_ble_eq_true rfl) ?_
  intro p e s m args below meth c Q ls hx hb hml hown hts hK hsz hw hl hret
  have hown : s.vm.findClass "RingMatches$Pad" = some m.cls := hown
  have hl : lv_has ls 3 [(0, .int (zI a))] := hl
  have hA := wA_hi (N := N) (AD := AD) hsz
  obtain ⟨H, hH⟩ : ∃ H, H = s.heap := ⟨_, rfl⟩
  obtain ⟨locs, hlocs⟩ : ∃ z : List Loc, z = [] := ⟨_, rfl⟩
  have hw : WD D clW (wA N AD sz) s.heap H locs N AD C := by rw [hH, hlocs]; exact hw
  rw [← hlocs]
  suffices hgo : W p l e rm_P_signsIn s m args below meth c H locs 0 0 Q (F0 m 0 ls []) by rw [hH] at hgo; exact hgo
  refine zr_iconst hx hb d_P_signsIn_0 ?_
  refine lv_istore_n (lv' := [(1, .int (zI 0)), (0, .int (zI a))]) hx hb d_P_signsIn_1 rfl hl (by decide) rfl (fun ls hl => ?_)
  refine zr_iconst hx hb d_P_signsIn_2 ?_
  refine lv_istore_n (lv' := [(2, .int (zI 0)), (1, .int (zI 0)), (0, .int (zI a))]) hx hb d_P_signsIn_3 rfl hl (by decide) rfl (fun ls hl => ?_)
  have lp : ∀ (n9 : Nat) (x : Int) (fd : Int) (H : Heap) (locs : List Loc) (ls : Array Slot), (0 ≤ x ∧ x ≤ 4) → (fd = sumR (nzT a) 0 (x - 0).toNat) → (0 ≤ fd ∧ fd ≤ x) → (4 - x).toNat < n9 → WD D clW (wA N AD sz) s.heap H locs N AD C → lv_has ls 3 [(0, .int (zI a)), (1, .int (zI fd)), (2, .int (zI x))] → W p l e rm_P_signsIn s m args below meth c H locs 0 0 Q (F0 m 4 ls []) := by
    intro n9
    induction n9 with
    | zero => intro x fd H locs ls hx1 hf hf2  hm hw hl; exact absurd hm (by omega)
    | succ n9 ihlp =>
      intro x fd H locs ls hx1 hf hf2  hm hw hl
      refine lv_iload_n hx hb d_P_signsIn_4 rfl (lv_at hl 2 rfl) ?_
      refine zr_iconst hx hb d_P_signsIn_5 ?_
      refine zr_icmp_ge (tgt := 26) hx hb ⟨by omega, by omega⟩ ⟨by omega, by omega⟩ d_P_signsIn_6 (by decide) (fun c1 => ?_) (fun c1 => ?_)
      · refine lv_iload_n hx hb d_P_signsIn_26 rfl (lv_at hl 1 rfl) ?_
        exact hret _ _ _ _ _ _ d_P_signsIn_27 hw rfl ⟨by rw [hf, show x = 4 by omega]; rfl, rfl⟩
      · refine lv_iload_n hx hb d_P_signsIn_9 rfl (lv_at hl 0 rfl) ?_
        refine lv_iload_n hx hb d_P_signsIn_10 rfl (lv_at hl 2 rfl) ?_
        refine zr_callI (va_runS (As := [.int (zI a), .int (zI x)]) (rest := []) ⟨hx, hb, hml, hown, hts⟩ (c_P_signOf l D k N AD C H.size a x (by omega)) (va_cwS 2 hts (good_S wk_154 wk_155 wk_28 wk_156) rfl rfl rfl (by decide +kernel) ⟨Nat.le_of_ble_eq_true rfl, Nat.le_of_ble_eq_true rfl⟩) (cPre_S hK hw) rfl rfl hl.1 rfl (lv_room (Nat.le_of_ble_eq_true rfl)) d_P_signsIn_11 ⟨Nat.le_of_ble_eq_true rfl, Nat.le_of_ble_eq_true rfl⟩) hw hA (fun r9 C3 H locs hq2 hw => ?_)
        obtain ⟨hr9, hCe⟩ := hq2
        rw [hCe] at hw; subst hr9
        have hb9 := byt_in a x
        refine zr_if_eq (tgt := 20) hx hb ⟨by omega, by omega⟩ d_P_signsIn_14 (by decide) (fun c4 => ?_) (fun c4 => ?_)
        · have hz := c4
          refine lv_iinc (v := zI (x + 1)) (lv' := [(2, .int (zI (x + 1))), (0, .int (zI a)), (1, .int (zI fd))]) hx hb d_P_signsIn_20 hl (k := 2) rfl (zI_add _ _) (by decide) rfl (fun ls hl => ?_)
          refine lv_goto (tgt := 4) hx hb d_P_signsIn_23 (by decide) ?_
          exact ihlp (x + 1) fd H locs ls (by omega) (by rw [sumR_step _ (by omega), ← hf]; unfold nzT; rw [if_pos hz]; omega) (by omega)  (by omega) hw (lv_sub hl [1, 2, 0] rfl)
        · have hz := c4
          refine lv_iinc (v := zI (fd + 1)) (lv' := [(1, .int (zI (fd + 1))), (0, .int (zI a)), (2, .int (zI x))]) hx hb d_P_signsIn_17 hl (k := 1) rfl (zI_add _ _) (by decide) rfl (fun ls hl => ?_)
          refine lv_iinc (v := zI (x + 1)) (lv' := [(2, .int (zI (x + 1))), (1, .int (zI (fd + 1))), (0, .int (zI a))]) hx hb d_P_signsIn_20 hl (k := 2) rfl (zI_add _ _) (by decide) rfl (fun ls hl => ?_)
          refine lv_goto (tgt := 4) hx hb d_P_signsIn_23 (by decide) ?_
          exact ihlp (x + 1) (fd + 1) H locs ls (by omega) (by rw [sumR_step _ (by omega), ← hf]; unfold nzT; rw [if_neg hz]) (by omega)  (by omega) hw (lv_sub hl [2, 1, 0] rfl)
  exact lp ((4 - 0 : Int).toNat + 1) 0 0 H locs ls (by omega) rfl (by omega)  (by omega) hw (lv_sub hl [2, 1, 0] rfl)
abbrev rm_P_put : Room := { frames := 1, cells := 0, slots := 0, locals := 21 }
set_option maxHeartbeats 4000000 in
set_option maxRecDepth 100000 in
theorem c_P_put (l : Launch) (D : va_G) (k : Nat → ClassId) (N : Nat) (AD : Int → Nat) (C : Int → va_E) (sz : Nat) (b : Int) (n : Int) (f : Int → Int) (a : Int) (hb0 : 0 ≤ b ∧ b + 1 < (N : Int)) (hn : 0 ≤ n ∧ n ≤ 100) (hS : C b = .inr (1, [.ref (AD (b + 1)), .int (zI n)])) (hSw : C (b + 1) = aI (k 0) 100 f) (hfit : n + nz a ≤ 100) : MV l y_P_put (Cond.code y_P_put b_P_put 4 (Option.none : Option FieldType) :: WS) rm_P_put D clW (tyW k) N AD C sz [.ref (AD b), .int (zI a)] (fun C' => C' b = .inr (1, [.ref (AD (b + 1)), .int (zI (n + nz a))]) ∧ C' (b + 1) = aI (k 0) 100 (padF f n a 4) ∧ ∀ j : Int, j ≠ b → j ≠ b + 1 → C' j = C j) := by
  refine MV.start (cc := b_P_put) (maxL := 4) (by decide) rfl (Nat.le_of_ble_eq_true rfl) ?_
  intro p e s m args below meth c Q ls hx hb hml hown hts hK hsz hw hl hret
  have hown : s.vm.findClass "RingMatches$Pad" = some m.cls := hown
  have hl : lv_has ls 4 [(0, .ref (AD b)), (1, .int (zI a))] := hl
  have hA := wA_hi (N := N) (AD := AD) hsz
  obtain ⟨H, hH⟩ : ∃ H, H = s.heap := ⟨_, rfl⟩
  obtain ⟨locs, hlocs⟩ : ∃ z : List Loc, z = [] := ⟨_, rfl⟩
  have hw : WD D clW (wA N AD sz) s.heap H locs N AD C := by rw [hH, hlocs]; exact hw
  rw [← hlocs]
  suffices hgo : W p l e rm_P_put s m args below meth c H locs 0 0 Q (F0 m 0 ls []) by rw [hH] at hgo; exact hgo
  obtain ⟨C0, hC0⟩ : ∃ z : Int → va_E, z = C := ⟨_, rfl⟩
  rw [← hC0] at hret
  have hS : C b = .inr (1, [.ref (AD (b + 1)), .int (zI (n + sumR (nzT a) 0 ((0 : Int) - 0).toNat))]) := by rw [hS]; show _ = Sum.inr (1, [Value.ref (AD (b + 1)), Value.int (zI (n + 0))]); rw [Int.add_zero]
  refine zr_iconst hx hb d_P_put_0 ?_
  refine lv_istore_n (lv' := [(2, .int (zI 0)), (0, .ref (AD b)), (1, .int (zI a))]) hx hb d_P_put_1 rfl hl (by decide) rfl (fun ls hl => ?_)
  have lp : ∀ (n9 : Nat) (x : Int) (C : Int → va_E) (H : Heap) (locs : List Loc) (ls : Array Slot), (0 ≤ x ∧ x ≤ 4) → (∀ j : Int, j ≠ b → j ≠ b + 1 → C j = C0 j) → (C b = .inr (1, [.ref (AD (b + 1)), .int (zI (n + sumR (nzT a) 0 (x - 0).toNat))])) → (C (b + 1) = aI (k 0) 100 (padF f n a x.toNat)) → (4 - x).toNat < n9 → WD D clW (wA N AD sz) s.heap H locs N AD C → lv_has ls 4 [(0, .ref (AD b)), (1, .int (zI a)), (2, .int (zI x))] → W p l e rm_P_put s m args below meth c H locs 0 0 Q (F0 m 2 ls []) := by
    intro n9
    induction n9 with
    | zero => intro x C H locs ls hx1 hfr hS hSw hm hw hl; exact absurd hm (by omega)
    | succ n9 ihlp =>
      intro x C H locs ls hx1 hfr hS hSw hm hw hl
      have hz1 := nz_le a (q := x) (by omega)
      refine lv_iload_n hx hb d_P_put_2 rfl (lv_at hl 2 rfl) ?_
      refine zr_iconst hx hb d_P_put_3 ?_
      refine zr_icmp_ge (tgt := 55) hx hb ⟨by omega, by omega⟩ ⟨by omega, by omega⟩ d_P_put_4 (by decide) (fun c1 => ?_) (fun c1 => ?_)
      · exact hret _ _ _ _ _ d_P_put_55 hw ⟨by rw [hS, show x = 4 by omega]; rfl, by rw [hSw, show x = 4 by omega]; rfl, hfr⟩
      · refine lv_iload_n hx hb d_P_put_7 rfl (lv_at hl 1 rfl) ?_
        refine lv_iload_n hx hb d_P_put_8 rfl (lv_at hl 2 rfl) ?_
        refine zr_callI (va_runS (As := [.int (zI a), .int (zI x)]) (rest := []) ⟨hx, hb, hml, hown, hts⟩ (c_P_signOf l D k N AD C H.size a x (by omega)) (va_cwS 2 hts (good_S wk_154 wk_155 wk_28 wk_156) rfl rfl rfl (by decide +kernel) ⟨Nat.le_of_ble_eq_true rfl, Nat.le_of_ble_eq_true rfl⟩) (cPre_S hK hw) rfl rfl hl.1 rfl (lv_room (Nat.le_of_ble_eq_true rfl)) d_P_put_9 ⟨Nat.le_of_ble_eq_true rfl, Nat.le_of_ble_eq_true rfl⟩) hw hA (fun r9 C3 H locs hq2 hw => ?_)
        obtain ⟨hr9, hCe⟩ := hq2
        rw [hCe] at hw; subst hr9
        refine lv_istore_n (lv' := [(3, .int (zI (byt a x))), (0, .ref (AD b)), (1, .int (zI a)), (2, .int (zI x))]) hx hb d_P_put_12 rfl hl (by decide) rfl (fun ls hl => ?_)
        have hb9 := byt_in a x
        refine lv_iload_n hx hb d_P_put_13 rfl (lv_at hl 0 rfl) ?_
        refine zr_if_eq (tgt := 49) hx hb ⟨by omega, by omega⟩ d_P_put_14 (by decide) (fun c4 => ?_) (fun c4 => ?_)
        · have hz := c4
          have es : sumR (nzT a) 0 (x + 1 - 0).toNat = sumR (nzT a) 0 (x - 0).toNat := by rw [sumR_step _ (by omega)]; unfold nzT; rw [if_pos hz]; omega
          have hS : C b = .inr (1, [.ref (AD (b + 1)), .int (zI (n + sumR (nzT a) 0 (x + 1 - 0).toNat))]) := by rw [es]; exact hS
          have hSw : C (b + 1) = aI (k 0) 100 (padF f n a (x + 1).toNat) := by rw [padF_t (by omega) hz]; exact hSw
          refine lv_iinc (v := zI (x + 1)) (lv' := [(2, .int (zI (x + 1))), (3, .int (zI (byt a x))), (0, .ref (AD b)), (1, .int (zI a))]) hx hb d_P_put_49 hl (k := 3) rfl (zI_add _ _) (by decide) rfl (fun ls hl => ?_)
          refine lv_goto (tgt := 2) hx hb d_P_put_52 (by decide) ?_
          exact ihlp (x + 1) C H locs ls (by omega) hfr hS hSw (by omega) hw (lv_sub hl [2, 3, 0] rfl)
        · have hz := c4
          have es : sumR (nzT a) 0 (x + 1 - 0).toNat = sumR (nzT a) 0 (x - 0).toNat + 1 := by rw [sumR_step _ (by omega)]; unfold nzT; rw [if_neg hz]
          have hz2 := nz_le a (q := x + 1) (by omega)
          refine lv_aload_n hx hb d_P_put_17 rfl (lv_at hl 1 rfl) ?_
          refine zr_get (v := .int (zI (n + sumR (nzT a) 0 (x - 0).toNat))) hx hb hts iw_P hown hK hw b ⟨by omega, by omega⟩ hS rfl 1 (by decide) (hts _ wk_55) (fun _ h => h) rfl d_P_put_18 ?_
          refine lv_aload_n hx hb d_P_put_21 rfl (lv_at hl 1 rfl) ?_
          refine zr_get (v := .ref (AD (b + 1))) hx hb hts iw_P hown hK hw b ⟨by omega, by omega⟩ hS rfl 0 (by decide) (hts _ wk_53) (fun _ h => h) rfl d_P_put_22 ?_
          refine zr_alen hx hb hK hw (b + 1) ⟨by omega, by omega⟩ 0 hSw rfl d_P_put_25 ?_
          refine zr_icmp_ge (tgt := 49) hx hb ⟨by omega, by omega⟩ ⟨by omega, by omega⟩ d_P_put_26 (by decide) (fun c5 => ?_) (fun c5 => ?_)
          · exact absurd c5 (by omega)
          · refine lv_aload_n hx hb d_P_put_29 rfl (lv_at hl 1 rfl) ?_
            refine zr_get (v := .ref (AD (b + 1))) hx hb hts iw_P hown hK hw b ⟨by omega, by omega⟩ hS rfl 0 (by decide) (hts _ wk_53) (fun _ h => h) rfl d_P_put_30 ?_
            refine lv_aload_n hx hb d_P_put_33 rfl (lv_at hl 1 rfl) ?_
            refine zr_get (v := .int (zI (n + sumR (nzT a) 0 (x - 0).toNat))) hx hb hts iw_P hown hK hw b ⟨by omega, by omega⟩ hS rfl 1 (by decide) (hts _ wk_55) (fun _ h => h) rfl d_P_put_34 ?_
            refine lv_iload_n hx hb d_P_put_37 rfl (lv_at hl 0 rfl) ?_
            refine zr_iast hx hb hK hw (b + 1) ⟨by omega, by omega⟩ 0 hSw rfl ⟨by omega, by omega⟩ (by decide) d_P_put_38 (fun H locs hw => ?_)
            obtain ⟨C6, hC6⟩ : ∃ z : Int → va_E, z = zup C (b + 1) (aI (k 0) 100 (zup (padF f n a x.toNat) (n + sumR (nzT a) 0 (x - 0).toNat) (byt a x))) := ⟨_, rfl⟩
            have hw : WD D clW (wA N AD sz) s.heap H locs N AD C6 := by rw [hC6]; exact hw
            have frC6 : ∀ j : Int, j ≠ (b + 1) → C6 j = C j := fun j h => by rw [hC6]; exact zup_n h
            have hS : C6 b = .inr (1, [.ref (AD (b + 1)), .int (zI (n + sumR (nzT a) 0 (x - 0).toNat))]) := (frC6 _ (by omega)).trans hS
            have hSw : C6 (b + 1) = aI (k 0) 100 (zup (padF f n a x.toNat) (n + sumR (nzT a) 0 (x - 0).toNat) (byt a x)) := by rw [hC6]; exact zup_s
            refine lv_aload_n hx hb d_P_put_39 rfl (lv_at hl 1 rfl) ?_
            refine lv_dup hx hb d_P_put_40 rfl ?_
            refine zr_get (v := .int (zI (n + sumR (nzT a) 0 (x - 0).toNat))) hx hb hts iw_P hown hK hw b ⟨by omega, by omega⟩ hS rfl 1 (by decide) (hts _ wk_55) (fun _ h => h) rfl d_P_put_41 ?_
            refine zr_iconst hx hb d_P_put_44 ?_
            refine zr_iadd hx hb d_P_put_45 ?_
            refine zr_put (ty := .int) (v := .int (zI ((n + sumR (nzT a) 0 (x - 0).toNat) + 1))) hx hb hts iw_P tyP tyP_ok nmP hown hK hw b ⟨by omega, by omega⟩ hS rfl 1 (by decide) (hts _ wk_55) (fun _ h => h) rfl (by decide +kernel) rfl rfl (Nat.le_of_ble_eq_true rfl) d_P_put_46 (fun H locs hw => ?_)
            obtain ⟨C7, hC7⟩ : ∃ z : Int → va_E, z = zup C6 b (.inr (1, [.ref (AD (b + 1)), .int (zI ((n + sumR (nzT a) 0 (x - 0).toNat) + 1))])) := ⟨_, rfl⟩
            have hw : WD D clW (wA N AD sz) s.heap H locs N AD C7 := by rw [hC7]; exact hw
            have frC7 : ∀ j : Int, j ≠ b → C7 j = C6 j := fun j h => by rw [hC7]; exact zup_n h
            have hS : C7 b = .inr (1, [.ref (AD (b + 1)), .int (zI ((n + sumR (nzT a) 0 (x - 0).toNat) + 1))]) := by rw [hC7]; exact zup_s
            have hSw : C7 (b + 1) = aI (k 0) 100 (zup (padF f n a x.toNat) (n + sumR (nzT a) 0 (x - 0).toNat) (byt a x)) := (frC7 _ (by omega)).trans hSw
            have hS : C7 b = .inr (1, [.ref (AD (b + 1)), .int (zI (n + sumR (nzT a) 0 (x + 1 - 0).toNat))]) := by rw [es, ← Int.add_assoc]; exact hS
            have hSw : C7 (b + 1) = aI (k 0) 100 (padF f n a (x + 1).toNat) := by rw [padF_f (by omega) hz]; exact hSw
            refine lv_iinc (v := zI (x + 1)) (lv' := [(2, .int (zI (x + 1))), (3, .int (zI (byt a x))), (0, .ref (AD b)), (1, .int (zI a))]) hx hb d_P_put_49 hl (k := 3) rfl (zI_add _ _) (by decide) rfl (fun ls hl => ?_)
            refine lv_goto (tgt := 2) hx hb d_P_put_52 (by decide) ?_
            exact ihlp (x + 1) C7 H locs ls (by omega) (fun j h1 h2 => by rw [frC7 j h1, frC6 j h2]; exact hfr j h1 h2) hS hSw (by omega) hw (lv_sub hl [2, 3, 0] rfl)
  exact lp ((4 - 0 : Int).toNat + 1) 0 C H locs ls (by omega) (fun j _ _ => by rw [hC0]) hS hSw (by omega) hw (lv_sub hl [1, 2, 0] rfl)
end
section
/-- a ring that has come so far (0 nothing yet, -1 missing, else its width), with one sign more: -2 if it can't be -/
def grw (r s : Int) : Int := if s = 45 then (if r = 0 then -1 else -2) else if s < 48 ∨ 57 < s ∨ r = -1 then -2 else if 1 ≤ 10 * r + s - 48 ∧ 10 * r + s - 48 ≤ 500 then 10 * r + s - 48 else -2
/-- a ring so far, how many ahead of it, their widths -/
def stp (s : Int) (q : Int × Int × (Int → Int)) : Int × Int × (Int → Int) := if s = 32 ∧ ¬ q.1 = 0 ∧ q.2.1 < 23 then (0, q.2.1 + 1, zup q.2.2 q.2.1 q.1) else (grw q.1 s, q.2.1, q.2.2)
def okS (s : Int) (q : Int × Int × (Int → Int)) : Prop := (s = 32 ∧ ¬ q.1 = 0 ∧ q.2.1 < 23) ∨ ¬ grw q.1 s = -2
def ps (f : Int → Int) : Nat → Int × Int × (Int → Int)
  | 0 => (0, 0, fun _ => -1)
  | m + 1 => stp (f (m : Int)) (ps f m)
/-- the first m signs may stand there -/
def okP (f : Int → Int) (m : Int) : Prop := ∀ j : Int, 0 ≤ j → j < m → okS (f j) (ps f j.toNat)
theorem ps_step (f : Int → Int) {x : Int} (h : 0 ≤ x) : ps f (x + 1).toNat = stp (f x) (ps f x.toNat) := by
  have e1 : (x + 1).toNat = x.toNat + 1 := by omega
  have e2 : ((x.toNat : Nat) : Int) = x := by omega
  rw [e1]
  show stp (f ((x.toNat : Nat) : Int)) (ps f x.toNat) = _
  rw [e2]
theorem okP_step {f : Int → Int} {x : Int} (h : okP f x) (hs : okS (f x) (ps f x.toNat)) : okP f (x + 1) := fun j h1 h2 =>
  (Int.lt_or_eq_of_le (Int.lt_add_one_iff.mp h2)).elim (h j h1) (fun e => by rw [e]; exact hs)
theorem grw_in (r s : Int) : grw r s = -2 ∨ grw r s = -1 ∨ (1 ≤ grw r s ∧ grw r s ≤ 500) := by
  unfold grw
  split
  · split <;> omega
  · split
    · omega
    · split
      · rename_i h; exact Or.inr (Or.inr h)
      · omega
theorem ps_in {f : Int → Int} : ∀ (m : Nat), okP f (m : Int) → ((ps f m).1 = 0 ∨ (ps f m).1 = -1 ∨ (1 ≤ (ps f m).1 ∧ (ps f m).1 ≤ 500)) ∧ 0 ≤ (ps f m).2.1 ∧ (ps f m).2.1 ≤ 23 ∧ WOK (ps f m).2.2 (ps f m).2.1 := by
  intro m
  induction m with
  | zero => intro _; exact ⟨Or.inl rfl, Int.le_refl 0, (by decide : (0 : Int) ≤ 23), fun j h1 h2 => absurd h2 (by show ¬ j < 0; omega)⟩
  | succ m ih =>
    intro h
    obtain ⟨h1, h2, h3, h4⟩ := ih (fun j a b => h j a (by omega))
    have h5 := h (m : Int) (by omega) (by omega)
    rw [show ((m : Int)).toNat = m by omega] at h5
    have e : ps f (m + 1) = stp (f (m : Int)) (ps f m) := rfl
    rw [e]
    by_cases hc : f (m : Int) = 32 ∧ ¬ (ps f m).1 = 0 ∧ (ps f m).2.1 < 23
    · have e2 : stp (f (m : Int)) (ps f m) = (0, (ps f m).2.1 + 1, zup (ps f m).2.2 (ps f m).2.1 (ps f m).1) := if_pos hc
      rw [e2]
      refine ⟨Or.inl rfl, by show 0 ≤ (ps f m).2.1 + 1; omega, by show (ps f m).2.1 + 1 ≤ 23; omega, fun j a b => ?_⟩
      show zup (ps f m).2.2 (ps f m).2.1 (ps f m).1 j = -1 ∨ (1 ≤ zup (ps f m).2.2 (ps f m).2.1 (ps f m).1 j ∧ zup (ps f m).2.2 (ps f m).2.1 (ps f m).1 j ≤ 500)
      by_cases hj : j = (ps f m).2.1
      · rw [hj, zup_s]; omega
      · rw [zup_n hj]; exact h4 j a (by have b' : j < (ps f m).2.1 + 1 := b; omega)
    · have e2 : stp (f (m : Int)) (ps f m) = (grw (ps f m).1 (f (m : Int)), (ps f m).2.1, (ps f m).2.2) := if_neg hc
      rw [e2]
      have h6 : ¬ grw (ps f m).1 (f (m : Int)) = -2 := by
        rcases h5 with h | h
        · exact absurd h hc
        · exact h
      have h7 := grw_in (ps f m).1 (f (m : Int))
      exact ⟨by show grw _ _ = 0 ∨ _; omega, h2, h3, h4⟩
theorem ps_inI {f : Int → Int} {x : Int} (h0 : 0 ≤ x) (h : okP f x) {r c : Int} {w : Int → Int} (e : ps f x.toNat = (r, c, w)) : (r = 0 ∨ r = -1 ∨ (1 ≤ r ∧ r ≤ 500)) ∧ 0 ≤ c ∧ c ≤ 23 ∧ WOK w c := by
  have h1 := ps_in (f := f) x.toNat (by rw [show ((x.toNat : Nat) : Int) = x by omega]; exact h)
  rw [e] at h1
  exact h1
abbrev rm_P_grown : Room := { frames := 0, cells := 0, slots := 0, locals := 0 }
set_option maxHeartbeats 4000000 in
set_option maxRecDepth 100000 in
theorem c_P_grown (l : Launch) (D : va_G) (k : Nat → ClassId) (N : Nat) (AD : Int → Nat) (C : Int → va_E) (sz : Nat) (r0 : Int) (s0 : Int) (hr : r0 = 0 ∨ r0 = -1 ∨ (1 ≤ r0 ∧ r0 ≤ 500)) (hs : 0 ≤ s0 ∧ s0 < 256) : MI l y_P_grown (Cond.code y_P_grown b_P_grown 3 (Option.some Jvm.ClassFile.FieldType.int) :: WS) rm_P_grown D clW (tyW k) N AD C sz [.int (zI r0), .int (zI s0)] (fun r C' => r = zI (grw r0 s0) ∧ C' = C) := by
  refine MI.start (cc := b_P_grown) (maxL := 3) (rt := .int) (by decide) rfl (Nat.le_of_ble_eq_true rfl) ?_
  intro p e s m args below meth c Q ls hx hb hml hown hts hK hsz hw hl hret
  have hown : s.vm.findClass "RingMatches$Pad" = some m.cls := hown
  have hl : lv_has ls 3 [(0, .int (zI r0)), (1, .int (zI s0))] := hl
  have hA := wA_hi (N := N) (AD := AD) hsz
  obtain ⟨H, hH⟩ : ∃ H, H = s.heap := ⟨_, rfl⟩
  obtain ⟨locs, hlocs⟩ : ∃ z : List Loc, z = [] := ⟨_, rfl⟩
  have hw : WD D clW (wA N AD sz) s.heap H locs N AD C := by rw [hH, hlocs]; exact hw
  rw [← hlocs]
  suffices hgo : W p l e rm_P_grown s m args below meth c H locs 0 0 Q (F0 m 0 ls []) by rw [hH] at hgo; exact hgo
  refine lv_iload_n hx hb d_P_grown_0 rfl (lv_at hl 1 rfl) ?_
  refine zr_bipush hx hb d_P_grown_1 (by decide) ?_
  refine zr_icmp_ne (tgt := 17) hx hb ⟨by omega, by omega⟩ ⟨by omega, by omega⟩ d_P_grown_3 (by decide) (fun c1 => ?_) (fun c1 => ?_)
  · refine lv_iload_n hx hb d_P_grown_17 rfl (lv_at hl 1 rfl) ?_
    refine zr_bipush hx hb d_P_grown_18 (by decide) ?_
    refine zr_icmp_lt (tgt := 34) hx hb ⟨by omega, by omega⟩ ⟨by omega, by omega⟩ d_P_grown_20 (by decide) (fun c2 => ?_) (fun c2 => ?_)
    · refine zr_bipush hx hb d_P_grown_34 (by decide) ?_
      exact hret _ _ _ _ _ _ d_P_grown_36 hw rfl ⟨by unfold grw; rw [if_neg (by omega), if_pos (by omega)], rfl⟩
    · refine lv_iload_n hx hb d_P_grown_23 rfl (lv_at hl 1 rfl) ?_
      refine zr_bipush hx hb d_P_grown_24 (by decide) ?_
      refine zr_icmp_gt (tgt := 34) hx hb ⟨by omega, by omega⟩ ⟨by omega, by omega⟩ d_P_grown_26 (by decide) (fun c3 => ?_) (fun c3 => ?_)
      · refine zr_bipush hx hb d_P_grown_34 (by decide) ?_
        exact hret _ _ _ _ _ _ d_P_grown_36 hw rfl ⟨by unfold grw; rw [if_neg (by omega), if_pos (by omega)], rfl⟩
      · refine lv_iload_n hx hb d_P_grown_29 rfl (lv_at hl 0 rfl) ?_
        refine zr_iconst hx hb d_P_grown_30 ?_
        refine zr_icmp_ne (tgt := 37) hx hb ⟨by omega, by omega⟩ ⟨by omega, by omega⟩ d_P_grown_31 (by decide) (fun c4 => ?_) (fun c4 => ?_)
        · refine zr_bipush hx hb d_P_grown_37 (by decide) ?_
          refine lv_iload_n hx hb d_P_grown_39 rfl (lv_at hl 0 rfl) ?_
          refine zr_imul hx hb d_P_grown_40 ?_
          refine lv_iload_n hx hb d_P_grown_41 rfl (lv_at hl 1 rfl) ?_
          refine zr_iadd hx hb d_P_grown_42 ?_
          refine zr_bipush hx hb d_P_grown_43 (by decide) ?_
          refine zr_isub hx hb d_P_grown_45 ?_
          refine lv_istore_n (lv' := [(2, .int (zI (((10 * r0) + s0) - 48))), (0, .int (zI r0)), (1, .int (zI s0))]) hx hb d_P_grown_46 rfl hl (by decide) rfl (fun ls hl => ?_)
          refine lv_iload_n hx hb d_P_grown_47 rfl (lv_at hl 0 rfl) ?_
          refine zr_iconst hx hb d_P_grown_48 ?_
          refine zr_icmp_lt (tgt := 63) hx hb ⟨by omega, by omega⟩ ⟨by omega, by omega⟩ d_P_grown_49 (by decide) (fun c5 => ?_) (fun c5 => ?_)
          · refine zr_bipush hx hb d_P_grown_63 (by decide) ?_
            exact hret _ _ _ _ _ _ d_P_grown_65 hw rfl ⟨by unfold grw; rw [if_neg (by omega), if_neg (by omega), if_neg (by omega)], rfl⟩
          · refine lv_iload_n hx hb d_P_grown_52 rfl (lv_at hl 0 rfl) ?_
            refine zr_sipush hx hb d_P_grown_53 (by decide) ?_
            refine zr_icmp_gt (tgt := 63) hx hb ⟨by omega, by omega⟩ ⟨by omega, by omega⟩ d_P_grown_56 (by decide) (fun c6 => ?_) (fun c6 => ?_)
            · refine zr_bipush hx hb d_P_grown_63 (by decide) ?_
              exact hret _ _ _ _ _ _ d_P_grown_65 hw rfl ⟨by unfold grw; rw [if_neg (by omega), if_neg (by omega), if_neg (by omega)], rfl⟩
            · refine lv_iload_n hx hb d_P_grown_59 rfl (lv_at hl 0 rfl) ?_
              refine lv_goto (tgt := 65) hx hb d_P_grown_60 (by decide) ?_
              exact hret _ _ _ _ _ _ d_P_grown_65 hw rfl ⟨by unfold grw; rw [if_neg (by omega), if_neg (by omega), if_pos (by omega)], rfl⟩
        · refine zr_bipush hx hb d_P_grown_34 (by decide) ?_
          exact hret _ _ _ _ _ _ d_P_grown_36 hw rfl ⟨by unfold grw; rw [if_neg (by omega), if_pos (by omega)], rfl⟩
  · refine lv_iload_n hx hb d_P_grown_6 rfl (lv_at hl 0 rfl) ?_
    refine zr_if_ne (tgt := 14) hx hb ⟨by omega, by omega⟩ d_P_grown_7 (by decide) (fun c7 => ?_) (fun c7 => ?_)
    · refine zr_bipush hx hb d_P_grown_14 (by decide) ?_
      exact hret _ _ _ _ _ _ d_P_grown_16 hw rfl ⟨by unfold grw; rw [if_pos (by omega), if_neg (by omega)], rfl⟩
    · refine zr_iconst hx hb d_P_grown_10 ?_
      refine lv_goto (tgt := 16) hx hb d_P_grown_11 (by decide) ?_
      exact hret _ _ _ _ _ _ d_P_grown_16 hw rfl ⟨by unfold grw; rw [if_pos (by omega), if_pos (by omega)], rfl⟩
abbrev rm_P_parseInto : Room := { frames := 4, cells := 0, slots := 0, locals := 88 }
set_option maxHeartbeats 4000000 in
set_option maxRecDepth 100000 in
theorem c_P_parseInto (l : Launch) (D : va_G) (k : Nat → ClassId) (N : Nat) (AD : Int → Nat) (C : Int → va_E) (sz : Nat) (b : Int) (n : Int) (f : Int → Int) (b2 : Int) (n0 : Int) (w0 : Int → Int) (e0 : Int → Int) (hb0 : 0 ≤ b ∧ b + 1 < (N : Int)) (hn : 0 ≤ n ∧ n ≤ 100) (hS : C b = .inr (1, [.ref (AD (b + 1)), .int (zI n)])) (hSw : C (b + 1) = aI (k 0) 100 f) (hb2 : 0 ≤ b2 ∧ b2 + 2 < (N : Int)) (hbb : b + 1 < b2 ∨ b2 + 2 < b) (hn0 : 0 ≤ n0 ∧ n0 ≤ 24) (hT : C b2 = .inr (2, [.ref (AD (b2 + 1)), .ref (AD (b2 + 2)), .int (zI n0)])) (hTw : C (b2 + 1) = aI (k 0) 24 w0) (hTe : C (b2 + 2) = aI (k 0) 24 e0) (hfs : ∀ j : Int, 0 ≤ j → j < n → 0 ≤ f j ∧ f j < 256) : MI l y_P_parseInto (Cond.code y_P_parseInto b_P_parseInto 4 (Option.some Jvm.ClassFile.FieldType.int) :: WS) rm_P_parseInto D clW (tyW k) N AD C sz [.ref (AD b), .ref (AD b2)] (fun r C' => ((∃ x : Int, (0 ≤ x ∧ x < n) ∧ okP f x ∧ ¬ okS (f x) (ps f x.toNat) ∧ r = zI x ∧ ∃ (n' : Int) (w' e' : Int → Int), (0 ≤ n' ∧ n' ≤ 24) ∧ C' b2 = .inr (2, [.ref (AD (b2 + 1)), .ref (AD (b2 + 2)), .int (zI n')]) ∧ C' (b2 + 1) = aI (k 0) 24 w' ∧ C' (b2 + 2) = aI (k 0) 24 e') ∨ (okP f n ∧ (ps f n.toNat).1 = 0 ∧ r = zI n ∧ ∃ (n' : Int) (w' e' : Int → Int), (0 ≤ n' ∧ n' ≤ 24) ∧ C' b2 = .inr (2, [.ref (AD (b2 + 1)), .ref (AD (b2 + 2)), .int (zI n')]) ∧ C' (b2 + 1) = aI (k 0) 24 w' ∧ C' (b2 + 2) = aI (k 0) 24 e') ∨ (∃ (rg cn : Int) (sw : Int → Int), okP f n ∧ ps f n.toNat = (rg, cn, sw) ∧ ¬ rg = 0 ∧ r = zI (-1) ∧ ∃ w' e' : Int → Int, C' b2 = .inr (2, [.ref (AD (b2 + 1)), .ref (AD (b2 + 2)), .int (zI (cn + 1))]) ∧ C' (b2 + 1) = aI (k 0) 24 w' ∧ C' (b2 + 2) = aI (k 0) 24 e' ∧ (∀ j : Int, 0 ≤ j → j < cn + 1 → w' j = zup sw cn rg j) ∧ EvOK w' e' (cn + 1))) ∧ ∀ j : Int, ¬ (b2 ≤ j ∧ j ≤ b2 + 2) → C' j = C j) := by
  refine MI.start (cc := b_P_parseInto) (maxL := 4) (rt := .int) (by decide) rfl (Nat.le_of_ble_eq_true rfl) ?_
  intro p e s m args below meth c Q ls hx hb hml hown hts hK hsz hw hl hret
  have hown : s.vm.findClass "RingMatches$Pad" = some m.cls := hown
  have hl : lv_has ls 4 [(0, .ref (AD b)), (1, .ref (AD b2))] := hl
  have hA := wA_hi (N := N) (AD := AD) hsz
  obtain ⟨H, hH⟩ : ∃ H, H = s.heap := ⟨_, rfl⟩
  obtain ⟨locs, hlocs⟩ : ∃ z : List Loc, z = [] := ⟨_, rfl⟩
  have hw : WD D clW (wA N AD sz) s.heap H locs N AD C := by rw [hH, hlocs]; exact hw
  rw [← hlocs]
  suffices hgo : W p l e rm_P_parseInto s m args below meth c H locs 0 0 Q (F0 m 0 ls []) by rw [hH] at hgo; exact hgo
  obtain ⟨C0, hC0⟩ : ∃ z : Int → va_E, z = C := ⟨_, rfl⟩
  rw [← hC0] at hret
  refine lv_aload_n hx hb d_P_parseInto_0 rfl (lv_at hl 1 rfl) ?_
  refine zr_iconst hx hb d_P_parseInto_1 ?_
  refine zr_put (ty := .int) (v := .int (zI 0)) hx hb hts iw_S tyS tyS_ok nmS hown hK hw b2 ⟨by omega, by omega⟩ hT rfl 2 (by decide) (hts _ wk_74) (fun _ h => h) rfl (by decide +kernel) rfl rfl (Nat.le_of_ble_eq_true rfl) d_P_parseInto_2 (fun H locs hw => ?_)
  obtain ⟨C1, hC1⟩ : ∃ z : Int → va_E, z = zup C b2 (.inr (2, [.ref (AD (b2 + 1)), .ref (AD (b2 + 2)), .int (zI 0)])) := ⟨_, rfl⟩
  have hw : WD D clW (wA N AD sz) s.heap H locs N AD C1 := by rw [hC1]; exact hw
  have frC1 : ∀ j : Int, j ≠ b2 → C1 j = C j := fun j h => by rw [hC1]; exact zup_n h
  have hS : C1 b = .inr (1, [.ref (AD (b + 1)), .int (zI n)]) := (frC1 _ (by omega)).trans hS
  have hSw : C1 (b + 1) = aI (k 0) 100 f := (frC1 _ (by omega)).trans hSw
  have hT : C1 b2 = .inr (2, [.ref (AD (b2 + 1)), .ref (AD (b2 + 2)), .int (zI 0)]) := by rw [hC1]; exact zup_s
  have hTw : C1 (b2 + 1) = aI (k 0) 24 w0 := (frC1 _ (by omega)).trans hTw
  have hTe : C1 (b2 + 2) = aI (k 0) 24 e0 := (frC1 _ (by omega)).trans hTe
  refine zr_iconst hx hb d_P_parseInto_5 ?_
  refine lv_istore_n (lv' := [(2, .int (zI 0)), (0, .ref (AD b)), (1, .ref (AD b2))]) hx hb d_P_parseInto_6 rfl hl (by decide) rfl (fun ls hl => ?_)
  refine zr_iconst hx hb d_P_parseInto_7 ?_
  refine lv_istore_n (lv' := [(3, .int (zI 0)), (2, .int (zI 0)), (0, .ref (AD b)), (1, .ref (AD b2))]) hx hb d_P_parseInto_8 rfl hl (by decide) rfl (fun ls hl => ?_)
  have lp : ∀ (n9 : Nat) (x : Int) (rg : Int) (cn : Int) (ww : Int → Int) (sw : Int → Int) (C : Int → va_E) (H : Heap) (locs : List Loc) (ls : Array Slot), (0 ≤ x ∧ x ≤ n) → (okP f x) → (ps f x.toNat = (rg, cn, sw)) → (∀ j : Int, 0 ≤ j → j < cn → ww j = sw j) → (∀ j : Int, ¬ (b2 ≤ j ∧ j ≤ b2 + 2) → C j = C0 j) → (C b = .inr (1, [.ref (AD (b + 1)), .int (zI n)])) → (C (b + 1) = aI (k 0) 100 f) → (C b2 = .inr (2, [.ref (AD (b2 + 1)), .ref (AD (b2 + 2)), .int (zI cn)])) → (C (b2 + 1) = aI (k 0) 24 ww) → (C (b2 + 2) = aI (k 0) 24 e0) → (n - x).toNat < n9 → WD D clW (wA N AD sz) s.heap H locs N AD C → lv_has ls 4 [(0, .ref (AD b)), (1, .ref (AD b2)), (2, .int (zI rg)), (3, .int (zI x))] → W p l e rm_P_parseInto s m args below meth c H locs 0 0 Q (F0 m 9 ls []) := by
    intro n9
    induction n9 with
    | zero => intro x rg cn ww sw C H locs ls hx1 hok hps hww hfr hS hSw hT hTw hTe hm hw hl; exact absurd hm (by omega)
    | succ n9 ihlp =>
      intro x rg cn ww sw C H locs ls hx1 hok hps hww hfr hS hSw hT hTw hTe hm hw hl
      have hin := ps_inI hx1.1 hok hps
      obtain ⟨hin1, hin2, hin3, hin4⟩ := hin
      refine lv_iload_n hx hb d_P_parseInto_9 rfl (lv_at hl 3 rfl) ?_
      refine lv_aload_n hx hb d_P_parseInto_10 rfl (lv_at hl 0 rfl) ?_
      refine zr_get (v := .int (zI n)) hx hb hts iw_P hown hK hw b ⟨by omega, by omega⟩ hS rfl 1 (by decide) (hts _ wk_55) (fun _ h => h) rfl d_P_parseInto_11 ?_
      refine zr_icmp_ge (tgt := 76) hx hb ⟨by omega, by omega⟩ ⟨by omega, by omega⟩ d_P_parseInto_14 (by decide) (fun c2 => ?_) (fun c2 => ?_)
      · have hxn : x = n := by omega
        refine lv_iload_n hx hb d_P_parseInto_76 rfl (lv_at hl 2 rfl) ?_
        refine zr_if_ne (tgt := 85) hx hb ⟨by omega, by omega⟩ d_P_parseInto_77 (by decide) (fun c3 => ?_) (fun c3 => ?_)
        · have hne := c3
          refine lv_aload_n hx hb d_P_parseInto_85 rfl (lv_at hl 1 rfl) ?_
          refine lv_iload_n hx hb d_P_parseInto_86 rfl (lv_at hl 2 rfl) ?_
          refine zr_callV (va_runV (As := [.int (zI rg)]) (rest := []) ⟨hx, hb, hml, hown, hts⟩ (c_S_add l D k N AD C H.size b2 cn ww e0 rg ⟨by omega, by omega⟩ ⟨by omega, by omega⟩ hT hTw hTe (by omega)) (cwV 1 hts (good_V wk_260 wk_261 wk_262 wk_29 wk_263) rfl rfl rfl (by decide +kernel) ⟨Nat.le_of_ble_eq_true rfl, Nat.le_of_ble_eq_true rfl⟩) (cPre_V hK hw b2 ⟨by omega, by omega⟩ hT rfl) rfl rfl hl.1 rfl (lv_room (Nat.le_of_ble_eq_true rfl)) d_P_parseInto_87 ⟨Nat.le_of_ble_eq_true rfl, Nat.le_of_ble_eq_true rfl⟩) hw hA (fun C4 H locs hq5 hw => ?_)
          obtain ⟨hq5a, hq5b, hq5c, frC4⟩ := hq5
          have hS : C4 b = .inr (1, [.ref (AD (b + 1)), .int (zI n)]) := (frC4 _ (by omega)).trans hS
          have hSw : C4 (b + 1) = aI (k 0) 100 f := (frC4 _ (by omega)).trans hSw
          have hT : C4 b2 = .inr (2, [.ref (AD (b2 + 1)), .ref (AD (b2 + 2)), .int (zI (cn + 1))]) := hq5a
          have hTw : C4 (b2 + 1) = aI (k 0) 24 (zup ww cn rg) := hq5b
          have hTe : C4 (b2 + 2) = aI (k 0) 24 e0 := hq5c.trans hTe
          have hw3 : ∀ j : Int, 0 ≤ j → j < cn + 1 → (zup ww cn rg) j = zup sw cn rg j := zup_ok (g := zup sw cn rg) (fun j h1 h2 => by rw [zup_n (by omega)]; exact hww j h1 h2) (by rw [zup_s])
          have hok2 : WOK (zup sw cn rg) (cn + 1) := by
            intro j h1 h2
            by_cases hj : j = cn
            · rw [hj, zup_s]; omega
            · rw [zup_n hj]; exact hin4 j h1 (by omega)
          have hok3 : WOK (zup ww cn rg) (cn + 1) := WOK.to hok2 hw3
          refine lv_aload_n hx hb d_P_parseInto_90 rfl (lv_at hl 1 rfl) ?_
          refine zr_callV (va_runV (As := []) (rest := []) ⟨hx, hb, hml, hown, hts⟩ (c_S_makeEven l D k N AD C4 H.size b2 (cn + 1) (zup ww cn rg) e0 ⟨by omega, by omega⟩ ⟨by omega, by omega⟩ hT hTw hTe hok3) (cwV 0 hts (good_V wk_267 wk_268 wk_269 wk_29 wk_270) rfl rfl rfl (by decide +kernel) ⟨Nat.le_of_ble_eq_true rfl, Nat.le_of_ble_eq_true rfl⟩) (cPre_V hK hw b2 ⟨by omega, by omega⟩ hT rfl) rfl rfl hl.1 rfl (lv_room (Nat.le_of_ble_eq_true rfl)) d_P_parseInto_91 ⟨Nat.le_of_ble_eq_true rfl, Nat.le_of_ble_eq_true rfl⟩) hw hA (fun C6 H locs hq7 hw => ?_)
          obtain ⟨ev8, hq7a, hEv, frC6⟩ := hq7
          have hS : C6 b = .inr (1, [.ref (AD (b + 1)), .int (zI n)]) := (frC6 _ (by omega)).trans hS
          have hSw : C6 (b + 1) = aI (k 0) 100 f := (frC6 _ (by omega)).trans hSw
          have hT : C6 b2 = .inr (2, [.ref (AD (b2 + 1)), .ref (AD (b2 + 2)), .int (zI (cn + 1))]) := (frC6 _ (by omega)).trans hT
          have hTw : C6 (b2 + 1) = aI (k 0) 24 (zup ww cn rg) := (frC6 _ (by omega)).trans hTw
          have hTe : C6 (b2 + 2) = aI (k 0) 24 ev8 := hq7a
          refine zr_iconst hx hb d_P_parseInto_94 ?_
          exact hret _ _ _ _ _ _ d_P_parseInto_95 hw rfl ⟨Or.inr (Or.inr ⟨rg, cn, sw, by rw [← hxn]; exact hok, by rw [← hxn]; exact hps, hne, rfl, ⟨_, _, hT, hTw, hTe, hw3, hEv⟩⟩), fun j hj => by rw [frC6 j (by omega), frC4 j (by omega)]; exact hfr j hj⟩
        · refine lv_aload_n hx hb d_P_parseInto_80 rfl (lv_at hl 0 rfl) ?_
          refine zr_get (v := .int (zI n)) hx hb hts iw_P hown hK hw b ⟨by omega, by omega⟩ hS rfl 1 (by decide) (hts _ wk_55) (fun _ h => h) rfl d_P_parseInto_81 ?_
          exact hret _ _ _ _ _ _ d_P_parseInto_84 hw rfl ⟨Or.inr (Or.inl ⟨by rw [← hxn]; exact hok, by rw [← hxn, hps]; exact c3, rfl, ⟨_, _, _, by omega, hT, hTw, hTe⟩⟩), hfr⟩
      · refine lv_aload_n hx hb d_P_parseInto_17 rfl (lv_at hl 0 rfl) ?_
        refine zr_get (v := .ref (AD (b + 1))) hx hb hts iw_P hown hK hw b ⟨by omega, by omega⟩ hS rfl 0 (by decide) (hts _ wk_53) (fun _ h => h) rfl d_P_parseInto_18 ?_
        refine lv_iload_n hx hb d_P_parseInto_21 rfl (lv_at hl 3 rfl) ?_
        have hfx := hfs x (by omega) (by omega)
        refine zr_iald hx hb hK hw (b + 1) ⟨by omega, by omega⟩ 0 hSw rfl ⟨by omega, by omega⟩ (by decide) d_P_parseInto_22 ?_
        refine zr_bipush hx hb d_P_parseInto_23 (by decide) ?_
        refine zr_icmp_ne (tgt := 51) hx hb ⟨by omega, by omega⟩ ⟨by omega, by omega⟩ d_P_parseInto_25 (by decide) (fun c9 => ?_) (fun c9 => ?_)
        · have hc9 : ¬ (f x = 32 ∧ ¬ rg = 0 ∧ cn < 23) := by omega
          have hgi := grw_in rg (f x)
          refine lv_iload_n hx hb d_P_parseInto_51 rfl (lv_at hl 2 rfl) ?_
          refine lv_aload_n hx hb d_P_parseInto_52 rfl (lv_at hl 0 rfl) ?_
          refine zr_get (v := .ref (AD (b + 1))) hx hb hts iw_P hown hK hw b ⟨by omega, by omega⟩ hS rfl 0 (by decide) (hts _ wk_53) (fun _ h => h) rfl d_P_parseInto_53 ?_
          refine lv_iload_n hx hb d_P_parseInto_56 rfl (lv_at hl 3 rfl) ?_
          have hfx := hfs x (by omega) (by omega)
          refine zr_iald hx hb hK hw (b + 1) ⟨by omega, by omega⟩ 0 hSw rfl ⟨by omega, by omega⟩ (by decide) d_P_parseInto_57 ?_
          refine zr_callI (va_runS (As := [.int (zI rg), .int (zI (f x))]) (rest := []) ⟨hx, hb, hml, hown, hts⟩ (c_P_grown l D k N AD C H.size rg (f x) (by omega) (by omega)) (va_cwS 2 hts (good_S wk_264 wk_265 wk_28 wk_266) rfl rfl rfl (by decide +kernel) ⟨Nat.le_of_ble_eq_true rfl, Nat.le_of_ble_eq_true rfl⟩) (cPre_S hK hw) rfl rfl hl.1 rfl (lv_room (Nat.le_of_ble_eq_true rfl)) d_P_parseInto_58 ⟨Nat.le_of_ble_eq_true rfl, Nat.le_of_ble_eq_true rfl⟩) hw hA (fun r9 C11 H locs hq10 hw => ?_)
          obtain ⟨hr9, hCe⟩ := hq10
          rw [hCe] at hw; subst hr9
          refine lv_istore_n (lv' := [(2, .int (zI (grw rg (f x)))), (0, .ref (AD b)), (1, .ref (AD b2)), (3, .int (zI x))]) hx hb d_P_parseInto_61 rfl hl (by decide) rfl (fun ls hl => ?_)
          refine lv_iload_n hx hb d_P_parseInto_62 rfl (lv_at hl 0 rfl) ?_
          refine zr_bipush hx hb d_P_parseInto_63 (by decide) ?_
          refine zr_icmp_ne (tgt := 70) hx hb ⟨by omega, by omega⟩ ⟨by omega, by omega⟩ d_P_parseInto_65 (by decide) (fun c12 => ?_) (fun c12 => ?_)
          · have hs9 : okS (f x) (ps f x.toNat) := by rw [hps]; exact Or.inr c12
            refine lv_iinc (v := zI (x + 1)) (lv' := [(3, .int (zI (x + 1))), (2, .int (zI (grw rg (f x)))), (0, .ref (AD b)), (1, .ref (AD b2))]) hx hb d_P_parseInto_70 hl (k := 3) rfl (zI_add _ _) (by decide) rfl (fun ls hl => ?_)
            refine lv_goto (tgt := 9) hx hb d_P_parseInto_73 (by decide) ?_
            exact ihlp (x + 1) (grw rg (f x)) cn ww sw C H locs ls (by omega) (okP_step hok hs9) (by rw [ps_step f hx1.1, hps]; exact if_neg hc9) hww hfr hS hSw hT hTw hTe (by omega) hw (lv_sub hl [2, 3, 1, 0] rfl)
          · have hbad : ¬ okS (f x) (ps f x.toNat) := by rw [hps]; intro h; rcases h with h | h; exact hc9 h; exact h c12
            refine lv_iload_n hx hb d_P_parseInto_68 rfl (lv_at hl 3 rfl) ?_
            exact hret _ _ _ _ _ _ d_P_parseInto_69 hw rfl ⟨Or.inl ⟨x, by omega, hok, hbad, rfl, ⟨_, _, _, by omega, hT, hTw, hTe⟩⟩, hfr⟩
        · refine lv_iload_n hx hb d_P_parseInto_28 rfl (lv_at hl 2 rfl) ?_
          refine zr_if_eq (tgt := 51) hx hb ⟨by omega, by omega⟩ d_P_parseInto_29 (by decide) (fun c13 => ?_) (fun c13 => ?_)
          · have hc9 : ¬ (f x = 32 ∧ ¬ rg = 0 ∧ cn < 23) := by omega
            have hgi := grw_in rg (f x)
            refine lv_iload_n hx hb d_P_parseInto_51 rfl (lv_at hl 2 rfl) ?_
            refine lv_aload_n hx hb d_P_parseInto_52 rfl (lv_at hl 0 rfl) ?_
            refine zr_get (v := .ref (AD (b + 1))) hx hb hts iw_P hown hK hw b ⟨by omega, by omega⟩ hS rfl 0 (by decide) (hts _ wk_53) (fun _ h => h) rfl d_P_parseInto_53 ?_
            refine lv_iload_n hx hb d_P_parseInto_56 rfl (lv_at hl 3 rfl) ?_
            have hfx := hfs x (by omega) (by omega)
            refine zr_iald hx hb hK hw (b + 1) ⟨by omega, by omega⟩ 0 hSw rfl ⟨by omega, by omega⟩ (by decide) d_P_parseInto_57 ?_
            refine zr_callI (va_runS (As := [.int (zI rg), .int (zI (f x))]) (rest := []) ⟨hx, hb, hml, hown, hts⟩ (c_P_grown l D k N AD C H.size rg (f x) (by omega) (by omega)) (va_cwS 2 hts (good_S wk_264 wk_265 wk_28 wk_266) rfl rfl rfl (by decide +kernel) ⟨Nat.le_of_ble_eq_true rfl, Nat.le_of_ble_eq_true rfl⟩) (cPre_S hK hw) rfl rfl hl.1 rfl (lv_room (Nat.le_of_ble_eq_true rfl)) d_P_parseInto_58 ⟨Nat.le_of_ble_eq_true rfl, Nat.le_of_ble_eq_true rfl⟩) hw hA (fun r9 C15 H locs hq14 hw => ?_)
            obtain ⟨hr9, hCe⟩ := hq14
            rw [hCe] at hw; subst hr9
            refine lv_istore_n (lv' := [(2, .int (zI (grw rg (f x)))), (0, .ref (AD b)), (1, .ref (AD b2)), (3, .int (zI x))]) hx hb d_P_parseInto_61 rfl hl (by decide) rfl (fun ls hl => ?_)
            refine lv_iload_n hx hb d_P_parseInto_62 rfl (lv_at hl 0 rfl) ?_
            refine zr_bipush hx hb d_P_parseInto_63 (by decide) ?_
            refine zr_icmp_ne (tgt := 70) hx hb ⟨by omega, by omega⟩ ⟨by omega, by omega⟩ d_P_parseInto_65 (by decide) (fun c16 => ?_) (fun c16 => ?_)
            · have hs9 : okS (f x) (ps f x.toNat) := by rw [hps]; exact Or.inr c16
              refine lv_iinc (v := zI (x + 1)) (lv' := [(3, .int (zI (x + 1))), (2, .int (zI (grw rg (f x)))), (0, .ref (AD b)), (1, .ref (AD b2))]) hx hb d_P_parseInto_70 hl (k := 3) rfl (zI_add _ _) (by decide) rfl (fun ls hl => ?_)
              refine lv_goto (tgt := 9) hx hb d_P_parseInto_73 (by decide) ?_
              exact ihlp (x + 1) (grw rg (f x)) cn ww sw C H locs ls (by omega) (okP_step hok hs9) (by rw [ps_step f hx1.1, hps]; exact if_neg hc9) hww hfr hS hSw hT hTw hTe (by omega) hw (lv_sub hl [2, 3, 1, 0] rfl)
            · have hbad : ¬ okS (f x) (ps f x.toNat) := by rw [hps]; intro h; rcases h with h | h; exact hc9 h; exact h c16
              refine lv_iload_n hx hb d_P_parseInto_68 rfl (lv_at hl 3 rfl) ?_
              exact hret _ _ _ _ _ _ d_P_parseInto_69 hw rfl ⟨Or.inl ⟨x, by omega, hok, hbad, rfl, ⟨_, _, _, by omega, hT, hTw, hTe⟩⟩, hfr⟩
          · refine lv_aload_n hx hb d_P_parseInto_32 rfl (lv_at hl 1 rfl) ?_
            refine zr_get (v := .int (zI cn)) hx hb hts iw_S hown hK hw b2 ⟨by omega, by omega⟩ hT rfl 2 (by decide) (hts _ wk_74) (fun _ h => h) rfl d_P_parseInto_33 ?_
            refine zr_bipush hx hb d_P_parseInto_36 (by decide) ?_
            refine zr_icmp_ge (tgt := 51) hx hb ⟨by omega, by omega⟩ ⟨by omega, by omega⟩ d_P_parseInto_38 (by decide) (fun c17 => ?_) (fun c17 => ?_)
            · have hc9 : ¬ (f x = 32 ∧ ¬ rg = 0 ∧ cn < 23) := by omega
              have hgi := grw_in rg (f x)
              refine lv_iload_n hx hb d_P_parseInto_51 rfl (lv_at hl 2 rfl) ?_
              refine lv_aload_n hx hb d_P_parseInto_52 rfl (lv_at hl 0 rfl) ?_
              refine zr_get (v := .ref (AD (b + 1))) hx hb hts iw_P hown hK hw b ⟨by omega, by omega⟩ hS rfl 0 (by decide) (hts _ wk_53) (fun _ h => h) rfl d_P_parseInto_53 ?_
              refine lv_iload_n hx hb d_P_parseInto_56 rfl (lv_at hl 3 rfl) ?_
              have hfx := hfs x (by omega) (by omega)
              refine zr_iald hx hb hK hw (b + 1) ⟨by omega, by omega⟩ 0 hSw rfl ⟨by omega, by omega⟩ (by decide) d_P_parseInto_57 ?_
              refine zr_callI (va_runS (As := [.int (zI rg), .int (zI (f x))]) (rest := []) ⟨hx, hb, hml, hown, hts⟩ (c_P_grown l D k N AD C H.size rg (f x) (by omega) (by omega)) (va_cwS 2 hts (good_S wk_264 wk_265 wk_28 wk_266) rfl rfl rfl (by decide +kernel) ⟨Nat.le_of_ble_eq_true rfl, Nat.le_of_ble_eq_true rfl⟩) (cPre_S hK hw) rfl rfl hl.1 rfl (lv_room (Nat.le_of_ble_eq_true rfl)) d_P_parseInto_58 ⟨Nat.le_of_ble_eq_true rfl, Nat.le_of_ble_eq_true rfl⟩) hw hA (fun r9 C19 H locs hq18 hw => ?_)
              obtain ⟨hr9, hCe⟩ := hq18
              rw [hCe] at hw; subst hr9
              refine lv_istore_n (lv' := [(2, .int (zI (grw rg (f x)))), (0, .ref (AD b)), (1, .ref (AD b2)), (3, .int (zI x))]) hx hb d_P_parseInto_61 rfl hl (by decide) rfl (fun ls hl => ?_)
              refine lv_iload_n hx hb d_P_parseInto_62 rfl (lv_at hl 0 rfl) ?_
              refine zr_bipush hx hb d_P_parseInto_63 (by decide) ?_
              refine zr_icmp_ne (tgt := 70) hx hb ⟨by omega, by omega⟩ ⟨by omega, by omega⟩ d_P_parseInto_65 (by decide) (fun c20 => ?_) (fun c20 => ?_)
              · have hs9 : okS (f x) (ps f x.toNat) := by rw [hps]; exact Or.inr c20
                refine lv_iinc (v := zI (x + 1)) (lv' := [(3, .int (zI (x + 1))), (2, .int (zI (grw rg (f x)))), (0, .ref (AD b)), (1, .ref (AD b2))]) hx hb d_P_parseInto_70 hl (k := 3) rfl (zI_add _ _) (by decide) rfl (fun ls hl => ?_)
                refine lv_goto (tgt := 9) hx hb d_P_parseInto_73 (by decide) ?_
                exact ihlp (x + 1) (grw rg (f x)) cn ww sw C H locs ls (by omega) (okP_step hok hs9) (by rw [ps_step f hx1.1, hps]; exact if_neg hc9) hww hfr hS hSw hT hTw hTe (by omega) hw (lv_sub hl [2, 3, 1, 0] rfl)
              · have hbad : ¬ okS (f x) (ps f x.toNat) := by rw [hps]; intro h; rcases h with h | h; exact hc9 h; exact h c20
                refine lv_iload_n hx hb d_P_parseInto_68 rfl (lv_at hl 3 rfl) ?_
                exact hret _ _ _ _ _ _ d_P_parseInto_69 hw rfl ⟨Or.inl ⟨x, by omega, hok, hbad, rfl, ⟨_, _, _, by omega, hT, hTw, hTe⟩⟩, hfr⟩
            · have hc9 : f x = 32 ∧ ¬ rg = 0 ∧ cn < 23 := by omega
              have hs9 : okS (f x) (ps f x.toNat) := by rw [hps]; exact Or.inl hc9
              refine lv_aload_n hx hb d_P_parseInto_41 rfl (lv_at hl 1 rfl) ?_
              refine lv_iload_n hx hb d_P_parseInto_42 rfl (lv_at hl 2 rfl) ?_
              refine zr_callV (va_runV (As := [.int (zI rg)]) (rest := []) ⟨hx, hb, hml, hown, hts⟩ (c_S_add l D k N AD C H.size b2 cn ww e0 rg ⟨by omega, by omega⟩ ⟨by omega, by omega⟩ hT hTw hTe (by omega)) (cwV 1 hts (good_V wk_260 wk_261 wk_262 wk_29 wk_263) rfl rfl rfl (by decide +kernel) ⟨Nat.le_of_ble_eq_true rfl, Nat.le_of_ble_eq_true rfl⟩) (cPre_V hK hw b2 ⟨by omega, by omega⟩ hT rfl) rfl rfl hl.1 rfl (lv_room (Nat.le_of_ble_eq_true rfl)) d_P_parseInto_43 ⟨Nat.le_of_ble_eq_true rfl, Nat.le_of_ble_eq_true rfl⟩) hw hA (fun C21 H locs hq22 hw => ?_)
              obtain ⟨hq22a, hq22b, hq22c, frC21⟩ := hq22
              have hS : C21 b = .inr (1, [.ref (AD (b + 1)), .int (zI n)]) := (frC21 _ (by omega)).trans hS
              have hSw : C21 (b + 1) = aI (k 0) 100 f := (frC21 _ (by omega)).trans hSw
              have hT : C21 b2 = .inr (2, [.ref (AD (b2 + 1)), .ref (AD (b2 + 2)), .int (zI (cn + 1))]) := hq22a
              have hTw : C21 (b2 + 1) = aI (k 0) 24 (zup ww cn rg) := hq22b
              have hTe : C21 (b2 + 2) = aI (k 0) 24 e0 := hq22c.trans hTe
              refine zr_iconst hx hb d_P_parseInto_46 ?_
              refine lv_istore_n (lv' := [(2, .int (zI 0)), (0, .ref (AD b)), (1, .ref (AD b2)), (3, .int (zI x))]) hx hb d_P_parseInto_47 rfl hl (by decide) rfl (fun ls hl => ?_)
              refine lv_goto (tgt := 70) hx hb d_P_parseInto_48 (by decide) ?_
              refine lv_iinc (v := zI (x + 1)) (lv' := [(3, .int (zI (x + 1))), (2, .int (zI 0)), (0, .ref (AD b)), (1, .ref (AD b2))]) hx hb d_P_parseInto_70 hl (k := 3) rfl (zI_add _ _) (by decide) rfl (fun ls hl => ?_)
              refine lv_goto (tgt := 9) hx hb d_P_parseInto_73 (by decide) ?_
              exact ihlp (x + 1) 0 (cn + 1) (zup ww cn rg) (zup sw cn rg) C21 H locs ls (by omega) (okP_step hok hs9) (by rw [ps_step f hx1.1, hps]; exact if_pos hc9) (zup_ok (g := zup sw cn rg) (fun j h1 h2 => by rw [zup_n (by omega)]; exact hww j h1 h2) (by rw [zup_s])) (fun j hj => by rw [frC21 j hj]; exact hfr j hj) hS hSw hT hTw hTe (by omega) hw (lv_sub hl [2, 3, 1, 0] rfl)
  exact lp ((n - 0 : Int).toNat + 1) 0 0 0 w0 (fun _ => -1) C1 H locs ls (by omega) (fun j h1 h2 => absurd h2 (by omega)) rfl (fun j h1 h2 => absurd h2 (by omega)) (fun j hj => by rw [frC1 j (by omega), hC0]) hS hSw hT hTw hTe (by omega) hw (lv_sub hl [2, 3, 1, 0] rfl)
end
section
/-! throwing: the words that are not good ones, the texts, the two statics -/
def xWB : List Cond := lw_tbl.filter (fun w => match w with | .castable _ _ => true | .declares _ => true | _ => false)
def xW (U : State) : Prop := ∀ w ∈ xWB, va_Nw w U
theorem xWB_k {w : Cond} (h : w ∈ xWB) : (∃ a b, w = .castable a b) ∨ ∃ a, w = .declares a := by
  have h2 := (List.mem_filter.mp h).2
  cases w <;> first | exact Or.inl ⟨_, _, rfl⟩ | exact Or.inr ⟨_, rfl⟩ | cases h2
theorem xW.warm {s U : State} (hW : s.WarmedH U.vm) (h : xW s) : xW U := fun w hw => by
  rcases xWB_k hw with ⟨a, b, rfl⟩ | ⟨a, rfl⟩
  · exact va_Nw.warmC hW (h _ hw)
  · exact va_Nw.warmD hW (h _ hw)
theorem xW.same {s U : State} (hv : s.vm = U.vm) (h : xW s) : xW U := fun w hw => by
  rcases xWB_k hw with ⟨a, b, rfl⟩ | ⟨a, rfl⟩
  · exact va_Nw.same rfl hv (h _ hw)
  · exact va_Nw.same rfl hv (h _ hw)
theorem xW.use {s : State} {args : Array Value} (h : xW s) : ∀ w ∈ xWB, w.before args s = true := fun w hw => by
  rcases xWB_k hw with ⟨a, b, rfl⟩ | ⟨a, rfl⟩
  · exact va_Nw.use rfl (h _ hw)
  · exact va_Nw.use rfl (h _ hw)
def strL : List (Nat × String) := [(51, "a sign is not 32 .. 126"), (66, "the pad would have more than 100 signs"), (76, "there are eight series"), (201, "no such series"), (96, "no such ring"), (105, "no such sign"), (205, "least is not 3 .. 24"), (203, "no such overlap"), (146, "no such what"), (207, "no such part"), (165, "the series has 24 rings"), (167, "the shift is not -24 .. 24")]
def xC (A : Nat → Prop) (U : State) (H : Heap) : Prop := xW U ∧ (∀ q ∈ strL, ∃ a, vk_R "RingMatches" q.1 q.2 a U) ∧ vx_Zq Jvm.Bundle.tN "UNASSIGNED_STACK" Jvm.Bundle.steD A U H ∧ vx_Zq Jvm.Bundle.tN "SUPPRESSED_SENTINEL" Jvm.Bundle.listD A U H
theorem xC.warm {A : Nat → Prop} {s U : State} {H : Heap} (hW : s.WarmedH U.vm) (h : xC A s H) : xC A U H := ⟨h.1.warm hW, fun q hq => (h.2.1 q hq).elim fun a ha => ⟨a, vk_R.warm hW ha⟩, h.2.2.1.moved hW.alike, h.2.2.2.moved hW.alike⟩
theorem xC.same {A : Nat → Prop} {s U : State} {H : Heap} (hv : s.vm = U.vm) (h : xC A s H) : xC A U H := ⟨h.1.same hv, fun q hq => (h.2.1 q hq).elim fun a ha => ⟨a, vk_R.same hv.symm ha⟩, h.2.2.1.moved (by rw [hv]; exact Vm.Alike.refl _), h.2.2.2.moved (by rw [hv]; exact Vm.Alike.refl _)⟩
theorem xC.kept {A : Nat → Prop} {U : State} {H H1 : Heap} (h : xC A U H) (hq : ∀ a : Nat, a < H.size → ¬ A a → H1[a]? = H[a]?) : xC A U H1 := ⟨h.1, h.2.1, h.2.2.1.kept hq, h.2.2.2.kept hq⟩
theorem xC.narrow {A B : Nat → Prop} {U : State} {H : Heap} (h : xC A U H) (hAB : ∀ q, B q → A q) : xC B U H := ⟨h.1, h.2.1, h.2.2.1.narrow hAB, h.2.2.2.narrow hAB⟩
def xPre (D : va_G) (cl : List vw_C) (tys : List (ClassId × FieldType)) (N : Nat) (AD : Int → Nat) (C : Int → va_E) (sz : Nat) : State → Prop := fun U => cPre D cl tys N AD C sz U ∧ xC (wA N AD sz) U U.heap
theorem xPre_blind {av : List Value} {D : va_G} {cl : List vw_C} {tys : List (ClassId × FieldType)} {N : Nat} {AD : Int → Nat} {C : Int → va_E} {sz : Nat} : FrameBlind (va_Pc av (xPre D cl tys N AD C sz)) := fun a U g mk q => by
  obtain ⟨q0, ⟨q1, qP, qK, qD⟩, qx⟩ := q
  exact ⟨q0, ⟨q1, qP, va_K.moved (u := U) (U := U.calling g mk a) (Vm.Alike.refl U.vm) qK, qD⟩, xC.same (s := U) (U := U.calling g mk a) (H := U.heap) rfl qx⟩
theorem xPre_all {s : State} {av : List Value} {D : va_G} {cl : List vw_C} {tys : List (ClassId × FieldType)} {A : Nat → Prop} {H : Heap} {locs : List Loc} {N : Nat} {AD : Int → Nat} {C : Int → va_E} (hK : va_K D cl tys s) (hw : WD D cl A s.heap H locs N AD C) (hA : ∀ q, s.heap.size ≤ q → A q) (hx : xC A s s.heap) : ∀ U : State, U.heap = H → s.WarmedH U.vm → va_Pc av (xPre D cl tys N AD C H.size) av.toArray U := fun U hU hW =>
  ⟨rfl, (cPre_all (av := av) hK hw U hU hW).2, by
    rw [hU]
    exact (((hx.kept hw.2.2.2.1).narrow (wA_free hw hA)).warm hW)⟩
theorem xPre_V {s : State} {As : List Value} {D : va_G} {cl : List vw_C} {tys : List (ClassId × FieldType)} {A : Nat → Prop} {H : Heap} {locs : List Loc} {N : Nat} {AD : Int → Nat} {C : Int → va_E} (hK : va_K D cl tys s) (hw : WD D cl A s.heap H locs N AD C) (hA : ∀ q, s.heap.size ≤ q → A q) (hx : xC A s s.heap) (k : Int) (hk : 0 ≤ k ∧ k < N) {ci : Nat} {fs : List Value} (hC : C k = .inr (ci, fs)) {q : vw_C} (hc : cl[ci]? = some q) : PreV s H q.1 (AD k) (va_Pc (.ref (AD k) :: As) (xPre D cl tys N AD C H.size)) As :=
  ⟨xPre_blind, va_recv hK hw.1 hc (by rw [wl_get hk.1 hk.2, hC]), fun U hU hW => xPre_all hK hw hA hx U hU hW⟩
theorem xPre_S {s : State} {As : List Value} {D : va_G} {cl : List vw_C} {tys : List (ClassId × FieldType)} {A : Nat → Prop} {H : Heap} {locs : List Loc} {N : Nat} {AD : Int → Nat} {C : Int → va_E} (hK : va_K D cl tys s) (hw : WD D cl A s.heap H locs N AD C) (hA : ∀ q, s.heap.size ≤ q → A q) (hx : xC A s s.heap) : PreS s H (va_Pc As (xPre D cl tys N AD C H.size)) As :=
  ⟨xPre_blind, fun U hU hW => xPre_all hK hw hA hx U hU hW⟩
/-- what holds where it has thrown: the world is as it was -/
abbrev xX (D : va_G) (cl : List vw_C) (tys : List (ClassId × FieldType)) (N : Nat) (AD : Int → Nat) (C : Int → va_E) (sz : Nat) (xp : String → Prop) : String → State → State → Prop := vx_X (S := Unit) (fun _ => True) (fun E _ t => xp E ∧ cB D cl tys N AD sz C t) (wA N AD sz)
def xNm : List String := ["java/lang/RuntimeException", "java/lang/Exception"]
/-- an exception's class, with the places of its name and its constructor -/
def xcls (cls : String) (ik ic : Nat) : Prop := Jvm.Bundle.fit cls = true ∧ Cond.classLink "RingMatches" ik cls ∈ WS ∧ Cond.initialized cls ∈ WS ∧ (∀ w ∈ (vx_atS "RingMatches" ic cls xNm).filter goodWord, w ∈ WS) ∧ (∀ w ∈ (vx_atS "RingMatches" ic cls xNm).filter (fun w => !goodWord w), w ∈ xWB) ∧ (∀ w ∈ Cond.classLink "RingMatches" ik cls :: Cond.initialized cls :: vx_atS "RingMatches" ic cls xNm, vx_ot w = true)
theorem xc_IAE : xcls "java/lang/IllegalArgumentException" 49 53 := ⟨by decide +kernel, wk_157, wk_35, by decide +kernel, by decide +kernel, by decide +kernel⟩
theorem xc_ISE : xcls "java/lang/IllegalStateException" 64 68 := ⟨by decide +kernel, wk_228, wk_36, by decide +kernel, by decide +kernel, by decide +kernel⟩
theorem xc_IOB : xcls "java/lang/IndexOutOfBoundsException" 94 98 := ⟨by decide +kernel, wk_302, wk_38, by decide +kernel, by decide +kernel, by decide +kernel⟩
theorem xNm_fit : ∀ n ∈ xNm, Jvm.Bundle.fit n = true := by decide +kernel
section ZX
variable {p : Program} {l : Launch} {e : Env} {R : Room} {s : State} {m : MethodId} {args : Array Value} {below : List Frame} {meth : Method} {c : Code} {H : Heap} {locs : List Loc} {cells slots : Nat} {cc : ByteArray} {pc : Nat} {ls : Array Slot} {rest : List Value} {a0 : Array Value}
variable {D : va_G} {cl : List vw_C} {tys : List (ClassId × FieldType)} {N : Nat} {AD : Int → Nat} {C : Int → va_E} {sz : Nat}
variable {Qc : Array Value → State → Outcome → State → Prop} {mc ms : Nat} {xp : String → Prop}
theorem xthrow (hx : p.tables.exec = Jvm.exec) (hb : c.code = cc) (hlt : l.stackTraces = false) (hown : s.vm.findClass "RingMatches" = some m.cls) (hts : ∀ w ∈ WS, w.before args s = true) (hK : va_K D cl tys s) (hxc : xC (wA N AD sz) s s.heap) (htb : ∀ x ∈ c.exceptionTable.toList, False) (hlk : meth.locks = false) {cls text : String} {ik is ic : Nat} (hc9 : xcls cls ik ic) (hst : (is, text) ∈ strL) (hw : WD D cl (wA N AD sz) s.heap H locs N AD C) (hp : xp cls) (hsize : ls.size = c.maxLocals)
    (d0 : decode cc pc = .ok (.new ik, 3)) (d3 : decode cc (pc + 3) = .ok (.dup, 1)) (d4 : decode cc (pc + 4) = .ok (.ldc is, 2)) (d6 : decode cc (pc + 6) = .ok (.invokespecial ic, 3)) (d9 : decode cc (pc + 9) = .ok (.athrow, 1))
    (hRf : 6 ≤ R.frames) (hRl : (rest.map fun v => v.category).sum + 82 ≤ R.locals) (hRc : cells + 1 ≤ R.cells) (hRs : slots + 6 ≤ R.slots) (hc : cells + 1 ≤ mc) (hs : slots + 6 ≤ ms) :
    W p l e R s m args below meth c H locs cells slots (vx_MQ below Qc (xX D cl tys N AD C sz xp) args s mc ms (wA N AD sz)) (F0 m pc ls rest) := by
  obtain ⟨g1, g2, g3, g4, g5, g6⟩ := hc9
  obtain ⟨sa, hsa⟩ := hxc.2.1 _ hst
  refine vx_throwS (names := xNm) (A := wA N AD sz) hx hb hlt hown g1 xNm_fit (hts _ g2) (hts _ g3) hsa (vx_hat (fun w h => hts w (g4 w h)) g5 hxc.1.use) g6 hxc.2.2.1 hxc.2.2.2 hw.2.2 hsize d0 d3 d4 d6 d9 (fun x hx => (htb x hx).elim) (by show 2 + 3 < R.frames; omega) (by show _ + (13 * (2 + 1) + 43) ≤ _; omega) hRc hRs hlk (fun t ha h1 h2 => ?_) hw.2.2.2.2 hc hs
  refine ⟨(), trivial, ⟨hp, hw.1.kept (fun k q hk => h2 q.1 ((hw.1 k q hk).lt)), va_K.moved ha hK, hw.2.1⟩, Nat.le_trans hw.2.2.1 h1, fun q q1 q2 => (h2 q (Nat.lt_of_lt_of_le q1 hw.2.2.1)).trans (hw.2.2.2.1 q q1 q2)⟩
theorem xout (hK : va_K D cl tys s) (htb : ∀ x ∈ c.exceptionTable.toList, False) (hlk : meth.locks = false) {E : String} {ce : Cell} {q : Addr} (hw : WD D cl (wA N AD sz) s.heap H locs N AD C) (hp : xp E) (hcell : H[q]? = some ce) (hv : ce.vm = .none) (hcl : s.vm.findClass E = some ce.cls) (hc : cells ≤ mc) (hs : slots ≤ ms) :
    vx_W p l e R s m args below meth c H locs cells slots (vx_MQ below Qc (xX D cl tys N AD C sz xp) args s mc ms (wA N AD sz)) (F0 m pc ls rest) q :=
  vx_out (fun x hx => (htb x hx).elim) hlk hcell hv hcl (fun t ht ha => ⟨(), trivial, ⟨hp, by rw [ht]; exact hw.1, va_K.moved ha hK, hw.2.1⟩, hw.2.2.F ht⟩) hw.2.2.2.2 hc hs
end ZX
def XI (l : Launch) (y : MethodName) (ws : List Cond) (rm : Room) (mc ms : Nat) (D : va_G) (cl : List vw_C) (tys : List (ClassId × FieldType)) (N : Nat) (AD : Int → Nat) (C : Int → va_E) (sz : Nat) (av : List Value) (post : Int32 → (Int → va_E) → Prop) (xp : String → Prop) : Prop := vx_Met l y ws rm (va_Pc av (xPre D cl tys N AD C sz)) (va_Qi post (cB D cl tys N AD sz) (wA N AD sz)) (xX D cl tys N AD C sz xp) mc ms (wA N AD sz)
theorem XI.start {l : Launch} {y : MethodName} {ws ws' : List Cond} {rm : Room} {mc ms : Nat} {D : va_G} {cl : List vw_C} {tys : List (ClassId × FieldType)} {N : Nat} {AD : Int → Nat} {C : Int → va_E} {sz : Nat} {av : List Value} {post : Int32 → (Int → va_E) → Prop} {xp : String → Prop} {cc : ByteArray} {maxL : Nat} {rt : FieldType} (hy : plainName y.cls = true) (hws : ws = Cond.code y cc maxL (some rt) :: ws') (hlen : (lg_sl av).length ≤ maxL)
    (body : ∀ (p : Program) (e : Env) (s : State) (m : MethodId) (args : Array Value) (below : List Frame) (meth : Method) (c : Code) (Q : State → Prop) (ls : Array Slot), p.tables.exec = Jvm.exec → c.code = cc → c.maxLocals = maxL → s.vm.findClass y.cls = some m.cls → (∀ w ∈ ws', w.before args s = true) → va_K D cl tys s → s.heap.size = sz → WD D cl (wA N AD sz) s.heap s.heap [] N AD C → lv_has ls maxL (lv_args 0 av) → (∀ x ∈ c.exceptionTable.toList, False) → meth.locks = false → xC (wA N AD sz) s s.heap →
      (∃ Qc, Q = vx_MQ below Qc (xX D cl tys N AD C sz xp) args s mc ms (wA N AD sz)) →
      (∀ (r : Int32) (C' : Int → va_E) (H : Heap) (locs : List Loc) (pc : Nat) (ls : Array Slot) (cells slots : Nat), cells ≤ mc → slots ≤ ms → decode cc pc = .ok (.ireturn, 1) → WD D cl (wA N AD sz) s.heap H locs N AD C' → narrow rt (.int r) = .int r → post r C' → W p l e rm s m args below meth c H locs cells slots Q (F0 m pc ls [.int r])) →
      W p l e rm s m args below meth c s.heap [] 0 0 Q (F0 m 0 ls [])) : XI l y ws rm mc ms D cl tys N AD C sz av post xp := by
  refine vx_ofW (cc := cc) (maxL := maxL) (ret := (some rt)) hy hws ?_
  intro p e s m args below meth c s₁ B hml htb hv
  obtain ⟨rfl, ⟨hsz, hP, hK, hD0⟩, hxc⟩ := hv
  rw [lg_entry_eq]
  refine body p e s m _ below meth c _ _ B.exec B.bytes hml (findClass_of_methodNamed B.named) (fun w h => atoms_spec (ws := ws) B.pre w (by rw [hws]; exact List.mem_cons_of_mem _ h)) hK hsz ⟨hP, wA_D hD0, va_S.rf⟩ (lv_entry av (n := maxL) hlen) htb B.notSynchronized hxc ⟨_, rfl⟩ ?_
  intro r C' H locs pc ls cells slots h1 h2 hdg hw hn hp
  refine W.widen h1 h2 (vx_ret ?_)
  exact W.zret B.exec B.bytes B.returns hn (fun t ht hW => ⟨⟨r, C', rfl, hp, by rw [ht]; exact hw.1, va_K.moved hW.alike hK, hw.2.1⟩, hw.2.2.F ht⟩) hw.2.2.2.2 hdg B.notSynchronized
def XL (l : Launch) (y : MethodName) (ws : List Cond) (rm : Room) (mc ms : Nat) (D : va_G) (cl : List vw_C) (tys : List (ClassId × FieldType)) (N : Nat) (AD : Int → Nat) (C : Int → va_E) (sz : Nat) (av : List Value) (post : Int64 → (Int → va_E) → Prop) (xp : String → Prop) : Prop := vx_Met l y ws rm (va_Pc av (xPre D cl tys N AD C sz)) (va_Ql post (cB D cl tys N AD sz) (wA N AD sz)) (xX D cl tys N AD C sz xp) mc ms (wA N AD sz)
theorem XL.start {l : Launch} {y : MethodName} {ws ws' : List Cond} {rm : Room} {mc ms : Nat} {D : va_G} {cl : List vw_C} {tys : List (ClassId × FieldType)} {N : Nat} {AD : Int → Nat} {C : Int → va_E} {sz : Nat} {av : List Value} {post : Int64 → (Int → va_E) → Prop} {xp : String → Prop} {cc : ByteArray} {maxL : Nat} (hy : plainName y.cls = true) (hws : ws = Cond.code y cc maxL (some .long) :: ws') (hlen : (lg_sl av).length ≤ maxL)
    (body : ∀ (p : Program) (e : Env) (s : State) (m : MethodId) (args : Array Value) (below : List Frame) (meth : Method) (c : Code) (Q : State → Prop) (ls : Array Slot), p.tables.exec = Jvm.exec → c.code = cc → c.maxLocals = maxL → s.vm.findClass y.cls = some m.cls → (∀ w ∈ ws', w.before args s = true) → va_K D cl tys s → s.heap.size = sz → WD D cl (wA N AD sz) s.heap s.heap [] N AD C → lv_has ls maxL (lv_args 0 av) → (∀ x ∈ c.exceptionTable.toList, False) → meth.locks = false → xC (wA N AD sz) s s.heap →
      (∃ Qc, Q = vx_MQ below Qc (xX D cl tys N AD C sz xp) args s mc ms (wA N AD sz)) →
      (∀ (r : Int64) (C' : Int → va_E) (H : Heap) (locs : List Loc) (pc : Nat) (ls : Array Slot) (cells slots : Nat), cells ≤ mc → slots ≤ ms → decode cc pc = .ok (.lreturn, 1) → WD D cl (wA N AD sz) s.heap H locs N AD C' → post r C' → W p l e rm s m args below meth c H locs cells slots Q (F0 m pc ls [.long r])) →
      W p l e rm s m args below meth c s.heap [] 0 0 Q (F0 m 0 ls [])) : XL l y ws rm mc ms D cl tys N AD C sz av post xp := by
  refine vx_ofW (cc := cc) (maxL := maxL) (ret := (some .long)) hy hws ?_
  intro p e s m args below meth c s₁ B hml htb hv
  obtain ⟨rfl, ⟨hsz, hP, hK, hD0⟩, hxc⟩ := hv
  rw [lg_entry_eq]
  refine body p e s m _ below meth c _ _ B.exec B.bytes hml (findClass_of_methodNamed B.named) (fun w h => atoms_spec (ws := ws) B.pre w (by rw [hws]; exact List.mem_cons_of_mem _ h)) hK hsz ⟨hP, wA_D hD0, va_S.rf⟩ (lv_entry av (n := maxL) hlen) htb B.notSynchronized hxc ⟨_, rfl⟩ ?_
  intro r C' H locs pc ls cells slots h1 h2 hdg hw hp
  refine W.widen h1 h2 (vx_ret ?_)
  exact W.lret B.exec B.bytes B.returns (fun t ht hW => ⟨⟨r, C', rfl, hp, by rw [ht]; exact hw.1, va_K.moved hW.alike hK, hw.2.1⟩, hw.2.2.F ht⟩) hw.2.2.2.2 hdg B.notSynchronized
def XV (l : Launch) (y : MethodName) (ws : List Cond) (rm : Room) (mc ms : Nat) (D : va_G) (cl : List vw_C) (tys : List (ClassId × FieldType)) (N : Nat) (AD : Int → Nat) (C : Int → va_E) (sz : Nat) (av : List Value) (post : (Int → va_E) → Prop) (xp : String → Prop) : Prop := vx_Met l y ws rm (va_Pc av (xPre D cl tys N AD C sz)) (va_Qv post (cB D cl tys N AD sz) (wA N AD sz)) (xX D cl tys N AD C sz xp) mc ms (wA N AD sz)
theorem XV.start {l : Launch} {y : MethodName} {ws ws' : List Cond} {rm : Room} {mc ms : Nat} {D : va_G} {cl : List vw_C} {tys : List (ClassId × FieldType)} {N : Nat} {AD : Int → Nat} {C : Int → va_E} {sz : Nat} {av : List Value} {post : (Int → va_E) → Prop} {xp : String → Prop} {cc : ByteArray} {maxL : Nat} (hy : plainName y.cls = true) (hws : ws = Cond.code y cc maxL none :: ws') (hlen : (lg_sl av).length ≤ maxL)
    (body : ∀ (p : Program) (e : Env) (s : State) (m : MethodId) (args : Array Value) (below : List Frame) (meth : Method) (c : Code) (Q : State → Prop) (ls : Array Slot), p.tables.exec = Jvm.exec → c.code = cc → c.maxLocals = maxL → s.vm.findClass y.cls = some m.cls → (∀ w ∈ ws', w.before args s = true) → va_K D cl tys s → s.heap.size = sz → WD D cl (wA N AD sz) s.heap s.heap [] N AD C → lv_has ls maxL (lv_args 0 av) → (∀ x ∈ c.exceptionTable.toList, False) → meth.locks = false → xC (wA N AD sz) s s.heap →
      (∃ Qc, Q = vx_MQ below Qc (xX D cl tys N AD C sz xp) args s mc ms (wA N AD sz)) →
      (∀ (C' : Int → va_E) (H : Heap) (locs : List Loc) (pc : Nat) (ls : Array Slot) (cells slots : Nat), cells ≤ mc → slots ≤ ms → decode cc pc = .ok (.return_, 1) → WD D cl (wA N AD sz) s.heap H locs N AD C' → post C' → W p l e rm s m args below meth c H locs cells slots Q (F0 m pc ls [])) →
      W p l e rm s m args below meth c s.heap [] 0 0 Q (F0 m 0 ls [])) : XV l y ws rm mc ms D cl tys N AD C sz av post xp := by
  refine vx_ofW (cc := cc) (maxL := maxL) (ret := none) hy hws ?_
  intro p e s m args below meth c s₁ B hml htb hv
  obtain ⟨rfl, ⟨hsz, hP, hK, hD0⟩, hxc⟩ := hv
  rw [lg_entry_eq]
  refine body p e s m _ below meth c _ _ B.exec B.bytes hml (findClass_of_methodNamed B.named) (fun w h => atoms_spec (ws := ws) B.pre w (by rw [hws]; exact List.mem_cons_of_mem _ h)) hK hsz ⟨hP, wA_D hD0, va_S.rf⟩ (lv_entry av (n := maxL) hlen) htb B.notSynchronized hxc ⟨_, rfl⟩ ?_
  intro C' H locs pc ls cells slots h1 h2 hdg hw hp
  refine W.widen h1 h2 (vx_ret ?_)
  exact W.vret B.exec B.bytes B.returns (fun t ht hW => ⟨⟨C', rfl, hp, by rw [ht]; exact hw.1, va_K.moved hW.alike hK, hw.2.1⟩, hw.2.2.F ht⟩) hw.2.2.2.2 hdg B.notSynchronized
def xR (D : va_G) (cl : List vw_C) (tys : List (ClassId × FieldType)) (N : Nat) (AD : Int → Nat) (C : Int → va_E) (sz : Nat) (ra : Nat) (rp : Prop) : Array Value → State → Outcome → State → Prop := fun _ st oc t => (oc = .returned (some (.ref ra)) ∧ rp ∧ cB D cl tys N AD sz C t) ∧ va_F (wA N AD sz) st t
def XR (l : Launch) (y : MethodName) (ws : List Cond) (rm : Room) (mc ms : Nat) (D : va_G) (cl : List vw_C) (tys : List (ClassId × FieldType)) (N : Nat) (AD : Int → Nat) (C : Int → va_E) (sz : Nat) (av : List Value) (ra : Nat) (rp : Prop) (xp : String → Prop) : Prop := vx_Met l y ws rm (va_Pc av (xPre D cl tys N AD C sz)) (xR D cl tys N AD C sz ra rp) (xX D cl tys N AD C sz xp) mc ms (wA N AD sz)
theorem XR.start {l : Launch} {y : MethodName} {ws ws' : List Cond} {rm : Room} {mc ms : Nat} {D : va_G} {cl : List vw_C} {tys : List (ClassId × FieldType)} {N : Nat} {AD : Int → Nat} {C : Int → va_E} {sz : Nat} {av : List Value} {ra : Nat} {rp : Prop} {xp : String → Prop} {cc : ByteArray} {maxL : Nat} {rn : String} (hy : plainName y.cls = true) (hws : ws = Cond.code y cc maxL (some (.object rn)) :: ws') (hlen : (lg_sl av).length ≤ maxL)
    (body : ∀ (p : Program) (e : Env) (s : State) (m : MethodId) (args : Array Value) (below : List Frame) (meth : Method) (c : Code) (Q : State → Prop) (ls : Array Slot), p.tables.exec = Jvm.exec → c.code = cc → c.maxLocals = maxL → s.vm.findClass y.cls = some m.cls → (∀ w ∈ ws', w.before args s = true) → va_K D cl tys s → s.heap.size = sz → WD D cl (wA N AD sz) s.heap s.heap [] N AD C → lv_has ls maxL (lv_args 0 av) → (∀ x ∈ c.exceptionTable.toList, False) → meth.locks = false → xC (wA N AD sz) s s.heap →
      (∃ Qc, Q = vx_MQ below Qc (xX D cl tys N AD C sz xp) args s mc ms (wA N AD sz)) →
      (∀ (H : Heap) (locs : List Loc) (pc : Nat) (ls : Array Slot) (cells slots : Nat), cells ≤ mc → slots ≤ ms → decode cc pc = .ok (.areturn, 1) → WD D cl (wA N AD sz) s.heap H locs N AD C → rp → W p l e rm s m args below meth c H locs cells slots Q (F0 m pc ls [.ref ra])) →
      W p l e rm s m args below meth c s.heap [] 0 0 Q (F0 m 0 ls [])) : XR l y ws rm mc ms D cl tys N AD C sz av ra rp xp := by
  refine vx_ofW (cc := cc) (maxL := maxL) (ret := some (.object rn)) hy hws ?_
  intro p e s m args below meth c s₁ B hml htb hv
  obtain ⟨rfl, ⟨hsz, hP, hK, hD0⟩, hxc⟩ := hv
  rw [lg_entry_eq]
  refine body p e s m _ below meth c _ _ B.exec B.bytes hml (findClass_of_methodNamed B.named) (fun w h => atoms_spec (ws := ws) B.pre w (by rw [hws]; exact List.mem_cons_of_mem _ h)) hK hsz ⟨hP, wA_D hD0, va_S.rf⟩ (lv_entry av (n := maxL) hlen) htb B.notSynchronized hxc ⟨_, rfl⟩ ?_
  intro H locs pc ls cells slots h1 h2 hdg hw hp
  refine W.widen h1 h2 (vx_ret ?_)
  exact W.aret B.exec B.bytes B.returns (Or.inl ⟨_, rfl⟩) (Or.inr ⟨_, rfl⟩) (fun t ht hW => ⟨⟨rfl, hp, by rw [ht]; exact hw.1, va_K.moved hW.alike hK, hw.2.1⟩, hw.2.2.F ht⟩) hw.2.2.2.2 hdg B.notSynchronized
section ZXC
variable {p : Program} {l : Launch} {e : Env} {R : Room} {s : State} {m : MethodId} {args : Array Value} {below : List Frame} {meth : Method} {c : Code} {H : Heap} {locs : List Loc} {cells slots mc ms : Nat} {Q : State → Prop} {pc : Nat} {ls : Array Slot} {rest st0 : List Value} {a : Array Value}
variable {D : va_G} {cl : List vw_C} {tys : List (ClassId × FieldType)} {A : Nat → Prop} {N : Nat} {AD : Int → Nat} {C : Int → va_E} {xp : String → Prop}
theorem zr_xcallI {post : Int32 → (Int → va_E) → Prop} (hr : vx_Run p l e R s m args below meth c H locs cells slots mc ms (F0 m pc ls st0) rest (va_Qi post (cB D cl tys N AD H.size) (wA N AD H.size) a) (xX D cl tys N AD C H.size xp) (wA N AD H.size)) (hw : WD D cl A s.heap H locs N AD C) (hA : ∀ q, s.heap.size ≤ q → A q)
    (kx : ∀ (E : String) (ce : Cell) (q9 : Addr) (H1 : Heap) (locs1 : List Loc), xp E → WD D cl A s.heap H1 locs1 N AD C → H1[q9]? = some ce → ce.vm = .none → s.vm.findClass E = some ce.cls → vx_W p l e R s m args below meth c H1 locs1 (cells + mc) (slots + ms) Q (F0 m pc ls rest) q9)
    (kk : ∀ (r : Int32) (C' : Int → va_E) (H1 : Heap) (locs1 : List Loc), post r C' → WD D cl A s.heap H1 locs1 N AD C' → W p l e R s m args below meth c H1 locs1 (cells + mc) (slots + ms) Q (F0 m (pc + 3) ls (.int r :: rest))) : W p l e R s m args below meth c H locs cells slots Q (F0 m pc ls st0) := by
  have hF := wA_free hw hA
  refine vx_calli hr hw.2.2 (fun q _ h => hF q h) hF (fun q _ h => hF q h) (fun E ce q9 u t H1 locs1 ht hvm hp hB hz hk hS hce hcv hcl => ?_) (fun r C' t H1 locs1 ht hvm hp hB hz hk hS => ?_)
  · exact kx E ce q9 H1 locs1 hB.1 ⟨by rw [← ht]; exact hB.2.1, hB.2.2.2.weaken (fun k q _ h => hF q.1 h), hS⟩ hce hcv hcl
  · exact kk r C' H1 locs1 hp ⟨by rw [← ht]; exact hB.1, hB.2.2.weaken (fun k q _ h => hF q.1 h), hS⟩
theorem zr_xcallL {post : Int64 → (Int → va_E) → Prop} (hr : vx_Run p l e R s m args below meth c H locs cells slots mc ms (F0 m pc ls st0) rest (va_Ql post (cB D cl tys N AD H.size) (wA N AD H.size) a) (xX D cl tys N AD C H.size xp) (wA N AD H.size)) (hw : WD D cl A s.heap H locs N AD C) (hA : ∀ q, s.heap.size ≤ q → A q)
    (kx : ∀ (E : String) (ce : Cell) (q9 : Addr) (H1 : Heap) (locs1 : List Loc), xp E → WD D cl A s.heap H1 locs1 N AD C → H1[q9]? = some ce → ce.vm = .none → s.vm.findClass E = some ce.cls → vx_W p l e R s m args below meth c H1 locs1 (cells + mc) (slots + ms) Q (F0 m pc ls rest) q9)
    (kk : ∀ (r : Int64) (C' : Int → va_E) (H1 : Heap) (locs1 : List Loc), post r C' → WD D cl A s.heap H1 locs1 N AD C' → W p l e R s m args below meth c H1 locs1 (cells + mc) (slots + ms) Q (F0 m (pc + 3) ls (.long r :: rest))) : W p l e R s m args below meth c H locs cells slots Q (F0 m pc ls st0) := by
  have hF := wA_free hw hA
  refine vx_calll hr hw.2.2 (fun q _ h => hF q h) hF (fun q _ h => hF q h) (fun E ce q9 u t H1 locs1 ht hvm hp hB hz hk hS hce hcv hcl => ?_) (fun r C' t H1 locs1 ht hvm hp hB hz hk hS => ?_)
  · exact kx E ce q9 H1 locs1 hB.1 ⟨by rw [← ht]; exact hB.2.1, hB.2.2.2.weaken (fun k q _ h => hF q.1 h), hS⟩ hce hcv hcl
  · exact kk r C' H1 locs1 hp ⟨by rw [← ht]; exact hB.1, hB.2.2.weaken (fun k q _ h => hF q.1 h), hS⟩
theorem zr_xcallV {post : (Int → va_E) → Prop} (hr : vx_Run p l e R s m args below meth c H locs cells slots mc ms (F0 m pc ls st0) rest (va_Qv post (cB D cl tys N AD H.size) (wA N AD H.size) a) (xX D cl tys N AD C H.size xp) (wA N AD H.size)) (hw : WD D cl A s.heap H locs N AD C) (hA : ∀ q, s.heap.size ≤ q → A q)
    (kx : ∀ (E : String) (ce : Cell) (q9 : Addr) (H1 : Heap) (locs1 : List Loc), xp E → WD D cl A s.heap H1 locs1 N AD C → H1[q9]? = some ce → ce.vm = .none → s.vm.findClass E = some ce.cls → vx_W p l e R s m args below meth c H1 locs1 (cells + mc) (slots + ms) Q (F0 m pc ls rest) q9)
    (kk : ∀ (C' : Int → va_E) (H1 : Heap) (locs1 : List Loc), post C' → WD D cl A s.heap H1 locs1 N AD C' → W p l e R s m args below meth c H1 locs1 (cells + mc) (slots + ms) Q (F0 m (pc + 3) ls rest)) : W p l e R s m args below meth c H locs cells slots Q (F0 m pc ls st0) := by
  have hF := wA_free hw hA
  refine vx_callv hr hw.2.2 (fun q _ h => hF q h) hF (fun q _ h => hF q h) (fun E ce q9 u t H1 locs1 ht hvm hp hB hz hk hS hce hcv hcl => ?_) (fun C' t H1 locs1 ht hvm hp hB hz hk hS => ?_)
  · exact kx E ce q9 H1 locs1 hB.1 ⟨by rw [← ht]; exact hB.2.1, hB.2.2.2.weaken (fun k q _ h => hF q.1 h), hS⟩ hce hcv hcl
  · exact kk C' H1 locs1 hp ⟨by rw [← ht]; exact hB.1, hB.2.2.weaken (fun k q _ h => hF q.1 h), hS⟩
theorem zr_xcallR {ra : Nat} {rp : Prop} (hr : vx_Run p l e R s m args below meth c H locs cells slots mc ms (F0 m pc ls st0) rest (xR D cl tys N AD C H.size ra rp a) (xX D cl tys N AD C H.size xp) (wA N AD H.size)) (hw : WD D cl A s.heap H locs N AD C) (hA : ∀ q, s.heap.size ≤ q → A q)
    (kx : ∀ (E : String) (ce : Cell) (q9 : Addr) (H1 : Heap) (locs1 : List Loc), xp E → WD D cl A s.heap H1 locs1 N AD C → H1[q9]? = some ce → ce.vm = .none → s.vm.findClass E = some ce.cls → vx_W p l e R s m args below meth c H1 locs1 (cells + mc) (slots + ms) Q (F0 m pc ls rest) q9)
    (kk : ∀ (H1 : Heap) (locs1 : List Loc), rp → WD D cl A s.heap H1 locs1 N AD C → W p l e R s m args below meth c H1 locs1 (cells + mc) (slots + ms) Q (F0 m (pc + 3) ls (.ref ra :: rest))) : W p l e R s m args below meth c H locs cells slots Q (F0 m pc ls st0) := by
  have hF := wA_free hw hA
  intro T hT X
  rcases hr T hT X with ⟨v, st₀, t, T', L, h0, X', hL, e1, e2, ⟨⟨hv, hp, hB⟩, hF9⟩, st⟩ | ⟨q, st₀, t, T', L, E, ce, h0, X', hL, e1, e2, ⟨u, hp, hB, hF9⟩, hce, hcv, hcl, st⟩
  · cases hv
    obtain ⟨k1, k2, k3⟩ := vx_keep h0 e1 hw.2.2 (fun q _ h => hF q h) hF hL hF9
    obtain ⟨t2, a1, b1⟩ := kk T'.heap (locs ++ L) hp ⟨by rw [e1]; exact hB.1, hB.2.2.weaken (fun k q _ h => hF q.1 h), k3⟩ T' rfl X'
    exact ⟨t2, st t2 a1, b1⟩
  · obtain ⟨k1, k2, k3⟩ := vx_keep h0 e1 hw.2.2 (fun q _ h => hF q h) hF hL hF9
    obtain ⟨t2, a1, b1⟩ := kx E ce q T'.heap (locs ++ L) hB.1 ⟨by rw [e1]; exact hB.2.1, hB.2.2.2.weaken (fun k q _ h => hF q.1 h), k3⟩ (by rw [e1]; exact hce) hcv hcl T' rfl X'
    exact ⟨t2, st.trans a1, b1⟩
end ZXC
end
section
abbrev rm_R_seriesAt : Room := { frames := 6, cells := 1, slots := 6, locals := 82 }
set_option maxHeartbeats 4000000 in
set_option maxRecDepth 100000 in
theorem c_R_seriesAt (l : Launch) (D : va_G) (k : Nat → ClassId) (N : Nat) (AD : Int → Nat) (C : Int → va_E) (sz : Nat) (hlt : l.stackTraces = false) (kc : Int) (lc : Int) (tr : Int) (i : Int) (hN : 82 ≤ (N : Int)) (hkc : 0 ≤ kc ∧ kc ≤ 8) (hi : inI i) (hR : C 0 = .inr (3, [.ref (AD 1), .ref (AD 3), .int (zI kc), .ref (AD 28), .int (zI lc), .int (zI tr), .ref (AD 76), .ref (AD 79), .ref (AD 80), .ref (AD 81)])) (h3 : C 3 = aQ (k 3) 8 (fun i => some (AD (4 + 3 * i)))) : XR l y_R_seriesAt (Cond.code y_R_seriesAt b_R_seriesAt 2 (Option.some (Jvm.ClassFile.FieldType.object "RingMatches$Series")) :: WS) rm_R_seriesAt 1 6 D clW (tyW k) N AD C sz [.ref (AD 0), .int (zI i)] (AD (4 + 3 * i)) (0 ≤ i ∧ i < kc) (fun E => E = "java/lang/IndexOutOfBoundsException" ∧ ¬ (0 ≤ i ∧ i < kc)) := by
  refine XR.start (cc := b_R_seriesAt) (maxL := 2) (rn := "RingMatches$Series") (by decide) rfl (Nat.le_of_ble_eq_true rfl) ?_
  intro p e s m args below meth c Q ls hx hb hml hown hts hK hsz hw hl htb hlk hxc hQ hret
  obtain ⟨Qc9, hQ⟩ := hQ
  have hown : s.vm.findClass "RingMatches" = some m.cls := hown
  have hl : lv_has ls 2 [(0, .ref (AD 0)), (1, .int (zI i))] := hl
  have hA := wA_hi (N := N) (AD := AD) hsz
  obtain ⟨H, hH⟩ : ∃ H, H = s.heap := ⟨_, rfl⟩
  obtain ⟨locs, hlocs⟩ : ∃ z : List Loc, z = [] := ⟨_, rfl⟩
  have hw : WD D clW (wA N AD sz) s.heap H locs N AD C := by rw [hH, hlocs]; exact hw
  rw [← hlocs]
  suffices hgo : W p l e rm_R_seriesAt s m args below meth c H locs 0 0 Q (F0 m 0 ls []) by rw [hH] at hgo; exact hgo
  refine lv_iload_n hx hb d_R_seriesAt_0 rfl (lv_at hl 1 rfl) ?_
  refine zr_if_lt (tgt := 12) hx hb ⟨by omega, by omega⟩ d_R_seriesAt_1 (by decide) (fun c1 => ?_) (fun c1 => ?_)
  · rw [hQ]
    exact xthrow (text := "no such series") hx hb hlt hown hts hK hxc htb hlk xc_IOB (by decide +kernel) hw ⟨rfl, by omega⟩ (hl.1.trans hml.symm) d_R_seriesAt_12 d_R_seriesAt_15 d_R_seriesAt_16 d_R_seriesAt_18 d_R_seriesAt_21 (Nat.le_of_ble_eq_true rfl) (Nat.le_of_ble_eq_true rfl) (Nat.le_of_ble_eq_true rfl) (Nat.le_of_ble_eq_true rfl) (Nat.le_of_ble_eq_true rfl) (Nat.le_of_ble_eq_true rfl)
  · refine lv_iload_n hx hb d_R_seriesAt_4 rfl (lv_at hl 1 rfl) ?_
    refine lv_aload_n hx hb d_R_seriesAt_5 rfl (lv_at hl 0 rfl) ?_
    refine zr_get (v := .int (zI kc)) hx hb hts iw_R hown hK hw 0 ⟨by omega, by omega⟩ hR rfl 2 (by decide) (hts _ wk_112) (fun _ h => h) rfl d_R_seriesAt_6 ?_
    refine zr_icmp_lt (tgt := 22) hx hb ⟨by omega, by omega⟩ ⟨by omega, by omega⟩ d_R_seriesAt_9 (by decide) (fun c2 => ?_) (fun c2 => ?_)
    · refine lv_aload_n hx hb d_R_seriesAt_22 rfl (lv_at hl 0 rfl) ?_
      refine zr_get (v := .ref (AD 3)) hx hb hts iw_R hown hK hw 0 ⟨by omega, by omega⟩ hR rfl 1 (by decide) (hts _ wk_111) (fun _ h => h) rfl d_R_seriesAt_23 ?_
      refine lv_iload_n hx hb d_R_seriesAt_26 rfl (lv_at hl 1 rfl) ?_
      refine zr_aldq (v := AD (4 + 3 * i)) hx hb hK hw 3 ⟨by omega, by omega⟩ 3 h3 rfl ⟨by omega, by omega⟩ (by decide) rfl d_R_seriesAt_27 ?_
      exact hret _ _ _ _ 0 0 (by decide) (by decide) d_R_seriesAt_28 hw (by omega)
    · rw [hQ]
      exact xthrow (text := "no such series") hx hb hlt hown hts hK hxc htb hlk xc_IOB (by decide +kernel) hw ⟨rfl, by omega⟩ (hl.1.trans hml.symm) d_R_seriesAt_12 d_R_seriesAt_15 d_R_seriesAt_16 d_R_seriesAt_18 d_R_seriesAt_21 (Nat.le_of_ble_eq_true rfl) (Nat.le_of_ble_eq_true rfl) (Nat.le_of_ble_eq_true rfl) (Nat.le_of_ble_eq_true rfl) (Nat.le_of_ble_eq_true rfl) (Nat.le_of_ble_eq_true rfl)
abbrev rm_R_overlapAt : Room := { frames := 6, cells := 1, slots := 6, locals := 82 }
set_option maxHeartbeats 4000000 in
set_option maxRecDepth 100000 in
theorem c_R_overlapAt (l : Launch) (D : va_G) (k : Nat → ClassId) (N : Nat) (AD : Int → Nat) (C : Int → va_E) (sz : Nat) (hlt : l.stackTraces = false) (kc : Int) (lc : Int) (tr : Int) (pm : Int → Int) (i : Int) (hN : 82 ≤ (N : Int)) (hlc : 0 ≤ lc ∧ lc ≤ 47) (hi : inI i) (hR : C 0 = .inr (3, [.ref (AD 1), .ref (AD 3), .int (zI kc), .ref (AD 28), .int (zI lc), .int (zI tr), .ref (AD 76), .ref (AD 79), .ref (AD 80), .ref (AD 81)])) (h28 : C 28 = aQ (k 4) 47 (fun j => some (AD (29 + pm j)))) : XR l y_R_overlapAt (Cond.code y_R_overlapAt b_R_overlapAt 2 (Option.some (Jvm.ClassFile.FieldType.object "RingMatches$Overlap")) :: WS) rm_R_overlapAt 1 6 D clW (tyW k) N AD C sz [.ref (AD 0), .int (zI i)] (AD (29 + pm i)) (0 ≤ i ∧ i < lc) (fun E => E = "java/lang/IndexOutOfBoundsException" ∧ ¬ (0 ≤ i ∧ i < lc)) := by
  refine XR.start (cc := b_R_overlapAt) (maxL := 2) (rn := "RingMatches$Overlap") (by decide) rfl (Nat.le_of_ble_eq_true rfl) ?_
  intro p e s m args below meth c Q ls hx hb hml hown hts hK hsz hw hl htb hlk hxc hQ hret
  obtain ⟨Qc9, hQ⟩ := hQ
  have hown : s.vm.findClass "RingMatches" = some m.cls := hown
  have hl : lv_has ls 2 [(0, .ref (AD 0)), (1, .int (zI i))] := hl
  have hA := wA_hi (N := N) (AD := AD) hsz
  obtain ⟨H, hH⟩ : ∃ H, H = s.heap := ⟨_, rfl⟩
  obtain ⟨locs, hlocs⟩ : ∃ z : List Loc, z = [] := ⟨_, rfl⟩
  have hw : WD D clW (wA N AD sz) s.heap H locs N AD C := by rw [hH, hlocs]; exact hw
  rw [← hlocs]
  suffices hgo : W p l e rm_R_overlapAt s m args below meth c H locs 0 0 Q (F0 m 0 ls []) by rw [hH] at hgo; exact hgo
  refine lv_iload_n hx hb d_R_overlapAt_0 rfl (lv_at hl 1 rfl) ?_
  refine zr_if_lt (tgt := 12) hx hb ⟨by omega, by omega⟩ d_R_overlapAt_1 (by decide) (fun c1 => ?_) (fun c1 => ?_)
  · rw [hQ]
    exact xthrow (text := "no such overlap") hx hb hlt hown hts hK hxc htb hlk xc_IOB (by decide +kernel) hw ⟨rfl, by omega⟩ (hl.1.trans hml.symm) d_R_overlapAt_12 d_R_overlapAt_15 d_R_overlapAt_16 d_R_overlapAt_18 d_R_overlapAt_21 (Nat.le_of_ble_eq_true rfl) (Nat.le_of_ble_eq_true rfl) (Nat.le_of_ble_eq_true rfl) (Nat.le_of_ble_eq_true rfl) (Nat.le_of_ble_eq_true rfl) (Nat.le_of_ble_eq_true rfl)
  · refine lv_iload_n hx hb d_R_overlapAt_4 rfl (lv_at hl 1 rfl) ?_
    refine lv_aload_n hx hb d_R_overlapAt_5 rfl (lv_at hl 0 rfl) ?_
    refine zr_get (v := .int (zI lc)) hx hb hts iw_R hown hK hw 0 ⟨by omega, by omega⟩ hR rfl 4 (by decide) (hts _ wk_114) (fun _ h => h) rfl d_R_overlapAt_6 ?_
    refine zr_icmp_lt (tgt := 22) hx hb ⟨by omega, by omega⟩ ⟨by omega, by omega⟩ d_R_overlapAt_9 (by decide) (fun c2 => ?_) (fun c2 => ?_)
    · refine lv_aload_n hx hb d_R_overlapAt_22 rfl (lv_at hl 0 rfl) ?_
      refine zr_get (v := .ref (AD 28)) hx hb hts iw_R hown hK hw 0 ⟨by omega, by omega⟩ hR rfl 3 (by decide) (hts _ wk_113) (fun _ h => h) rfl d_R_overlapAt_23 ?_
      refine lv_iload_n hx hb d_R_overlapAt_26 rfl (lv_at hl 1 rfl) ?_
      refine zr_aldq (v := AD (29 + pm i)) hx hb hK hw 28 ⟨by omega, by omega⟩ 4 h28 rfl ⟨by omega, by omega⟩ (by decide) rfl d_R_overlapAt_27 ?_
      exact hret _ _ _ _ 0 0 (by decide) (by decide) d_R_overlapAt_28 hw (by omega)
    · rw [hQ]
      exact xthrow (text := "no such overlap") hx hb hlt hown hts hK hxc htb hlk xc_IOB (by decide +kernel) hw ⟨rfl, by omega⟩ (hl.1.trans hml.symm) d_R_overlapAt_12 d_R_overlapAt_15 d_R_overlapAt_16 d_R_overlapAt_18 d_R_overlapAt_21 (Nat.le_of_ble_eq_true rfl) (Nat.le_of_ble_eq_true rfl) (Nat.le_of_ble_eq_true rfl) (Nat.le_of_ble_eq_true rfl) (Nat.le_of_ble_eq_true rfl) (Nat.le_of_ble_eq_true rfl)
abbrev rm_R_requireLeast : Room := { frames := 6, cells := 1, slots := 6, locals := 82 }
set_option maxHeartbeats 4000000 in
set_option maxRecDepth 100000 in
theorem c_R_requireLeast (l : Launch) (D : va_G) (k : Nat → ClassId) (N : Nat) (AD : Int → Nat) (C : Int → va_E) (sz : Nat) (hlt : l.stackTraces = false) (v : Int) (hv : inI v) : XV l y_R_requireLeast (Cond.code y_R_requireLeast b_R_requireLeast 1 (Option.none : Option FieldType) :: WS) rm_R_requireLeast 1 6 D clW (tyW k) N AD C sz [.int (zI v)] (fun C' => (3 ≤ v ∧ v ≤ 24) ∧ C' = C) (fun E => E = "java/lang/IllegalArgumentException" ∧ ¬ (3 ≤ v ∧ v ≤ 24)) := by
  refine XV.start (cc := b_R_requireLeast) (maxL := 1) (by decide) rfl (Nat.le_of_ble_eq_true rfl) ?_
  intro p e s m args below meth c Q ls hx hb hml hown hts hK hsz hw hl htb hlk hxc hQ hret
  obtain ⟨Qc9, hQ⟩ := hQ
  have hown : s.vm.findClass "RingMatches" = some m.cls := hown
  have hl : lv_has ls 1 [(0, .int (zI v))] := hl
  have hA := wA_hi (N := N) (AD := AD) hsz
  obtain ⟨H, hH⟩ : ∃ H, H = s.heap := ⟨_, rfl⟩
  obtain ⟨locs, hlocs⟩ : ∃ z : List Loc, z = [] := ⟨_, rfl⟩
  have hw : WD D clW (wA N AD sz) s.heap H locs N AD C := by rw [hH, hlocs]; exact hw
  rw [← hlocs]
  suffices hgo : W p l e rm_R_requireLeast s m args below meth c H locs 0 0 Q (F0 m 0 ls []) by rw [hH] at hgo; exact hgo
  refine lv_iload_n hx hb d_R_requireLeast_0 rfl (lv_at hl 0 rfl) ?_
  refine zr_iconst hx hb d_R_requireLeast_1 ?_
  refine zr_icmp_lt (tgt := 11) hx hb ⟨by omega, by omega⟩ ⟨by omega, by omega⟩ d_R_requireLeast_2 (by decide) (fun c1 => ?_) (fun c1 => ?_)
  · rw [hQ]
    exact xthrow (text := "least is not 3 .. 24") hx hb hlt hown hts hK hxc htb hlk xc_IAE (by decide +kernel) hw ⟨rfl, by omega⟩ (hl.1.trans hml.symm) d_R_requireLeast_11 d_R_requireLeast_14 d_R_requireLeast_15 d_R_requireLeast_17 d_R_requireLeast_20 (Nat.le_of_ble_eq_true rfl) (Nat.le_of_ble_eq_true rfl) (Nat.le_of_ble_eq_true rfl) (Nat.le_of_ble_eq_true rfl) (Nat.le_of_ble_eq_true rfl) (Nat.le_of_ble_eq_true rfl)
  · refine lv_iload_n hx hb d_R_requireLeast_5 rfl (lv_at hl 0 rfl) ?_
    refine zr_bipush hx hb d_R_requireLeast_6 (by decide) ?_
    refine zr_icmp_le (tgt := 21) hx hb ⟨by omega, by omega⟩ ⟨by omega, by omega⟩ d_R_requireLeast_8 (by decide) (fun c2 => ?_) (fun c2 => ?_)
    · exact hret _ _ _ _ _ 0 0 (by decide) (by decide) d_R_requireLeast_21 hw ⟨by omega, rfl⟩
    · rw [hQ]
      exact xthrow (text := "least is not 3 .. 24") hx hb hlt hown hts hK hxc htb hlk xc_IAE (by decide +kernel) hw ⟨rfl, by omega⟩ (hl.1.trans hml.symm) d_R_requireLeast_11 d_R_requireLeast_14 d_R_requireLeast_15 d_R_requireLeast_17 d_R_requireLeast_20 (Nat.le_of_ble_eq_true rfl) (Nat.le_of_ble_eq_true rfl) (Nat.le_of_ble_eq_true rfl) (Nat.le_of_ble_eq_true rfl) (Nat.le_of_ble_eq_true rfl) (Nat.le_of_ble_eq_true rfl)
abbrev rm_R_requirePart : Room := { frames := 6, cells := 1, slots := 6, locals := 82 }
set_option maxHeartbeats 4000000 in
set_option maxRecDepth 100000 in
theorem c_R_requirePart (l : Launch) (D : va_G) (k : Nat → ClassId) (N : Nat) (AD : Int → Nat) (C : Int → va_E) (sz : Nat) (hlt : l.stackTraces = false) (v : Int) (hv : inI v) : XV l y_R_requirePart (Cond.code y_R_requirePart b_R_requirePart 1 (Option.none : Option FieldType) :: WS) rm_R_requirePart 1 6 D clW (tyW k) N AD C sz [.int (zI v)] (fun C' => (v = 0 ∨ v = 1) ∧ C' = C) (fun E => E = "java/lang/IndexOutOfBoundsException" ∧ ¬ (v = 0 ∨ v = 1)) := by
  refine XV.start (cc := b_R_requirePart) (maxL := 1) (by decide) rfl (Nat.le_of_ble_eq_true rfl) ?_
  intro p e s m args below meth c Q ls hx hb hml hown hts hK hsz hw hl htb hlk hxc hQ hret
  obtain ⟨Qc9, hQ⟩ := hQ
  have hown : s.vm.findClass "RingMatches" = some m.cls := hown
  have hl : lv_has ls 1 [(0, .int (zI v))] := hl
  have hA := wA_hi (N := N) (AD := AD) hsz
  obtain ⟨H, hH⟩ : ∃ H, H = s.heap := ⟨_, rfl⟩
  obtain ⟨locs, hlocs⟩ : ∃ z : List Loc, z = [] := ⟨_, rfl⟩
  have hw : WD D clW (wA N AD sz) s.heap H locs N AD C := by rw [hH, hlocs]; exact hw
  rw [← hlocs]
  suffices hgo : W p l e rm_R_requirePart s m args below meth c H locs 0 0 Q (F0 m 0 ls []) by rw [hH] at hgo; exact hgo
  refine lv_iload_n hx hb d_R_requirePart_0 rfl (lv_at hl 0 rfl) ?_
  refine zr_if_eq (tgt := 19) hx hb ⟨by omega, by omega⟩ d_R_requirePart_1 (by decide) (fun c1 => ?_) (fun c1 => ?_)
  · exact hret _ _ _ _ _ 0 0 (by decide) (by decide) d_R_requirePart_19 hw ⟨by omega, rfl⟩
  · refine lv_iload_n hx hb d_R_requirePart_4 rfl (lv_at hl 0 rfl) ?_
    refine zr_iconst hx hb d_R_requirePart_5 ?_
    refine zr_icmp_eq (tgt := 19) hx hb ⟨by omega, by omega⟩ ⟨by omega, by omega⟩ d_R_requirePart_6 (by decide) (fun c2 => ?_) (fun c2 => ?_)
    · exact hret _ _ _ _ _ 0 0 (by decide) (by decide) d_R_requirePart_19 hw ⟨by omega, rfl⟩
    · rw [hQ]
      exact xthrow (text := "no such part") hx hb hlt hown hts hK hxc htb hlk xc_IOB (by decide +kernel) hw ⟨rfl, by omega⟩ (hl.1.trans hml.symm) d_R_requirePart_9 d_R_requirePart_12 d_R_requirePart_13 d_R_requirePart_15 d_R_requirePart_18 (Nat.le_of_ble_eq_true rfl) (Nat.le_of_ble_eq_true rfl) (Nat.le_of_ble_eq_true rfl) (Nat.le_of_ble_eq_true rfl) (Nat.le_of_ble_eq_true rfl) (Nat.le_of_ble_eq_true rfl)
abbrev rm_R_keepNext : Room := { frames := 0, cells := 0, slots := 0, locals := 0 }
set_option maxHeartbeats 4000000 in
set_option maxRecDepth 100000 in
theorem c_R_keepNext (l : Launch) (D : va_G) (k : Nat → ClassId) (N : Nat) (AD : Int → Nat) (C : Int → va_E) (sz : Nat) (kc : Int) (lc : Int) (tr : Int) (hN : 82 ≤ (N : Int)) (hR : C 0 = .inr (3, [.ref (AD 1), .ref (AD 3), .int (zI kc), .ref (AD 28), .int (zI lc), .int (zI tr), .ref (AD 76), .ref (AD 79), .ref (AD 80), .ref (AD 81)])) : MI l y_R_keepNext (Cond.code y_R_keepNext b_R_keepNext 2 (Option.some Jvm.ClassFile.FieldType.int) :: WS) rm_R_keepNext D clW (tyW k) N AD C sz [.ref (AD 0)] (fun r C' => r = zI kc ∧ C' 0 = .inr (3, [.ref (AD 1), .ref (AD 3), .int (zI (kc + 1)), .ref (AD 28), .int (zI lc), .int (zI tr), .ref (AD 76), .ref (AD 79), .ref (AD 80), .ref (AD 81)]) ∧ ∀ j : Int, j ≠ 0 → C' j = C j) := by
  refine MI.start (cc := b_R_keepNext) (maxL := 2) (rt := .int) (by decide) rfl (Nat.le_of_ble_eq_true rfl) ?_
  intro p e s m args below meth c Q ls hx hb hml hown hts hK hsz hw hl hret
  have hown : s.vm.findClass "RingMatches" = some m.cls := hown
  have hl : lv_has ls 2 [(0, .ref (AD 0))] := hl
  have hA := wA_hi (N := N) (AD := AD) hsz
  obtain ⟨H, hH⟩ : ∃ H, H = s.heap := ⟨_, rfl⟩
  obtain ⟨locs, hlocs⟩ : ∃ z : List Loc, z = [] := ⟨_, rfl⟩
  have hw : WD D clW (wA N AD sz) s.heap H locs N AD C := by rw [hH, hlocs]; exact hw
  rw [← hlocs]
  suffices hgo : W p l e rm_R_keepNext s m args below meth c H locs 0 0 Q (F0 m 0 ls []) by rw [hH] at hgo; exact hgo
  refine lv_aload_n hx hb d_R_keepNext_0 rfl (lv_at hl 0 rfl) ?_
  refine zr_get (v := .int (zI kc)) hx hb hts iw_R hown hK hw 0 ⟨by omega, by omega⟩ hR rfl 2 (by decide) (hts _ wk_112) (fun _ h => h) rfl d_R_keepNext_1 ?_
  refine lv_istore_n (lv' := [(1, .int (zI kc)), (0, .ref (AD 0))]) hx hb d_R_keepNext_4 rfl hl (by decide) rfl (fun ls hl => ?_)
  refine lv_aload_n hx hb d_R_keepNext_5 rfl (lv_at hl 1 rfl) ?_
  refine lv_dup hx hb d_R_keepNext_6 rfl ?_
  refine zr_get (v := .int (zI kc)) hx hb hts iw_R hown hK hw 0 ⟨by omega, by omega⟩ hR rfl 2 (by decide) (hts _ wk_112) (fun _ h => h) rfl d_R_keepNext_7 ?_
  refine zr_iconst hx hb d_R_keepNext_10 ?_
  refine zr_iadd hx hb d_R_keepNext_11 ?_
  refine zr_put (ty := .int) (v := .int (zI (kc + 1))) hx hb hts iw_R tyR tyR_ok nmR hown hK hw 0 ⟨by omega, by omega⟩ hR rfl 2 (by decide) (hts _ wk_112) (fun _ h => h) rfl (by decide +kernel) rfl rfl (Nat.le_of_ble_eq_true rfl) d_R_keepNext_12 (fun H locs hw => ?_)
  obtain ⟨C1, hC1⟩ : ∃ z : Int → va_E, z = zup C 0 (.inr (3, [.ref (AD 1), .ref (AD 3), .int (zI (kc + 1)), .ref (AD 28), .int (zI lc), .int (zI tr), .ref (AD 76), .ref (AD 79), .ref (AD 80), .ref (AD 81)])) := ⟨_, rfl⟩
  have hw : WD D clW (wA N AD sz) s.heap H locs N AD C1 := by rw [hC1]; exact hw
  have frC1 : ∀ j : Int, j ≠ 0 → C1 j = C j := fun j h => by rw [hC1]; exact zup_n h
  have hR : C1 0 = .inr (3, [.ref (AD 1), .ref (AD 3), .int (zI (kc + 1)), .ref (AD 28), .int (zI lc), .int (zI tr), .ref (AD 76), .ref (AD 79), .ref (AD 80), .ref (AD 81)]) := by rw [hC1]; exact zup_s
  refine lv_iload_n hx hb d_R_keepNext_15 rfl (lv_at hl 0 rfl) ?_
  exact hret _ _ _ _ _ _ d_R_keepNext_16 hw rfl ⟨rfl, hR, frC1⟩
end
section
/-- the class's world, all of it told -/
def RIx (k : Nat → ClassId) (AD : Int → Nat) (C : Int → va_E) (pn : Int) (pf : Int → Int) (kc : Int) (nn : Int → Int) (ww : Int → Int → Int) (ee : Int → Int → Int) (lc : Int) (pm : Int → Int) (pS : Int → Int) (pN : Int → Int) (pR : Int → Int) (pT : Int → Int) (pA : Int → Int) (oS : Int → Int) (oN : Int → Int) (oR : Int → Int) (oT : Int → Int) (oA : Int → Int) (tr : Int) (sn : Int) (sw : Int → Int) (se : Int → Int) (q0 : Int) (q1 : Int) (q2 : Int) (q3 : Int) (q4 : Int) (mb : Int → Int) (ak : Int → Int) : Prop :=
  (C 0 = .inr (3, [.ref (AD 1), .ref (AD 3), .int (zI kc), .ref (AD 28), .int (zI lc), .int (zI tr), .ref (AD 76), .ref (AD 79), .ref (AD 80), .ref (AD 81)])) ∧
  (C 1 = .inr (1, [.ref (AD (1 + 1)), .int (zI pn)])) ∧
  (C (1 + 1) = aI (k 0) 100 pf) ∧
  (C 3 = aQ (k 3) 8 (fun i => some (AD (4 + 3 * i)))) ∧
  (∀ i : Int, 0 ≤ i → i < 8 → C (4 + 3 * i) = .inr (2, [.ref (AD ((4 + 3 * i) + 1)), .ref (AD ((4 + 3 * i) + 2)), .int (zI (nn i))]) ∧ C ((4 + 3 * i) + 1) = aI (k 0) 24 (ww i) ∧ C ((4 + 3 * i) + 2) = aI (k 0) 24 (ee i) ∧ (0 ≤ nn i ∧ nn i ≤ 24)) ∧
  (C 28 = aQ (k 4) 47 (fun j => some (AD (29 + pm j)))) ∧
  (∀ j : Int, 0 ≤ j → j < 47 → C (29 + j) = .inr (0, [.int (zI (pS j)), .int (zI (pN j)), .int (zI (pR j)), .int (zI (pT j)), .int (zI (pA j))])) ∧
  (∀ j : Int, 0 ≤ j → j < 47 → 0 ≤ pm j ∧ pm j < 47) ∧
  (∀ i j : Int, 0 ≤ i → i < 47 → 0 ≤ j → j < 47 → pm i = pm j → i = j) ∧
  (∀ r : Int, 0 ≤ r → r < lc → pS (pm r) = oS r ∧ pN (pm r) = oN r ∧ pR (pm r) = oR r ∧ pT (pm r) = oT r ∧ pA (pm r) = oA r) ∧
  (C 76 = .inr (2, [.ref (AD (76 + 1)), .ref (AD (76 + 2)), .int (zI sn)])) ∧
  (C (76 + 1) = aI (k 0) 24 sw) ∧
  (C (76 + 2) = aI (k 0) 24 se) ∧
  (0 ≤ sn ∧ sn ≤ 24) ∧
  (C 79 = .inr (0, [.int (zI q0), .int (zI q1), .int (zI q2), .int (zI q3), .int (zI q4)])) ∧
  (C 80 = aI (k 1) 8 mb) ∧
  (C 81 = aI (k 1) 8 ak) ∧
  (0 ≤ pn ∧ pn ≤ 100) ∧
  (0 ≤ kc ∧ kc ≤ 8) ∧
  (0 ≤ lc ∧ lc ≤ 47) ∧
  (0 ≤ tr) ∧
  (∀ j : Int, 0 ≤ j → j < pn → 32 ≤ pf j ∧ pf j ≤ 126) ∧
  (∀ i : Int, 0 ≤ i → i < kc → 1 ≤ nn i ∧ WOK (ww i) (nn i) ∧ EvOK (ww i) (ee i) (nn i)) ∧
  (∀ r : Int, 0 ≤ r → r < lc → (-24 ≤ oS r ∧ oS r ≤ 24) ∧ (0 ≤ oN r ∧ oN r ≤ 24) ∧ (-100 ≤ oR r ∧ oR r ≤ 100) ∧ (0 ≤ oT r ∧ oT r ≤ 23) ∧ (0 ≤ oA r ∧ oA r ≤ 2 * oT r))
def RI (k : Nat → ClassId) (AD : Int → Nat) (C : Int → va_E) (pn : Int) (pf : Int → Int) (kc : Int) (nn : Int → Int) (ww : Int → Int → Int) (lc : Int) (oS : Int → Int) (oN : Int → Int) (oR : Int → Int) (oT : Int → Int) (oA : Int → Int) (tr : Int) : Prop := ∃ (ee : Int → Int → Int) (pm : Int → Int) (pS : Int → Int) (pN : Int → Int) (pR : Int → Int) (pT : Int → Int) (pA : Int → Int) (sn : Int) (sw : Int → Int) (se : Int → Int) (q0 : Int) (q1 : Int) (q2 : Int) (q3 : Int) (q4 : Int) (mb : Int → Int) (ak : Int → Int), RIx k AD C pn pf kc nn ww ee lc pm pS pN pR pT pA oS oN oR oT oA tr sn sw se q0 q1 q2 q3 q4 mb ak
def cntF (pn kc lc tr i : Int) : Int := if i = 0 then pn else if i = 1 then kc else if i = 2 then lc else tr
abbrev rm_R_count : Room := { frames := 6, cells := 1, slots := 6, locals := 82 }
set_option maxHeartbeats 4000000 in
set_option maxRecDepth 100000 in
theorem c_R_count (l : Launch) (D : va_G) (k : Nat → ClassId) (N : Nat) (AD : Int → Nat) (C : Int → va_E) (sz : Nat) (hlt : l.stackTraces = false) (pn : Int) (pf : Int → Int) (kc : Int) (nn : Int → Int) (ww : Int → Int → Int) (ee : Int → Int → Int) (lc : Int) (pm : Int → Int) (pS : Int → Int) (pN : Int → Int) (pR : Int → Int) (pT : Int → Int) (pA : Int → Int) (oS : Int → Int) (oN : Int → Int) (oR : Int → Int) (oT : Int → Int) (oA : Int → Int) (tr : Int) (sn : Int) (sw : Int → Int) (se : Int → Int) (q0 : Int) (q1 : Int) (q2 : Int) (q3 : Int) (q4 : Int) (mb : Int → Int) (ak : Int → Int) (i : Int) (hN : 82 ≤ (N : Int)) (hRI : RIx k AD C pn pf kc nn ww ee lc pm pS pN pR pT pA oS oN oR oT oA tr sn sw se q0 q1 q2 q3 q4 mb ak) (hi : inI i) : XI l y_R_count (Cond.code y_R_count b_R_count 2 (Option.some Jvm.ClassFile.FieldType.int) :: WS) rm_R_count 1 6 D clW (tyW k) N AD C sz [.ref (AD 0), .int (zI i)] (fun r C' => r = zI (cntF pn kc lc tr i) ∧ C' = C) (fun E => E = "java/lang/IndexOutOfBoundsException" ∧ ¬ (0 ≤ i ∧ i ≤ 3)) := by
  refine XI.start (cc := b_R_count) (maxL := 2) (rt := .int) (by decide) rfl (Nat.le_of_ble_eq_true rfl) ?_
  intro p e s m args below meth c Q ls hx hb hml hown hts hK hsz hw hl htb hlk hxc hQ hret
  obtain ⟨Qc9, hQ⟩ := hQ
  have hown : s.vm.findClass "RingMatches" = some m.cls := hown
  have hl : lv_has ls 2 [(0, .ref (AD 0)), (1, .int (zI i))] := hl
  have hA := wA_hi (N := N) (AD := AD) hsz
  obtain ⟨H, hH⟩ : ∃ H, H = s.heap := ⟨_, rfl⟩
  obtain ⟨locs, hlocs⟩ : ∃ z : List Loc, z = [] := ⟨_, rfl⟩
  have hw : WD D clW (wA N AD sz) s.heap H locs N AD C := by rw [hH, hlocs]; exact hw
  rw [← hlocs]
  suffices hgo : W p l e rm_R_count s m args below meth c H locs 0 0 Q (F0 m 0 ls []) by rw [hH] at hgo; exact hgo
  obtain ⟨hR, hP, hPs, h3, hser, h28, hov, hpm, hpi, hls, hst, hstw, hste, hsn, hpr, hmb, hak, hpn, hkc, hlc, htr, hpf, hok, hlb⟩ := hRI
  refine lv_iload_n hx hb d_R_count_0 rfl (lv_at hl 1 rfl) ?_
  by_cases hsw : i < 0 ∨ 3 < i
  · refine lv_tableOut (tgt := 55) hx hb d_R_count_1 (by rw [zI_toInt ⟨by omega, by omega⟩]; exact hsw) (by decide) ?_
    rw [hQ]
    exact xthrow (text := "no such what") hx hb hlt hown hts hK hxc htb hlk xc_IOB (by decide +kernel) hw ⟨rfl, by omega⟩ (hl.1.trans hml.symm) d_R_count_55 d_R_count_58 d_R_count_59 d_R_count_61 d_R_count_64 (Nat.le_of_ble_eq_true rfl) (Nat.le_of_ble_eq_true rfl) (Nat.le_of_ble_eq_true rfl) (Nat.le_of_ble_eq_true rfl) (Nat.le_of_ble_eq_true rfl) (Nat.le_of_ble_eq_true rfl)
  · rcases (show i = 0 ∨ i = 1 ∨ i = 2 ∨ i = 3 by omega) with hv9 | hv9 | hv9 | hv9
    · refine lv_tableIn (tgt := 32) (off := 31) hx hb d_R_count_1 (by rw [zI_toInt ⟨by omega, by omega⟩]; omega) (by rw [zI_toInt ⟨by omega, by omega⟩]; omega) (by rw [zI_toInt ⟨by omega, by omega⟩, hv9]; rfl) (by decide) ?_
      refine lv_aload_n hx hb d_R_count_32 rfl (lv_at hl 0 rfl) ?_
      refine zr_get (v := .ref (AD 1)) hx hb hts iw_R hown hK hw 0 ⟨by omega, by omega⟩ hR rfl 0 (by decide) (hts _ wk_110) (fun _ h => h) rfl d_R_count_33 ?_
      refine zr_get (v := .int (zI pn)) hx hb hts iw_P hown hK hw 1 ⟨by omega, by omega⟩ hP rfl 1 (by decide) (hts _ wk_54) (fun _ h => h) rfl d_R_count_36 ?_
      exact hret _ _ _ _ _ _ 0 0 (by decide) (by decide) d_R_count_39 hw rfl ⟨by unfold cntF; rw [if_pos hv9], rfl⟩
    · refine lv_tableIn (tgt := 40) (off := 39) hx hb d_R_count_1 (by rw [zI_toInt ⟨by omega, by omega⟩]; omega) (by rw [zI_toInt ⟨by omega, by omega⟩]; omega) (by rw [zI_toInt ⟨by omega, by omega⟩, hv9]; rfl) (by decide) ?_
      refine lv_aload_n hx hb d_R_count_40 rfl (lv_at hl 0 rfl) ?_
      refine zr_get (v := .int (zI kc)) hx hb hts iw_R hown hK hw 0 ⟨by omega, by omega⟩ hR rfl 2 (by decide) (hts _ wk_112) (fun _ h => h) rfl d_R_count_41 ?_
      exact hret _ _ _ _ _ _ 0 0 (by decide) (by decide) d_R_count_44 hw rfl ⟨by unfold cntF; rw [if_neg (by omega), if_pos hv9], rfl⟩
    · refine lv_tableIn (tgt := 45) (off := 44) hx hb d_R_count_1 (by rw [zI_toInt ⟨by omega, by omega⟩]; omega) (by rw [zI_toInt ⟨by omega, by omega⟩]; omega) (by rw [zI_toInt ⟨by omega, by omega⟩, hv9]; rfl) (by decide) ?_
      refine lv_aload_n hx hb d_R_count_45 rfl (lv_at hl 0 rfl) ?_
      refine zr_get (v := .int (zI lc)) hx hb hts iw_R hown hK hw 0 ⟨by omega, by omega⟩ hR rfl 4 (by decide) (hts _ wk_114) (fun _ h => h) rfl d_R_count_46 ?_
      exact hret _ _ _ _ _ _ 0 0 (by decide) (by decide) d_R_count_49 hw rfl ⟨by unfold cntF; rw [if_neg (by omega), if_neg (by omega), if_pos hv9], rfl⟩
    · refine lv_tableIn (tgt := 50) (off := 49) hx hb d_R_count_1 (by rw [zI_toInt ⟨by omega, by omega⟩]; omega) (by rw [zI_toInt ⟨by omega, by omega⟩]; omega) (by rw [zI_toInt ⟨by omega, by omega⟩, hv9]; rfl) (by decide) ?_
      refine lv_aload_n hx hb d_R_count_50 rfl (lv_at hl 0 rfl) ?_
      refine zr_get (v := .int (zI tr)) hx hb hts iw_R hown hK hw 0 ⟨by omega, by omega⟩ hR rfl 5 (by decide) (hts _ wk_115) (fun _ h => h) rfl d_R_count_51 ?_
      exact hret _ _ _ _ _ _ 0 0 (by decide) (by decide) d_R_count_54 hw rfl ⟨by unfold cntF; rw [if_neg (by omega), if_neg (by omega), if_neg (by omega)], rfl⟩
/-- width's answer -/
def widF (nn : Int → Int) (ww : Int → Int → Int) (a i : Int) : Int := if i = -1 then nn a else wAt (ww a) (nn a) i
abbrev rm_R_width : Room := { frames := 7, cells := 2, slots := 12, locals := 103 }
set_option maxHeartbeats 4000000 in
set_option maxRecDepth 100000 in
theorem c_R_width (l : Launch) (D : va_G) (k : Nat → ClassId) (N : Nat) (AD : Int → Nat) (C : Int → va_E) (sz : Nat) (hlt : l.stackTraces = false) (pn : Int) (pf : Int → Int) (kc : Int) (nn : Int → Int) (ww : Int → Int → Int) (ee : Int → Int → Int) (lc : Int) (pm : Int → Int) (pS : Int → Int) (pN : Int → Int) (pR : Int → Int) (pT : Int → Int) (pA : Int → Int) (oS : Int → Int) (oN : Int → Int) (oR : Int → Int) (oT : Int → Int) (oA : Int → Int) (tr : Int) (sn : Int) (sw : Int → Int) (se : Int → Int) (q0 : Int) (q1 : Int) (q2 : Int) (q3 : Int) (q4 : Int) (mb : Int → Int) (ak : Int → Int) (a : Int) (i : Int) (hN : 82 ≤ (N : Int)) (hRI : RIx k AD C pn pf kc nn ww ee lc pm pS pN pR pT pA oS oN oR oT oA tr sn sw se q0 q1 q2 q3 q4 mb ak) (ha : inI a) (hi : inI i) : XI l y_R_width (Cond.code y_R_width b_R_width 4 (Option.some Jvm.ClassFile.FieldType.int) :: WS) rm_R_width 2 12 D clW (tyW k) N AD C sz [.ref (AD 0), .int (zI a), .int (zI i)] (fun r C' => r = zI (widF nn ww a i) ∧ ((0 ≤ a ∧ a < kc) ∧ (-1 ≤ i ∧ i < nn a)) ∧ C' = C) (fun E => E = "java/lang/IndexOutOfBoundsException" ∧ ¬ ((0 ≤ a ∧ a < kc) ∧ (-1 ≤ i ∧ i < nn a))) := by
  refine XI.start (cc := b_R_width) (maxL := 4) (rt := .int) (by decide) rfl (Nat.le_of_ble_eq_true rfl) ?_
  intro p e s m args below meth c Q ls hx hb hml hown hts hK hsz hw hl htb hlk hxc hQ hret
  obtain ⟨Qc9, hQ⟩ := hQ
  have hown : s.vm.findClass "RingMatches" = some m.cls := hown
  have hl : lv_has ls 4 [(0, .ref (AD 0)), (1, .int (zI a)), (2, .int (zI i))] := hl
  have hA := wA_hi (N := N) (AD := AD) hsz
  obtain ⟨H, hH⟩ : ∃ H, H = s.heap := ⟨_, rfl⟩
  obtain ⟨locs, hlocs⟩ : ∃ z : List Loc, z = [] := ⟨_, rfl⟩
  have hw : WD D clW (wA N AD sz) s.heap H locs N AD C := by rw [hH, hlocs]; exact hw
  rw [← hlocs]
  suffices hgo : W p l e rm_R_width s m args below meth c H locs 0 0 Q (F0 m 0 ls []) by rw [hH] at hgo; exact hgo
  obtain ⟨hR, hP, hPs, h3, hser, h28, hov, hpm, hpi, hls, hst, hstw, hste, hsn, hpr, hmb, hak, hpn, hkc, hlc, htr, hpf, hok, hlb⟩ := hRI
  refine lv_aload_n hx hb d_R_width_0 rfl (lv_at hl 0 rfl) ?_
  refine lv_iload_n hx hb d_R_width_1 rfl (lv_at hl 1 rfl) ?_
  refine zr_xcallR (vx_runV (As := [.int (zI a)]) (rest := []) ⟨hx, hb, hml, hown, hts⟩ (c_R_seriesAt l D k N AD C H.size hlt kc lc tr a hN (by omega) ⟨by omega, by omega⟩ hR h3) (cwV 1 hts (good_V wk_298 wk_300 wk_3 wk_27 wk_301) rfl rfl rfl (by decide +kernel) ⟨Nat.le_of_ble_eq_true rfl, Nat.le_of_ble_eq_true rfl⟩) (xPre_V hK hw hA hxc 0 ⟨by omega, by omega⟩ hR rfl) rfl rfl hl.1 rfl (lv_room (Nat.le_of_ble_eq_true rfl)) d_R_width_2 ⟨Nat.le_of_ble_eq_true rfl, Nat.le_of_ble_eq_true rfl⟩) hw hA (fun E9 ce9 q9 H locs hxp hw h91 h92 h93 => ?_) (fun H locs hrp1 hw => ?_)
  · rw [hQ]; exact xout hK htb hlk hw ⟨hxp.1, fun h => hxp.2 h.1⟩ h91 h92 h93 (Nat.le_of_ble_eq_true rfl) (Nat.le_of_ble_eq_true rfl)
  obtain ⟨hokhS1, hokhS2, hokhS3⟩ := hok a hrp1.1 hrp1.2
  obtain ⟨hS, hSw, hSe, hSn⟩ := hser a hrp1.1 (by omega)
  refine lv_astore_n (lv' := [(3, .ref (AD (4 + 3 * a))), (0, .ref (AD 0)), (1, .int (zI a)), (2, .int (zI i))]) hx hb d_R_width_5 rfl hl (by decide) rfl (fun ls hl => ?_)
  refine lv_iload_n hx hb d_R_width_6 rfl (lv_at hl 3 rfl) ?_
  refine zr_iconst hx hb d_R_width_7 ?_
  refine zr_icmp_ne (tgt := 16) hx hb ⟨by omega, by omega⟩ ⟨by omega, by omega⟩ d_R_width_8 (by decide) (fun c2 => ?_) (fun c2 => ?_)
  · refine lv_aload_n hx hb d_R_width_16 rfl (lv_at hl 0 rfl) ?_
    refine lv_iload_n hx hb d_R_width_17 rfl (lv_at hl 3 rfl) ?_
    refine zr_callI (va_runV (As := [.int (zI i)]) (rest := []) ⟨hx, hb, hml, hown, hts⟩ (c_S_has l D k N AD C H.size (4 + 3 * a) (nn a) (ww a) (ee a) i ⟨by omega, by omega⟩ ⟨by omega, by omega⟩ hS hSw hSe ⟨by omega, by omega⟩) (cwV 1 hts (good_V wk_318 wk_280 wk_281 wk_29 wk_282) rfl rfl rfl (by decide +kernel) ⟨Nat.le_of_ble_eq_true rfl, Nat.le_of_ble_eq_true rfl⟩) (cPre_V hK hw (4 + 3 * a) ⟨by omega, by omega⟩ hS rfl) rfl rfl hl.1 rfl (lv_room (Nat.le_of_ble_eq_true rfl)) d_R_width_18 ⟨Nat.le_of_ble_eq_true rfl, Nat.le_of_ble_eq_true rfl⟩) hw hA (fun r9 C4 H locs hq3 hw => ?_)
    obtain ⟨hq3, hCe⟩ := hq3
    rw [hCe] at hw
    rcases hq3 with ⟨hr9, hq3⟩ | ⟨hr9, hq3⟩ <;> subst hr9
    · refine zr_if_ne (tgt := 34) hx hb ⟨by omega, by omega⟩ d_R_width_21 (by decide) (fun c5 => ?_) (fun c9 => absurd c9 (by decide))
      refine lv_aload_n hx hb d_R_width_34 rfl (lv_at hl 0 rfl) ?_
      refine lv_iload_n hx hb d_R_width_35 rfl (lv_at hl 3 rfl) ?_
      refine zr_callI (va_runV (As := [.int (zI i)]) (rest := []) ⟨hx, hb, hml, hown, hts⟩ (c_S_widthAt l D k N AD C H.size (4 + 3 * a) (nn a) (ww a) (ee a) i ⟨by omega, by omega⟩ ⟨by omega, by omega⟩ hS hSw hSe ⟨by omega, by omega⟩) (cwV 1 hts (good_V wk_320 wk_276 wk_277 wk_29 wk_278) rfl rfl rfl (by decide +kernel) ⟨Nat.le_of_ble_eq_true rfl, Nat.le_of_ble_eq_true rfl⟩) (cPre_V hK hw (4 + 3 * a) ⟨by omega, by omega⟩ hS rfl) rfl rfl hl.1 rfl (lv_room (Nat.le_of_ble_eq_true rfl)) d_R_width_36 ⟨Nat.le_of_ble_eq_true rfl, Nat.le_of_ble_eq_true rfl⟩) hw hA (fun r9 C7 H locs hq6 hw => ?_)
      obtain ⟨hr9, hCe⟩ := hq6
      rw [hCe] at hw; subst hr9
      exact hret _ _ _ _ _ _ 1 6 (by decide) (by decide) d_R_width_39 hw rfl ⟨by unfold widF; rw [if_neg (by omega)], by omega, rfl⟩
    · refine zr_if_ne (tgt := 34) hx hb ⟨by omega, by omega⟩ d_R_width_21 (by decide) (fun c9 => absurd c9 (by decide)) (fun c8 => ?_)
      rw [hQ]
      exact xthrow (text := "no such ring") hx hb hlt hown hts hK hxc htb hlk xc_IOB (by decide +kernel) hw ⟨rfl, by omega⟩ (hl.1.trans hml.symm) d_R_width_24 d_R_width_27 d_R_width_28 d_R_width_30 d_R_width_33 (Nat.le_of_ble_eq_true rfl) (Nat.le_of_ble_eq_true rfl) (Nat.le_of_ble_eq_true rfl) (Nat.le_of_ble_eq_true rfl) (Nat.le_of_ble_eq_true rfl) (Nat.le_of_ble_eq_true rfl)
  · refine lv_aload_n hx hb d_R_width_11 rfl (lv_at hl 0 rfl) ?_
    refine zr_get (v := .int (zI (nn a))) hx hb hts iw_S hown hK hw (4 + 3 * a) ⟨by omega, by omega⟩ hS rfl 2 (by decide) (hts _ wk_73) (fun _ h => h) rfl d_R_width_12 ?_
    exact hret _ _ _ _ _ _ 1 6 (by decide) (by decide) d_R_width_15 hw rfl ⟨by unfold widF; rw [if_pos (by omega)], by omega, rfl⟩
abbrev rm_R_evened : Room := { frames := 7, cells := 2, slots := 12, locals := 103 }
set_option maxHeartbeats 4000000 in
set_option maxRecDepth 100000 in
theorem c_R_evened (l : Launch) (D : va_G) (k : Nat → ClassId) (N : Nat) (AD : Int → Nat) (C : Int → va_E) (sz : Nat) (hlt : l.stackTraces = false) (pn : Int) (pf : Int → Int) (kc : Int) (nn : Int → Int) (ww : Int → Int → Int) (ee : Int → Int → Int) (lc : Int) (pm : Int → Int) (pS : Int → Int) (pN : Int → Int) (pR : Int → Int) (pT : Int → Int) (pA : Int → Int) (oS : Int → Int) (oN : Int → Int) (oR : Int → Int) (oT : Int → Int) (oA : Int → Int) (tr : Int) (sn : Int) (sw : Int → Int) (se : Int → Int) (q0 : Int) (q1 : Int) (q2 : Int) (q3 : Int) (q4 : Int) (mb : Int → Int) (ak : Int → Int) (a : Int) (i : Int) (hN : 82 ≤ (N : Int)) (hRI : RIx k AD C pn pf kc nn ww ee lc pm pS pN pR pT pA oS oN oR oT oA tr sn sw se q0 q1 q2 q3 q4 mb ak) (ha : inI a) (hi : inI i) : XI l y_R_evened (Cond.code y_R_evened b_R_evened 4 (Option.some Jvm.ClassFile.FieldType.int) :: WS) rm_R_evened 2 12 D clW (tyW k) N AD C sz [.ref (AD 0), .int (zI a), .int (zI i)] (fun r C' => r = zI (xV (ww a) (nn a) i) ∧ ((0 ≤ a ∧ a < kc) ∧ (0 ≤ i ∧ i < nn a)) ∧ C' = C) (fun E => E = "java/lang/IndexOutOfBoundsException" ∧ ¬ ((0 ≤ a ∧ a < kc) ∧ (0 ≤ i ∧ i < nn a))) := by
  refine XI.start (cc := b_R_evened) (maxL := 4) (rt := .int) (by decide) rfl (Nat.le_of_ble_eq_true rfl) ?_
  intro p e s m args below meth c Q ls hx hb hml hown hts hK hsz hw hl htb hlk hxc hQ hret
  obtain ⟨Qc9, hQ⟩ := hQ
  have hown : s.vm.findClass "RingMatches" = some m.cls := hown
  have hl : lv_has ls 4 [(0, .ref (AD 0)), (1, .int (zI a)), (2, .int (zI i))] := hl
  have hA := wA_hi (N := N) (AD := AD) hsz
  obtain ⟨H, hH⟩ : ∃ H, H = s.heap := ⟨_, rfl⟩
  obtain ⟨locs, hlocs⟩ : ∃ z : List Loc, z = [] := ⟨_, rfl⟩
  have hw : WD D clW (wA N AD sz) s.heap H locs N AD C := by rw [hH, hlocs]; exact hw
  rw [← hlocs]
  suffices hgo : W p l e rm_R_evened s m args below meth c H locs 0 0 Q (F0 m 0 ls []) by rw [hH] at hgo; exact hgo
  obtain ⟨hR, hP, hPs, h3, hser, h28, hov, hpm, hpi, hls, hst, hstw, hste, hsn, hpr, hmb, hak, hpn, hkc, hlc, htr, hpf, hok, hlb⟩ := hRI
  refine lv_aload_n hx hb d_R_evened_0 rfl (lv_at hl 0 rfl) ?_
  refine lv_iload_n hx hb d_R_evened_1 rfl (lv_at hl 1 rfl) ?_
  refine zr_xcallR (vx_runV (As := [.int (zI a)]) (rest := []) ⟨hx, hb, hml, hown, hts⟩ (c_R_seriesAt l D k N AD C H.size hlt kc lc tr a hN (by omega) ⟨by omega, by omega⟩ hR h3) (cwV 1 hts (good_V wk_298 wk_300 wk_3 wk_27 wk_301) rfl rfl rfl (by decide +kernel) ⟨Nat.le_of_ble_eq_true rfl, Nat.le_of_ble_eq_true rfl⟩) (xPre_V hK hw hA hxc 0 ⟨by omega, by omega⟩ hR rfl) rfl rfl hl.1 rfl (lv_room (Nat.le_of_ble_eq_true rfl)) d_R_evened_2 ⟨Nat.le_of_ble_eq_true rfl, Nat.le_of_ble_eq_true rfl⟩) hw hA (fun E9 ce9 q9 H locs hxp hw h91 h92 h93 => ?_) (fun H locs hrp1 hw => ?_)
  · rw [hQ]; exact xout hK htb hlk hw ⟨hxp.1, fun h => hxp.2 h.1⟩ h91 h92 h93 (Nat.le_of_ble_eq_true rfl) (Nat.le_of_ble_eq_true rfl)
  obtain ⟨hokhS1, hokhS2, hokhS3⟩ := hok a hrp1.1 hrp1.2
  obtain ⟨hS, hSw, hSe, hSn⟩ := hser a hrp1.1 (by omega)
  refine lv_astore_n (lv' := [(3, .ref (AD (4 + 3 * a))), (0, .ref (AD 0)), (1, .int (zI a)), (2, .int (zI i))]) hx hb d_R_evened_5 rfl hl (by decide) rfl (fun ls hl => ?_)
  refine lv_aload_n hx hb d_R_evened_6 rfl (lv_at hl 0 rfl) ?_
  refine lv_iload_n hx hb d_R_evened_7 rfl (lv_at hl 3 rfl) ?_
  refine zr_callI (va_runV (As := [.int (zI i)]) (rest := []) ⟨hx, hb, hml, hown, hts⟩ (c_S_has l D k N AD C H.size (4 + 3 * a) (nn a) (ww a) (ee a) i ⟨by omega, by omega⟩ ⟨by omega, by omega⟩ hS hSw hSe ⟨by omega, by omega⟩) (cwV 1 hts (good_V wk_318 wk_280 wk_281 wk_29 wk_282) rfl rfl rfl (by decide +kernel) ⟨Nat.le_of_ble_eq_true rfl, Nat.le_of_ble_eq_true rfl⟩) (cPre_V hK hw (4 + 3 * a) ⟨by omega, by omega⟩ hS rfl) rfl rfl hl.1 rfl (lv_room (Nat.le_of_ble_eq_true rfl)) d_R_evened_8 ⟨Nat.le_of_ble_eq_true rfl, Nat.le_of_ble_eq_true rfl⟩) hw hA (fun r9 C3 H locs hq2 hw => ?_)
  obtain ⟨hq2, hCe⟩ := hq2
  rw [hCe] at hw
  rcases hq2 with ⟨hr9, hq2⟩ | ⟨hr9, hq2⟩ <;> subst hr9
  · refine zr_if_ne (tgt := 24) hx hb ⟨by omega, by omega⟩ d_R_evened_11 (by decide) (fun c4 => ?_) (fun c9 => absurd c9 (by decide))
    refine lv_aload_n hx hb d_R_evened_24 rfl (lv_at hl 0 rfl) ?_
    refine lv_iload_n hx hb d_R_evened_25 rfl (lv_at hl 3 rfl) ?_
    refine zr_callI (va_runV (As := [.int (zI i)]) (rest := []) ⟨hx, hb, hml, hown, hts⟩ (c_S_evenAt l D k N AD C H.size (4 + 3 * a) (nn a) (ww a) (ee a) i ⟨by omega, by omega⟩ ⟨by omega, by omega⟩ hS hSw hSe ⟨by omega, by omega⟩) (cwV 1 hts (good_V wk_350 wk_351 wk_352 wk_29 wk_353) rfl rfl rfl (by decide +kernel) ⟨Nat.le_of_ble_eq_true rfl, Nat.le_of_ble_eq_true rfl⟩) (cPre_V hK hw (4 + 3 * a) ⟨by omega, by omega⟩ hS rfl) rfl rfl hl.1 rfl (lv_room (Nat.le_of_ble_eq_true rfl)) d_R_evened_26 ⟨Nat.le_of_ble_eq_true rfl, Nat.le_of_ble_eq_true rfl⟩) hw hA (fun r9 C6 H locs hq5 hw => ?_)
    obtain ⟨hr9, hCe⟩ := hq5
    rw [hCe] at hw; subst hr9
    exact hret _ _ _ _ _ _ 1 6 (by decide) (by decide) d_R_evened_29 hw rfl ⟨by rw [xV_e hokhS3], by omega, rfl⟩
  · refine zr_if_ne (tgt := 24) hx hb ⟨by omega, by omega⟩ d_R_evened_11 (by decide) (fun c9 => absurd c9 (by decide)) (fun c7 => ?_)
    rw [hQ]
    exact xthrow (text := "no such ring") hx hb hlt hown hts hK hxc htb hlk xc_IOB (by decide +kernel) hw ⟨rfl, by omega⟩ (hl.1.trans hml.symm) d_R_evened_14 d_R_evened_17 d_R_evened_18 d_R_evened_20 d_R_evened_23 (Nat.le_of_ble_eq_true rfl) (Nat.le_of_ble_eq_true rfl) (Nat.le_of_ble_eq_true rfl) (Nat.le_of_ble_eq_true rfl) (Nat.le_of_ble_eq_true rfl) (Nat.le_of_ble_eq_true rfl)
theorem posR_in (w : Int → Int) : ∀ m : Nat, (m : Int) * 2 ≤ sumR (fun j => dg (w j) + 1) 0 m ∧ sumR (fun j => dg (w j) + 1) 0 m ≤ 4 * (m : Int) := by
  intro m
  induction m with
  | zero => exact ⟨Int.le_refl 0, Int.le_refl 0⟩
  | succ m ih =>
    have h := dg_in (w (0 + (m : Int)))
    have e : sumR (fun j => dg (w j) + 1) 0 (m + 1) = sumR (fun j => dg (w j) + 1) 0 m + (dg (w (0 + (m : Int))) + 1) := rfl
    omega
theorem posR_b (w : Int → Int) {n : Int} (h : 0 ≤ n) : 2 * n ≤ posR w n ∧ posR w n ≤ 4 * n := by
  have := posR_in w n.toNat
  unfold posR
  omega
abbrev rm_R_written : Room := { frames := 7, cells := 2, slots := 12, locals := 103 }
set_option maxHeartbeats 4000000 in
set_option maxRecDepth 100000 in
theorem c_R_written (l : Launch) (D : va_G) (k : Nat → ClassId) (N : Nat) (AD : Int → Nat) (C : Int → va_E) (sz : Nat) (hlt : l.stackTraces = false) (pn : Int) (pf : Int → Int) (kc : Int) (nn : Int → Int) (ww : Int → Int → Int) (ee : Int → Int → Int) (lc : Int) (pm : Int → Int) (pS : Int → Int) (pN : Int → Int) (pR : Int → Int) (pT : Int → Int) (pA : Int → Int) (oS : Int → Int) (oN : Int → Int) (oR : Int → Int) (oT : Int → Int) (oA : Int → Int) (tr : Int) (sn : Int) (sw : Int → Int) (se : Int → Int) (q0 : Int) (q1 : Int) (q2 : Int) (q3 : Int) (q4 : Int) (mb : Int → Int) (ak : Int → Int) (a : Int) (i : Int) (hN : 82 ≤ (N : Int)) (hRI : RIx k AD C pn pf kc nn ww ee lc pm pS pN pR pT pA oS oN oR oT oA tr sn sw se q0 q1 q2 q3 q4 mb ak) (ha : inI a) (hi : inI i) : XI l y_R_written (Cond.code y_R_written b_R_written 5 (Option.some Jvm.ClassFile.FieldType.int) :: WS) rm_R_written 2 12 D clW (tyW k) N AD C sz [.ref (AD 0), .int (zI a), .int (zI i)] (fun r C' => ((0 ≤ a ∧ a < kc) ∧ (-1 ≤ i ∧ i < posR (ww a) (nn a) - 1)) ∧ (i = -1 ∧ r = zI (posR (ww a) (nn a) - 1) ∨ 0 ≤ i ∧ ∃ x : Int, (0 ≤ x ∧ x < nn a) ∧ (posR (ww a) x ≤ i ∧ i < posR (ww a) (x + 1)) ∧ r = zI (tsg (ww a) x i)) ∧ C' = C) (fun E => E = "java/lang/IndexOutOfBoundsException" ∧ ¬ ((0 ≤ a ∧ a < kc) ∧ (-1 ≤ i ∧ i < posR (ww a) (nn a) - 1))) := by
  refine XI.start (cc := b_R_written) (maxL := 5) (rt := .int) (by decide) rfl (Nat.le_of_ble_eq_true rfl) ?_
  intro p e s m args below meth c Q ls hx hb hml hown hts hK hsz hw hl htb hlk hxc hQ hret
  obtain ⟨Qc9, hQ⟩ := hQ
  have hown : s.vm.findClass "RingMatches" = some m.cls := hown
  have hl : lv_has ls 5 [(0, .ref (AD 0)), (1, .int (zI a)), (2, .int (zI i))] := hl
  have hA := wA_hi (N := N) (AD := AD) hsz
  obtain ⟨H, hH⟩ : ∃ H, H = s.heap := ⟨_, rfl⟩
  obtain ⟨locs, hlocs⟩ : ∃ z : List Loc, z = [] := ⟨_, rfl⟩
  have hw : WD D clW (wA N AD sz) s.heap H locs N AD C := by rw [hH, hlocs]; exact hw
  rw [← hlocs]
  suffices hgo : W p l e rm_R_written s m args below meth c H locs 0 0 Q (F0 m 0 ls []) by rw [hH] at hgo; exact hgo
  obtain ⟨hR, hP, hPs, h3, hser, h28, hov, hpm, hpi, hls, hst, hstw, hste, hsn, hpr, hmb, hak, hpn, hkc, hlc, htr, hpf, hok, hlb⟩ := hRI
  refine lv_aload_n hx hb d_R_written_0 rfl (lv_at hl 0 rfl) ?_
  refine lv_iload_n hx hb d_R_written_1 rfl (lv_at hl 1 rfl) ?_
  refine zr_xcallR (vx_runV (As := [.int (zI a)]) (rest := []) ⟨hx, hb, hml, hown, hts⟩ (c_R_seriesAt l D k N AD C H.size hlt kc lc tr a hN (by omega) ⟨by omega, by omega⟩ hR h3) (cwV 1 hts (good_V wk_298 wk_300 wk_3 wk_27 wk_301) rfl rfl rfl (by decide +kernel) ⟨Nat.le_of_ble_eq_true rfl, Nat.le_of_ble_eq_true rfl⟩) (xPre_V hK hw hA hxc 0 ⟨by omega, by omega⟩ hR rfl) rfl rfl hl.1 rfl (lv_room (Nat.le_of_ble_eq_true rfl)) d_R_written_2 ⟨Nat.le_of_ble_eq_true rfl, Nat.le_of_ble_eq_true rfl⟩) hw hA (fun E9 ce9 q9 H locs hxp hw h91 h92 h93 => ?_) (fun H locs hrp1 hw => ?_)
  · rw [hQ]; exact xout hK htb hlk hw ⟨hxp.1, fun h => hxp.2 h.1⟩ h91 h92 h93 (Nat.le_of_ble_eq_true rfl) (Nat.le_of_ble_eq_true rfl)
  obtain ⟨hokhS1, hokhS2, hokhS3⟩ := hok a hrp1.1 hrp1.2
  obtain ⟨hS, hSw, hSe, hSn⟩ := hser a hrp1.1 (by omega)
  refine lv_astore_n (lv' := [(3, .ref (AD (4 + 3 * a))), (0, .ref (AD 0)), (1, .int (zI a)), (2, .int (zI i))]) hx hb d_R_written_5 rfl hl (by decide) rfl (fun ls hl => ?_)
  have hpb := posR_b (ww a) hSn.1
  refine lv_aload_n hx hb d_R_written_6 rfl (lv_at hl 0 rfl) ?_
  refine zr_callI (va_runV (As := []) (rest := []) ⟨hx, hb, hml, hown, hts⟩ (c_S_textLength l D k N AD C H.size (4 + 3 * a) (nn a) (ww a) (ee a) ⟨by omega, by omega⟩ ⟨by omega, by omega⟩ hS hSw hSe hokhS2) (cwV 0 hts (good_V wk_328 wk_329 wk_330 wk_29 wk_331) rfl rfl rfl (by decide +kernel) ⟨Nat.le_of_ble_eq_true rfl, Nat.le_of_ble_eq_true rfl⟩) (cPre_V hK hw (4 + 3 * a) ⟨by omega, by omega⟩ hS rfl) rfl rfl hl.1 rfl (lv_room (Nat.le_of_ble_eq_true rfl)) d_R_written_7 ⟨Nat.le_of_ble_eq_true rfl, Nat.le_of_ble_eq_true rfl⟩) hw hA (fun r9 C3 H locs hq2 hw => ?_)
  obtain ⟨hr9, hCe⟩ := hq2
  rw [hCe] at hw; subst hr9
  refine lv_istore (lv' := [(4, .int (zI (posR (ww a) (nn a) - 1))), (3, .ref (AD (4 + 3 * a))), (0, .ref (AD 0)), (1, .int (zI a)), (2, .int (zI i))]) hx hb d_R_written_10 hl (by decide) rfl (fun ls hl => ?_)
  refine lv_iload_n hx hb d_R_written_12 rfl (lv_at hl 4 rfl) ?_
  refine zr_iconst hx hb d_R_written_13 ?_
  refine zr_icmp_ne (tgt := 20) hx hb ⟨by omega, by omega⟩ ⟨by omega, by omega⟩ d_R_written_14 (by decide) (fun c4 => ?_) (fun c4 => ?_)
  · refine lv_iload_n hx hb d_R_written_20 rfl (lv_at hl 4 rfl) ?_
    refine zr_if_lt (tgt := 30) hx hb ⟨by omega, by omega⟩ d_R_written_21 (by decide) (fun c5 => ?_) (fun c5 => ?_)
    · rw [hQ]
      exact xthrow (text := "no such sign") hx hb hlt hown hts hK hxc htb hlk xc_IOB (by decide +kernel) hw ⟨rfl, by omega⟩ (hl.1.trans hml.symm) d_R_written_30 d_R_written_33 d_R_written_34 d_R_written_36 d_R_written_39 (Nat.le_of_ble_eq_true rfl) (Nat.le_of_ble_eq_true rfl) (Nat.le_of_ble_eq_true rfl) (Nat.le_of_ble_eq_true rfl) (Nat.le_of_ble_eq_true rfl) (Nat.le_of_ble_eq_true rfl)
    · refine lv_iload_n hx hb d_R_written_24 rfl (lv_at hl 4 rfl) ?_
      refine lv_iload hx hb d_R_written_25 (lv_at hl 0 rfl) ?_
      refine zr_icmp_lt (tgt := 40) hx hb ⟨by omega, by omega⟩ ⟨by omega, by omega⟩ d_R_written_27 (by decide) (fun c6 => ?_) (fun c6 => ?_)
      · refine lv_aload_n hx hb d_R_written_40 rfl (lv_at hl 1 rfl) ?_
        refine lv_iload_n hx hb d_R_written_41 rfl (lv_at hl 4 rfl) ?_
        refine zr_callI (va_runV (As := [.int (zI i)]) (rest := []) ⟨hx, hb, hml, hown, hts⟩ (c_S_textSign l D k N AD C H.size (4 + 3 * a) (nn a) (ww a) (ee a) i ⟨by omega, by omega⟩ ⟨by omega, by omega⟩ hS hSw hSe hokhS2 (by omega) (by omega)) (cwV 1 hts (good_V wk_336 wk_337 wk_338 wk_29 wk_339) rfl rfl rfl (by decide +kernel) ⟨Nat.le_of_ble_eq_true rfl, Nat.le_of_ble_eq_true rfl⟩) (cPre_V hK hw (4 + 3 * a) ⟨by omega, by omega⟩ hS rfl) rfl rfl hl.1 rfl (lv_room (Nat.le_of_ble_eq_true rfl)) d_R_written_42 ⟨Nat.le_of_ble_eq_true rfl, Nat.le_of_ble_eq_true rfl⟩) hw hA (fun r9 C8 H locs hq7 hw => ?_)
        obtain ⟨x9, hx91, hx92, hx93, hr9, hCe⟩ := hq7
        rw [hCe] at hw; subst hr9
        exact hret _ _ _ _ _ _ 1 6 (by decide) (by decide) d_R_written_45 hw rfl ⟨by omega, Or.inr ⟨by omega, x9, by omega, hx93, rfl⟩, rfl⟩
      · rw [hQ]
        exact xthrow (text := "no such sign") hx hb hlt hown hts hK hxc htb hlk xc_IOB (by decide +kernel) hw ⟨rfl, by omega⟩ (hl.1.trans hml.symm) d_R_written_30 d_R_written_33 d_R_written_34 d_R_written_36 d_R_written_39 (Nat.le_of_ble_eq_true rfl) (Nat.le_of_ble_eq_true rfl) (Nat.le_of_ble_eq_true rfl) (Nat.le_of_ble_eq_true rfl) (Nat.le_of_ble_eq_true rfl) (Nat.le_of_ble_eq_true rfl)
  · refine lv_iload hx hb d_R_written_17 (lv_at hl 0 rfl) ?_
    exact hret _ _ _ _ _ _ 1 6 (by decide) (by decide) d_R_written_19 hw rfl ⟨by omega, Or.inl ⟨by omega, rfl⟩, rfl⟩
def ovlF (oS oN oR : Int → Int) (a i : Int) : Int := if i = 0 then oS a else if i = 1 then oN a else oR a
abbrev rm_R_overlap : Room := { frames := 7, cells := 2, slots := 12, locals := 103 }
set_option maxHeartbeats 4000000 in
set_option maxRecDepth 100000 in
theorem c_R_overlap (l : Launch) (D : va_G) (k : Nat → ClassId) (N : Nat) (AD : Int → Nat) (C : Int → va_E) (sz : Nat) (hlt : l.stackTraces = false) (pn : Int) (pf : Int → Int) (kc : Int) (nn : Int → Int) (ww : Int → Int → Int) (ee : Int → Int → Int) (lc : Int) (pm : Int → Int) (pS : Int → Int) (pN : Int → Int) (pR : Int → Int) (pT : Int → Int) (pA : Int → Int) (oS : Int → Int) (oN : Int → Int) (oR : Int → Int) (oT : Int → Int) (oA : Int → Int) (tr : Int) (sn : Int) (sw : Int → Int) (se : Int → Int) (q0 : Int) (q1 : Int) (q2 : Int) (q3 : Int) (q4 : Int) (mb : Int → Int) (ak : Int → Int) (a : Int) (i : Int) (hN : 82 ≤ (N : Int)) (hRI : RIx k AD C pn pf kc nn ww ee lc pm pS pN pR pT pA oS oN oR oT oA tr sn sw se q0 q1 q2 q3 q4 mb ak) (ha : inI a) (hi : inI i) : XI l y_R_overlap (Cond.code y_R_overlap b_R_overlap 4 (Option.some Jvm.ClassFile.FieldType.int) :: WS) rm_R_overlap 2 12 D clW (tyW k) N AD C sz [.ref (AD 0), .int (zI a), .int (zI i)] (fun r C' => r = zI (ovlF oS oN oR a i) ∧ ((0 ≤ a ∧ a < lc) ∧ (0 ≤ i ∧ i ≤ 2)) ∧ C' = C) (fun E => E = "java/lang/IndexOutOfBoundsException" ∧ ¬ ((0 ≤ a ∧ a < lc) ∧ (0 ≤ i ∧ i ≤ 2))) := by
  refine XI.start (cc := b_R_overlap) (maxL := 4) (rt := .int) (by decide) rfl (Nat.le_of_ble_eq_true rfl) ?_
  intro p e s m args below meth c Q ls hx hb hml hown hts hK hsz hw hl htb hlk hxc hQ hret
  obtain ⟨Qc9, hQ⟩ := hQ
  have hown : s.vm.findClass "RingMatches" = some m.cls := hown
  have hl : lv_has ls 4 [(0, .ref (AD 0)), (1, .int (zI a)), (2, .int (zI i))] := hl
  have hA := wA_hi (N := N) (AD := AD) hsz
  obtain ⟨H, hH⟩ : ∃ H, H = s.heap := ⟨_, rfl⟩
  obtain ⟨locs, hlocs⟩ : ∃ z : List Loc, z = [] := ⟨_, rfl⟩
  have hw : WD D clW (wA N AD sz) s.heap H locs N AD C := by rw [hH, hlocs]; exact hw
  rw [← hlocs]
  suffices hgo : W p l e rm_R_overlap s m args below meth c H locs 0 0 Q (F0 m 0 ls []) by rw [hH] at hgo; exact hgo
  obtain ⟨hR, hP, hPs, h3, hser, h28, hov, hpm, hpi, hls, hst, hstw, hste, hsn, hpr, hmb, hak, hpn, hkc, hlc, htr, hpf, hok, hlb⟩ := hRI
  refine lv_aload_n hx hb d_R_overlap_0 rfl (lv_at hl 0 rfl) ?_
  refine lv_iload_n hx hb d_R_overlap_1 rfl (lv_at hl 1 rfl) ?_
  refine zr_xcallR (vx_runV (As := [.int (zI a)]) (rest := []) ⟨hx, hb, hml, hown, hts⟩ (c_R_overlapAt l D k N AD C H.size hlt kc lc tr pm a hN (by omega) ⟨by omega, by omega⟩ hR h28) (cwV 1 hts (good_V wk_408 wk_410 wk_6 wk_27 wk_411) rfl rfl rfl (by decide +kernel) ⟨Nat.le_of_ble_eq_true rfl, Nat.le_of_ble_eq_true rfl⟩) (xPre_V hK hw hA hxc 0 ⟨by omega, by omega⟩ hR rfl) rfl rfl hl.1 rfl (lv_room (Nat.le_of_ble_eq_true rfl)) d_R_overlap_2 ⟨Nat.le_of_ble_eq_true rfl, Nat.le_of_ble_eq_true rfl⟩) hw hA (fun E9 ce9 q9 H locs hxp hw h91 h92 h93 => ?_) (fun H locs hrp1 hw => ?_)
  · rw [hQ]; exact xout hK htb hlk hw ⟨hxp.1, fun h => hxp.2 h.1⟩ h91 h92 h93 (Nat.le_of_ble_eq_true rfl) (Nat.le_of_ble_eq_true rfl)
  have hpmi := hpm a hrp1.1 (by omega)
  have hO := hov (pm a) hpmi.1 hpmi.2
  obtain ⟨hl1, hl2, hl3, hl4, hl5⟩ := hls a hrp1.1 hrp1.2
  rw [hl1, hl2, hl3, hl4, hl5] at hO
  have hlbi := hlb a hrp1.1 hrp1.2
  refine lv_astore_n (lv' := [(3, .ref (AD (29 + pm a))), (0, .ref (AD 0)), (1, .int (zI a)), (2, .int (zI i))]) hx hb d_R_overlap_5 rfl hl (by decide) rfl (fun ls hl => ?_)
  refine lv_iload_n hx hb d_R_overlap_6 rfl (lv_at hl 3 rfl) ?_
  by_cases hsw : i < 0 ∨ 2 < i
  · refine lv_tableOut (tgt := 47) hx hb d_R_overlap_7 (by rw [zI_toInt ⟨by omega, by omega⟩]; exact hsw) (by decide) ?_
    rw [hQ]
    exact xthrow (text := "no such what") hx hb hlt hown hts hK hxc htb hlk xc_IOB (by decide +kernel) hw ⟨rfl, by omega⟩ (hl.1.trans hml.symm) d_R_overlap_47 d_R_overlap_50 d_R_overlap_51 d_R_overlap_53 d_R_overlap_56 (Nat.le_of_ble_eq_true rfl) (Nat.le_of_ble_eq_true rfl) (Nat.le_of_ble_eq_true rfl) (Nat.le_of_ble_eq_true rfl) (Nat.le_of_ble_eq_true rfl) (Nat.le_of_ble_eq_true rfl)
  · rcases (show i = 0 ∨ i = 1 ∨ i = 2 by omega) with hv9 | hv9 | hv9
    · refine lv_tableIn (tgt := 32) (off := 25) hx hb d_R_overlap_7 (by rw [zI_toInt ⟨by omega, by omega⟩]; omega) (by rw [zI_toInt ⟨by omega, by omega⟩]; omega) (by rw [zI_toInt ⟨by omega, by omega⟩, hv9]; rfl) (by decide) ?_
      refine lv_aload_n hx hb d_R_overlap_32 rfl (lv_at hl 0 rfl) ?_
      refine zr_get (v := .int (zI (oS a))) hx hb hts iw_O hown hK hw (29 + pm a) ⟨by omega, by omega⟩ hO rfl 0 (by decide) (hts _ wk_90) (fun _ h => h) rfl d_R_overlap_33 ?_
      exact hret _ _ _ _ _ _ 1 6 (by decide) (by decide) d_R_overlap_36 hw rfl ⟨by unfold ovlF; rw [if_pos hv9], by omega, rfl⟩
    · refine lv_tableIn (tgt := 37) (off := 30) hx hb d_R_overlap_7 (by rw [zI_toInt ⟨by omega, by omega⟩]; omega) (by rw [zI_toInt ⟨by omega, by omega⟩]; omega) (by rw [zI_toInt ⟨by omega, by omega⟩, hv9]; rfl) (by decide) ?_
      refine lv_aload_n hx hb d_R_overlap_37 rfl (lv_at hl 0 rfl) ?_
      refine zr_get (v := .int (zI (oN a))) hx hb hts iw_O hown hK hw (29 + pm a) ⟨by omega, by omega⟩ hO rfl 1 (by decide) (hts _ wk_92) (fun _ h => h) rfl d_R_overlap_38 ?_
      exact hret _ _ _ _ _ _ 1 6 (by decide) (by decide) d_R_overlap_41 hw rfl ⟨by unfold ovlF; rw [if_neg (by omega), if_pos hv9], by omega, rfl⟩
    · refine lv_tableIn (tgt := 42) (off := 35) hx hb d_R_overlap_7 (by rw [zI_toInt ⟨by omega, by omega⟩]; omega) (by rw [zI_toInt ⟨by omega, by omega⟩]; omega) (by rw [zI_toInt ⟨by omega, by omega⟩, hv9]; rfl) (by decide) ?_
      refine lv_aload_n hx hb d_R_overlap_42 rfl (lv_at hl 0 rfl) ?_
      refine zr_get (v := .int (zI (oR a))) hx hb hts iw_O hown hK hw (29 + pm a) ⟨by omega, by omega⟩ hO rfl 2 (by decide) (hts _ wk_94) (fun _ h => h) rfl d_R_overlap_43 ?_
      exact hret _ _ _ _ _ _ 1 6 (by decide) (by decide) d_R_overlap_46 hw rfl ⟨by unfold ovlF; rw [if_neg (by omega), if_neg (by omega)], by omega, rfl⟩
end
section
theorem padF_ok {R : Int → Prop} {f : Int → Int} {n a : Int} (h0 : 0 ≤ n) (hf : ∀ j : Int, 0 ≤ j → j < n → R (f j)) (hT : ∀ q : Int, 0 ≤ q → q < 4 → ¬ byt a q = 0 → R (byt a q)) : ∀ m : Nat, m ≤ 4 → ∀ j : Int, 0 ≤ j → j < n + sumR (nzT a) 0 m → R (padF f n a m j) := by
  intro m
  induction m with
  | zero => intro _ j h1 h2; exact hf j h1 (by have e : sumR (nzT a) 0 0 = 0 := rfl; omega)
  | succ m ih =>
    intro hm j h1 h2
    have e : sumR (nzT a) 0 (m + 1) = sumR (nzT a) 0 m + nzT a (0 + (m : Int)) := rfl
    rw [Int.zero_add] at e
    show R ((if byt a (m : Int) = 0 then padF f n a m else zup (padF f n a m) (n + sumR (nzT a) 0 m) (byt a (m : Int))) j)
    by_cases hz : byt a (m : Int) = 0
    · rw [if_pos hz]
      have e2 : nzT a (m : Int) = 0 := if_pos hz
      exact ih (by omega) j h1 (by omega)
    · rw [if_neg hz]
      have e2 : nzT a (m : Int) = 1 := if_neg hz
      by_cases hj : j = n + sumR (nzT a) 0 m
      · rw [hj, zup_s]; exact hT _ (by omega) (by omega) hz
      · rw [zup_n hj]; exact ih (by omega) j h1 (by omega)
theorem padF_ok4 {R : Int → Prop} {f : Int → Int} {n a : Int} (h0 : 0 ≤ n) (hf : ∀ j : Int, 0 ≤ j → j < n → R (f j)) (hT : ∀ q : Int, 0 ≤ q → q < 4 → ¬ byt a q = 0 → R (byt a q)) : ∀ j : Int, 0 ≤ j → j < n + nz a → R (padF f n a 4 j) := padF_ok h0 hf hT 4 (Nat.le_refl 4)
theorem TK_R {a : Int} (h : TK a) : ∀ q : Int, 0 ≤ q → q < 4 → ¬ byt a q = 0 → (32 ≤ byt a q ∧ byt a q ≤ 126) := fun q h1 h2 h3 => by
  have := h q h1 h2
  unfold okB at this
  omega
abbrev rm_R_unit : Room := { frames := 6, cells := 1, slots := 6, locals := 82 }
set_option maxHeartbeats 4000000 in
set_option maxRecDepth 100000 in
theorem c_R_unit (l : Launch) (D : va_G) (k : Nat → ClassId) (N : Nat) (AD : Int → Nat) (C : Int → va_E) (sz : Nat) (hlt : l.stackTraces = false) (pn : Int) (pf : Int → Int) (kc : Int) (nn : Int → Int) (ww : Int → Int → Int) (ee : Int → Int → Int) (lc : Int) (pm : Int → Int) (pS : Int → Int) (pN : Int → Int) (pR : Int → Int) (pT : Int → Int) (pA : Int → Int) (oS : Int → Int) (oN : Int → Int) (oR : Int → Int) (oT : Int → Int) (oA : Int → Int) (tr : Int) (sn : Int) (sw : Int → Int) (se : Int → Int) (q0 : Int) (q1 : Int) (q2 : Int) (q3 : Int) (q4 : Int) (mb : Int → Int) (ak : Int → Int) (a : Int) (b : Int) (hN : 82 ≤ (N : Int)) (hRI : RIx k AD C pn pf kc nn ww ee lc pm pS pN pR pT pA oS oN oR oT oA tr sn sw se q0 q1 q2 q3 q4 mb ak) (ha : inI a) (hb9 : inI b) : XI l y_R_unit (Cond.code y_R_unit b_R_unit 3 (Option.some Jvm.ClassFile.FieldType.int) :: WS) rm_R_unit 1 6 D clW (tyW k) N AD C sz [.ref (AD 0), .int (zI a), .int (zI b)] (fun r C' => r = zI (pn + nz a + nz b) ∧ (TK a ∧ TK b) ∧ pn + nz a + nz b ≤ 100 ∧ RIx k AD C' (pn + nz a + nz b) (padF (padF pf pn a 4) (pn + nz a) b 4) kc nn ww ee lc pm pS pN pR pT pA oS oN oR oT oA tr sn sw se q0 q1 q2 q3 q4 mb ak ∧ ∀ j : Int, ¬ (0 ≤ j ∧ j ≤ 81) → C' j = C j) (fun E => (E = "java/lang/IllegalArgumentException" ∧ ¬ (TK a ∧ TK b)) ∨ (E = "java/lang/IllegalStateException" ∧ (TK a ∧ TK b) ∧ 100 < pn + nz a + nz b)) := by
  refine XI.start (cc := b_R_unit) (maxL := 3) (rt := .int) (by decide) rfl (Nat.le_of_ble_eq_true rfl) ?_
  intro p e s m args below meth c Q ls hx hb hml hown hts hK hsz hw hl htb hlk hxc hQ hret
  obtain ⟨Qc9, hQ⟩ := hQ
  have hown : s.vm.findClass "RingMatches" = some m.cls := hown
  have hl : lv_has ls 3 [(0, .ref (AD 0)), (1, .int (zI a)), (2, .int (zI b))] := hl
  have hA := wA_hi (N := N) (AD := AD) hsz
  obtain ⟨H, hH⟩ : ∃ H, H = s.heap := ⟨_, rfl⟩
  obtain ⟨locs, hlocs⟩ : ∃ z : List Loc, z = [] := ⟨_, rfl⟩
  have hw : WD D clW (wA N AD sz) s.heap H locs N AD C := by rw [hH, hlocs]; exact hw
  rw [← hlocs]
  suffices hgo : W p l e rm_R_unit s m args below meth c H locs 0 0 Q (F0 m 0 ls []) by rw [hH] at hgo; exact hgo
  obtain ⟨hR, hP, hPs, h3, hser, h28, hov, hpm, hpi, hls, hst, hstw, hste, hsn, hpr, hmb, hak, hpn, hkc, hlc, htr, hpf, hok, hlb⟩ := hRI
  refine lv_iload_n hx hb d_R_unit_0 rfl (lv_at hl 1 rfl) ?_
  refine zr_callI (va_runS (As := [.int (zI a)]) (rest := []) ⟨hx, hb, hml, hown, hts⟩ (c_P_takes l D k N AD C H.size a) (va_cwS 1 hts (good_S wk_151 wk_152 wk_28 wk_153) rfl rfl rfl (by decide +kernel) ⟨Nat.le_of_ble_eq_true rfl, Nat.le_of_ble_eq_true rfl⟩) (cPre_S hK hw) rfl rfl hl.1 rfl (lv_room (Nat.le_of_ble_eq_true rfl)) d_R_unit_1 ⟨Nat.le_of_ble_eq_true rfl, Nat.le_of_ble_eq_true rfl⟩) hw hA (fun r9 C2 H locs hq1 hw => ?_)
  obtain ⟨hq1, hCe⟩ := hq1
  rw [hCe] at hw
  rcases hq1 with ⟨hr9, hq1⟩ | ⟨hr9, hq1⟩ <;> subst hr9
  · refine zr_if_eq (tgt := 14) hx hb ⟨by omega, by omega⟩ d_R_unit_4 (by decide) (fun c9 => absurd c9 (by decide)) (fun c3 => ?_)
    refine lv_iload_n hx hb d_R_unit_7 rfl (lv_at hl 2 rfl) ?_
    refine zr_callI (va_runS (As := [.int (zI b)]) (rest := []) ⟨hx, hb, hml, hown, hts⟩ (c_P_takes l D k N AD C H.size b) (va_cwS 1 hts (good_S wk_151 wk_152 wk_28 wk_153) rfl rfl rfl (by decide +kernel) ⟨Nat.le_of_ble_eq_true rfl, Nat.le_of_ble_eq_true rfl⟩) (cPre_S hK hw) rfl rfl hl.1 rfl (lv_room (Nat.le_of_ble_eq_true rfl)) d_R_unit_8 ⟨Nat.le_of_ble_eq_true rfl, Nat.le_of_ble_eq_true rfl⟩) hw hA (fun r9 C5 H locs hq4 hw => ?_)
    obtain ⟨hq4, hCe⟩ := hq4
    rw [hCe] at hw
    rcases hq4 with ⟨hr9, hq4⟩ | ⟨hr9, hq4⟩ <;> subst hr9
    · refine zr_if_ne (tgt := 24) hx hb ⟨by omega, by omega⟩ d_R_unit_11 (by decide) (fun c6 => ?_) (fun c9 => absurd c9 (by decide))
      refine lv_aload_n hx hb d_R_unit_24 rfl (lv_at hl 0 rfl) ?_
      refine zr_get (v := .ref (AD 1)) hx hb hts iw_R hown hK hw 0 ⟨by omega, by omega⟩ hR rfl 0 (by decide) (hts _ wk_110) (fun _ h => h) rfl d_R_unit_25 ?_
      refine zr_get (v := .int (zI pn)) hx hb hts iw_P hown hK hw 1 ⟨by omega, by omega⟩ hP rfl 1 (by decide) (hts _ wk_54) (fun _ h => h) rfl d_R_unit_28 ?_
      have hz1 := nz_in a
      have hz2 := nz_in b
      refine lv_iload_n hx hb d_R_unit_31 rfl (lv_at hl 1 rfl) ?_
      refine zr_callI (va_runS (As := [.int (zI a)]) (rest := [.int (zI pn)]) ⟨hx, hb, hml, hown, hts⟩ (c_P_signsIn l D k N AD C H.size a) (va_cwS 1 hts (good_S wk_225 wk_226 wk_28 wk_227) rfl rfl rfl (by decide +kernel) ⟨Nat.le_of_ble_eq_true rfl, Nat.le_of_ble_eq_true rfl⟩) (cPre_S hK hw) rfl rfl hl.1 rfl (lv_room (Nat.le_of_ble_eq_true rfl)) d_R_unit_32 ⟨Nat.le_of_ble_eq_true rfl, Nat.le_of_ble_eq_true rfl⟩) hw hA (fun r9 C8 H locs hq7 hw => ?_)
      obtain ⟨hr9, hCe⟩ := hq7
      rw [hCe] at hw; subst hr9
      refine zr_iadd hx hb d_R_unit_35 ?_
      refine lv_iload_n hx hb d_R_unit_36 rfl (lv_at hl 2 rfl) ?_
      refine zr_callI (va_runS (As := [.int (zI b)]) (rest := [.int (zI (pn + (nz a)))]) ⟨hx, hb, hml, hown, hts⟩ (c_P_signsIn l D k N AD C H.size b) (va_cwS 1 hts (good_S wk_225 wk_226 wk_28 wk_227) rfl rfl rfl (by decide +kernel) ⟨Nat.le_of_ble_eq_true rfl, Nat.le_of_ble_eq_true rfl⟩) (cPre_S hK hw) rfl rfl hl.1 rfl (lv_room (Nat.le_of_ble_eq_true rfl)) d_R_unit_37 ⟨Nat.le_of_ble_eq_true rfl, Nat.le_of_ble_eq_true rfl⟩) hw hA (fun r9 C10 H locs hq9 hw => ?_)
      obtain ⟨hr9, hCe⟩ := hq9
      rw [hCe] at hw; subst hr9
      refine zr_iadd hx hb d_R_unit_40 ?_
      refine zr_bipush hx hb d_R_unit_41 (by decide) ?_
      refine zr_icmp_le (tgt := 56) hx hb ⟨by omega, by omega⟩ ⟨by omega, by omega⟩ d_R_unit_43 (by decide) (fun c11 => ?_) (fun c11 => ?_)
      · refine lv_aload_n hx hb d_R_unit_56 rfl (lv_at hl 0 rfl) ?_
        refine zr_get (v := .ref (AD 1)) hx hb hts iw_R hown hK hw 0 ⟨by omega, by omega⟩ hR rfl 0 (by decide) (hts _ wk_110) (fun _ h => h) rfl d_R_unit_57 ?_
        refine lv_iload_n hx hb d_R_unit_60 rfl (lv_at hl 1 rfl) ?_
        refine zr_callV (va_runV (As := [.int (zI a)]) (rest := []) ⟨hx, hb, hml, hown, hts⟩ (c_P_put l D k N AD C H.size 1 pn pf a ⟨by omega, by omega⟩ ⟨by omega, by omega⟩ hP hPs (by omega)) (cwV 1 hts (good_V wk_244 wk_245 wk_246 wk_28 wk_247) rfl rfl rfl (by decide +kernel) ⟨Nat.le_of_ble_eq_true rfl, Nat.le_of_ble_eq_true rfl⟩) (cPre_V hK hw 1 ⟨by omega, by omega⟩ hP rfl) rfl rfl hl.1 rfl (lv_room (Nat.le_of_ble_eq_true rfl)) d_R_unit_61 ⟨Nat.le_of_ble_eq_true rfl, Nat.le_of_ble_eq_true rfl⟩) hw hA (fun C12 H locs hq13 hw => ?_)
        obtain ⟨hq13a, hq13b, frC120⟩ := hq13
        have frC12 : ∀ j : Int, ¬ (1 ≤ j ∧ j ≤ 1 + 1) → C12 j = C j := fun j hj => frC120 j (by omega) (by omega)
        have hR : C12 0 = .inr (3, [.ref (AD 1), .ref (AD 3), .int (zI kc), .ref (AD 28), .int (zI lc), .int (zI tr), .ref (AD 76), .ref (AD 79), .ref (AD 80), .ref (AD 81)]) := (frC12 _ (by omega)).trans hR
        have h3 : C12 3 = aQ (k 3) 8 (fun i => some (AD (4 + 3 * i))) := (frC12 _ (by omega)).trans h3
        have h28 : C12 28 = aQ (k 4) 47 (fun j => some (AD (29 + pm j))) := (frC12 _ (by omega)).trans h28
        have hP : C12 1 = .inr (1, [.ref (AD (1 + 1)), .int (zI (pn + nz a))]) := hq13a
        have hPs : C12 (1 + 1) = aI (k 0) 100 (padF pf pn a 4) := hq13b
        refine lv_aload_n hx hb d_R_unit_64 rfl (lv_at hl 0 rfl) ?_
        refine zr_get (v := .ref (AD 1)) hx hb hts iw_R hown hK hw 0 ⟨by omega, by omega⟩ hR rfl 0 (by decide) (hts _ wk_110) (fun _ h => h) rfl d_R_unit_65 ?_
        refine lv_iload_n hx hb d_R_unit_68 rfl (lv_at hl 2 rfl) ?_
        refine zr_callV (va_runV (As := [.int (zI b)]) (rest := []) ⟨hx, hb, hml, hown, hts⟩ (c_P_put l D k N AD C12 H.size 1 (pn + nz a) (padF pf pn a 4) b ⟨by omega, by omega⟩ ⟨by omega, by omega⟩ hP hPs (by omega)) (cwV 1 hts (good_V wk_244 wk_245 wk_246 wk_28 wk_247) rfl rfl rfl (by decide +kernel) ⟨Nat.le_of_ble_eq_true rfl, Nat.le_of_ble_eq_true rfl⟩) (cPre_V hK hw 1 ⟨by omega, by omega⟩ hP rfl) rfl rfl hl.1 rfl (lv_room (Nat.le_of_ble_eq_true rfl)) d_R_unit_69 ⟨Nat.le_of_ble_eq_true rfl, Nat.le_of_ble_eq_true rfl⟩) hw hA (fun C14 H locs hq15 hw => ?_)
        obtain ⟨hq15a, hq15b, frC140⟩ := hq15
        have frC14 : ∀ j : Int, ¬ (1 ≤ j ∧ j ≤ 1 + 1) → C14 j = C12 j := fun j hj => frC140 j (by omega) (by omega)
        have hR : C14 0 = .inr (3, [.ref (AD 1), .ref (AD 3), .int (zI kc), .ref (AD 28), .int (zI lc), .int (zI tr), .ref (AD 76), .ref (AD 79), .ref (AD 80), .ref (AD 81)]) := (frC14 _ (by omega)).trans hR
        have h3 : C14 3 = aQ (k 3) 8 (fun i => some (AD (4 + 3 * i))) := (frC14 _ (by omega)).trans h3
        have h28 : C14 28 = aQ (k 4) 47 (fun j => some (AD (29 + pm j))) := (frC14 _ (by omega)).trans h28
        have hP : C14 1 = .inr (1, [.ref (AD (1 + 1)), .int (zI ((pn + nz a) + nz b))]) := hq15a
        have hPs : C14 (1 + 1) = aI (k 0) 100 (padF (padF pf pn a 4) (pn + nz a) b 4) := hq15b
        refine lv_aload_n hx hb d_R_unit_72 rfl (lv_at hl 0 rfl) ?_
        refine zr_get (v := .ref (AD 1)) hx hb hts iw_R hown hK hw 0 ⟨by omega, by omega⟩ hR rfl 0 (by decide) (hts _ wk_110) (fun _ h => h) rfl d_R_unit_73 ?_
        refine zr_get (v := .int (zI ((pn + nz a) + nz b))) hx hb hts iw_P hown hK hw 1 ⟨by omega, by omega⟩ hP rfl 1 (by decide) (hts _ wk_54) (fun _ h => h) rfl d_R_unit_76 ?_
        exact hret _ _ _ _ _ _ 0 0 (by decide) (by decide) d_R_unit_79 hw rfl ⟨rfl, ⟨hq1, hq4⟩, by omega, ⟨hR, hP, hPs, h3, (fun i h1 h2 => by obtain ⟨a1, a2, a3, a4⟩ := hser i h1 h2; exact ⟨by rw [frC14 _ (by omega), frC12 _ (by omega)]; exact a1, by rw [frC14 _ (by omega), frC12 _ (by omega)]; exact a2, by rw [frC14 _ (by omega), frC12 _ (by omega)]; exact a3, a4⟩), h28, (fun j h1 h2 => by rw [frC14 _ (by omega), frC12 _ (by omega)]; exact hov j h1 h2), hpm, hpi, hls, (by rw [frC14 _ (by omega), frC12 _ (by omega)]; exact hst), (by rw [frC14 _ (by omega), frC12 _ (by omega)]; exact hstw), (by rw [frC14 _ (by omega), frC12 _ (by omega)]; exact hste), hsn, (by rw [frC14 _ (by omega), frC12 _ (by omega)]; exact hpr), (by rw [frC14 _ (by omega), frC12 _ (by omega)]; exact hmb), (by rw [frC14 _ (by omega), frC12 _ (by omega)]; exact hak), (by omega), hkc, hlc, htr, (padF_ok4 (R := fun z => 32 ≤ z ∧ z ≤ 126) (by omega) (padF_ok4 (R := fun z => 32 ≤ z ∧ z ≤ 126) (by omega) hpf (TK_R hq1)) (TK_R hq4)), hok, hlb⟩, fun j hj => by rw [frC14 _ (by omega), frC12 _ (by omega)]⟩
      · rw [hQ]
        exact xthrow (text := "the pad would have more than 100 signs") hx hb hlt hown hts hK hxc htb hlk xc_ISE (by decide +kernel) hw (Or.inr ⟨rfl, ⟨hq1, hq4⟩, by omega⟩) (hl.1.trans hml.symm) d_R_unit_46 d_R_unit_49 d_R_unit_50 d_R_unit_52 d_R_unit_55 (Nat.le_of_ble_eq_true rfl) (Nat.le_of_ble_eq_true rfl) (Nat.le_of_ble_eq_true rfl) (Nat.le_of_ble_eq_true rfl) (Nat.le_of_ble_eq_true rfl) (Nat.le_of_ble_eq_true rfl)
    · refine zr_if_ne (tgt := 24) hx hb ⟨by omega, by omega⟩ d_R_unit_11 (by decide) (fun c9 => absurd c9 (by decide)) (fun c16 => ?_)
      rw [hQ]
      exact xthrow (text := "a sign is not 32 .. 126") hx hb hlt hown hts hK hxc htb hlk xc_IAE (by decide +kernel) hw (Or.inl ⟨rfl, fun h => hq4 h.2⟩) (hl.1.trans hml.symm) d_R_unit_14 d_R_unit_17 d_R_unit_18 d_R_unit_20 d_R_unit_23 (Nat.le_of_ble_eq_true rfl) (Nat.le_of_ble_eq_true rfl) (Nat.le_of_ble_eq_true rfl) (Nat.le_of_ble_eq_true rfl) (Nat.le_of_ble_eq_true rfl) (Nat.le_of_ble_eq_true rfl)
  · refine zr_if_eq (tgt := 14) hx hb ⟨by omega, by omega⟩ d_R_unit_4 (by decide) (fun c17 => ?_) (fun c9 => absurd c9 (by decide))
    rw [hQ]
    exact xthrow (text := "a sign is not 32 .. 126") hx hb hlt hown hts hK hxc htb hlk xc_IAE (by decide +kernel) hw (Or.inl ⟨rfl, fun h => hq1 h.1⟩) (hl.1.trans hml.symm) d_R_unit_14 d_R_unit_17 d_R_unit_18 d_R_unit_20 d_R_unit_23 (Nat.le_of_ble_eq_true rfl) (Nat.le_of_ble_eq_true rfl) (Nat.le_of_ble_eq_true rfl) (Nat.le_of_ble_eq_true rfl) (Nat.le_of_ble_eq_true rfl) (Nat.le_of_ble_eq_true rfl)
abbrev rm_R_read : Room := { frames := 6, cells := 1, slots := 6, locals := 111 }
set_option maxHeartbeats 4000000 in
set_option maxRecDepth 100000 in
theorem c_R_read (l : Launch) (D : va_G) (k : Nat → ClassId) (N : Nat) (AD : Int → Nat) (C : Int → va_E) (sz : Nat) (hlt : l.stackTraces = false) (pn : Int) (pf : Int → Int) (kc : Int) (nn : Int → Int) (ww : Int → Int → Int) (ee : Int → Int → Int) (lc : Int) (pm : Int → Int) (pS : Int → Int) (pN : Int → Int) (pR : Int → Int) (pT : Int → Int) (pA : Int → Int) (oS : Int → Int) (oN : Int → Int) (oR : Int → Int) (oT : Int → Int) (oA : Int → Int) (tr : Int) (sn : Int) (sw : Int → Int) (se : Int → Int) (q0 : Int) (q1 : Int) (q2 : Int) (q3 : Int) (q4 : Int) (mb : Int → Int) (ak : Int → Int) (hN : 82 ≤ (N : Int)) (hRI : RIx k AD C pn pf kc nn ww ee lc pm pS pN pR pT pA oS oN oR oT oA tr sn sw se q0 q1 q2 q3 q4 mb ak) : XI l y_R_read (Cond.code y_R_read b_R_read 2 (Option.some Jvm.ClassFile.FieldType.int) :: WS) rm_R_read 1 6 D clW (tyW k) N AD C sz [.ref (AD 0)] (fun r C' => kc < 8 ∧ ((∃ x : Int, (0 ≤ x ∧ x < pn) ∧ okP pf x ∧ ¬ okS (pf x) (ps pf x.toNat) ∧ r = zI (-1 - x) ∧ ∃ (n9 : Int) (w9 e9 : Int → Int), RIx k AD C' 0 pf kc (zup nn kc n9) (zup ww kc w9) (zup ee kc e9) lc pm pS pN pR pT pA oS oN oR oT oA tr sn sw se q0 q1 q2 q3 q4 mb ak) ∨ (okP pf pn ∧ (ps pf pn.toNat).1 = 0 ∧ r = zI (-1 - pn) ∧ ∃ (n9 : Int) (w9 e9 : Int → Int), RIx k AD C' 0 pf kc (zup nn kc n9) (zup ww kc w9) (zup ee kc e9) lc pm pS pN pR pT pA oS oN oR oT oA tr sn sw se q0 q1 q2 q3 q4 mb ak) ∨ (∃ (rg cn : Int) (sw9 w9 e9 : Int → Int), okP pf pn ∧ ps pf pn.toNat = (rg, cn, sw9) ∧ ¬ rg = 0 ∧ r = zI kc ∧ (∀ j : Int, 0 ≤ j → j < cn + 1 → w9 j = zup sw9 cn rg j) ∧ RIx k AD C' 0 pf (kc + 1) (zup nn kc (cn + 1)) (zup ww kc w9) (zup ee kc e9) lc pm pS pN pR pT pA oS oN oR oT oA tr sn sw se q0 q1 q2 q3 q4 mb ak)) ∧ ∀ j : Int, ¬ (0 ≤ j ∧ j ≤ 81) → C' j = C j) (fun E => E = "java/lang/IllegalStateException" ∧ ¬ kc < 8) := by
  refine XI.start (cc := b_R_read) (maxL := 2) (rt := .int) (by decide) rfl (Nat.le_of_ble_eq_true rfl) ?_
  intro p e s m args below meth c Q ls hx hb hml hown hts hK hsz hw hl htb hlk hxc hQ hret
  obtain ⟨Qc9, hQ⟩ := hQ
  have hown : s.vm.findClass "RingMatches" = some m.cls := hown
  have hl : lv_has ls 2 [(0, .ref (AD 0))] := hl
  have hA := wA_hi (N := N) (AD := AD) hsz
  obtain ⟨H, hH⟩ : ∃ H, H = s.heap := ⟨_, rfl⟩
  obtain ⟨locs, hlocs⟩ : ∃ z : List Loc, z = [] := ⟨_, rfl⟩
  have hw : WD D clW (wA N AD sz) s.heap H locs N AD C := by rw [hH, hlocs]; exact hw
  rw [← hlocs]
  suffices hgo : W p l e rm_R_read s m args below meth c H locs 0 0 Q (F0 m 0 ls []) by rw [hH] at hgo; exact hgo
  obtain ⟨hR, hP, hPs, h3, hser, h28, hov, hpm, hpi, hls, hst, hstw, hste, hsn, hpr, hmb, hak, hpn, hkc, hlc, htr, hpf, hok, hlb⟩ := hRI
  refine lv_aload_n hx hb d_R_read_0 rfl (lv_at hl 0 rfl) ?_
  refine zr_get (v := .int (zI kc)) hx hb hts iw_R hown hK hw 0 ⟨by omega, by omega⟩ hR rfl 2 (by decide) (hts _ wk_112) (fun _ h => h) rfl d_R_read_1 ?_
  refine zr_bipush hx hb d_R_read_4 (by decide) ?_
  refine zr_icmp_lt (tgt := 19) hx hb ⟨by omega, by omega⟩ ⟨by omega, by omega⟩ d_R_read_6 (by decide) (fun c1 => ?_) (fun c1 => ?_)
  · refine lv_aload_n hx hb d_R_read_19 rfl (lv_at hl 0 rfl) ?_
    refine zr_get (v := .ref (AD 1)) hx hb hts iw_R hown hK hw 0 ⟨by omega, by omega⟩ hR rfl 0 (by decide) (hts _ wk_110) (fun _ h => h) rfl d_R_read_20 ?_
    refine lv_aload_n hx hb d_R_read_23 rfl (lv_at hl 0 rfl) ?_
    refine zr_get (v := .ref (AD 3)) hx hb hts iw_R hown hK hw 0 ⟨by omega, by omega⟩ hR rfl 1 (by decide) (hts _ wk_111) (fun _ h => h) rfl d_R_read_24 ?_
    refine lv_aload_n hx hb d_R_read_27 rfl (lv_at hl 0 rfl) ?_
    refine zr_get (v := .int (zI kc)) hx hb hts iw_R hown hK hw 0 ⟨by omega, by omega⟩ hR rfl 2 (by decide) (hts _ wk_112) (fun _ h => h) rfl d_R_read_28 ?_
    refine zr_aldq (v := AD (4 + 3 * kc)) hx hb hK hw 3 ⟨by omega, by omega⟩ 3 h3 rfl ⟨by omega, by omega⟩ (by decide) rfl d_R_read_31 ?_
    obtain ⟨hS, hSw, hSe, hSn⟩ := hser kc (by omega) (by omega)
    refine zr_callI (va_runV (As := [.ref (AD (4 + 3 * kc))]) (rest := []) ⟨hx, hb, hml, hown, hts⟩ (c_P_parseInto l D k N AD C H.size 1 pn pf (4 + 3 * kc) (nn kc) (ww kc) (ee kc) ⟨by omega, by omega⟩ ⟨by omega, by omega⟩ hP hPs ⟨by omega, by omega⟩ (by omega) ⟨by omega, by omega⟩ hS hSw hSe (fun j h1 h2 => by have := hpf j h1 h2; omega)) (cwV 1 hts (good_V wk_256 wk_257 wk_258 wk_28 wk_259) rfl rfl rfl (by decide +kernel) ⟨Nat.le_of_ble_eq_true rfl, Nat.le_of_ble_eq_true rfl⟩) (cPre_V hK hw 1 ⟨by omega, by omega⟩ hP rfl) rfl rfl hl.1 rfl (lv_room (Nat.le_of_ble_eq_true rfl)) d_R_read_32 ⟨Nat.le_of_ble_eq_true rfl, Nat.le_of_ble_eq_true rfl⟩) hw hA (fun r9 C2 H locs hq3 hw => ?_)
    obtain ⟨hq3, frC2⟩ := hq3
    rcases hq3 with ⟨x9, hx9, hok9, hbad, hr9, n9, w9, e9, hn9, hSa, hSb, hSc⟩ | ⟨hok9, hz9, hr9, n9, w9, e9, hn9, hSa, hSb, hSc⟩ | ⟨rg, cn, sw9, hok9, hps9, hrg, hr9, w9, e9, hSa, hSb, hSc, hww9, hEv9⟩ <;> subst hr9
    · have hR : C2 0 = .inr (3, [.ref (AD 1), .ref (AD 3), .int (zI kc), .ref (AD 28), .int (zI lc), .int (zI tr), .ref (AD 76), .ref (AD 79), .ref (AD 80), .ref (AD 81)]) := (frC2 _ (by omega)).trans hR
      have h3 : C2 3 = aQ (k 3) 8 (fun i => some (AD (4 + 3 * i))) := (frC2 _ (by omega)).trans h3
      have h28 : C2 28 = aQ (k 4) 47 (fun j => some (AD (29 + pm j))) := (frC2 _ (by omega)).trans h28
      have hP : C2 1 = .inr (1, [.ref (AD (1 + 1)), .int (zI pn)]) := (frC2 _ (by omega)).trans hP
      have hPs : C2 (1 + 1) = aI (k 0) 100 pf := (frC2 _ (by omega)).trans hPs
      have hS : C2 (4 + 3 * kc) = .inr (2, [.ref (AD ((4 + 3 * kc) + 1)), .ref (AD ((4 + 3 * kc) + 2)), .int (zI n9)]) := hSa
      have hSw : C2 ((4 + 3 * kc) + 1) = aI (k 0) 24 w9 := hSb
      have hSe : C2 ((4 + 3 * kc) + 2) = aI (k 0) 24 e9 := hSc
      refine lv_istore_n (lv' := [(1, .int (zI x9)), (0, .ref (AD 0))]) hx hb d_R_read_35 rfl hl (by decide) rfl (fun ls hl => ?_)
      refine lv_aload_n hx hb d_R_read_36 rfl (lv_at hl 1 rfl) ?_
      refine zr_get (v := .ref (AD 1)) hx hb hts iw_R hown hK hw 0 ⟨by omega, by omega⟩ hR rfl 0 (by decide) (hts _ wk_110) (fun _ h => h) rfl d_R_read_37 ?_
      refine zr_iconst hx hb d_R_read_40 ?_
      refine zr_put (ty := .int) (v := .int (zI 0)) hx hb hts iw_P tyP tyP_ok nmP hown hK hw 1 ⟨by omega, by omega⟩ hP rfl 1 (by decide) (hts _ wk_54) (fun _ h => h) rfl (by decide +kernel) rfl rfl (Nat.le_of_ble_eq_true rfl) d_R_read_41 (fun H locs hw => ?_)
      obtain ⟨C4, hC4⟩ : ∃ z : Int → va_E, z = zup C2 1 (.inr (1, [.ref (AD (1 + 1)), .int (zI 0)])) := ⟨_, rfl⟩
      have hw : WD D clW (wA N AD sz) s.heap H locs N AD C4 := by rw [hC4]; exact hw
      have frC4 : ∀ j : Int, j ≠ 1 → C4 j = C2 j := fun j h => by rw [hC4]; exact zup_n h
      have hR : C4 0 = .inr (3, [.ref (AD 1), .ref (AD 3), .int (zI kc), .ref (AD 28), .int (zI lc), .int (zI tr), .ref (AD 76), .ref (AD 79), .ref (AD 80), .ref (AD 81)]) := (frC4 _ (by omega)).trans hR
      have h3 : C4 3 = aQ (k 3) 8 (fun i => some (AD (4 + 3 * i))) := (frC4 _ (by omega)).trans h3
      have h28 : C4 28 = aQ (k 4) 47 (fun j => some (AD (29 + pm j))) := (frC4 _ (by omega)).trans h28
      have hP : C4 1 = .inr (1, [.ref (AD (1 + 1)), .int (zI 0)]) := by rw [hC4]; exact zup_s
      have hPs : C4 (1 + 1) = aI (k 0) 100 pf := (frC4 _ (by omega)).trans hPs
      have hS : C4 (4 + 3 * kc) = .inr (2, [.ref (AD ((4 + 3 * kc) + 1)), .ref (AD ((4 + 3 * kc) + 2)), .int (zI n9)]) := (frC4 _ (by omega)).trans hS
      have hSw : C4 ((4 + 3 * kc) + 1) = aI (k 0) 24 w9 := (frC4 _ (by omega)).trans hSw
      have hSe : C4 ((4 + 3 * kc) + 2) = aI (k 0) 24 e9 := (frC4 _ (by omega)).trans hSe
      refine lv_iload_n hx hb d_R_read_44 rfl (lv_at hl 0 rfl) ?_
      refine zr_iconst hx hb d_R_read_45 ?_
      refine zr_icmp_ne (tgt := 56) hx hb ⟨by omega, by omega⟩ ⟨by omega, by omega⟩ d_R_read_46 (by decide) (fun c5 => ?_) (fun c5 => ?_)
      · refine zr_iconst hx hb d_R_read_56 ?_
        refine lv_iload_n hx hb d_R_read_57 rfl (lv_at hl 0 rfl) ?_
        refine zr_isub hx hb d_R_read_58 ?_
        have hser9 : ∀ i : Int, 0 ≤ i → i < 8 → C4 (4 + 3 * i) = .inr (2, [.ref (AD ((4 + 3 * i) + 1)), .ref (AD ((4 + 3 * i) + 2)), .int (zI (zup nn kc n9 i))]) ∧ C4 ((4 + 3 * i) + 1) = aI (k 0) 24 (zup ww kc w9 i) ∧ C4 ((4 + 3 * i) + 2) = aI (k 0) 24 (zup ee kc e9 i) ∧ (0 ≤ zup nn kc n9 i ∧ zup nn kc n9 i ≤ 24) := by
          intro i h1 h2
          by_cases hi : i = kc
          · rw [hi, zup_s, zup_s, zup_s]; exact ⟨hS, hSw, hSe, by omega⟩
          · rw [zup_n hi, zup_n hi, zup_n hi]
            obtain ⟨a1, a2, a3, a4⟩ := hser i h1 h2
            exact ⟨by rw [frC4 _ (by omega), frC2 _ (by omega)]; exact a1, by rw [frC4 _ (by omega), frC2 _ (by omega)]; exact a2, by rw [frC4 _ (by omega), frC2 _ (by omega)]; exact a3, a4⟩
        exact hret _ _ _ _ _ _ 0 0 (by decide) (by decide) d_R_read_59 hw rfl ⟨by omega, Or.inl ⟨x9, hx9, hok9, hbad, rfl, n9, w9, e9, ⟨hR, hP, hPs, h3, hser9, h28, (fun j h1 h2 => by rw [frC4 _ (by omega), frC2 _ (by omega)]; exact hov j h1 h2), hpm, hpi, hls, (by rw [frC4 _ (by omega), frC2 _ (by omega)]; exact hst), (by rw [frC4 _ (by omega), frC2 _ (by omega)]; exact hstw), (by rw [frC4 _ (by omega), frC2 _ (by omega)]; exact hste), hsn, (by rw [frC4 _ (by omega), frC2 _ (by omega)]; exact hpr), (by rw [frC4 _ (by omega), frC2 _ (by omega)]; exact hmb), (by rw [frC4 _ (by omega), frC2 _ (by omega)]; exact hak), (by omega), hkc, hlc, htr, (fun j h1 h2 => absurd h2 (by omega)), (fun i h1 h2 => by rw [zup_n (by omega), zup_n (by omega), zup_n (by omega)]; exact hok i h1 h2), hlb⟩⟩, fun j hj => by rw [frC4 _ (by omega), frC2 _ (by omega)]⟩
      · exact absurd c5 (by omega)
    · have hR : C2 0 = .inr (3, [.ref (AD 1), .ref (AD 3), .int (zI kc), .ref (AD 28), .int (zI lc), .int (zI tr), .ref (AD 76), .ref (AD 79), .ref (AD 80), .ref (AD 81)]) := (frC2 _ (by omega)).trans hR
      have h3 : C2 3 = aQ (k 3) 8 (fun i => some (AD (4 + 3 * i))) := (frC2 _ (by omega)).trans h3
      have h28 : C2 28 = aQ (k 4) 47 (fun j => some (AD (29 + pm j))) := (frC2 _ (by omega)).trans h28
      have hP : C2 1 = .inr (1, [.ref (AD (1 + 1)), .int (zI pn)]) := (frC2 _ (by omega)).trans hP
      have hPs : C2 (1 + 1) = aI (k 0) 100 pf := (frC2 _ (by omega)).trans hPs
      have hS : C2 (4 + 3 * kc) = .inr (2, [.ref (AD ((4 + 3 * kc) + 1)), .ref (AD ((4 + 3 * kc) + 2)), .int (zI n9)]) := hSa
      have hSw : C2 ((4 + 3 * kc) + 1) = aI (k 0) 24 w9 := hSb
      have hSe : C2 ((4 + 3 * kc) + 2) = aI (k 0) 24 e9 := hSc
      refine lv_istore_n (lv' := [(1, .int (zI pn)), (0, .ref (AD 0))]) hx hb d_R_read_35 rfl hl (by decide) rfl (fun ls hl => ?_)
      refine lv_aload_n hx hb d_R_read_36 rfl (lv_at hl 1 rfl) ?_
      refine zr_get (v := .ref (AD 1)) hx hb hts iw_R hown hK hw 0 ⟨by omega, by omega⟩ hR rfl 0 (by decide) (hts _ wk_110) (fun _ h => h) rfl d_R_read_37 ?_
      refine zr_iconst hx hb d_R_read_40 ?_
      refine zr_put (ty := .int) (v := .int (zI 0)) hx hb hts iw_P tyP tyP_ok nmP hown hK hw 1 ⟨by omega, by omega⟩ hP rfl 1 (by decide) (hts _ wk_54) (fun _ h => h) rfl (by decide +kernel) rfl rfl (Nat.le_of_ble_eq_true rfl) d_R_read_41 (fun H locs hw => ?_)
      obtain ⟨C6, hC6⟩ : ∃ z : Int → va_E, z = zup C2 1 (.inr (1, [.ref (AD (1 + 1)), .int (zI 0)])) := ⟨_, rfl⟩
      have hw : WD D clW (wA N AD sz) s.heap H locs N AD C6 := by rw [hC6]; exact hw
      have frC6 : ∀ j : Int, j ≠ 1 → C6 j = C2 j := fun j h => by rw [hC6]; exact zup_n h
      have hR : C6 0 = .inr (3, [.ref (AD 1), .ref (AD 3), .int (zI kc), .ref (AD 28), .int (zI lc), .int (zI tr), .ref (AD 76), .ref (AD 79), .ref (AD 80), .ref (AD 81)]) := (frC6 _ (by omega)).trans hR
      have h3 : C6 3 = aQ (k 3) 8 (fun i => some (AD (4 + 3 * i))) := (frC6 _ (by omega)).trans h3
      have h28 : C6 28 = aQ (k 4) 47 (fun j => some (AD (29 + pm j))) := (frC6 _ (by omega)).trans h28
      have hP : C6 1 = .inr (1, [.ref (AD (1 + 1)), .int (zI 0)]) := by rw [hC6]; exact zup_s
      have hPs : C6 (1 + 1) = aI (k 0) 100 pf := (frC6 _ (by omega)).trans hPs
      have hS : C6 (4 + 3 * kc) = .inr (2, [.ref (AD ((4 + 3 * kc) + 1)), .ref (AD ((4 + 3 * kc) + 2)), .int (zI n9)]) := (frC6 _ (by omega)).trans hS
      have hSw : C6 ((4 + 3 * kc) + 1) = aI (k 0) 24 w9 := (frC6 _ (by omega)).trans hSw
      have hSe : C6 ((4 + 3 * kc) + 2) = aI (k 0) 24 e9 := (frC6 _ (by omega)).trans hSe
      refine lv_iload_n hx hb d_R_read_44 rfl (lv_at hl 0 rfl) ?_
      refine zr_iconst hx hb d_R_read_45 ?_
      refine zr_icmp_ne (tgt := 56) hx hb ⟨by omega, by omega⟩ ⟨by omega, by omega⟩ d_R_read_46 (by decide) (fun c7 => ?_) (fun c7 => ?_)
      · refine zr_iconst hx hb d_R_read_56 ?_
        refine lv_iload_n hx hb d_R_read_57 rfl (lv_at hl 0 rfl) ?_
        refine zr_isub hx hb d_R_read_58 ?_
        have hser9 : ∀ i : Int, 0 ≤ i → i < 8 → C6 (4 + 3 * i) = .inr (2, [.ref (AD ((4 + 3 * i) + 1)), .ref (AD ((4 + 3 * i) + 2)), .int (zI (zup nn kc n9 i))]) ∧ C6 ((4 + 3 * i) + 1) = aI (k 0) 24 (zup ww kc w9 i) ∧ C6 ((4 + 3 * i) + 2) = aI (k 0) 24 (zup ee kc e9 i) ∧ (0 ≤ zup nn kc n9 i ∧ zup nn kc n9 i ≤ 24) := by
          intro i h1 h2
          by_cases hi : i = kc
          · rw [hi, zup_s, zup_s, zup_s]; exact ⟨hS, hSw, hSe, by omega⟩
          · rw [zup_n hi, zup_n hi, zup_n hi]
            obtain ⟨a1, a2, a3, a4⟩ := hser i h1 h2
            exact ⟨by rw [frC6 _ (by omega), frC2 _ (by omega)]; exact a1, by rw [frC6 _ (by omega), frC2 _ (by omega)]; exact a2, by rw [frC6 _ (by omega), frC2 _ (by omega)]; exact a3, a4⟩
        exact hret _ _ _ _ _ _ 0 0 (by decide) (by decide) d_R_read_59 hw rfl ⟨by omega, Or.inr (Or.inl ⟨hok9, hz9, rfl, n9, w9, e9, ⟨hR, hP, hPs, h3, hser9, h28, (fun j h1 h2 => by rw [frC6 _ (by omega), frC2 _ (by omega)]; exact hov j h1 h2), hpm, hpi, hls, (by rw [frC6 _ (by omega), frC2 _ (by omega)]; exact hst), (by rw [frC6 _ (by omega), frC2 _ (by omega)]; exact hstw), (by rw [frC6 _ (by omega), frC2 _ (by omega)]; exact hste), hsn, (by rw [frC6 _ (by omega), frC2 _ (by omega)]; exact hpr), (by rw [frC6 _ (by omega), frC2 _ (by omega)]; exact hmb), (by rw [frC6 _ (by omega), frC2 _ (by omega)]; exact hak), (by omega), hkc, hlc, htr, (fun j h1 h2 => absurd h2 (by omega)), (fun i h1 h2 => by rw [zup_n (by omega), zup_n (by omega), zup_n (by omega)]; exact hok i h1 h2), hlb⟩⟩), fun j hj => by rw [frC6 _ (by omega), frC2 _ (by omega)]⟩
      · exact absurd c7 (by omega)
    · have hR : C2 0 = .inr (3, [.ref (AD 1), .ref (AD 3), .int (zI kc), .ref (AD 28), .int (zI lc), .int (zI tr), .ref (AD 76), .ref (AD 79), .ref (AD 80), .ref (AD 81)]) := (frC2 _ (by omega)).trans hR
      have h3 : C2 3 = aQ (k 3) 8 (fun i => some (AD (4 + 3 * i))) := (frC2 _ (by omega)).trans h3
      have h28 : C2 28 = aQ (k 4) 47 (fun j => some (AD (29 + pm j))) := (frC2 _ (by omega)).trans h28
      have hP : C2 1 = .inr (1, [.ref (AD (1 + 1)), .int (zI pn)]) := (frC2 _ (by omega)).trans hP
      have hPs : C2 (1 + 1) = aI (k 0) 100 pf := (frC2 _ (by omega)).trans hPs
      have hS : C2 (4 + 3 * kc) = .inr (2, [.ref (AD ((4 + 3 * kc) + 1)), .ref (AD ((4 + 3 * kc) + 2)), .int (zI (cn + 1))]) := hSa
      have hSw : C2 ((4 + 3 * kc) + 1) = aI (k 0) 24 w9 := hSb
      have hSe : C2 ((4 + 3 * kc) + 2) = aI (k 0) 24 e9 := hSc
      obtain ⟨hin1, hin2, hin3, hin4⟩ := ps_inI hpn.1 hok9 hps9
      refine lv_istore_n (lv' := [(1, .int (zI (-1))), (0, .ref (AD 0))]) hx hb d_R_read_35 rfl hl (by decide) rfl (fun ls hl => ?_)
      refine lv_aload_n hx hb d_R_read_36 rfl (lv_at hl 1 rfl) ?_
      refine zr_get (v := .ref (AD 1)) hx hb hts iw_R hown hK hw 0 ⟨by omega, by omega⟩ hR rfl 0 (by decide) (hts _ wk_110) (fun _ h => h) rfl d_R_read_37 ?_
      refine zr_iconst hx hb d_R_read_40 ?_
      refine zr_put (ty := .int) (v := .int (zI 0)) hx hb hts iw_P tyP tyP_ok nmP hown hK hw 1 ⟨by omega, by omega⟩ hP rfl 1 (by decide) (hts _ wk_54) (fun _ h => h) rfl (by decide +kernel) rfl rfl (Nat.le_of_ble_eq_true rfl) d_R_read_41 (fun H locs hw => ?_)
      obtain ⟨C8, hC8⟩ : ∃ z : Int → va_E, z = zup C2 1 (.inr (1, [.ref (AD (1 + 1)), .int (zI 0)])) := ⟨_, rfl⟩
      have hw : WD D clW (wA N AD sz) s.heap H locs N AD C8 := by rw [hC8]; exact hw
      have frC8 : ∀ j : Int, j ≠ 1 → C8 j = C2 j := fun j h => by rw [hC8]; exact zup_n h
      have hR : C8 0 = .inr (3, [.ref (AD 1), .ref (AD 3), .int (zI kc), .ref (AD 28), .int (zI lc), .int (zI tr), .ref (AD 76), .ref (AD 79), .ref (AD 80), .ref (AD 81)]) := (frC8 _ (by omega)).trans hR
      have h3 : C8 3 = aQ (k 3) 8 (fun i => some (AD (4 + 3 * i))) := (frC8 _ (by omega)).trans h3
      have h28 : C8 28 = aQ (k 4) 47 (fun j => some (AD (29 + pm j))) := (frC8 _ (by omega)).trans h28
      have hP : C8 1 = .inr (1, [.ref (AD (1 + 1)), .int (zI 0)]) := by rw [hC8]; exact zup_s
      have hPs : C8 (1 + 1) = aI (k 0) 100 pf := (frC8 _ (by omega)).trans hPs
      have hS : C8 (4 + 3 * kc) = .inr (2, [.ref (AD ((4 + 3 * kc) + 1)), .ref (AD ((4 + 3 * kc) + 2)), .int (zI (cn + 1))]) := (frC8 _ (by omega)).trans hS
      have hSw : C8 ((4 + 3 * kc) + 1) = aI (k 0) 24 w9 := (frC8 _ (by omega)).trans hSw
      have hSe : C8 ((4 + 3 * kc) + 2) = aI (k 0) 24 e9 := (frC8 _ (by omega)).trans hSe
      refine lv_iload_n hx hb d_R_read_44 rfl (lv_at hl 0 rfl) ?_
      refine zr_iconst hx hb d_R_read_45 ?_
      refine zr_icmp_ne (tgt := 56) hx hb ⟨by omega, by omega⟩ ⟨by omega, by omega⟩ d_R_read_46 (by decide) (fun c9 => ?_) (fun c9 => ?_)
      · exact absurd c9 (by omega)
      · refine lv_aload_n hx hb d_R_read_49 rfl (lv_at hl 1 rfl) ?_
        refine zr_callI (va_runV (As := []) (rest := []) ⟨hx, hb, hml, hown, hts⟩ (c_R_keepNext l D k N AD C8 H.size kc lc tr hN hR) (cwV 0 hts (good_V wk_286 wk_288 wk_2 wk_27 wk_289) rfl rfl rfl (by decide +kernel) ⟨Nat.le_of_ble_eq_true rfl, Nat.le_of_ble_eq_true rfl⟩) (cPre_V hK hw 0 ⟨by omega, by omega⟩ hR rfl) rfl rfl hl.1 rfl (lv_room (Nat.le_of_ble_eq_true rfl)) d_R_read_50 ⟨Nat.le_of_ble_eq_true rfl, Nat.le_of_ble_eq_true rfl⟩) hw hA (fun r9 C10 H locs hq11 hw => ?_)
        obtain ⟨hr9, hq11a, frC10⟩ := hq11
        subst hr9
        have hR : C10 0 = .inr (3, [.ref (AD 1), .ref (AD 3), .int (zI (kc + 1)), .ref (AD 28), .int (zI lc), .int (zI tr), .ref (AD 76), .ref (AD 79), .ref (AD 80), .ref (AD 81)]) := hq11a
        have h3 : C10 3 = aQ (k 3) 8 (fun i => some (AD (4 + 3 * i))) := (frC10 _ (by omega)).trans h3
        have h28 : C10 28 = aQ (k 4) 47 (fun j => some (AD (29 + pm j))) := (frC10 _ (by omega)).trans h28
        have hP : C10 1 = .inr (1, [.ref (AD (1 + 1)), .int (zI 0)]) := (frC10 _ (by omega)).trans hP
        have hPs : C10 (1 + 1) = aI (k 0) 100 pf := (frC10 _ (by omega)).trans hPs
        have hS : C10 (4 + 3 * kc) = .inr (2, [.ref (AD ((4 + 3 * kc) + 1)), .ref (AD ((4 + 3 * kc) + 2)), .int (zI (cn + 1))]) := (frC10 _ (by omega)).trans hS
        have hSw : C10 ((4 + 3 * kc) + 1) = aI (k 0) 24 w9 := (frC10 _ (by omega)).trans hSw
        have hSe : C10 ((4 + 3 * kc) + 2) = aI (k 0) 24 e9 := (frC10 _ (by omega)).trans hSe
        refine lv_goto (tgt := 59) hx hb d_R_read_53 (by decide) ?_
        have hser9 : ∀ i : Int, 0 ≤ i → i < 8 → C10 (4 + 3 * i) = .inr (2, [.ref (AD ((4 + 3 * i) + 1)), .ref (AD ((4 + 3 * i) + 2)), .int (zI (zup nn kc (cn + 1) i))]) ∧ C10 ((4 + 3 * i) + 1) = aI (k 0) 24 (zup ww kc w9 i) ∧ C10 ((4 + 3 * i) + 2) = aI (k 0) 24 (zup ee kc e9 i) ∧ (0 ≤ zup nn kc (cn + 1) i ∧ zup nn kc (cn + 1) i ≤ 24) := by
          intro i h1 h2
          by_cases hi : i = kc
          · rw [hi, zup_s, zup_s, zup_s]; exact ⟨hS, hSw, hSe, by omega⟩
          · rw [zup_n hi, zup_n hi, zup_n hi]
            obtain ⟨a1, a2, a3, a4⟩ := hser i h1 h2
            exact ⟨by rw [frC10 _ (by omega), frC8 _ (by omega), frC2 _ (by omega)]; exact a1, by rw [frC10 _ (by omega), frC8 _ (by omega), frC2 _ (by omega)]; exact a2, by rw [frC10 _ (by omega), frC8 _ (by omega), frC2 _ (by omega)]; exact a3, a4⟩
        have hw9o : WOK w9 (cn + 1) := by
          refine WOK.to (w := zup sw9 cn rg) ?_ hww9
          intro j h1 h2
          by_cases hj : j = cn
          · rw [hj, zup_s]; omega
          · rw [zup_n hj]; exact hin4 j h1 (by omega)
        have hok8 : ∀ i : Int, 0 ≤ i → i < kc + 1 → 1 ≤ zup nn kc (cn + 1) i ∧ WOK (zup ww kc w9 i) (zup nn kc (cn + 1) i) ∧ EvOK (zup ww kc w9 i) (zup ee kc e9 i) (zup nn kc (cn + 1) i) := by
          intro i h1 h2
          by_cases hi : i = kc
          · rw [hi, zup_s, zup_s, zup_s]; exact ⟨by omega, hw9o, hEv9⟩
          · rw [zup_n hi, zup_n hi, zup_n hi]; exact hok i h1 (by omega)
        exact hret _ _ _ _ _ _ 0 0 (by decide) (by decide) d_R_read_59 hw rfl ⟨by omega, Or.inr (Or.inr ⟨rg, cn, sw9, w9, e9, hok9, hps9, hrg, rfl, hww9, ⟨hR, hP, hPs, h3, hser9, h28, (fun j h1 h2 => by rw [frC10 _ (by omega), frC8 _ (by omega), frC2 _ (by omega)]; exact hov j h1 h2), hpm, hpi, hls, (by rw [frC10 _ (by omega), frC8 _ (by omega), frC2 _ (by omega)]; exact hst), (by rw [frC10 _ (by omega), frC8 _ (by omega), frC2 _ (by omega)]; exact hstw), (by rw [frC10 _ (by omega), frC8 _ (by omega), frC2 _ (by omega)]; exact hste), hsn, (by rw [frC10 _ (by omega), frC8 _ (by omega), frC2 _ (by omega)]; exact hpr), (by rw [frC10 _ (by omega), frC8 _ (by omega), frC2 _ (by omega)]; exact hmb), (by rw [frC10 _ (by omega), frC8 _ (by omega), frC2 _ (by omega)]; exact hak), (by omega), (by omega), hlc, htr, (fun j h1 h2 => absurd h2 (by omega)), hok8, hlb⟩⟩), fun j hj => by rw [frC10 _ (by omega), frC8 _ (by omega), frC2 _ (by omega)]⟩
  · rw [hQ]
    exact xthrow (text := "there are eight series") hx hb hlt hown hts hK hxc htb hlk xc_ISE (by decide +kernel) hw ⟨rfl, by omega⟩ (hl.1.trans hml.symm) d_R_read_9 d_R_read_12 d_R_read_13 d_R_read_15 d_R_read_18 (Nat.le_of_ble_eq_true rfl) (Nat.le_of_ble_eq_true rfl) (Nat.le_of_ble_eq_true rfl) (Nat.le_of_ble_eq_true rfl) (Nat.le_of_ble_eq_true rfl) (Nat.le_of_ble_eq_true rfl)
end
