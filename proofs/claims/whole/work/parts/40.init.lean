/-! constructors: the world grows at its end -/
def oPre (D : va_G) (cl : List vw_C) (tys : List (ClassId × FieldType)) (N : Nat) (AD : Int → Nat) (C : Int → va_E) (sz : Nat) : State → Prop := fun U => cPre D cl tys N AD C sz U ∧ va_AO "RingMatches$Series" U ∧ va_AO "RingMatches$Overlap" U
theorem oPre_blind {av : List Value} {D : va_G} {cl : List vw_C} {tys : List (ClassId × FieldType)} {N : Nat} {AD : Int → Nat} {C : Int → va_E} {sz : Nat} : FrameBlind (va_Pc av (oPre D cl tys N AD C sz)) := fun a U g mk q => by
  obtain ⟨q0, ⟨q1, qP, qK, qD⟩, qa, qb⟩ := q
  exact ⟨q0, ⟨q1, qP, va_K.moved (u := U) (U := U.calling g mk a) (Vm.Alike.refl U.vm) qK, qD⟩, va_AO.moved (u := U) (U := U.calling g mk a) (Vm.Alike.refl U.vm) qa, va_AO.moved (u := U) (U := U.calling g mk a) (Vm.Alike.refl U.vm) qb⟩
theorem oPre_S {s : State} {As : List Value} {D : va_G} {cl : List vw_C} {tys : List (ClassId × FieldType)} {A : Nat → Prop} {H0 H : Heap} {locs : List Loc} {N : Nat} {AD : Int → Nat} {C : Int → va_E} (hK : va_K D cl tys s) (hw : WD D cl A H0 H locs N AD C) (h1 : va_AO "RingMatches$Series" s) (h2 : va_AO "RingMatches$Overlap" s) : PreS s H (va_Pc As (oPre D cl tys N AD C H.size)) As :=
  ⟨oPre_blind, fun U hU hW => ⟨rfl, (cPre_all (av := As) hK hw U hU hW).2, h1.moved hW.alike, h2.moved hW.alike⟩⟩
def cBN (D : va_G) (cl : List vw_C) (tys : List (ClassId × FieldType)) (N N' : Nat) (AD : Int → Nat) (sz : Nat) : (Int → va_E) → State → Prop := fun C' t => va_P D cl (wl N' AD C') t.heap ∧ va_K D cl tys t ∧ va_D (wA N AD sz) (wl N' AD C')
def MC (l : Launch) (y : MethodName) (ws : List Cond) (rm : Room) (mc ms : Nat) (D : va_G) (cl : List vw_C) (tys : List (ClassId × FieldType)) (N N' : Nat) (AD : Int → Nat) (C : Int → va_E) (sz : Nat) (av : List Value) (post : (Int → va_E) → Prop) : Prop := Met l y ws rm (va_Pc av (oPre D cl tys N AD C sz)) (va_Qv post (cBN D cl tys N N' AD sz) (wA N AD sz)) mc ms (wA N AD sz)
theorem MC.start {l : Launch} {y : MethodName} {ws ws' : List Cond} {rm : Room} {mc ms : Nat} {D : va_G} {cl : List vw_C} {tys : List (ClassId × FieldType)} {N N' : Nat} {AD : Int → Nat} {C : Int → va_E} {sz : Nat} {av : List Value} {post : (Int → va_E) → Prop} {cc : ByteArray} {maxL : Nat} (hy : plainName y.cls = true) (hws : ws = Cond.code y cc maxL none :: ws') (hlen : (lg_sl av).length ≤ maxL)
    (body : ∀ (p : Program) (e : Env) (s : State) (m : MethodId) (args : Array Value) (below : List Frame) (meth : Method) (c : Code) (Q : State → Prop) (ls : Array Slot), p.tables.exec = Jvm.exec → c.code = cc → c.maxLocals = maxL → s.vm.findClass y.cls = some m.cls → meth.name = y.name → (∀ w ∈ ws', w.before args s = true) → va_K D cl tys s → va_AO "RingMatches$Series" s → va_AO "RingMatches$Overlap" s → s.heap.size = sz → WD D cl (wA N AD sz) s.heap s.heap [] N AD C → lv_has ls maxL (lv_args 0 av) →
      (∀ (C' : Int → va_E) (H : Heap) (locs : List Loc) (pc : Nat) (ls : Array Slot) (cells slots : Nat), cells ≤ mc → slots ≤ ms → decode cc pc = .ok (.return_, 1) → WD D cl (wA N AD sz) s.heap H locs N' AD C' → post C' → W p l e rm s m args below meth c H locs cells slots Q (F0 m pc ls [])) →
      W p l e rm s m args below meth c s.heap [] 0 0 Q (F0 m 0 ls [])) : MC l y ws rm mc ms D cl tys N N' AD C sz av post := by
  refine Met.ofW (cc := cc) (maxL := maxL) (ret := none) hy hws ?_
  intro p e s m args below meth c s₁ B hml hv
  obtain ⟨rfl, ⟨hsz, hP, hK, hD0⟩, ha1, ha2⟩ := hv
  rw [lg_entry_eq]
  refine body p e s m _ below meth c _ _ B.exec B.bytes hml (findClass_of_methodNamed B.named) (name_of_methodNamed B.named B.method).1 (fun w h => atoms_spec (ws := ws) B.pre w (by rw [hws]; exact List.mem_cons_of_mem _ h)) hK ha1 ha2 hsz ⟨hP, wA_D hD0, va_S.rf⟩ (lv_entry av (n := maxL) hlen) ?_
  intro C' H locs pc ls cells slots h1 h2 hdg hw hp
  refine W.widen h1 h2 ?_
  exact W.vret B.exec B.bytes B.returns (fun t ht hW => ⟨⟨C', rfl, hp, by rw [ht]; exact hw.1, va_K.moved hW.alike hK, hw.2.1⟩, hw.2.2.F ht⟩) hw.2.2.2.2 hdg B.notSynchronized
section ZI
variable {p : Program} {l : Launch} {e : Env} {R : Room} {s : State} {m : MethodId} {args : Array Value} {below : List Frame} {meth : Method} {c : Code} {H : Heap} {locs : List Loc} {cells slots : Nat} {Q : State → Prop} {pc : Nat} {ls : Array Slot} {rest st0 : List Value} {a : Array Value}
variable {D : va_G} {cl : List vw_C} {tys : List (ClassId × FieldType)} {A : Nat → Prop} {N N' mc ms : Nat} {AD : Int → Nat} {C : Int → va_E}
theorem zr_callC {post : (Int → va_E) → Prop} (hr : va_Run p l e R s m args below meth c H locs cells slots mc ms (F0 m pc ls st0) rest (va_Qv post (cBN D cl tys N N' AD H.size) (wA N AD H.size) a) (wA N AD H.size)) (hw : WD D cl A s.heap H locs N AD C) (hA : ∀ q, s.heap.size ≤ q → A q)
    (kk : ∀ (C' : Int → va_E) (H1 : Heap) (locs1 : List Loc), post C' → WD D cl A s.heap H1 locs1 N' AD C' → W p l e R s m args below meth c H1 locs1 (cells + mc) (slots + ms) Q (F0 m (pc + 3) ls rest)) : W p l e R s m args below meth c H locs cells slots Q (F0 m pc ls st0) := by
  have hF := wA_free hw hA
  refine va_callv hr hw.2.2 (fun q _ h => hF q h) hF (fun C' t H1 locs1 ht hvm hp hB hz hk hS => ?_)
  exact kk C' H1 locs1 hp ⟨by rw [← ht]; exact hB.1, hB.2.2.weaken (fun k q _ h => hF q.1 h), hS⟩
/-- the heap's size: the last cell of the world, and the count of the new ones -/
theorem W_size {g : JFrame} (hw : WD D cl A s.heap H locs N AD C) (hN : 0 < N) (hAD : ∀ j : Int, 0 ≤ j → AD (j + 1) = AD j + 1) (hc : s.heap.size + cells = AD (N : Int)) (k : H.size = AD (N : Int) → W p l e R s m args below meth c H locs cells slots Q g) : W p l e R s m args below meth c H locs cells slots Q g := by
  intro T hT X
  have h1 := X.heapSize
  rw [hT] at h1
  have h2 : AD ((N : Int) - 1) < H.size := (hw.1 ((N : Int) - 1).toNat _ (wl_get (by omega) (by omega))).lt
  have h3 := hAD ((N : Int) - 1) (by omega)
  rw [show (N : Int) - 1 + 1 = (N : Int) by omega] at h3
  exact k (by omega) T hT X
theorem WD_swapQ {H0 : Heap} (hw : WD D cl A H0 H locs N AD C) (k : Int) (hk : 0 ≤ k ∧ k < N) {cA : ClassId} {n : Nat} {f g : Int → Option Nat} (hC : C k = aQ cA n f) (hfg : ∀ j : Int, 0 ≤ j → j < (n : Int) → f j = g j) : WD D cl A H0 H locs N AD (zup C k (aQ cA n g)) := by
  refine ⟨fun i q hq => ?_, ⟨fun i j x y hx hy hxy => ?_, fun i q hq => ?_⟩, hw.2.2⟩
  · obtain ⟨h1, rfl⟩ := wl_at hq
    by_cases e : (i : Int) = k
    · have h2 := hw.1 k.toNat _ (wl_get hk.1 hk.2)
      rw [hC] at h2
      have h3 : H[AD k]? = some (vp_cell cA (n, .inr (.inr (.inr (.inr (fun j : Nat => f (j : Int))))))) := h2
      rw [e, zup_s]
      show H[AD k]? = some (vp_cell cA (n, .inr (.inr (.inr (.inr (fun j : Nat => g (j : Int)))))))
      rw [h3, vp_cell_q, vp_cell_q]
      congr 1
      unfold arrV
      congr 1
      congr 1
      funext j
      show va_rf (f ((j.val : Nat) : Int)) = va_rf (g ((j.val : Nat) : Int))
      rw [hfg _ (by omega) (by have := j.isLt; omega)]
    · rw [zup_n e]
      exact hw.1 i _ (by have := wl_get (N := N) (AD := AD) (C := C) (k := (i : Int)) (by omega) (by omega); rw [Int.toNat_natCast] at this; exact this)
  · obtain ⟨h1, rfl⟩ := wl_at hx
    obtain ⟨h2, rfl⟩ := wl_at hy
    have g1 := wl_get (N := N) (AD := AD) (C := C) (k := (i : Int)) (by omega) (by omega)
    have g2 := wl_get (N := N) (AD := AD) (C := C) (k := (j : Int)) (by omega) (by omega)
    rw [Int.toNat_natCast] at g1 g2
    exact hw.2.1.1 i j _ _ g1 g2 hxy
  · obtain ⟨h1, rfl⟩ := wl_at hq
    have g1 := wl_get (N := N) (AD := AD) (C := C) (k := (i : Int)) (by omega) (by omega)
    rw [Int.toNat_natCast] at g1
    exact hw.2.1.2 i (AD (i : Int), C (i : Int)) g1
end ZI
theorem df_O : ∀ j, j < 5 → defaultValue (tyO j) = vp_V [.int (zI 0), .int (zI 0), .int (zI 0), .int (zI 0), .int (zI 0)] j := by
  rw [zI_0]
  intro j hj
  rcases (show j = 0 ∨ j = 1 ∨ j = 2 ∨ j = 3 ∨ j = 4 by omega) with rfl | rfl | rfl | rfl | rfl <;> rfl
theorem df_P : ∀ j, j < 2 → defaultValue (tyP j) = vp_V [.null, .int (zI 0)] j := by
  rw [zI_0]
  intro j hj
  rcases (show j = 0 ∨ j = 1 by omega) with rfl | rfl <;> rfl
theorem df_S : ∀ j, j < 3 → defaultValue (tyS j) = vp_V [.null, .null, .int (zI 0)] j := by
  rw [zI_0]
  intro j hj
  rcases (show j = 0 ∨ j = 1 ∨ j = 2 by omega) with rfl | rfl | rfl <;> rfl
theorem df_R : ∀ j, j < 10 → defaultValue (tyR j) = vp_V [.null, .null, .int (zI 0), .null, .int (zI 0), .int (zI 0), .null, .null, .null, .null] j := by
  rw [zI_0]
  intro j hj
  rcases (show j = 0 ∨ j = 1 ∨ j = 2 ∨ j = 3 ∨ j = 4 ∨ j = 5 ∨ j = 6 ∨ j = 7 ∨ j = 8 ∨ j = 9 by omega) with rfl | rfl | rfl | rfl | rfl | rfl | rfl | rfl | rfl | rfl <;> rfl
theorem df_M : ∀ j, j < 18 → defaultValue (tyM j) = vp_V [.int (zI 0), .int (zI 0), .null, .int (zI 0), .null, .null, .int (zI 0), .int (zI 0), .int (zI 0), .int (zI 0), .null, .null, .null, .int (zI 0), .int (zI 0), .int (zI 0), .long (zL 0), .long (zL 0)] j := by
  rw [zI_0, zL_0]
  intro j hj
  rcases (show j = 0 ∨ j = 1 ∨ j = 2 ∨ j = 3 ∨ j = 4 ∨ j = 5 ∨ j = 6 ∨ j = 7 ∨ j = 8 ∨ j = 9 ∨ j = 10 ∨ j = 11 ∨ j = 12 ∨ j = 13 ∨ j = 14 ∨ j = 15 ∨ j = 16 ∨ j = 17 by omega) with rfl | rfl | rfl | rfl | rfl | rfl | rfl | rfl | rfl | rfl | rfl | rfl | rfl | rfl | rfl | rfl | rfl | rfl <;> rfl
abbrev rm_O_init : Room := { frames := 1, cells := 0, slots := 0, locals := 12 }
set_option maxHeartbeats 4000000 in
set_option maxRecDepth 100000 in
theorem c_O_init (l : Launch) (D : va_G) (k : Nat → ClassId) (N : Nat) (AD : Int → Nat) (C : Int → va_E) (sz : Nat) (q : Nat)  : MC l y_O_init (Cond.code y_O_init b_O_init 1 (Option.none : Option FieldType) :: WS) rm_O_init 0 0 D clW (tyW k) N N AD C sz [.ref q] (fun C' => C' = C) := by
  refine MC.start (cc := b_O_init) (maxL := 1) (by decide) rfl (Nat.le_of_ble_eq_true rfl) ?_
  intro p e s m args below meth c Q ls hx hb hml hown hin hts hK hao1 hao2 hsz hw hl hret
  have hown : s.vm.findClass "RingMatches$Overlap" = some m.cls := hown
  have hin : meth.name = "<init>" := hin
  have hl : lv_has ls 1 [(0, .ref q)] := hl
  have hA := wA_hi (N := N) (AD := AD) hsz
  obtain ⟨H, hH⟩ : ∃ H, H = s.heap := ⟨_, rfl⟩
  obtain ⟨locs, hlocs⟩ : ∃ z : List Loc, z = [] := ⟨_, rfl⟩
  have hw : WD D clW (wA N AD sz) s.heap H locs N AD C := by rw [hH, hlocs]; exact hw
  rw [← hlocs]
  suffices hgo : W p l e rm_O_init s m args below meth c H locs 0 0 Q (F0 m 0 ls []) by rw [hH] at hgo; exact hgo
  refine lv_aload_n hx hb d_O_init_0 rfl (lv_at hl 0 rfl) ?_
  refine W.objInit hx hb hown (hts _ wk_88) (hts _ wk_45) (hts _ wk_46) rfl (hl.1.trans hml.symm) rfl d_O_init_1 (Nat.le_of_ble_eq_true rfl) (Nat.le_of_ble_eq_true rfl) ?_
  refine W.eq (g2 := F0 m 4 ls []) rfl ?_
  exact hret _ _ _ _ _ 0 0 (by decide) (by decide) d_O_init_4 hw rfl
theorem AD_add {AD : Int → Nat} (hAD : ∀ j : Int, 0 ≤ j → AD (j + 1) = AD j + 1) {b : Int} (hb : 0 ≤ b) : ∀ d : Nat, AD (b + (d : Int)) = AD b + d := by
  intro d
  induction d with
  | zero => rw [show b + ((0 : Nat) : Int) = b by omega]; rfl
  | succ d ih => rw [show b + ((d + 1 : Nat) : Int) = (b + (d : Int)) + 1 by omega, hAD _ (by omega), ih]; rfl
theorem AD_sz {AD : Int → Nat} (hAD : ∀ j : Int, 0 ≤ j → AD (j + 1) = AD j + 1) {b x : Int} {n d : Nat} (hb : 0 ≤ b) (h : n = AD b) (hx : x = b + (d : Int)) : n + d = AD x := by
  rw [hx, AD_add hAD hb, h]
abbrev rm_P_init : Room := { frames := 1, cells := 1, slots := 100, locals := 12 }
set_option maxHeartbeats 4000000 in
set_option maxRecDepth 100000 in
theorem c_P_init (l : Launch) (D : va_G) (k : Nat → ClassId) (N : Nat) (AD : Int → Nat) (C : Int → va_E) (sz : Nat) (b : Int) (hb0 : 0 ≤ b) (hNb : ((N : Nat) : Int) = b + 1) (hsz0 : sz = AD (N : Int)) (hAD : ∀ j : Int, 0 ≤ j → AD (j + 1) = AD j + 1) (hS : C b = .inr (1, [.null, .int (zI 0)])) : MC l y_P_init (Cond.code y_P_init b_P_init 1 (Option.none : Option FieldType) :: WS) rm_P_init 1 100 D clW (tyW k) N (N + 1) AD C sz [.ref (AD b)] (fun C' => C' b = .inr (1, [.ref (AD (b + 1)), .int (zI 0)]) ∧ C' (b + 1) = aI (k 0) 100 (fun _ => 0) ∧ ∀ j : Int, ¬ (b ≤ j ∧ j ≤ b + 1) → C' j = C j) := by
  refine MC.start (cc := b_P_init) (maxL := 1) (by decide) rfl (Nat.le_of_ble_eq_true rfl) ?_
  intro p e s m args below meth c Q ls hx hb hml hown hin hts hK hao1 hao2 hsz hw hl hret
  have hown : s.vm.findClass "RingMatches$Pad" = some m.cls := hown
  have hin : meth.name = "<init>" := hin
  have hl : lv_has ls 1 [(0, .ref (AD b))] := hl
  have hA := wA_hi (N := N) (AD := AD) hsz
  obtain ⟨H, hH⟩ : ∃ H, H = s.heap := ⟨_, rfl⟩
  obtain ⟨locs, hlocs⟩ : ∃ z : List Loc, z = [] := ⟨_, rfl⟩
  have hw : WD D clW (wA N AD sz) s.heap H locs N AD C := by rw [hH, hlocs]; exact hw
  rw [← hlocs]
  suffices hgo : W p l e rm_P_init s m args below meth c H locs 0 0 Q (F0 m 0 ls []) by rw [hH] at hgo; exact hgo
  have eN : ((N : Nat) : Int) = (1 + b) := by omega
  refine lv_aload_n hx hb d_P_init_0 rfl (lv_at hl 0 rfl) ?_
  refine W.objInit hx hb hown (hts _ wk_52) (hts _ wk_45) (hts _ wk_46) rfl (hl.1.trans hml.symm) rfl d_P_init_1 (Nat.le_of_ble_eq_true rfl) (Nat.le_of_ble_eq_true rfl) ?_
  refine W.eq (g2 := F0 m 4 ls []) rfl ?_
  refine lv_aload_n hx hb d_P_init_4 rfl (lv_at hl 0 rfl) ?_
  refine zr_bipush hx hb d_P_init_5 (by decide) ?_
  refine W_size hw (by omega) hAD (by rw [eN]; exact AD_sz (b := b + 1) (d := 0) hAD (by omega) (by rw [hsz, hsz0, hNb]) (by omega)) (fun hsz9 => ?_)
  refine zr_newI (n := 100) hx hb (hts _ wk_61) hK 0 rfl hw hA (by decide) (Nat.le_of_ble_eq_true rfl) (Nat.le_of_ble_eq_true rfl) hsz9 d_P_init_7 (fun H hsz8 hw => ?_)
  rw [eN] at hw hsz8 ⊢
  obtain ⟨C1, hC1⟩ : ∃ z : Int → va_E, z = zup C (1 + b) (aI (k 0) 100 (fun _ => 0)) := ⟨_, rfl⟩
  rw [← hC1] at hw
  have frC1 : ∀ j : Int, j ≠ (1 + b) → C1 j = C j := fun j h => by rw [hC1]; exact zup_n h
  have hS : C1 b = .inr (1, [.null, .int (zI 0)]) := (frC1 _ (by omega)).trans hS
  have hSw : C1 (1 + b) = aI (k 0) 100 (fun _ => 0) := by rw [hC1]; exact zup_s
  obtain ⟨N2, hN2⟩ : ∃ z : Nat, z = N + 1 := ⟨_, rfl⟩
  rw [← hN2] at hw
  have eN2 : ((N2 : Nat) : Int) = (2 + b) := by omega
  refine zr_putF (ty := .array .int) (v := .ref (AD (1 + b))) hx hb hts iw_P tyP tyP_ok nmP hown hK hw b ⟨by omega, by omega⟩ hS rfl 0 (by decide) (hts _ wk_53) (fun _ h => h) rfl hin rfl (by decide +kernel) rfl rfl (Nat.le_of_ble_eq_true rfl) d_P_init_9 (fun H locs hw => ?_)
  obtain ⟨C3, hC3⟩ : ∃ z : Int → va_E, z = zup C1 b (.inr (1, [.ref (AD (1 + b)), .int (zI 0)])) := ⟨_, rfl⟩
  have hw : WD D clW (wA N AD sz) s.heap H locs N2 AD C3 := by rw [hC3]; exact hw
  have frC3 : ∀ j : Int, j ≠ b → C3 j = C1 j := fun j h => by rw [hC3]; exact zup_n h
  have hS : C3 b = .inr (1, [.ref (AD (1 + b)), .int (zI 0)]) := by rw [hC3]; exact zup_s
  have hSw : C3 (1 + b) = aI (k 0) 100 (fun _ => 0) := (frC3 _ (by omega)).trans hSw
  have eNN : N2 = (N + 1) := by omega
  rw [eNN] at hw
  exact hret _ _ _ _ _ (0 + 1) (0 + 100) (by decide) (by decide) d_P_init_12 hw ⟨by rw [hS, show (1 : Int) + b = b + 1 by omega], by rw [show b + 1 = 1 + b by omega]; exact hSw, fun j hj => by rw [frC3 _ (by omega), frC1 _ (by omega)]⟩
abbrev rm_S_init : Room := { frames := 1, cells := 2, slots := 48, locals := 12 }
set_option maxHeartbeats 4000000 in
set_option maxRecDepth 100000 in
theorem c_S_init (l : Launch) (D : va_G) (k : Nat → ClassId) (N : Nat) (AD : Int → Nat) (C : Int → va_E) (sz : Nat) (b : Int) (hb0 : 0 ≤ b) (hNb : ((N : Nat) : Int) = b + 1) (hsz0 : sz = AD (N : Int)) (hAD : ∀ j : Int, 0 ≤ j → AD (j + 1) = AD j + 1) (hS : C b = .inr (2, [.null, .null, .int (zI 0)])) : MC l y_S_init (Cond.code y_S_init b_S_init 1 (Option.none : Option FieldType) :: WS) rm_S_init 2 48 D clW (tyW k) N (N + 2) AD C sz [.ref (AD b)] (fun C' => C' b = .inr (2, [.ref (AD (b + 1)), .ref (AD (b + 2)), .int (zI 0)]) ∧ C' (b + 1) = aI (k 0) 24 (fun _ => 0) ∧ C' (b + 2) = aI (k 0) 24 (fun _ => 0) ∧ ∀ j : Int, ¬ (b ≤ j ∧ j ≤ b + 2) → C' j = C j) := by
  refine MC.start (cc := b_S_init) (maxL := 1) (by decide) rfl (Nat.le_of_ble_eq_true rfl) ?_
  intro p e s m args below meth c Q ls hx hb hml hown hin hts hK hao1 hao2 hsz hw hl hret
  have hown : s.vm.findClass "RingMatches$Series" = some m.cls := hown
  have hin : meth.name = "<init>" := hin
  have hl : lv_has ls 1 [(0, .ref (AD b))] := hl
  have hA := wA_hi (N := N) (AD := AD) hsz
  obtain ⟨H, hH⟩ : ∃ H, H = s.heap := ⟨_, rfl⟩
  obtain ⟨locs, hlocs⟩ : ∃ z : List Loc, z = [] := ⟨_, rfl⟩
  have hw : WD D clW (wA N AD sz) s.heap H locs N AD C := by rw [hH, hlocs]; exact hw
  rw [← hlocs]
  suffices hgo : W p l e rm_S_init s m args below meth c H locs 0 0 Q (F0 m 0 ls []) by rw [hH] at hgo; exact hgo
  have eN : ((N : Nat) : Int) = (1 + b) := by omega
  refine lv_aload_n hx hb d_S_init_0 rfl (lv_at hl 0 rfl) ?_
  refine W.objInit hx hb hown (hts _ wk_68) (hts _ wk_45) (hts _ wk_46) rfl (hl.1.trans hml.symm) rfl d_S_init_1 (Nat.le_of_ble_eq_true rfl) (Nat.le_of_ble_eq_true rfl) ?_
  refine W.eq (g2 := F0 m 4 ls []) rfl ?_
  refine lv_aload_n hx hb d_S_init_4 rfl (lv_at hl 0 rfl) ?_
  refine zr_bipush hx hb d_S_init_5 (by decide) ?_
  refine W_size hw (by omega) hAD (by rw [eN]; exact AD_sz (b := b + 1) (d := 0) hAD (by omega) (by rw [hsz, hsz0, hNb]) (by omega)) (fun hsz9 => ?_)
  refine zr_newI (n := 24) hx hb (hts _ wk_61) hK 0 rfl hw hA (by decide) (Nat.le_of_ble_eq_true rfl) (Nat.le_of_ble_eq_true rfl) hsz9 d_S_init_7 (fun H hsz8 hw => ?_)
  rw [eN] at hw hsz8 ⊢
  obtain ⟨C1, hC1⟩ : ∃ z : Int → va_E, z = zup C (1 + b) (aI (k 0) 24 (fun _ => 0)) := ⟨_, rfl⟩
  rw [← hC1] at hw
  have frC1 : ∀ j : Int, j ≠ (1 + b) → C1 j = C j := fun j h => by rw [hC1]; exact zup_n h
  have hS : C1 b = .inr (2, [.null, .null, .int (zI 0)]) := (frC1 _ (by omega)).trans hS
  have hSw : C1 (1 + b) = aI (k 0) 24 (fun _ => 0) := by rw [hC1]; exact zup_s
  obtain ⟨N2, hN2⟩ : ∃ z : Nat, z = N + 1 := ⟨_, rfl⟩
  rw [← hN2] at hw
  have eN2 : ((N2 : Nat) : Int) = (2 + b) := by omega
  refine zr_putF (ty := .array .int) (v := .ref (AD (1 + b))) hx hb hts iw_S tyS tyS_ok nmS hown hK hw b ⟨by omega, by omega⟩ hS rfl 0 (by decide) (hts _ wk_69) (fun _ h => h) rfl hin rfl (by decide +kernel) rfl rfl (Nat.le_of_ble_eq_true rfl) d_S_init_9 (fun H locs hw => ?_)
  obtain ⟨C3, hC3⟩ : ∃ z : Int → va_E, z = zup C1 b (.inr (2, [.ref (AD (1 + b)), .null, .int (zI 0)])) := ⟨_, rfl⟩
  have hw : WD D clW (wA N AD sz) s.heap H locs N2 AD C3 := by rw [hC3]; exact hw
  have frC3 : ∀ j : Int, j ≠ b → C3 j = C1 j := fun j h => by rw [hC3]; exact zup_n h
  have hS : C3 b = .inr (2, [.ref (AD (1 + b)), .null, .int (zI 0)]) := by rw [hC3]; exact zup_s
  have hSw : C3 (1 + b) = aI (k 0) 24 (fun _ => 0) := (frC3 _ (by omega)).trans hSw
  refine lv_aload_n hx hb d_S_init_12 rfl (lv_at hl 0 rfl) ?_
  refine zr_bipush hx hb d_S_init_13 (by decide) ?_
  refine W_size hw (by omega) hAD (by rw [eN2]; exact AD_sz (b := b + 1) (d := (0 + 1)) hAD (by omega) (by rw [hsz, hsz0, hNb]) (by omega)) (fun hsz9 => ?_)
  refine zr_newI (n := 24) hx hb (hts _ wk_61) hK 0 rfl hw hA (by decide) (Nat.le_of_ble_eq_true rfl) (Nat.le_of_ble_eq_true rfl) hsz9 d_S_init_15 (fun H hsz8 hw => ?_)
  rw [eN2] at hw hsz8 ⊢
  obtain ⟨C4, hC4⟩ : ∃ z : Int → va_E, z = zup C3 (2 + b) (aI (k 0) 24 (fun _ => 0)) := ⟨_, rfl⟩
  rw [← hC4] at hw
  have frC4 : ∀ j : Int, j ≠ (2 + b) → C4 j = C3 j := fun j h => by rw [hC4]; exact zup_n h
  have hS : C4 b = .inr (2, [.ref (AD (1 + b)), .null, .int (zI 0)]) := (frC4 _ (by omega)).trans hS
  have hSw : C4 (1 + b) = aI (k 0) 24 (fun _ => 0) := (frC4 _ (by omega)).trans hSw
  have hSe : C4 (2 + b) = aI (k 0) 24 (fun _ => 0) := by rw [hC4]; exact zup_s
  obtain ⟨N5, hN5⟩ : ∃ z : Nat, z = N2 + 1 := ⟨_, rfl⟩
  rw [← hN5] at hw
  have eN5 : ((N5 : Nat) : Int) = (3 + b) := by omega
  refine zr_putF (ty := .array .int) (v := .ref (AD (2 + b))) hx hb hts iw_S tyS tyS_ok nmS hown hK hw b ⟨by omega, by omega⟩ hS rfl 1 (by decide) (hts _ wk_70) (fun _ h => h) rfl hin rfl (by decide +kernel) rfl rfl (Nat.le_of_ble_eq_true rfl) d_S_init_17 (fun H locs hw => ?_)
  obtain ⟨C6, hC6⟩ : ∃ z : Int → va_E, z = zup C4 b (.inr (2, [.ref (AD (1 + b)), .ref (AD (2 + b)), .int (zI 0)])) := ⟨_, rfl⟩
  have hw : WD D clW (wA N AD sz) s.heap H locs N5 AD C6 := by rw [hC6]; exact hw
  have frC6 : ∀ j : Int, j ≠ b → C6 j = C4 j := fun j h => by rw [hC6]; exact zup_n h
  have hS : C6 b = .inr (2, [.ref (AD (1 + b)), .ref (AD (2 + b)), .int (zI 0)]) := by rw [hC6]; exact zup_s
  have hSw : C6 (1 + b) = aI (k 0) 24 (fun _ => 0) := (frC6 _ (by omega)).trans hSw
  have hSe : C6 (2 + b) = aI (k 0) 24 (fun _ => 0) := (frC6 _ (by omega)).trans hSe
  have eNN : N5 = (N + 2) := by omega
  rw [eNN] at hw
  exact hret _ _ _ _ _ ((0 + 1) + 1) ((0 + 24) + 24) (by decide) (by decide) d_S_init_20 hw ⟨by rw [hS, show (1 : Int) + b = b + 1 by omega, show (2 : Int) + b = b + 2 by omega], by rw [show b + 1 = 1 + b by omega]; exact hSw, by rw [show b + 2 = 2 + b by omega]; exact hSe, fun j hj => by rw [frC6 _ (by omega), frC4 _ (by omega), frC3 _ (by omega), frC1 _ (by omega)]⟩
abbrev rm_M_init : Room := { frames := 1, cells := 6, slots := 469, locals := 12 }
set_option maxHeartbeats 4000000 in
set_option maxRecDepth 100000 in
theorem c_M_init (l : Launch) (D : va_G) (k : Nat → ClassId) (N : Nat) (AD : Int → Nat) (C : Int → va_E) (sz : Nat) (b : Int) (hb0 : b = 82) (hNb : ((N : Nat) : Int) = b + 1) (hsz0 : sz = AD (N : Int)) (hAD : ∀ j : Int, 0 ≤ j → AD (j + 1) = AD j + 1) (hM : C b = .inr (4, [.int (zI 0), .int (zI 0), .null, .int (zI 0), .null, .null, .int (zI 0), .int (zI 0), .int (zI 0), .int (zI 0), .null, .null, .null, .int (zI 0), .int (zI 0), .int (zI 0), .long (zL 0), .long (zL 0)])) : MC l y_M_init (Cond.code y_M_init b_M_init 1 (Option.none : Option FieldType) :: WS) rm_M_init 6 469 D clW (tyW k) N (N + 6) AD C sz [.ref (AD b)] (fun C' => C' 82 = .inr (4, [.int (zI 0), .int (zI 0), .ref (AD 83), .int (zI 0), .ref (AD 84), .ref (AD 85), .int (zI 0), .int (zI 0), .int (zI 0), .int (zI 0), .ref (AD 86), .ref (AD 87), .ref (AD 88), .int (zI 0), .int (zI 0), .int (zI 0), .long (zL 0), .long (zL 0)]) ∧ C' 83 = aI (k 0) 100 (fun _ => 0) ∧ C' 84 = aI (k 0) 9 (fun _ => 0) ∧ C' 85 = aI (k 0) 216 (fun _ => 0) ∧ C' 86 = aI (k 0) 48 (fun _ => 0) ∧ C' 87 = aI (k 0) 48 (fun _ => 0) ∧ C' 88 = aI (k 0) 48 (fun _ => 0) ∧ ∀ j : Int, ¬ (82 ≤ j ∧ j ≤ 88) → C' j = C j) := by
  refine MC.start (cc := b_M_init) (maxL := 1) (by decide) rfl (Nat.le_of_ble_eq_true rfl) ?_
  intro p e s m args below meth c Q ls hx hb hml hown hin hts hK hao1 hao2 hsz hw hl hret
  subst hb0
  have hown : s.vm.findClass "RingMatchesModel" = some m.cls := hown
  have hin : meth.name = "<init>" := hin
  have hl : lv_has ls 1 [(0, .ref (AD 82))] := hl
  have hA := wA_hi (N := N) (AD := AD) hsz
  obtain ⟨H, hH⟩ : ∃ H, H = s.heap := ⟨_, rfl⟩
  obtain ⟨locs, hlocs⟩ : ∃ z : List Loc, z = [] := ⟨_, rfl⟩
  have hw : WD D clW (wA N AD sz) s.heap H locs N AD C := by rw [hH, hlocs]; exact hw
  rw [← hlocs]
  suffices hgo : W p l e rm_M_init s m args below meth c H locs 0 0 Q (F0 m 0 ls []) by rw [hH] at hgo; exact hgo
  have eN : ((N : Nat) : Int) = 83 := by omega
  refine lv_aload_n hx hb d_M_init_0 rfl (lv_at hl 0 rfl) ?_
  refine W.objInit hx hb hown (hts _ wk_505) (hts _ wk_45) (hts _ wk_46) rfl (hl.1.trans hml.symm) rfl d_M_init_1 (Nat.le_of_ble_eq_true rfl) (Nat.le_of_ble_eq_true rfl) ?_
  refine W.eq (g2 := F0 m 4 ls []) rfl ?_
  refine lv_aload_n hx hb d_M_init_4 rfl (lv_at hl 0 rfl) ?_
  refine zr_bipush hx hb d_M_init_5 (by decide) ?_
  refine W_size hw (by omega) hAD (by rw [eN]; exact AD_sz (b := 83) (d := 0) hAD (by omega) (by rw [hsz, hsz0, hNb]; rfl) (by omega)) (fun hsz9 => ?_)
  refine zr_newI (n := 100) hx hb (hts _ wk_61) hK 0 rfl hw hA (by decide) (Nat.le_of_ble_eq_true rfl) (Nat.le_of_ble_eq_true rfl) hsz9 d_M_init_7 (fun H hsz8 hw => ?_)
  rw [eN] at hw hsz8 ⊢
  obtain ⟨C1, hC1⟩ : ∃ z : Int → va_E, z = zup C 83 (aI (k 0) 100 (fun _ => 0)) := ⟨_, rfl⟩
  rw [← hC1] at hw
  have frC1 : ∀ j : Int, j ≠ 83 → C1 j = C j := fun j h => by rw [hC1]; exact zup_n h
  have hM : C1 82 = .inr (4, [.int (zI 0), .int (zI 0), .null, .int (zI 0), .null, .null, .int (zI 0), .int (zI 0), .int (zI 0), .int (zI 0), .null, .null, .null, .int (zI 0), .int (zI 0), .int (zI 0), .long (zL 0), .long (zL 0)]) := (frC1 _ (by omega)).trans hM
  have h83 : C1 83 = aI (k 0) 100 (fun _ => 0) := by rw [hC1]; exact zup_s
  obtain ⟨N2, hN2⟩ : ∃ z : Nat, z = N + 1 := ⟨_, rfl⟩
  rw [← hN2] at hw
  have eN2 : ((N2 : Nat) : Int) = 84 := by omega
  refine zr_putF (ty := .array .int) (v := .ref (AD 83)) hx hb hts iw_M tyM tyM_ok nmM hown hK hw 82 ⟨by omega, by omega⟩ hM rfl 2 (by decide) (hts _ wk_508) (fun _ h => h) rfl hin rfl (by decide +kernel) rfl rfl (Nat.le_of_ble_eq_true rfl) d_M_init_9 (fun H locs hw => ?_)
  obtain ⟨C3, hC3⟩ : ∃ z : Int → va_E, z = zup C1 82 (.inr (4, [.int (zI 0), .int (zI 0), .ref (AD 83), .int (zI 0), .null, .null, .int (zI 0), .int (zI 0), .int (zI 0), .int (zI 0), .null, .null, .null, .int (zI 0), .int (zI 0), .int (zI 0), .long (zL 0), .long (zL 0)])) := ⟨_, rfl⟩
  have hw : WD D clW (wA N AD sz) s.heap H locs N2 AD C3 := by rw [hC3]; exact hw
  have frC3 : ∀ j : Int, j ≠ 82 → C3 j = C1 j := fun j h => by rw [hC3]; exact zup_n h
  have hM : C3 82 = .inr (4, [.int (zI 0), .int (zI 0), .ref (AD 83), .int (zI 0), .null, .null, .int (zI 0), .int (zI 0), .int (zI 0), .int (zI 0), .null, .null, .null, .int (zI 0), .int (zI 0), .int (zI 0), .long (zL 0), .long (zL 0)]) := by rw [hC3]; exact zup_s
  have h83 : C3 83 = aI (k 0) 100 (fun _ => 0) := (frC3 _ (by omega)).trans h83
  refine lv_aload_n hx hb d_M_init_12 rfl (lv_at hl 0 rfl) ?_
  refine zr_bipush hx hb d_M_init_13 (by decide) ?_
  refine W_size hw (by omega) hAD (by rw [eN2]; exact AD_sz (b := 83) (d := (0 + 1)) hAD (by omega) (by rw [hsz, hsz0, hNb]; rfl) (by omega)) (fun hsz9 => ?_)
  refine zr_newI (n := 9) hx hb (hts _ wk_61) hK 0 rfl hw hA (by decide) (Nat.le_of_ble_eq_true rfl) (Nat.le_of_ble_eq_true rfl) hsz9 d_M_init_15 (fun H hsz8 hw => ?_)
  rw [eN2] at hw hsz8 ⊢
  obtain ⟨C4, hC4⟩ : ∃ z : Int → va_E, z = zup C3 84 (aI (k 0) 9 (fun _ => 0)) := ⟨_, rfl⟩
  rw [← hC4] at hw
  have frC4 : ∀ j : Int, j ≠ 84 → C4 j = C3 j := fun j h => by rw [hC4]; exact zup_n h
  have hM : C4 82 = .inr (4, [.int (zI 0), .int (zI 0), .ref (AD 83), .int (zI 0), .null, .null, .int (zI 0), .int (zI 0), .int (zI 0), .int (zI 0), .null, .null, .null, .int (zI 0), .int (zI 0), .int (zI 0), .long (zL 0), .long (zL 0)]) := (frC4 _ (by omega)).trans hM
  have h83 : C4 83 = aI (k 0) 100 (fun _ => 0) := (frC4 _ (by omega)).trans h83
  have h84 : C4 84 = aI (k 0) 9 (fun _ => 0) := by rw [hC4]; exact zup_s
  obtain ⟨N5, hN5⟩ : ∃ z : Nat, z = N2 + 1 := ⟨_, rfl⟩
  rw [← hN5] at hw
  have eN5 : ((N5 : Nat) : Int) = 85 := by omega
  refine zr_putF (ty := .array .int) (v := .ref (AD 84)) hx hb hts iw_M tyM tyM_ok nmM hown hK hw 82 ⟨by omega, by omega⟩ hM rfl 4 (by decide) (hts _ wk_510) (fun _ h => h) rfl hin rfl (by decide +kernel) rfl rfl (Nat.le_of_ble_eq_true rfl) d_M_init_17 (fun H locs hw => ?_)
  obtain ⟨C6, hC6⟩ : ∃ z : Int → va_E, z = zup C4 82 (.inr (4, [.int (zI 0), .int (zI 0), .ref (AD 83), .int (zI 0), .ref (AD 84), .null, .int (zI 0), .int (zI 0), .int (zI 0), .int (zI 0), .null, .null, .null, .int (zI 0), .int (zI 0), .int (zI 0), .long (zL 0), .long (zL 0)])) := ⟨_, rfl⟩
  have hw : WD D clW (wA N AD sz) s.heap H locs N5 AD C6 := by rw [hC6]; exact hw
  have frC6 : ∀ j : Int, j ≠ 82 → C6 j = C4 j := fun j h => by rw [hC6]; exact zup_n h
  have hM : C6 82 = .inr (4, [.int (zI 0), .int (zI 0), .ref (AD 83), .int (zI 0), .ref (AD 84), .null, .int (zI 0), .int (zI 0), .int (zI 0), .int (zI 0), .null, .null, .null, .int (zI 0), .int (zI 0), .int (zI 0), .long (zL 0), .long (zL 0)]) := by rw [hC6]; exact zup_s
  have h83 : C6 83 = aI (k 0) 100 (fun _ => 0) := (frC6 _ (by omega)).trans h83
  have h84 : C6 84 = aI (k 0) 9 (fun _ => 0) := (frC6 _ (by omega)).trans h84
  refine lv_aload_n hx hb d_M_init_20 rfl (lv_at hl 0 rfl) ?_
  refine zr_sipush hx hb d_M_init_21 (by decide) ?_
  refine W_size hw (by omega) hAD (by rw [eN5]; exact AD_sz (b := 83) (d := ((0 + 1) + 1)) hAD (by omega) (by rw [hsz, hsz0, hNb]; rfl) (by omega)) (fun hsz9 => ?_)
  refine zr_newI (n := 216) hx hb (hts _ wk_61) hK 0 rfl hw hA (by decide) (Nat.le_of_ble_eq_true rfl) (Nat.le_of_ble_eq_true rfl) hsz9 d_M_init_24 (fun H hsz8 hw => ?_)
  rw [eN5] at hw hsz8 ⊢
  obtain ⟨C7, hC7⟩ : ∃ z : Int → va_E, z = zup C6 85 (aI (k 0) 216 (fun _ => 0)) := ⟨_, rfl⟩
  rw [← hC7] at hw
  have frC7 : ∀ j : Int, j ≠ 85 → C7 j = C6 j := fun j h => by rw [hC7]; exact zup_n h
  have hM : C7 82 = .inr (4, [.int (zI 0), .int (zI 0), .ref (AD 83), .int (zI 0), .ref (AD 84), .null, .int (zI 0), .int (zI 0), .int (zI 0), .int (zI 0), .null, .null, .null, .int (zI 0), .int (zI 0), .int (zI 0), .long (zL 0), .long (zL 0)]) := (frC7 _ (by omega)).trans hM
  have h83 : C7 83 = aI (k 0) 100 (fun _ => 0) := (frC7 _ (by omega)).trans h83
  have h84 : C7 84 = aI (k 0) 9 (fun _ => 0) := (frC7 _ (by omega)).trans h84
  have h85 : C7 85 = aI (k 0) 216 (fun _ => 0) := by rw [hC7]; exact zup_s
  obtain ⟨N8, hN8⟩ : ∃ z : Nat, z = N5 + 1 := ⟨_, rfl⟩
  rw [← hN8] at hw
  have eN8 : ((N8 : Nat) : Int) = 86 := by omega
  refine zr_putF (ty := .array .int) (v := .ref (AD 85)) hx hb hts iw_M tyM tyM_ok nmM hown hK hw 82 ⟨by omega, by omega⟩ hM rfl 5 (by decide) (hts _ wk_511) (fun _ h => h) rfl hin rfl (by decide +kernel) rfl rfl (Nat.le_of_ble_eq_true rfl) d_M_init_26 (fun H locs hw => ?_)
  obtain ⟨C9, hC9⟩ : ∃ z : Int → va_E, z = zup C7 82 (.inr (4, [.int (zI 0), .int (zI 0), .ref (AD 83), .int (zI 0), .ref (AD 84), .ref (AD 85), .int (zI 0), .int (zI 0), .int (zI 0), .int (zI 0), .null, .null, .null, .int (zI 0), .int (zI 0), .int (zI 0), .long (zL 0), .long (zL 0)])) := ⟨_, rfl⟩
  have hw : WD D clW (wA N AD sz) s.heap H locs N8 AD C9 := by rw [hC9]; exact hw
  have frC9 : ∀ j : Int, j ≠ 82 → C9 j = C7 j := fun j h => by rw [hC9]; exact zup_n h
  have hM : C9 82 = .inr (4, [.int (zI 0), .int (zI 0), .ref (AD 83), .int (zI 0), .ref (AD 84), .ref (AD 85), .int (zI 0), .int (zI 0), .int (zI 0), .int (zI 0), .null, .null, .null, .int (zI 0), .int (zI 0), .int (zI 0), .long (zL 0), .long (zL 0)]) := by rw [hC9]; exact zup_s
  have h83 : C9 83 = aI (k 0) 100 (fun _ => 0) := (frC9 _ (by omega)).trans h83
  have h84 : C9 84 = aI (k 0) 9 (fun _ => 0) := (frC9 _ (by omega)).trans h84
  have h85 : C9 85 = aI (k 0) 216 (fun _ => 0) := (frC9 _ (by omega)).trans h85
  refine lv_aload_n hx hb d_M_init_29 rfl (lv_at hl 0 rfl) ?_
  refine zr_bipush hx hb d_M_init_30 (by decide) ?_
  refine W_size hw (by omega) hAD (by rw [eN8]; exact AD_sz (b := 83) (d := (((0 + 1) + 1) + 1)) hAD (by omega) (by rw [hsz, hsz0, hNb]; rfl) (by omega)) (fun hsz9 => ?_)
  refine zr_newI (n := 48) hx hb (hts _ wk_61) hK 0 rfl hw hA (by decide) (Nat.le_of_ble_eq_true rfl) (Nat.le_of_ble_eq_true rfl) hsz9 d_M_init_32 (fun H hsz8 hw => ?_)
  rw [eN8] at hw hsz8 ⊢
  obtain ⟨C10, hC10⟩ : ∃ z : Int → va_E, z = zup C9 86 (aI (k 0) 48 (fun _ => 0)) := ⟨_, rfl⟩
  rw [← hC10] at hw
  have frC10 : ∀ j : Int, j ≠ 86 → C10 j = C9 j := fun j h => by rw [hC10]; exact zup_n h
  have hM : C10 82 = .inr (4, [.int (zI 0), .int (zI 0), .ref (AD 83), .int (zI 0), .ref (AD 84), .ref (AD 85), .int (zI 0), .int (zI 0), .int (zI 0), .int (zI 0), .null, .null, .null, .int (zI 0), .int (zI 0), .int (zI 0), .long (zL 0), .long (zL 0)]) := (frC10 _ (by omega)).trans hM
  have h83 : C10 83 = aI (k 0) 100 (fun _ => 0) := (frC10 _ (by omega)).trans h83
  have h84 : C10 84 = aI (k 0) 9 (fun _ => 0) := (frC10 _ (by omega)).trans h84
  have h85 : C10 85 = aI (k 0) 216 (fun _ => 0) := (frC10 _ (by omega)).trans h85
  have h86 : C10 86 = aI (k 0) 48 (fun _ => 0) := by rw [hC10]; exact zup_s
  obtain ⟨N11, hN11⟩ : ∃ z : Nat, z = N8 + 1 := ⟨_, rfl⟩
  rw [← hN11] at hw
  have eN11 : ((N11 : Nat) : Int) = 87 := by omega
  refine zr_putF (ty := .array .int) (v := .ref (AD 86)) hx hb hts iw_M tyM tyM_ok nmM hown hK hw 82 ⟨by omega, by omega⟩ hM rfl 10 (by decide) (hts _ wk_516) (fun _ h => h) rfl hin rfl (by decide +kernel) rfl rfl (Nat.le_of_ble_eq_true rfl) d_M_init_34 (fun H locs hw => ?_)
  obtain ⟨C12, hC12⟩ : ∃ z : Int → va_E, z = zup C10 82 (.inr (4, [.int (zI 0), .int (zI 0), .ref (AD 83), .int (zI 0), .ref (AD 84), .ref (AD 85), .int (zI 0), .int (zI 0), .int (zI 0), .int (zI 0), .ref (AD 86), .null, .null, .int (zI 0), .int (zI 0), .int (zI 0), .long (zL 0), .long (zL 0)])) := ⟨_, rfl⟩
  have hw : WD D clW (wA N AD sz) s.heap H locs N11 AD C12 := by rw [hC12]; exact hw
  have frC12 : ∀ j : Int, j ≠ 82 → C12 j = C10 j := fun j h => by rw [hC12]; exact zup_n h
  have hM : C12 82 = .inr (4, [.int (zI 0), .int (zI 0), .ref (AD 83), .int (zI 0), .ref (AD 84), .ref (AD 85), .int (zI 0), .int (zI 0), .int (zI 0), .int (zI 0), .ref (AD 86), .null, .null, .int (zI 0), .int (zI 0), .int (zI 0), .long (zL 0), .long (zL 0)]) := by rw [hC12]; exact zup_s
  have h83 : C12 83 = aI (k 0) 100 (fun _ => 0) := (frC12 _ (by omega)).trans h83
  have h84 : C12 84 = aI (k 0) 9 (fun _ => 0) := (frC12 _ (by omega)).trans h84
  have h85 : C12 85 = aI (k 0) 216 (fun _ => 0) := (frC12 _ (by omega)).trans h85
  have h86 : C12 86 = aI (k 0) 48 (fun _ => 0) := (frC12 _ (by omega)).trans h86
  refine lv_aload_n hx hb d_M_init_37 rfl (lv_at hl 0 rfl) ?_
  refine zr_bipush hx hb d_M_init_38 (by decide) ?_
  refine W_size hw (by omega) hAD (by rw [eN11]; exact AD_sz (b := 83) (d := ((((0 + 1) + 1) + 1) + 1)) hAD (by omega) (by rw [hsz, hsz0, hNb]; rfl) (by omega)) (fun hsz9 => ?_)
  refine zr_newI (n := 48) hx hb (hts _ wk_61) hK 0 rfl hw hA (by decide) (Nat.le_of_ble_eq_true rfl) (Nat.le_of_ble_eq_true rfl) hsz9 d_M_init_40 (fun H hsz8 hw => ?_)
  rw [eN11] at hw hsz8 ⊢
  obtain ⟨C13, hC13⟩ : ∃ z : Int → va_E, z = zup C12 87 (aI (k 0) 48 (fun _ => 0)) := ⟨_, rfl⟩
  rw [← hC13] at hw
  have frC13 : ∀ j : Int, j ≠ 87 → C13 j = C12 j := fun j h => by rw [hC13]; exact zup_n h
  have hM : C13 82 = .inr (4, [.int (zI 0), .int (zI 0), .ref (AD 83), .int (zI 0), .ref (AD 84), .ref (AD 85), .int (zI 0), .int (zI 0), .int (zI 0), .int (zI 0), .ref (AD 86), .null, .null, .int (zI 0), .int (zI 0), .int (zI 0), .long (zL 0), .long (zL 0)]) := (frC13 _ (by omega)).trans hM
  have h83 : C13 83 = aI (k 0) 100 (fun _ => 0) := (frC13 _ (by omega)).trans h83
  have h84 : C13 84 = aI (k 0) 9 (fun _ => 0) := (frC13 _ (by omega)).trans h84
  have h85 : C13 85 = aI (k 0) 216 (fun _ => 0) := (frC13 _ (by omega)).trans h85
  have h86 : C13 86 = aI (k 0) 48 (fun _ => 0) := (frC13 _ (by omega)).trans h86
  have h87 : C13 87 = aI (k 0) 48 (fun _ => 0) := by rw [hC13]; exact zup_s
  obtain ⟨N14, hN14⟩ : ∃ z : Nat, z = N11 + 1 := ⟨_, rfl⟩
  rw [← hN14] at hw
  have eN14 : ((N14 : Nat) : Int) = 88 := by omega
  refine zr_putF (ty := .array .int) (v := .ref (AD 87)) hx hb hts iw_M tyM tyM_ok nmM hown hK hw 82 ⟨by omega, by omega⟩ hM rfl 11 (by decide) (hts _ wk_517) (fun _ h => h) rfl hin rfl (by decide +kernel) rfl rfl (Nat.le_of_ble_eq_true rfl) d_M_init_42 (fun H locs hw => ?_)
  obtain ⟨C15, hC15⟩ : ∃ z : Int → va_E, z = zup C13 82 (.inr (4, [.int (zI 0), .int (zI 0), .ref (AD 83), .int (zI 0), .ref (AD 84), .ref (AD 85), .int (zI 0), .int (zI 0), .int (zI 0), .int (zI 0), .ref (AD 86), .ref (AD 87), .null, .int (zI 0), .int (zI 0), .int (zI 0), .long (zL 0), .long (zL 0)])) := ⟨_, rfl⟩
  have hw : WD D clW (wA N AD sz) s.heap H locs N14 AD C15 := by rw [hC15]; exact hw
  have frC15 : ∀ j : Int, j ≠ 82 → C15 j = C13 j := fun j h => by rw [hC15]; exact zup_n h
  have hM : C15 82 = .inr (4, [.int (zI 0), .int (zI 0), .ref (AD 83), .int (zI 0), .ref (AD 84), .ref (AD 85), .int (zI 0), .int (zI 0), .int (zI 0), .int (zI 0), .ref (AD 86), .ref (AD 87), .null, .int (zI 0), .int (zI 0), .int (zI 0), .long (zL 0), .long (zL 0)]) := by rw [hC15]; exact zup_s
  have h83 : C15 83 = aI (k 0) 100 (fun _ => 0) := (frC15 _ (by omega)).trans h83
  have h84 : C15 84 = aI (k 0) 9 (fun _ => 0) := (frC15 _ (by omega)).trans h84
  have h85 : C15 85 = aI (k 0) 216 (fun _ => 0) := (frC15 _ (by omega)).trans h85
  have h86 : C15 86 = aI (k 0) 48 (fun _ => 0) := (frC15 _ (by omega)).trans h86
  have h87 : C15 87 = aI (k 0) 48 (fun _ => 0) := (frC15 _ (by omega)).trans h87
  refine lv_aload_n hx hb d_M_init_45 rfl (lv_at hl 0 rfl) ?_
  refine zr_bipush hx hb d_M_init_46 (by decide) ?_
  refine W_size hw (by omega) hAD (by rw [eN14]; exact AD_sz (b := 83) (d := (((((0 + 1) + 1) + 1) + 1) + 1)) hAD (by omega) (by rw [hsz, hsz0, hNb]; rfl) (by omega)) (fun hsz9 => ?_)
  refine zr_newI (n := 48) hx hb (hts _ wk_61) hK 0 rfl hw hA (by decide) (Nat.le_of_ble_eq_true rfl) (Nat.le_of_ble_eq_true rfl) hsz9 d_M_init_48 (fun H hsz8 hw => ?_)
  rw [eN14] at hw hsz8 ⊢
  obtain ⟨C16, hC16⟩ : ∃ z : Int → va_E, z = zup C15 88 (aI (k 0) 48 (fun _ => 0)) := ⟨_, rfl⟩
  rw [← hC16] at hw
  have frC16 : ∀ j : Int, j ≠ 88 → C16 j = C15 j := fun j h => by rw [hC16]; exact zup_n h
  have hM : C16 82 = .inr (4, [.int (zI 0), .int (zI 0), .ref (AD 83), .int (zI 0), .ref (AD 84), .ref (AD 85), .int (zI 0), .int (zI 0), .int (zI 0), .int (zI 0), .ref (AD 86), .ref (AD 87), .null, .int (zI 0), .int (zI 0), .int (zI 0), .long (zL 0), .long (zL 0)]) := (frC16 _ (by omega)).trans hM
  have h83 : C16 83 = aI (k 0) 100 (fun _ => 0) := (frC16 _ (by omega)).trans h83
  have h84 : C16 84 = aI (k 0) 9 (fun _ => 0) := (frC16 _ (by omega)).trans h84
  have h85 : C16 85 = aI (k 0) 216 (fun _ => 0) := (frC16 _ (by omega)).trans h85
  have h86 : C16 86 = aI (k 0) 48 (fun _ => 0) := (frC16 _ (by omega)).trans h86
  have h87 : C16 87 = aI (k 0) 48 (fun _ => 0) := (frC16 _ (by omega)).trans h87
  have h88 : C16 88 = aI (k 0) 48 (fun _ => 0) := by rw [hC16]; exact zup_s
  obtain ⟨N17, hN17⟩ : ∃ z : Nat, z = N14 + 1 := ⟨_, rfl⟩
  rw [← hN17] at hw
  have eN17 : ((N17 : Nat) : Int) = 89 := by omega
  refine zr_putF (ty := .array .int) (v := .ref (AD 88)) hx hb hts iw_M tyM tyM_ok nmM hown hK hw 82 ⟨by omega, by omega⟩ hM rfl 12 (by decide) (hts _ wk_518) (fun _ h => h) rfl hin rfl (by decide +kernel) rfl rfl (Nat.le_of_ble_eq_true rfl) d_M_init_50 (fun H locs hw => ?_)
  obtain ⟨C18, hC18⟩ : ∃ z : Int → va_E, z = zup C16 82 (.inr (4, [.int (zI 0), .int (zI 0), .ref (AD 83), .int (zI 0), .ref (AD 84), .ref (AD 85), .int (zI 0), .int (zI 0), .int (zI 0), .int (zI 0), .ref (AD 86), .ref (AD 87), .ref (AD 88), .int (zI 0), .int (zI 0), .int (zI 0), .long (zL 0), .long (zL 0)])) := ⟨_, rfl⟩
  have hw : WD D clW (wA N AD sz) s.heap H locs N17 AD C18 := by rw [hC18]; exact hw
  have frC18 : ∀ j : Int, j ≠ 82 → C18 j = C16 j := fun j h => by rw [hC18]; exact zup_n h
  have hM : C18 82 = .inr (4, [.int (zI 0), .int (zI 0), .ref (AD 83), .int (zI 0), .ref (AD 84), .ref (AD 85), .int (zI 0), .int (zI 0), .int (zI 0), .int (zI 0), .ref (AD 86), .ref (AD 87), .ref (AD 88), .int (zI 0), .int (zI 0), .int (zI 0), .long (zL 0), .long (zL 0)]) := by rw [hC18]; exact zup_s
  have h83 : C18 83 = aI (k 0) 100 (fun _ => 0) := (frC18 _ (by omega)).trans h83
  have h84 : C18 84 = aI (k 0) 9 (fun _ => 0) := (frC18 _ (by omega)).trans h84
  have h85 : C18 85 = aI (k 0) 216 (fun _ => 0) := (frC18 _ (by omega)).trans h85
  have h86 : C18 86 = aI (k 0) 48 (fun _ => 0) := (frC18 _ (by omega)).trans h86
  have h87 : C18 87 = aI (k 0) 48 (fun _ => 0) := (frC18 _ (by omega)).trans h87
  have h88 : C18 88 = aI (k 0) 48 (fun _ => 0) := (frC18 _ (by omega)).trans h88
  have eNN : N17 = (N + 6) := by omega
  rw [eNN] at hw
  exact hret _ _ _ _ _ ((((((0 + 1) + 1) + 1) + 1) + 1) + 1) ((((((0 + 100) + 9) + 216) + 48) + 48) + 48) (by decide) (by decide) d_M_init_53 hw ⟨hM, h83, h84, h85, h86, h87, h88, fun j hj => by rw [frC18 _ (by omega), frC16 _ (by omega), frC15 _ (by omega), frC13 _ (by omega), frC12 _ (by omega), frC10 _ (by omega), frC9 _ (by omega), frC7 _ (by omega), frC6 _ (by omega), frC4 _ (by omega), frC3 _ (by omega), frC1 _ (by omega)]⟩
