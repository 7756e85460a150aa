/-! new cells at the world's end: addresses are AD N, one behind the other -/
theorem wl_pushA {N : Nat} {AD : Int → Nat} {C : Int → va_E} {e : va_E} : wl N AD C ++ [(AD (N : Int), e)] = wl (N + 1) AD (zup C (N : Int) e) := by
  rw [wl_push]
  congr 1
  funext j
  unfold zup
  by_cases h : j = (N : Int)
  · rw [if_pos h, h]
  · rw [if_neg h]
theorem WD_push {D : va_G} {cl : List vw_C} {A : Nat → Prop} {H0 H H1 : Heap} {locs : List Loc} {N : Nat} {AD : Int → Nat} {C : Int → va_E} {e : va_E} (hw : WD D cl A H0 H locs N AD C) (hA : ∀ q, H0.size ≤ q → A q) (hsz : H.size = AD (N : Int)) (z1 : H1.size = AD (N : Int) + 1) (o1 : ∀ q, q < AD (N : Int) → H1[q]? = H[q]?) (he : va_at D cl (AD (N : Int), e) H1) : WD D cl A H0 H1 locs (N + 1) AD (zup C (N : Int) e) := by
  have hk : ∀ (k : Nat) (x : Nat × va_E), (wl N AD C)[k]? = some x → H1[x.1]? = H[x.1]? := fun k x hx => o1 x.1 (by rw [← hsz]; exact (hw.1 k x hx).lt)
  refine ⟨?_, ?_, ?_⟩
  · rw [← wl_pushA]
    refine (hw.1.kept hk).app (fun k x hx => ?_)
    have hz : k < 1 := (List.getElem?_eq_some_iff.mp hx).1
    rw [show k = 0 by omega] at hx
    cases hx
    exact he
  · rw [← wl_pushA]
    exact hw.2.1.push hw.1 hsz.symm (hA _ (by rw [← hsz]; exact hw.2.2.1))
  · exact ⟨by have := hw.2.2.1; omega, fun x h1 h2 => (o1 x (by have := hw.2.2.1; omega)).trans (hw.2.2.2.1 x h1 h2), hw.2.2.2.2⟩
section ZN
variable {p : Program} {l : Launch} {e : Env} {R : Room} {s : State} {m : MethodId} {args : Array Value} {below : List Frame} {meth : Method} {c : Code} {H : Heap} {locs : List Loc} {cells slots : Nat} {Q : State → Prop} {cc : ByteArray} {pc : Nat} {ls : Array Slot} {rest : List Value}
variable {D : va_G} {cl : List vw_C} {tys : List (ClassId × FieldType)} {A : Nat → Prop} {N : Nat} {AD : Int → Nat} {C : Int → va_E} {H0 : Heap}
theorem zr_new (hx : p.tables.exec = Jvm.exec) (hb : c.code = cc) {own Cn : String} {T : u_T} {n ci index : Nat} {Ts : List Cond} (hts : ∀ w ∈ Ts, w.before args s = true) (hin : ∀ w ∈ u_ws Cn T n, w ∈ Ts) (ty : Nat → FieldType) (hty : ∀ k, k < n → parseFieldDescriptor (T k).2.2.1 = some (ty k)) (hown : s.vm.findClass own = some m.cls) (hcl : (Cond.classLink own index Cn).before args s = true) (hinst : (Cond.instantiable Cn n).before args s = true) (hini : (Cond.initialized Cn).before args s = true)
    (hK : va_K D cl tys s) (hw : WD D cl A H0 H locs N AD C) (hA : ∀ q, H0.size ≤ q → A q) (hc : cl[ci]? = some (Cn, T, n)) {fs : List Value} (hfs : ∀ j, j < n → defaultValue (ty j) = vp_V fs j) (hcells : cells + 1 ≤ R.cells) (hslots : slots + n ≤ R.slots) (hsz : H.size = AD (N : Int)) (hdg : decode cc pc = .ok (.new index, 3))
    (kk : ∀ H1 : Heap, H1.size = AD (N : Int) + 1 → WD D cl A H0 H1 locs (N + 1) AD (zup C (N : Int) (.inr (ci, fs))) → W p l e R s m args below meth c H1 locs (cells + 1) (slots + n) Q (F0 m (pc + 3) ls (.ref (AD (N : Int)) :: rest))) : W p l e R s m args below meth c H locs cells slots Q (F0 m pc ls rest) := by
  have hKn := hK.1 ci _ hc
  refine W.newcK hx hb hown hcl hinst hini rfl hdg hcells hslots hKn.2.1 hsz fun H1 kC hkC e1 z1 o1 => ?_
  exact kk H1 z1 (WD_push hw hA hsz z1 o1 ⟨_, hc, (u_born ty hts hin hKn hkC e1 hty).to hfs⟩)
theorem zr_newI (hx : p.tables.exec = Jvm.exec) (hb : c.code = cc) (harr : (Cond.arrayClass .int).before args s = true) (hK : va_K D cl tys s) (t0 : Nat) {cA : ClassId} (ht : tys[t0]? = some (cA, .int)) (hw : WD D cl A H0 H locs N AD C) (hA : ∀ q, H0.size ≤ q → A q) {n : Nat} (hn : n ≤ 65536) (hcells : cells + 1 ≤ R.cells) (hslots : slots + n ≤ R.slots) (hsz : H.size = AD (N : Int)) (hdg : decode cc pc = .ok (.newarray .int, 2))
    (kk : ∀ H1 : Heap, H1.size = AD (N : Int) + 1 → WD D cl A H0 H1 locs (N + 1) AD (zup C (N : Int) (aI cA n (fun _ => 0))) → W p l e R s m args below meth c H1 locs (cells + 1) (slots + n) Q (F0 m (pc + 2) ls (.ref (AD (N : Int)) :: rest))) : W p l e R s m args below meth c H locs cells slots Q (F0 m pc ls (.int (zI (n : Int)) :: rest)) := by
  refine va_newaK (atype := .int) hx hb harr rfl hdg rfl (zI_nn (by omega) (by omega)) (N := n) (by rw [zI_cl (by omega) (by omega)]; omega) (by show n * 4 ≤ 536870912; omega) hcells hslots hsz fun H1 cB e1 z1 o1 hAr hNm => ?_
  have hcA : cB = cA := Option.some.inj (hNm.symm.trans (show s.vm.findClass _ = some cA from (hK.2 t0 _ ht).2))
  subst hcA
  refine kk H1 z1 (WD_push hw hA hsz z1 o1 ?_)
  show H1[AD (N : Int)]? = some (arrV cB n (fun _ => .int (zI 0)))
  rw [zI_0]
  exact e1
theorem zr_newZ (hx : p.tables.exec = Jvm.exec) (hb : c.code = cc) (harr : (Cond.arrayClass .boolean).before args s = true) (hK : va_K D cl tys s) (t0 : Nat) {cA : ClassId} (ht : tys[t0]? = some (cA, .boolean)) (hw : WD D cl A H0 H locs N AD C) (hA : ∀ q, H0.size ≤ q → A q) {n : Nat} (hn : n ≤ 65536) (hcells : cells + 1 ≤ R.cells) (hslots : slots + n ≤ R.slots) (hsz : H.size = AD (N : Int)) (hdg : decode cc pc = .ok (.newarray .boolean, 2))
    (kk : ∀ H1 : Heap, H1.size = AD (N : Int) + 1 → WD D cl A H0 H1 locs (N + 1) AD (zup C (N : Int) (aI cA n (fun _ => 0))) → W p l e R s m args below meth c H1 locs (cells + 1) (slots + n) Q (F0 m (pc + 2) ls (.ref (AD (N : Int)) :: rest))) : W p l e R s m args below meth c H locs cells slots Q (F0 m pc ls (.int (zI (n : Int)) :: rest)) := by
  refine va_newaK (atype := .boolean) hx hb harr rfl hdg rfl (zI_nn (by omega) (by omega)) (N := n) (by rw [zI_cl (by omega) (by omega)]; omega) (by show n * 1 ≤ 536870912; omega) hcells hslots hsz fun H1 cB e1 z1 o1 hAr hNm => ?_
  have hcA : cB = cA := Option.some.inj (hNm.symm.trans (show s.vm.findClass _ = some cA from (hK.2 t0 _ ht).2))
  subst hcA
  refine kk H1 z1 (WD_push hw hA hsz z1 o1 ?_)
  show H1[AD (N : Int)]? = some (arrV cB n (fun _ => .int (zI 0)))
  rw [zI_0]
  exact e1
theorem zr_newL (hx : p.tables.exec = Jvm.exec) (hb : c.code = cc) (harr : (Cond.arrayClass .long).before args s = true) (hK : va_K D cl tys s) (t0 : Nat) {cA : ClassId} (ht : tys[t0]? = some (cA, .long)) (hw : WD D cl A H0 H locs N AD C) (hA : ∀ q, H0.size ≤ q → A q) {n : Nat} (hn : n ≤ 65536) (hcells : cells + 1 ≤ R.cells) (hslots : slots + n ≤ R.slots) (hsz : H.size = AD (N : Int)) (hdg : decode cc pc = .ok (.newarray .long, 2))
    (kk : ∀ H1 : Heap, H1.size = AD (N : Int) + 1 → WD D cl A H0 H1 locs (N + 1) AD (zup C (N : Int) (aL cA n (fun _ => 0))) → W p l e R s m args below meth c H1 locs (cells + 1) (slots + n) Q (F0 m (pc + 2) ls (.ref (AD (N : Int)) :: rest))) : W p l e R s m args below meth c H locs cells slots Q (F0 m pc ls (.int (zI (n : Int)) :: rest)) := by
  refine va_newaK (atype := .long) hx hb harr rfl hdg rfl (zI_nn (by omega) (by omega)) (N := n) (by rw [zI_cl (by omega) (by omega)]; omega) (by show n * 8 ≤ 536870912; omega) hcells hslots hsz fun H1 cB e1 z1 o1 hAr hNm => ?_
  have hcA : cB = cA := Option.some.inj (hNm.symm.trans (show s.vm.findClass _ = some cA from (hK.2 t0 _ ht).2))
  subst hcA
  refine kk H1 z1 (WD_push hw hA hsz z1 o1 ?_)
  show H1[AD (N : Int)]? = some (arrV cB n (fun _ => .long (zL 0)))
  rw [zL_0]
  exact e1
theorem zr_newQ (hx : p.tables.exec = Jvm.exec) (hb : c.code = cc) {own Cn : String} {index : Nat} (hown : s.vm.findClass own = some m.cls) (hclink : (Cond.classLink own index Cn).before args s = true) (hover : (Cond.arrayOver (.object Cn)).before args s = true) (hK : va_K D cl tys s) (t0 : Nat) {cA : ClassId} (ht : tys[t0]? = some (cA, .object Cn)) (hw : WD D cl A H0 H locs N AD C) (hA : ∀ q, H0.size ≤ q → A q) {n : Nat} (hn : n ≤ 65536) (hcells : cells + 1 ≤ R.cells) (hslots : slots + n ≤ R.slots) (hsz : H.size = AD (N : Int)) (hdg : decode cc pc = .ok (.anewarray index, 3))
    (kk : ∀ H1 : Heap, H1.size = AD (N : Int) + 1 → WD D cl A H0 H1 locs (N + 1) AD (zup C (N : Int) (aQ cA n (fun _ => none))) → W p l e R s m args below meth c H1 locs (cells + 1) (slots + n) Q (F0 m (pc + 3) ls (.ref (AD (N : Int)) :: rest))) : W p l e R s m args below meth c H locs cells slots Q (F0 m pc ls (.int (zI (n : Int)) :: rest)) := by
  have hcl9 : (zI (n : Int)).toNatClampNeg = n := by rw [zI_cl (by omega) (by omega)]; omega
  refine W.anew hx hb hown hclink hover rfl hdg rfl (zI_nn (by omega) (by omega)) (by rw [hcl9]; omega) hcells (by rw [hcl9]; exact hslots) fun cB kA comp f1 f2 f3 f4 => ?_
  obtain ⟨kA', comp', g1, g2, g3, g4⟩ := (hK.2 t0 _ ht).2
  have hcA : cB = cA := Option.some.inj (f1.symm.trans g4)
  subst hcA
  rw [hcl9]
  generalize hH1 : H.push ({ cls := cB, slots := Array.replicate n .null, vm := .none } : Cell) = H1
  have z1 : H1.size = AD (N : Int) + 1 := by rw [← hH1, Array.size_push, hsz]
  have e1 : H1[AD (N : Int)]? = some (arrV cB n (fun _ => .null)) := by rw [← hH1, ← hsz, Array.getElem?_push_size, ← arrV_new]
  have o1 : ∀ q : Nat, q < AD (N : Int) → H1[q]? = H[q]? := fun q hq => by rw [← hH1, Array.getElem?_push, if_neg (by omega)]
  have h9 := kk H1 z1 (WD_push hw hA hsz z1 o1 (by show H1[AD (N : Int)]? = some (vp_cell _ _); rw [vp_cell_q]; exact e1))
  rw [← hsz] at h9
  exact h9
end ZN
