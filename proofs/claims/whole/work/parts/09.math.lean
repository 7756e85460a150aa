theorem wk_minc : Cond.code Lib.Math.min.name Lib.Math.min.code 2 (some .int) ∈ WS := WS_in 285 (by decide +kernel) (by decide +kernel)
theorem wk_maxc : Cond.code Lib.Math.max.name Lib.Math.max.code 2 (some .int) ∈ WS := WS_in 372 (by decide +kernel) (by decide +kernel)
theorem wk_mins : Cond.static Lib.Math.min.name ∈ WS := WS_in 284 (by decide +kernel) (by decide +kernel)
theorem wk_maxs : Cond.static Lib.Math.max.name ∈ WS := WS_in 371 (by decide +kernel) (by decide +kernel)
section ZM
variable {p : Program} {l : Launch} {e : Env} {R : Room} {s : State} {m : MethodId} {args : Array Value} {below : List Frame} {meth : Method} {c : Code} {H : Heap} {locs : List Loc} {cells slots : Nat} {Q : State → Prop} {cc : ByteArray} {pc : Nat} {ls : Array Slot} {rest : List Value}
theorem zr_min (hx : p.tables.exec = Jvm.exec) (hb : c.code = cc) (hml : c.maxLocals = ls.size) {own : String} {index : Nat} (hown : s.vm.findClass own = some m.cls) (hts : ∀ w ∈ WS, w.before args s = true) (hlink : Cond.methodLink own index Lib.Math.min.name ∈ WS) (hframes : 1 ≤ R.frames) (hlocals : (rest.map fun v => v.category).sum + 13 ≤ R.locals) (hc : cells ≤ R.cells) (hs : slots ≤ R.slots) {a b : Int} (ha : inI a) (hb9 : inI b) (hdg : decode cc pc = .ok (.invokestatic index, 3))
    (k : W p l e R s m args below meth c H locs cells slots Q (F0 m (pc + 3) ls (.int (zI (min a b)) :: rest))) : W p l e R s m args below meth c H locs cells slots Q (F0 m pc ls (.int (zI b) :: .int (zI a) :: rest)) :=
  va_mmin hx hb hml hown (hts _ hlink) (hts _ wk_mins) (hts _ wk_37) (hts _ wk_minc) hframes hlocals hc hs hdg (by rw [zI_min ha hb9]; exact k)
theorem zr_max (hx : p.tables.exec = Jvm.exec) (hb : c.code = cc) (hml : c.maxLocals = ls.size) {own : String} {index : Nat} (hown : s.vm.findClass own = some m.cls) (hts : ∀ w ∈ WS, w.before args s = true) (hlink : Cond.methodLink own index Lib.Math.max.name ∈ WS) (hframes : 1 ≤ R.frames) (hlocals : (rest.map fun v => v.category).sum + 13 ≤ R.locals) (hc : cells ≤ R.cells) (hs : slots ≤ R.slots) {a b : Int} (ha : inI a) (hb9 : inI b) (hdg : decode cc pc = .ok (.invokestatic index, 3))
    (k : W p l e R s m args below meth c H locs cells slots Q (F0 m (pc + 3) ls (.int (zI (max a b)) :: rest))) : W p l e R s m args below meth c H locs cells slots Q (F0 m pc ls (.int (zI b) :: .int (zI a) :: rest)) :=
  va_mmax hx hb hml hown (hts _ hlink) (hts _ wk_maxs) (hts _ wk_37) (hts _ wk_maxc) hframes hlocals hc hs hdg (by rw [zI_max ha hb9]; exact k)
end ZM
