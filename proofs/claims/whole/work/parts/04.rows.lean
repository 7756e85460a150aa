/-! rows over whole numbers -/
section ZR
variable {p : Program} {l : Launch} {e : Env} {R : Room} {s : State} {m : MethodId} {args : Array Value} {below : List Frame} {meth : Method} {c : Code} {H : Heap} {locs : List Loc} {cells slots : Nat} {Q : State → Prop} {cc : ByteArray} {pc : Nat} {ls : Array Slot} {rest : List Value}
theorem zr_iconst (hx : p.tables.exec = Jvm.exec) (hb : c.code = cc) {n : Int} (hdg : decode cc pc = .ok (.iconst n, 1)) (k : W p l e R s m args below meth c H locs cells slots Q (F0 m (pc + 1) ls (.int (zI n) :: rest))) : W p l e R s m args below meth c H locs cells slots Q (F0 m pc ls rest) := lv_iconst hx hb hdg rfl k
theorem zr_bipush (hx : p.tables.exec = Jvm.exec) (hb : c.code = cc) {n : Int} (hdg : decode cc pc = .ok (.bipush n, 2)) (h0 : -128 ≤ n ∧ n < 128) (k : W p l e R s m args below meth c H locs cells slots Q (F0 m (pc + 2) ls (.int (zI n) :: rest))) : W p l e R s m args below meth c H locs cells slots Q (F0 m pc ls rest) := lv_bipush hx hb hdg (zI_8 h0.1 h0.2) k
theorem zr_sipush (hx : p.tables.exec = Jvm.exec) (hb : c.code = cc) {n : Int} (hdg : decode cc pc = .ok (.sipush n, 3)) (h0 : -32768 ≤ n ∧ n < 32768) (k : W p l e R s m args below meth c H locs cells slots Q (F0 m (pc + 3) ls (.int (zI n) :: rest))) : W p l e R s m args below meth c H locs cells slots Q (F0 m pc ls rest) := lv_sipush hx hb hdg (zI_16 h0.1 h0.2) k
theorem zr_lconst0 (hx : p.tables.exec = Jvm.exec) (hb : c.code = cc)  (hdg : decode cc pc = .ok (.lconst 0, 1)) (k : W p l e R s m args below meth c H locs cells slots Q (F0 m (pc + 1) ls (.long (zL 0) :: rest))) : W p l e R s m args below meth c H locs cells slots Q (F0 m pc ls rest) := lv_lconst hx hb hdg (by decide +kernel) k
theorem zr_lconst1 (hx : p.tables.exec = Jvm.exec) (hb : c.code = cc)  (hdg : decode cc pc = .ok (.lconst 1, 1)) (k : W p l e R s m args below meth c H locs cells slots Q (F0 m (pc + 1) ls (.long (zL 1) :: rest))) : W p l e R s m args below meth c H locs cells slots Q (F0 m pc ls rest) := lv_lconst hx hb hdg (by decide +kernel) k
theorem zr_iadd (hx : p.tables.exec = Jvm.exec) (hb : c.code = cc) {a b : Int} (hdg : decode cc pc = .ok (.iadd, 1)) (k : W p l e R s m args below meth c H locs cells slots Q (F0 m (pc + 1) ls (.int (zI (a + b)) :: rest))) : W p l e R s m args below meth c H locs cells slots Q (F0 m pc ls (.int (zI b) :: .int (zI a) :: rest)) := lv_iadd hx hb hdg (by rw [zI_add]; exact k)
theorem zr_isub (hx : p.tables.exec = Jvm.exec) (hb : c.code = cc) {a b : Int} (hdg : decode cc pc = .ok (.isub, 1)) (k : W p l e R s m args below meth c H locs cells slots Q (F0 m (pc + 1) ls (.int (zI (a - b)) :: rest))) : W p l e R s m args below meth c H locs cells slots Q (F0 m pc ls (.int (zI b) :: .int (zI a) :: rest)) := lv_isub hx hb hdg (by rw [zI_sub]; exact k)
theorem zr_imul (hx : p.tables.exec = Jvm.exec) (hb : c.code = cc) {a b : Int} (hdg : decode cc pc = .ok (.imul, 1)) (k : W p l e R s m args below meth c H locs cells slots Q (F0 m (pc + 1) ls (.int (zI (a * b)) :: rest))) : W p l e R s m args below meth c H locs cells slots Q (F0 m pc ls (.int (zI b) :: .int (zI a) :: rest)) := lv_imul hx hb hdg (by rw [zI_mul]; exact k)
theorem zr_ladd (hx : p.tables.exec = Jvm.exec) (hb : c.code = cc) {a b : Int} (hdg : decode cc pc = .ok (.ladd, 1)) (k : W p l e R s m args below meth c H locs cells slots Q (F0 m (pc + 1) ls (.long (zL (a + b)) :: rest))) : W p l e R s m args below meth c H locs cells slots Q (F0 m pc ls (.long (zL b) :: .long (zL a) :: rest)) := lv_ladd hx hb hdg (by rw [zL_add]; exact k)
theorem zr_lsub (hx : p.tables.exec = Jvm.exec) (hb : c.code = cc) {a b : Int} (hdg : decode cc pc = .ok (.lsub, 1)) (k : W p l e R s m args below meth c H locs cells slots Q (F0 m (pc + 1) ls (.long (zL (a - b)) :: rest))) : W p l e R s m args below meth c H locs cells slots Q (F0 m pc ls (.long (zL b) :: .long (zL a) :: rest)) := lv_lsub hx hb hdg (by rw [zL_sub]; exact k)
theorem zr_lmul (hx : p.tables.exec = Jvm.exec) (hb : c.code = cc) {a b : Int} (hdg : decode cc pc = .ok (.lmul, 1)) (k : W p l e R s m args below meth c H locs cells slots Q (F0 m (pc + 1) ls (.long (zL (a * b)) :: rest))) : W p l e R s m args below meth c H locs cells slots Q (F0 m pc ls (.long (zL b) :: .long (zL a) :: rest)) := lv_lmul hx hb hdg (by rw [zL_mul]; exact k)
theorem zr_ineg (hx : p.tables.exec = Jvm.exec) (hb : c.code = cc) {a : Int} (hdg : decode cc pc = .ok (.ineg, 1)) (k : W p l e R s m args below meth c H locs cells slots Q (F0 m (pc + 1) ls (.int (zI (-a)) :: rest))) : W p l e R s m args below meth c H locs cells slots Q (F0 m pc ls (.int (zI a) :: rest)) := lv_ineg hx hb hdg (by rw [zI_neg]; exact k)
theorem zr_lneg (hx : p.tables.exec = Jvm.exec) (hb : c.code = cc) {a : Int} (hdg : decode cc pc = .ok (.lneg, 1)) (k : W p l e R s m args below meth c H locs cells slots Q (F0 m (pc + 1) ls (.long (zL (-a)) :: rest))) : W p l e R s m args below meth c H locs cells slots Q (F0 m pc ls (.long (zL a) :: rest)) := lv_lneg hx hb hdg (by rw [zL_neg]; exact k)
theorem zr_idiv (hx : p.tables.exec = Jvm.exec) (hb : c.code = cc) {a b : Int} (hdg : decode cc pc = .ok (.idiv, 1)) (ha9 : inI a) (hb9 : inI b) (h0 : 0 ≤ a) (h1 : 0 < b) (k : W p l e R s m args below meth c H locs cells slots Q (F0 m (pc + 1) ls (.int (zI (a / b)) :: rest))) : W p l e R s m args below meth c H locs cells slots Q (F0 m pc ls (.int (zI b) :: .int (zI a) :: rest)) := lv_idiv hx hb hdg (zI_nz hb9 (by omega)) (by rw [zI_div ha9 hb9 h0 h1]; exact k)
theorem zr_irem (hx : p.tables.exec = Jvm.exec) (hb : c.code = cc) {a b : Int} (hdg : decode cc pc = .ok (.irem, 1)) (ha9 : inI a) (hb9 : inI b) (h0 : 0 ≤ a) (h1 : 0 < b) (k : W p l e R s m args below meth c H locs cells slots Q (F0 m (pc + 1) ls (.int (zI (a % b)) :: rest))) : W p l e R s m args below meth c H locs cells slots Q (F0 m pc ls (.int (zI b) :: .int (zI a) :: rest)) := lv_irem hx hb hdg (zI_nz hb9 (by omega)) (by rw [zI_rem ha9 hb9 h0 h1]; exact k)
theorem zr_ldiv (hx : p.tables.exec = Jvm.exec) (hb : c.code = cc) {a b : Int} (hdg : decode cc pc = .ok (.ldiv, 1)) (ha9 : inL a) (hb9 : inL b) (h0 : 0 ≤ a) (h1 : 0 < b) (k : W p l e R s m args below meth c H locs cells slots Q (F0 m (pc + 1) ls (.long (zL (a / b)) :: rest))) : W p l e R s m args below meth c H locs cells slots Q (F0 m pc ls (.long (zL b) :: .long (zL a) :: rest)) := lv_ldiv hx hb hdg (zL_nz hb9 (by omega)) (by rw [zL_div ha9 hb9 h0 h1]; exact k)
theorem zr_lrem (hx : p.tables.exec = Jvm.exec) (hb : c.code = cc) {a b : Int} (hdg : decode cc pc = .ok (.lrem, 1)) (ha9 : inL a) (hb9 : inL b) (h0 : 0 ≤ a) (h1 : 0 < b) (k : W p l e R s m args below meth c H locs cells slots Q (F0 m (pc + 1) ls (.long (zL (a % b)) :: rest))) : W p l e R s m args below meth c H locs cells slots Q (F0 m pc ls (.long (zL b) :: .long (zL a) :: rest)) := lv_lrem hx hb hdg (zL_nz hb9 (by omega)) (by rw [zL_rem ha9 hb9 h0 h1]; exact k)
theorem zr_i2l (hx : p.tables.exec = Jvm.exec) (hb : c.code = cc) {a : Int} (hdg : decode cc pc = .ok (.i2l, 1)) (ha9 : inI a) (k : W p l e R s m args below meth c H locs cells slots Q (F0 m (pc + 1) ls (.long (zL a) :: rest))) : W p l e R s m args below meth c H locs cells slots Q (F0 m pc ls (.int (zI a) :: rest)) := lv_i2l hx hb hdg (zI_i2l ha9) k
theorem zr_l2i (hx : p.tables.exec = Jvm.exec) (hb : c.code = cc) {a : Int} (hdg : decode cc pc = .ok (.l2i, 1)) (k : W p l e R s m args below meth c H locs cells slots Q (F0 m (pc + 1) ls (.int (zI a) :: rest))) : W p l e R s m args below meth c H locs cells slots Q (F0 m pc ls (.long (zL a) :: rest)) := lv_l2i hx hb hdg (zL_l2i a) k
theorem zr_icmp_eq (hx : p.tables.exec = Jvm.exec) (hb : c.code = cc) {a b off : Int} {tgt : Nat} (ha9 : inI a) (hb9 : inI b) (hdg : decode cc pc = .ok (.if_icmp .eq off, 3)) (ht : (pc : Int) + off = (tgt : Int)) (kt : a = b → W p l e R s m args below meth c H locs cells slots Q (F0 m tgt ls rest)) (kf : ¬ a = b → W p l e R s m args below meth c H locs cells slots Q (F0 m (pc + 3) ls rest)) : W p l e R s m args below meth c H locs cells slots Q (F0 m pc ls (.int (zI b) :: .int (zI a) :: rest)) := by
  exact lv_icmp_eq hx hb hdg ht (fun h => kt ((zI_eq ha9 hb9).mp h)) (fun h => kf (fun q => h ((zI_eq ha9 hb9).mpr q)))
theorem zr_if_eq (hx : p.tables.exec = Jvm.exec) (hb : c.code = cc) {a off : Int} {tgt : Nat} (ha9 : inI a) (hdg : decode cc pc = .ok (.ifCond .eq off, 3)) (ht : (pc : Int) + off = (tgt : Int)) (kt : a = 0 → W p l e R s m args below meth c H locs cells slots Q (F0 m tgt ls rest)) (kf : ¬ a = 0 → W p l e R s m args below meth c H locs cells slots Q (F0 m (pc + 3) ls rest)) : W p l e R s m args below meth c H locs cells slots Q (F0 m pc ls (.int (zI a) :: rest)) := by
  have hb9 := in0
  refine lv_if_eq hx hb hdg ht (fun h => kt ?_) (fun h => kf ?_) <;> rw [← zI_0] at h
  · exact (zI_eq ha9 hb9).mp h
  · exact fun q => h ((zI_eq ha9 hb9).mpr q)
theorem zr_lcmp_eq (hx : p.tables.exec = Jvm.exec) (hb : c.code = cc) {a b off : Int} {tgt : Nat} (ha9 : inL a) (hb9 : inL b) (hd0 : decode cc pc = .ok (.lcmp, 1)) (hdg : decode cc (pc + 1) = .ok (.ifCond .eq off, 3)) (ht : ((pc + 1 : Nat) : Int) + off = (tgt : Int)) (kt : a = b → W p l e R s m args below meth c H locs cells slots Q (F0 m tgt ls rest)) (kf : ¬ a = b → W p l e R s m args below meth c H locs cells slots Q (F0 m (pc + 1 + 3) ls rest)) : W p l e R s m args below meth c H locs cells slots Q (F0 m pc ls (.long (zL b) :: .long (zL a) :: rest)) := by
  exact W.lcmp hx hb hd0 (lv_if_eq hx hb hdg ht (fun h => kt ((zL_eq ha9 hb9).mp ((lg_cmp_eq _ _).mp h))) (fun h => kf (fun q => h ((lg_cmp_eq _ _).mpr ((zL_eq ha9 hb9).mpr q)))))
theorem zr_icmp_ne (hx : p.tables.exec = Jvm.exec) (hb : c.code = cc) {a b off : Int} {tgt : Nat} (ha9 : inI a) (hb9 : inI b) (hdg : decode cc pc = .ok (.if_icmp .ne off, 3)) (ht : (pc : Int) + off = (tgt : Int)) (kt : ¬ a = b → W p l e R s m args below meth c H locs cells slots Q (F0 m tgt ls rest)) (kf : a = b → W p l e R s m args below meth c H locs cells slots Q (F0 m (pc + 3) ls rest)) : W p l e R s m args below meth c H locs cells slots Q (F0 m pc ls (.int (zI b) :: .int (zI a) :: rest)) := by
  exact lv_icmp_ne hx hb hdg ht (fun h => kt (fun q => h ((zI_eq ha9 hb9).mpr q))) (fun h => kf ((zI_eq ha9 hb9).mp h))
theorem zr_if_ne (hx : p.tables.exec = Jvm.exec) (hb : c.code = cc) {a off : Int} {tgt : Nat} (ha9 : inI a) (hdg : decode cc pc = .ok (.ifCond .ne off, 3)) (ht : (pc : Int) + off = (tgt : Int)) (kt : ¬ a = 0 → W p l e R s m args below meth c H locs cells slots Q (F0 m tgt ls rest)) (kf : a = 0 → W p l e R s m args below meth c H locs cells slots Q (F0 m (pc + 3) ls rest)) : W p l e R s m args below meth c H locs cells slots Q (F0 m pc ls (.int (zI a) :: rest)) := by
  have hb9 := in0
  refine lv_if_ne hx hb hdg ht (fun h => kt ?_) (fun h => kf ?_) <;> rw [← zI_0] at h
  · exact fun q => h ((zI_eq ha9 hb9).mpr q)
  · exact (zI_eq ha9 hb9).mp h
theorem zr_lcmp_ne (hx : p.tables.exec = Jvm.exec) (hb : c.code = cc) {a b off : Int} {tgt : Nat} (ha9 : inL a) (hb9 : inL b) (hd0 : decode cc pc = .ok (.lcmp, 1)) (hdg : decode cc (pc + 1) = .ok (.ifCond .ne off, 3)) (ht : ((pc + 1 : Nat) : Int) + off = (tgt : Int)) (kt : ¬ a = b → W p l e R s m args below meth c H locs cells slots Q (F0 m tgt ls rest)) (kf : a = b → W p l e R s m args below meth c H locs cells slots Q (F0 m (pc + 1 + 3) ls rest)) : W p l e R s m args below meth c H locs cells slots Q (F0 m pc ls (.long (zL b) :: .long (zL a) :: rest)) := by
  exact W.lcmp hx hb hd0 (lv_if_ne hx hb hdg ht (fun h => kt (fun q => h ((lg_cmp_eq _ _).mpr ((zL_eq ha9 hb9).mpr q)))) (fun h => kf ((zL_eq ha9 hb9).mp ((lg_cmp_eq _ _).mp h))))
theorem zr_icmp_lt (hx : p.tables.exec = Jvm.exec) (hb : c.code = cc) {a b off : Int} {tgt : Nat} (ha9 : inI a) (hb9 : inI b) (hdg : decode cc pc = .ok (.if_icmp .lt off, 3)) (ht : (pc : Int) + off = (tgt : Int)) (kt : a < b → W p l e R s m args below meth c H locs cells slots Q (F0 m tgt ls rest)) (kf : b ≤ a → W p l e R s m args below meth c H locs cells slots Q (F0 m (pc + 3) ls rest)) : W p l e R s m args below meth c H locs cells slots Q (F0 m pc ls (.int (zI b) :: .int (zI a) :: rest)) := by
  exact lv_icmp_lt hx hb hdg ht (fun h => kt ((zI_lt ha9 hb9).mp h)) (fun h => kf (Int.not_lt.mp fun q => h ((zI_lt ha9 hb9).mpr q)))
theorem zr_if_lt (hx : p.tables.exec = Jvm.exec) (hb : c.code = cc) {a off : Int} {tgt : Nat} (ha9 : inI a) (hdg : decode cc pc = .ok (.ifCond .lt off, 3)) (ht : (pc : Int) + off = (tgt : Int)) (kt : a < 0 → W p l e R s m args below meth c H locs cells slots Q (F0 m tgt ls rest)) (kf : 0 ≤ a → W p l e R s m args below meth c H locs cells slots Q (F0 m (pc + 3) ls rest)) : W p l e R s m args below meth c H locs cells slots Q (F0 m pc ls (.int (zI a) :: rest)) := by
  have hb9 := in0
  refine lv_if_lt hx hb hdg ht (fun h => kt ?_) (fun h => kf ?_) <;> rw [← zI_0] at h
  · exact (zI_lt ha9 hb9).mp h
  · exact Int.not_lt.mp fun q => h ((zI_lt ha9 hb9).mpr q)
theorem zr_lcmp_lt (hx : p.tables.exec = Jvm.exec) (hb : c.code = cc) {a b off : Int} {tgt : Nat} (ha9 : inL a) (hb9 : inL b) (hd0 : decode cc pc = .ok (.lcmp, 1)) (hdg : decode cc (pc + 1) = .ok (.ifCond .lt off, 3)) (ht : ((pc + 1 : Nat) : Int) + off = (tgt : Int)) (kt : a < b → W p l e R s m args below meth c H locs cells slots Q (F0 m tgt ls rest)) (kf : b ≤ a → W p l e R s m args below meth c H locs cells slots Q (F0 m (pc + 1 + 3) ls rest)) : W p l e R s m args below meth c H locs cells slots Q (F0 m pc ls (.long (zL b) :: .long (zL a) :: rest)) := by
  exact W.lcmp hx hb hd0 (lv_if_lt hx hb hdg ht (fun h => kt ((zL_lt ha9 hb9).mp ((lg_cmp_lt _ _).mp h))) (fun h => kf (Int.not_lt.mp fun q => h ((lg_cmp_lt _ _).mpr ((zL_lt ha9 hb9).mpr q)))))
theorem zr_icmp_ge (hx : p.tables.exec = Jvm.exec) (hb : c.code = cc) {a b off : Int} {tgt : Nat} (ha9 : inI a) (hb9 : inI b) (hdg : decode cc pc = .ok (.if_icmp .ge off, 3)) (ht : (pc : Int) + off = (tgt : Int)) (kt : b ≤ a → W p l e R s m args below meth c H locs cells slots Q (F0 m tgt ls rest)) (kf : a < b → W p l e R s m args below meth c H locs cells slots Q (F0 m (pc + 3) ls rest)) : W p l e R s m args below meth c H locs cells slots Q (F0 m pc ls (.int (zI b) :: .int (zI a) :: rest)) := by
  exact lv_icmp_ge hx hb hdg ht (fun h => kt ((zI_le hb9 ha9).mp h)) (fun h => kf (Int.not_le.mp fun q => h ((zI_le hb9 ha9).mpr q)))
theorem zr_if_ge (hx : p.tables.exec = Jvm.exec) (hb : c.code = cc) {a off : Int} {tgt : Nat} (ha9 : inI a) (hdg : decode cc pc = .ok (.ifCond .ge off, 3)) (ht : (pc : Int) + off = (tgt : Int)) (kt : 0 ≤ a → W p l e R s m args below meth c H locs cells slots Q (F0 m tgt ls rest)) (kf : a < 0 → W p l e R s m args below meth c H locs cells slots Q (F0 m (pc + 3) ls rest)) : W p l e R s m args below meth c H locs cells slots Q (F0 m pc ls (.int (zI a) :: rest)) := by
  have hb9 := in0
  refine lv_if_ge hx hb hdg ht (fun h => kt ?_) (fun h => kf ?_) <;> rw [← zI_0] at h
  · exact (zI_le hb9 ha9).mp h
  · exact Int.not_le.mp fun q => h ((zI_le hb9 ha9).mpr q)
theorem zr_lcmp_ge (hx : p.tables.exec = Jvm.exec) (hb : c.code = cc) {a b off : Int} {tgt : Nat} (ha9 : inL a) (hb9 : inL b) (hd0 : decode cc pc = .ok (.lcmp, 1)) (hdg : decode cc (pc + 1) = .ok (.ifCond .ge off, 3)) (ht : ((pc + 1 : Nat) : Int) + off = (tgt : Int)) (kt : b ≤ a → W p l e R s m args below meth c H locs cells slots Q (F0 m tgt ls rest)) (kf : a < b → W p l e R s m args below meth c H locs cells slots Q (F0 m (pc + 1 + 3) ls rest)) : W p l e R s m args below meth c H locs cells slots Q (F0 m pc ls (.long (zL b) :: .long (zL a) :: rest)) := by
  exact W.lcmp hx hb hd0 (lv_if_ge hx hb hdg ht (fun h => kt ((zL_le hb9 ha9).mp ((lg_cmp_ge _ _).mp h))) (fun h => kf (Int.not_le.mp fun q => h ((lg_cmp_ge _ _).mpr ((zL_le hb9 ha9).mpr q)))))
theorem zr_icmp_gt (hx : p.tables.exec = Jvm.exec) (hb : c.code = cc) {a b off : Int} {tgt : Nat} (ha9 : inI a) (hb9 : inI b) (hdg : decode cc pc = .ok (.if_icmp .gt off, 3)) (ht : (pc : Int) + off = (tgt : Int)) (kt : b < a → W p l e R s m args below meth c H locs cells slots Q (F0 m tgt ls rest)) (kf : a ≤ b → W p l e R s m args below meth c H locs cells slots Q (F0 m (pc + 3) ls rest)) : W p l e R s m args below meth c H locs cells slots Q (F0 m pc ls (.int (zI b) :: .int (zI a) :: rest)) := by
  exact lv_icmp_gt hx hb hdg ht (fun h => kt ((zI_lt hb9 ha9).mp h)) (fun h => kf (Int.not_lt.mp fun q => h ((zI_lt hb9 ha9).mpr q)))
theorem zr_if_gt (hx : p.tables.exec = Jvm.exec) (hb : c.code = cc) {a off : Int} {tgt : Nat} (ha9 : inI a) (hdg : decode cc pc = .ok (.ifCond .gt off, 3)) (ht : (pc : Int) + off = (tgt : Int)) (kt : 0 < a → W p l e R s m args below meth c H locs cells slots Q (F0 m tgt ls rest)) (kf : a ≤ 0 → W p l e R s m args below meth c H locs cells slots Q (F0 m (pc + 3) ls rest)) : W p l e R s m args below meth c H locs cells slots Q (F0 m pc ls (.int (zI a) :: rest)) := by
  have hb9 := in0
  refine lv_if_gt hx hb hdg ht (fun h => kt ?_) (fun h => kf ?_) <;> rw [← zI_0] at h
  · exact (zI_lt hb9 ha9).mp h
  · exact Int.not_lt.mp fun q => h ((zI_lt hb9 ha9).mpr q)
theorem zr_lcmp_gt (hx : p.tables.exec = Jvm.exec) (hb : c.code = cc) {a b off : Int} {tgt : Nat} (ha9 : inL a) (hb9 : inL b) (hd0 : decode cc pc = .ok (.lcmp, 1)) (hdg : decode cc (pc + 1) = .ok (.ifCond .gt off, 3)) (ht : ((pc + 1 : Nat) : Int) + off = (tgt : Int)) (kt : b < a → W p l e R s m args below meth c H locs cells slots Q (F0 m tgt ls rest)) (kf : a ≤ b → W p l e R s m args below meth c H locs cells slots Q (F0 m (pc + 1 + 3) ls rest)) : W p l e R s m args below meth c H locs cells slots Q (F0 m pc ls (.long (zL b) :: .long (zL a) :: rest)) := by
  exact W.lcmp hx hb hd0 (lv_if_gt hx hb hdg ht (fun h => kt ((zL_lt hb9 ha9).mp ((lg_cmp_gt _ _).mp h))) (fun h => kf (Int.not_lt.mp fun q => h ((lg_cmp_gt _ _).mpr ((zL_lt hb9 ha9).mpr q)))))
theorem zr_icmp_le (hx : p.tables.exec = Jvm.exec) (hb : c.code = cc) {a b off : Int} {tgt : Nat} (ha9 : inI a) (hb9 : inI b) (hdg : decode cc pc = .ok (.if_icmp .le off, 3)) (ht : (pc : Int) + off = (tgt : Int)) (kt : a ≤ b → W p l e R s m args below meth c H locs cells slots Q (F0 m tgt ls rest)) (kf : b < a → W p l e R s m args below meth c H locs cells slots Q (F0 m (pc + 3) ls rest)) : W p l e R s m args below meth c H locs cells slots Q (F0 m pc ls (.int (zI b) :: .int (zI a) :: rest)) := by
  exact lv_icmp_le hx hb hdg ht (fun h => kt ((zI_le ha9 hb9).mp h)) (fun h => kf (Int.not_le.mp fun q => h ((zI_le ha9 hb9).mpr q)))
theorem zr_if_le (hx : p.tables.exec = Jvm.exec) (hb : c.code = cc) {a off : Int} {tgt : Nat} (ha9 : inI a) (hdg : decode cc pc = .ok (.ifCond .le off, 3)) (ht : (pc : Int) + off = (tgt : Int)) (kt : a ≤ 0 → W p l e R s m args below meth c H locs cells slots Q (F0 m tgt ls rest)) (kf : 0 < a → W p l e R s m args below meth c H locs cells slots Q (F0 m (pc + 3) ls rest)) : W p l e R s m args below meth c H locs cells slots Q (F0 m pc ls (.int (zI a) :: rest)) := by
  have hb9 := in0
  refine lv_if_le hx hb hdg ht (fun h => kt ?_) (fun h => kf ?_) <;> rw [← zI_0] at h
  · exact (zI_le ha9 hb9).mp h
  · exact Int.not_le.mp fun q => h ((zI_le ha9 hb9).mpr q)
theorem zr_lcmp_le (hx : p.tables.exec = Jvm.exec) (hb : c.code = cc) {a b off : Int} {tgt : Nat} (ha9 : inL a) (hb9 : inL b) (hd0 : decode cc pc = .ok (.lcmp, 1)) (hdg : decode cc (pc + 1) = .ok (.ifCond .le off, 3)) (ht : ((pc + 1 : Nat) : Int) + off = (tgt : Int)) (kt : a ≤ b → W p l e R s m args below meth c H locs cells slots Q (F0 m tgt ls rest)) (kf : b < a → W p l e R s m args below meth c H locs cells slots Q (F0 m (pc + 1 + 3) ls rest)) : W p l e R s m args below meth c H locs cells slots Q (F0 m pc ls (.long (zL b) :: .long (zL a) :: rest)) := by
  exact W.lcmp hx hb hd0 (lv_if_le hx hb hdg ht (fun h => kt ((zL_le ha9 hb9).mp ((lg_cmp_le _ _).mp h))) (fun h => kf (Int.not_le.mp fun q => h ((lg_cmp_le _ _).mpr ((zL_le ha9 hb9).mpr q)))))
end ZR
/-! one world: N cells at the addresses AD with the contents C -/
def wl (N : Nat) (AD : Int → Nat) (C : Int → va_E) : va_W := (List.range N).map (fun k : Nat => (AD (k : Int), C (k : Int)))
theorem wl_get {N : Nat} {AD : Int → Nat} {C : Int → va_E} {k : Int} (h0 : 0 ≤ k) (h : k < N) : (wl N AD C)[k.toNat]? = some (AD k, C k) := by
  unfold wl
  rw [List.getElem?_map, List.getElem?_range (by omega), Option.map_some, Int.toNat_of_nonneg h0]
theorem wl_at {N : Nat} {AD : Int → Nat} {C : Int → va_E} {i : Nat} {q : Nat × va_E} (h : (wl N AD C)[i]? = some q) : i < N ∧ q = (AD (i : Int), C (i : Int)) := by
  unfold wl at h
  rw [List.getElem?_map] at h
  by_cases hi : i < N
  · rw [List.getElem?_range hi] at h
    exact ⟨hi, (Option.some.inj h).symm⟩
  · rw [List.getElem?_eq_none (by rw [List.length_range]; omega)] at h
    cases h
theorem wl_of {N : Nat} {AD : Int → Nat} {C : Int → va_E} {i : Nat} (h : i < N) : (wl N AD C)[i]? = some (AD (i : Int), C (i : Int)) := by
  unfold wl
  rw [List.getElem?_map, List.getElem?_range h]
  rfl
theorem wl_set {N : Nat} {AD : Int → Nat} {C : Int → va_E} {k : Int} (h0 : 0 ≤ k) (e : va_E) : (wl N AD C).set k.toNat (AD k, e) = wl N AD (zup C k e) := by
  apply List.ext_getElem?
  intro i
  rw [List.getElem?_set]
  by_cases hN : i < N
  · rw [wl_of hN, wl_of hN]
    by_cases hi : k.toNat = i
    · subst hi
      have hl : k.toNat < (wl N AD C).length := by unfold wl; rw [List.length_map, List.length_range]; exact hN
      rw [if_pos rfl, if_pos hl, Int.toNat_of_nonneg h0, zup_s]
    · rw [if_neg hi, zup_n (by omega)]
  · have e1 : ∀ C' : Int → va_E, (wl N AD C')[i]? = none := fun C' => List.getElem?_eq_none (by unfold wl; rw [List.length_map, List.length_range]; omega)
    rw [e1, e1]
    by_cases hi : k.toNat = i
    · have hl : ¬ i < (wl N AD C).length := by unfold wl; rw [List.length_map, List.length_range]; exact hN
      rw [if_pos hi, hi, if_neg hl]
    · rw [if_neg hi]
theorem wl_push {N : Nat} {AD : Int → Nat} {C : Int → va_E} {q : Nat} {e : va_E} : wl N AD C ++ [(q, e)] = wl (N + 1) (zup AD (N : Int) q) (zup C (N : Int) e) := by
  unfold wl
  rw [List.range_succ, List.map_append]
  congr 1
  · apply List.map_congr_left
    intro i hi
    have := List.mem_range.mp hi
    rw [zup_n (by omega), zup_n (by omega)]
  · rw [List.map_singleton, zup_s, zup_s]
/-- the world stands, its cells apart and in A; outside A nothing has changed since H0 -/
def WD (D : va_G) (cl : List vw_C) (A : Nat → Prop) (H0 H : Heap) (locs : List Loc) (N : Nat) (AD : Int → Nat) (C : Int → va_E) : Prop := va_P D cl (wl N AD C) H ∧ va_D A (wl N AD C) ∧ va_S A H0 H locs
/-- an array of ints, by whole numbers -/
abbrev aI (cA : ClassId) (n : Nat) (f : Int → Int) : va_E := .inl (cA, n, .inl (fun j : Nat => zI (f (j : Int))))
abbrev aL (cA : ClassId) (n : Nat) (f : Int → Int) : va_E := .inl (cA, n, .inr (.inl (fun j : Nat => zL (f (j : Int)))))
abbrev aQ (cA : ClassId) (n : Nat) (f : Int → Option Nat) : va_E := .inl (cA, n, .inr (.inr (.inr (.inr (fun j : Nat => f (j : Int))))))
theorem aI_up {cA : ClassId} {n : Nat} {f : Int → Int} {z v : Int} (h0 : 0 ≤ z) : (.inl (cA, n, .inl (upd (fun j : Nat => zI (f (j : Int))) z.toNat (zI v))) : va_E) = aI cA n (zup f z v) := by
  unfold aI
  congr 4
  funext j
  unfold upd zup
  by_cases h : j = z.toNat
  · subst h; rw [if_pos rfl, Int.toNat_of_nonneg h0, if_pos rfl]
  · rw [if_neg h, if_neg (by omega)]
theorem aL_up {cA : ClassId} {n : Nat} {f : Int → Int} {z v : Int} (h0 : 0 ≤ z) : (.inl (cA, n, .inr (.inl (vp_updL (fun j : Nat => zL (f (j : Int))) z.toNat (zL v)))) : va_E) = aL cA n (zup f z v) := by
  unfold aL
  congr 5
  funext j
  unfold vp_updL zup
  by_cases h : j = z.toNat
  · subst h; rw [if_pos rfl, Int.toNat_of_nonneg h0, if_pos rfl]
  · rw [if_neg h, if_neg (by omega)]
theorem aQ_up {cA : ClassId} {n : Nat} {f : Int → Option Nat} {z : Int} {v : Option Nat} (h0 : 0 ≤ z) : (.inl (cA, n, .inr (.inr (.inr (.inr (va_up (fun j : Nat => f (j : Int)) z.toNat v))))) : va_E) = aQ cA n (zup f z v) := by
  unfold aQ
  congr 8
  funext j
  unfold va_up zup
  by_cases h : j = z.toNat
  · subst h; rw [if_pos rfl, Int.toNat_of_nonneg h0, if_pos rfl]
  · rw [if_neg h, if_neg (by omega)]
section ZW
variable {p : Program} {l : Launch} {e : Env} {R : Room} {s : State} {m : MethodId} {args : Array Value} {below : List Frame} {meth : Method} {c : Code} {H : Heap} {locs : List Loc} {cells slots : Nat} {Q : State → Prop} {cc : ByteArray} {pc : Nat} {ls : Array Slot} {rest : List Value}
variable {D : va_G} {cl : List vw_C} {tys : List (ClassId × FieldType)} {A : Nat → Prop} {N : Nat} {AD : Int → Nat} {C : Int → va_E} {H0 : Heap}
theorem zr_get (hx : p.tables.exec = Jvm.exec) (hb : c.code = cc) {own ref Cn : String} {T : u_T} {n ci index : Nat} {Ts : List Cond} (hts : ∀ w ∈ Ts, w.before args s = true) (hin : ∀ w ∈ u_ws Cn T n, w ∈ Ts) (hown : s.vm.findClass own = some m.cls) (hK : va_K D cl tys s) (hw : WD D cl A H0 H locs N AD C) (k : Int) (hk : 0 ≤ k ∧ k < N) {fs : List Value} (hC : C k = .inr (ci, fs)) (hc : cl[ci]? = some (Cn, T, n)) (f : Nat) (hf : f < n) (hlink : (Cond.fieldLink own index ref (T f).2.1 (T f).2.2.1).before args s = true) (hsame : ∀ x, s.fieldFound? (T f).1 (T f).2.1 (T f).2.2.1 = some x → s.fieldFound? ref (T f).2.1 (T f).2.2.1 = some x) {v : Value} (hv : fs[f]? = some v) (hdg : decode cc pc = .ok (.getfield index, 3)) (kk : W p l e R s m args below meth c H locs cells slots Q (F0 m (pc + 3) ls (v :: rest))) : W p l e R s m args below meth c H locs cells slots Q (F0 m pc ls (.ref (AD k) :: rest)) :=
  va_get hx hb hts hin hown hK hw.1 k.toNat (by rw [wl_get hk.1 hk.2, hC]) hc f hf hlink hsame hv hdg kk
theorem zr_put (hx : p.tables.exec = Jvm.exec) (hb : c.code = cc) {own ref Cn : String} {T : u_T} {n ci index : Nat} {Ts : List Cond} (hts : ∀ w ∈ Ts, w.before args s = true) (hin : ∀ w ∈ u_ws Cn T n, w ∈ Ts) (ty0 : Nat → FieldType) (hty : ∀ k, k < n → parseFieldDescriptor (T k).2.2.1 = some (ty0 k)) (hnm : ∀ a, a < n → ∀ b, b < n → a ≠ b → (T a).2.1 ≠ (T b).2.1) (hown : s.vm.findClass own = some m.cls) (hK : va_K D cl tys s) (hw : WD D cl A H0 H locs N AD C) (k : Int) (hk : 0 ≤ k ∧ k < N) {fs : List Value} (hC : C k = .inr (ci, fs)) (hc : cl[ci]? = some (Cn, T, n)) (f : Nat) (hf : f < n) (hlink : (Cond.fieldLink own index ref (T f).2.1 (T f).2.2.1).before args s = true) (hsame : ∀ x, s.fieldFound? (T f).1 (T f).2.1 (T f).2.2.1 = some x → s.fieldFound? ref (T f).2.1 (T f).2.2.1 = some x) (hfin : (T f).2.2.2 = false) {ty : FieldType} {v : Value} (hd : parseFieldDescriptor (T f).2.2.1 = some ty) (hn : narrow ty v = v) (hfit : fits ty v = true) (hl : f < fs.length) (hdg : decode cc pc = .ok (.putfield index, 3)) (kk : ∀ (H1 : Heap) (locs1 : List Loc), WD D cl A H0 H1 locs1 N AD (zup C k (.inr (ci, fs.set f v))) → W p l e R s m args below meth c H1 locs1 cells slots Q (F0 m (pc + 3) ls rest)) : W p l e R s m args below meth c H locs cells slots Q (F0 m pc ls (v :: .ref (AD k) :: rest)) :=
  va_put hx hb hts hin ty0 hty hnm hown hK hw.1 hw.2.1 hw.2.2 k.toNat (by rw [wl_get hk.1 hk.2, hC]) hc f hf hlink hsame hfin hd hn hfit hl hdg (fun H1 locs1 h1 h2 h3 => kk H1 locs1 ⟨by rw [← wl_set hk.1]; exact h1, by rw [← wl_set hk.1]; exact h2, h3⟩)
theorem zr_putF (hx : p.tables.exec = Jvm.exec) (hb : c.code = cc) {own ref Cn : String} {T : u_T} {n ci index : Nat} {Ts : List Cond} (hts : ∀ w ∈ Ts, w.before args s = true) (hin : ∀ w ∈ u_ws Cn T n, w ∈ Ts) (ty0 : Nat → FieldType) (hty : ∀ k, k < n → parseFieldDescriptor (T k).2.2.1 = some (ty0 k)) (hnm : ∀ a, a < n → ∀ b, b < n → a ≠ b → (T a).2.1 ≠ (T b).2.1) (hown : s.vm.findClass own = some m.cls) (hK : va_K D cl tys s) (hw : WD D cl A H0 H locs N AD C) (k : Int) (hk : 0 ≤ k ∧ k < N) {fs : List Value} (hC : C k = .inr (ci, fs)) (hc : cl[ci]? = some (Cn, T, n)) (f : Nat) (hf : f < n) (hlink : (Cond.fieldLink own index ref (T f).2.1 (T f).2.2.1).before args s = true) (hsame : ∀ x, s.fieldFound? (T f).1 (T f).2.1 (T f).2.2.1 = some x → s.fieldFound? ref (T f).2.1 (T f).2.2.1 = some x) (hfin : (T f).2.2.2 = true) (hin2 : meth.name = "<init>") (hdecl : (T f).1 = own) {ty : FieldType} {v : Value} (hd : parseFieldDescriptor (T f).2.2.1 = some ty) (hn : narrow ty v = v) (hfit : fits ty v = true) (hl : f < fs.length) (hdg : decode cc pc = .ok (.putfield index, 3)) (kk : ∀ (H1 : Heap) (locs1 : List Loc), WD D cl A H0 H1 locs1 N AD (zup C k (.inr (ci, fs.set f v))) → W p l e R s m args below meth c H1 locs1 cells slots Q (F0 m (pc + 3) ls rest)) : W p l e R s m args below meth c H locs cells slots Q (F0 m pc ls (v :: .ref (AD k) :: rest)) :=
  va_putF hx hb hts hin ty0 hty hnm hown hK hw.1 hw.2.1 hw.2.2 k.toNat (by rw [wl_get hk.1 hk.2, hC]) hc f hf hlink hsame hfin hin2 hdecl hd hn hfit hl hdg (fun H1 locs1 h1 h2 h3 => kk H1 locs1 ⟨by rw [← wl_set hk.1]; exact h1, by rw [← wl_set hk.1]; exact h2, h3⟩)
theorem zr_iald (hx : p.tables.exec = Jvm.exec) (hb : c.code = cc) (hK : va_K D cl tys s) (hw : WD D cl A H0 H locs N AD C) (k : Int) (hk : 0 ≤ k ∧ k < N) (t0 : Nat) {cA : ClassId} {n : Nat} {f : Int → Int} (hC : C k = aI cA n f) (ht : tys[t0]? = some (cA, .int)) {z : Int} (hz : 0 ≤ z ∧ z < n) (hn : n < 2147483648) (hdg : decode cc pc = .ok (.iaload, 1)) (kk : W p l e R s m args below meth c H locs cells slots Q (F0 m (pc + 1) ls (.int (zI (f z)) :: rest))) : W p l e R s m args below meth c H locs cells slots Q (F0 m pc ls (.int (zI z) :: .ref (AD k) :: rest)) := by
  refine va_iald hx hb hK hw.1 k.toNat t0 (by rw [wl_get hk.1 hk.2, hC]) ht (zI_in hz.1 hz.2 hn) hdg ?_
  rw [zI_cl hz.1 (by omega), Int.toNat_of_nonneg hz.1]
  exact kk
theorem zr_zald (hx : p.tables.exec = Jvm.exec) (hb : c.code = cc) (hK : va_K D cl tys s) (hw : WD D cl A H0 H locs N AD C) (k : Int) (hk : 0 ≤ k ∧ k < N) (t0 : Nat) {cA : ClassId} {n : Nat} {f : Int → Int} (hC : C k = aI cA n f) (ht : tys[t0]? = some (cA, .boolean)) {z : Int} (hz : 0 ≤ z ∧ z < n) (hn : n < 2147483648) (hdg : decode cc pc = .ok (.baload, 1)) (kk : W p l e R s m args below meth c H locs cells slots Q (F0 m (pc + 1) ls (.int (zI (f z)) :: rest))) : W p l e R s m args below meth c H locs cells slots Q (F0 m pc ls (.int (zI z) :: .ref (AD k) :: rest)) := by
  refine va_zald hx hb hK hw.1 k.toNat t0 (by rw [wl_get hk.1 hk.2, hC]) ht (zI_in hz.1 hz.2 hn) hdg ?_
  rw [zI_cl hz.1 (by omega), Int.toNat_of_nonneg hz.1]
  exact kk
theorem zr_bald (hx : p.tables.exec = Jvm.exec) (hb : c.code = cc) (hK : va_K D cl tys s) (hw : WD D cl A H0 H locs N AD C) (k : Int) (hk : 0 ≤ k ∧ k < N) (t0 : Nat) {cA : ClassId} {n : Nat} {f : Int → Int} (hC : C k = aI cA n f) (ht : tys[t0]? = some (cA, .byte)) {z : Int} (hz : 0 ≤ z ∧ z < n) (hn : n < 2147483648) (hdg : decode cc pc = .ok (.baload, 1)) (kk : W p l e R s m args below meth c H locs cells slots Q (F0 m (pc + 1) ls (.int (zI (f z)) :: rest))) : W p l e R s m args below meth c H locs cells slots Q (F0 m pc ls (.int (zI z) :: .ref (AD k) :: rest)) := by
  refine va_bald hx hb hK hw.1 k.toNat t0 (by rw [wl_get hk.1 hk.2, hC]) ht (zI_in hz.1 hz.2 hn) hdg ?_
  rw [zI_cl hz.1 (by omega), Int.toNat_of_nonneg hz.1]
  exact kk
theorem zr_lald (hx : p.tables.exec = Jvm.exec) (hb : c.code = cc) (hK : va_K D cl tys s) (hw : WD D cl A H0 H locs N AD C) (k : Int) (hk : 0 ≤ k ∧ k < N) (t0 : Nat) {cA : ClassId} {n : Nat} {f : Int → Int} (hC : C k = aL cA n f) (ht : tys[t0]? = some (cA, .long)) {z : Int} (hz : 0 ≤ z ∧ z < n) (hn : n < 2147483648) (hdg : decode cc pc = .ok (.laload, 1)) (kk : W p l e R s m args below meth c H locs cells slots Q (F0 m (pc + 1) ls (.long (zL (f z)) :: rest))) : W p l e R s m args below meth c H locs cells slots Q (F0 m pc ls (.int (zI z) :: .ref (AD k) :: rest)) := by
  refine va_lald hx hb hK hw.1 k.toNat t0 (by rw [wl_get hk.1 hk.2, hC]) ht (zI_in hz.1 hz.2 hn) hdg ?_
  rw [zI_cl hz.1 (by omega), Int.toNat_of_nonneg hz.1]
  exact kk
theorem zr_aldq (hx : p.tables.exec = Jvm.exec) (hb : c.code = cc) (hK : va_K D cl tys s) (hw : WD D cl A H0 H locs N AD C) (k : Int) (hk : 0 ≤ k ∧ k < N) (t0 : Nat) {cA : ClassId} {Cn : String} {n : Nat} {f : Int → Option Nat} (hC : C k = aQ cA n f) (ht : tys[t0]? = some (cA, .object Cn)) {z : Int} (hz : 0 ≤ z ∧ z < n) (hn : n < 2147483648) {v : Nat} (hv : f z = some v) (hdg : decode cc pc = .ok (.aaload, 1)) (kk : W p l e R s m args below meth c H locs cells slots Q (F0 m (pc + 1) ls (.ref v :: rest))) : W p l e R s m args below meth c H locs cells slots Q (F0 m pc ls (.int (zI z) :: .ref (AD k) :: rest)) := by
  refine va_aldq hx hb hK hw.1 k.toNat t0 (by rw [wl_get hk.1 hk.2, hC]) ht (zI_in hz.1 hz.2 hn) hdg ?_
  rw [zI_cl hz.1 (by omega), Int.toNat_of_nonneg hz.1, hv]
  exact kk
theorem zr_iast (hx : p.tables.exec = Jvm.exec) (hb : c.code = cc) (hK : va_K D cl tys s) (hw : WD D cl A H0 H locs N AD C) (k : Int) (hk : 0 ≤ k ∧ k < N) (t0 : Nat) {cA : ClassId} {n : Nat} {f : Int → Int} (hC : C k = aI cA n f) (ht : tys[t0]? = some (cA, .int)) {z v : Int} (hz : 0 ≤ z ∧ z < n) (hn : n < 2147483648) (hdg : decode cc pc = .ok (.iastore, 1)) (kk : ∀ (H1 : Heap) (locs1 : List Loc), WD D cl A H0 H1 locs1 N AD (zup C k (aI cA n (zup f z v))) → W p l e R s m args below meth c H1 locs1 cells slots Q (F0 m (pc + 1) ls rest)) : W p l e R s m args below meth c H locs cells slots Q (F0 m pc ls (.int (zI v) :: .int (zI z) :: .ref (AD k) :: rest)) := by
  refine va_iast hx hb hK hw.1 hw.2.1 hw.2.2 k.toNat t0 (by rw [wl_get hk.1 hk.2, hC]) ht (zI_in hz.1 hz.2 hn) hdg (fun H1 locs1 h1 h2 h3 => kk H1 locs1 ?_)
  rw [zI_cl hz.1 (by omega), aI_up hz.1, wl_set hk.1] at h1 h2
  exact ⟨h1, h2, h3⟩
theorem zr_zast (hx : p.tables.exec = Jvm.exec) (hb : c.code = cc) (hK : va_K D cl tys s) (hw : WD D cl A H0 H locs N AD C) (k : Int) (hk : 0 ≤ k ∧ k < N) (t0 : Nat) {cA : ClassId} {n : Nat} {f : Int → Int} (hC : C k = aI cA n f) (ht : tys[t0]? = some (cA, .boolean)) {z v : Int} (hz : 0 ≤ z ∧ z < n) (hn : n < 2147483648) (hv : v = 0 ∨ v = 1) (hdg : decode cc pc = .ok (.bastore, 1)) (kk : ∀ (H1 : Heap) (locs1 : List Loc), WD D cl A H0 H1 locs1 N AD (zup C k (aI cA n (zup f z v))) → W p l e R s m args below meth c H1 locs1 cells slots Q (F0 m (pc + 1) ls rest)) : W p l e R s m args below meth c H locs cells slots Q (F0 m pc ls (.int (zI v) :: .int (zI z) :: .ref (AD k) :: rest)) := by
  have hv9 : vp_nar .boolean (zI v) = zI v := by rcases hv with rfl | rfl <;> decide +kernel
  refine va_zast hx hb hK hw.1 hw.2.1 hw.2.2 k.toNat t0 (by rw [wl_get hk.1 hk.2, hC]) ht (zI_in hz.1 hz.2 hn) hdg (fun H1 locs1 h1 h2 h3 => kk H1 locs1 ?_)
  rw [hv9, zI_cl hz.1 (by omega), aI_up hz.1, wl_set hk.1] at h1 h2
  exact ⟨h1, h2, h3⟩
theorem zr_last (hx : p.tables.exec = Jvm.exec) (hb : c.code = cc) (hK : va_K D cl tys s) (hw : WD D cl A H0 H locs N AD C) (k : Int) (hk : 0 ≤ k ∧ k < N) (t0 : Nat) {cA : ClassId} {n : Nat} {f : Int → Int} (hC : C k = aL cA n f) (ht : tys[t0]? = some (cA, .long)) {z v : Int} (hz : 0 ≤ z ∧ z < n) (hn : n < 2147483648) (hdg : decode cc pc = .ok (.lastore, 1)) (kk : ∀ (H1 : Heap) (locs1 : List Loc), WD D cl A H0 H1 locs1 N AD (zup C k (aL cA n (zup f z v))) → W p l e R s m args below meth c H1 locs1 cells slots Q (F0 m (pc + 1) ls rest)) : W p l e R s m args below meth c H locs cells slots Q (F0 m pc ls (.long (zL v) :: .int (zI z) :: .ref (AD k) :: rest)) := by
  refine va_last hx hb hK hw.1 hw.2.1 hw.2.2 k.toNat t0 (by rw [wl_get hk.1 hk.2, hC]) ht (zI_in hz.1 hz.2 hn) hdg (fun H1 locs1 h1 h2 h3 => kk H1 locs1 ?_)
  rw [zI_cl hz.1 (by omega), aL_up hz.1, wl_set hk.1] at h1 h2
  exact ⟨h1, h2, h3⟩
theorem zr_astq (hx : p.tables.exec = Jvm.exec) (hb : c.code = cc) (hK : va_K D cl tys s) (hw : WD D cl A H0 H locs N AD C) (k : Int) (hk : 0 ≤ k ∧ k < N) (t0 : Nat) (kv : Int) (hkv : 0 ≤ kv ∧ kv < N) (ci : Nat) {cA : ClassId} {r : vw_C} {n : Nat} {vs : List Value} {f : Int → Option Nat} (hC : C k = aQ cA n f) (ht : tys[t0]? = some (cA, .object r.1)) (hv : C kv = .inr (ci, vs)) (hc : cl[ci]? = some r) {z : Int} (hz : 0 ≤ z ∧ z < n) (hn : n < 2147483648) (hdg : decode cc pc = .ok (.aastore, 1)) (kk : ∀ (H1 : Heap) (locs1 : List Loc), WD D cl A H0 H1 locs1 N AD (zup C k (aQ cA n (zup f z (some (AD kv))))) → W p l e R s m args below meth c H1 locs1 cells slots Q (F0 m (pc + 1) ls rest)) : W p l e R s m args below meth c H locs cells slots Q (F0 m pc ls (.ref (AD kv) :: .int (zI z) :: .ref (AD k) :: rest)) := by
  refine va_astq hx hb hK hw.1 hw.2.1 hw.2.2 k.toNat t0 kv.toNat ci (by rw [wl_get hk.1 hk.2, hC]) ht (by rw [wl_get hkv.1 hkv.2, hv]) hc (zI_in hz.1 hz.2 hn) hdg (fun H1 locs1 h1 h2 h3 => kk H1 locs1 ?_)
  rw [zI_cl hz.1 (by omega), aQ_up hz.1, wl_set hk.1] at h1 h2
  exact ⟨h1, h2, h3⟩
theorem zr_alen (hx : p.tables.exec = Jvm.exec) (hb : c.code = cc) (hK : va_K D cl tys s) (hw : WD D cl A H0 H locs N AD C) (k : Int) (hk : 0 ≤ k ∧ k < N) (t0 : Nat) {cA : ClassId} {x : vp_A} {ty : FieldType} (hC : C k = .inl (cA, x)) (ht : tys[t0]? = some (cA, ty)) (hdg : decode cc pc = .ok (.arraylength, 1)) (kk : W p l e R s m args below meth c H locs cells slots Q (F0 m (pc + 1) ls (.int (zI (x.1 : Int)) :: rest))) : W p l e R s m args below meth c H locs cells slots Q (F0 m pc ls (.ref (AD k) :: rest)) :=
  va_alen hx hb hK hw.1 k.toNat t0 (by rw [wl_get hk.1 hk.2, hC]) ht (v := zI (x.1 : Int)) (Int32.ofInt_eq_ofNat).symm hdg kk
end ZW
