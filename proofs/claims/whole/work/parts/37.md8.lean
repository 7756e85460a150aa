/-- a bit of a mask -/
def bt (al j : Int) : Int := al / p2 j % 2
theorem bt_all : ∀ al : Fin 256, ∀ j : Fin 8, ((zI ((al.val : Nat) : Int) >>> (zI ((j.val : Nat) : Int) &&& 31)) &&& zI 1 = zI (bt ((al.val : Nat) : Int) ((j.val : Nat) : Int))) ∧ (bt ((al.val : Nat) : Int) ((j.val : Nat) : Int) = 0 → (zI ((al.val : Nat) : Int) ||| (zI 1 <<< (zI ((j.val : Nat) : Int) &&& 31)) = zI (((al.val : Nat) : Int) + p2 ((j.val : Nat) : Int))) ∧ ((al.val : Nat) : Int) + p2 ((j.val : Nat) : Int) < 256) := by decide +kernel
theorem bt_set : ∀ al : Fin 256, ∀ b : Fin 8, bt ((al.val : Nat) : Int) ((b.val : Nat) : Int) = 0 → ∀ j : Fin 8, bt (((al.val : Nat) : Int) + p2 ((b.val : Nat) : Int)) ((j.val : Nat) : Int) = if j = b then 1 else bt ((al.val : Nat) : Int) ((j.val : Nat) : Int) := by decide +kernel
theorem bt_one : ∀ s : Fin 8, (zI 1 <<< (zI ((s.val : Nat) : Int) &&& 31) = zI (p2 ((s.val : Nat) : Int))) ∧ p2 ((s.val : Nat) : Int) < 256 ∧ 0 ≤ p2 ((s.val : Nat) : Int) ∧ ∀ j : Fin 8, bt (p2 ((s.val : Nat) : Int)) ((j.val : Nat) : Int) = if j = s then 1 else 0 := by decide +kernel
theorem bt_in (al j : Int) : bt al j = 0 ∨ bt al j = 1 := by unfold bt; omega
theorem fin_e {z : Int} {n : Nat} (h : 0 ≤ z ∧ z < (n : Int)) : ∃ q : Fin n, ((q.val : Nat) : Int) = z := ⟨⟨z.toNat, by omega⟩, by show ((z.toNat : Nat) : Int) = z; omega⟩
theorem bt_r {al j : Int} (h1 : 0 ≤ al ∧ al < 256) (h2 : 0 ≤ j ∧ j < 8) : (zI al >>> (zI j &&& 31)) &&& zI 1 = zI (bt al j) := by
  obtain ⟨a, ha⟩ := fin_e (n := 256) h1
  obtain ⟨b, hb⟩ := fin_e (n := 8) h2
  have := (bt_all a b).1
  rw [ha, hb] at this
  exact this
theorem bt_o {al j : Int} (h1 : 0 ≤ al ∧ al < 256) (h2 : 0 ≤ j ∧ j < 8) (h : bt al j = 0) : zI al ||| (zI 1 <<< (zI j &&& 31)) = zI (al + p2 j) ∧ al + p2 j < 256 := by
  obtain ⟨a, ha⟩ := fin_e (n := 256) h1
  obtain ⟨b, hb⟩ := fin_e (n := 8) h2
  have := (bt_all a b).2
  rw [ha, hb] at this
  exact this h
theorem bt_s {al b j : Int} (h1 : 0 ≤ al ∧ al < 256) (h2 : 0 ≤ b ∧ b < 8) (h : bt al b = 0) (h3 : 0 ≤ j ∧ j < 8) : bt (al + p2 b) j = if j = b then 1 else bt al j := by
  obtain ⟨a, ha⟩ := fin_e (n := 256) h1
  obtain ⟨b', hb⟩ := fin_e (n := 8) h2
  obtain ⟨j', hj⟩ := fin_e (n := 8) h3
  have := bt_set a b' (by rw [ha, hb]; exact h) j'
  rw [ha, hb, hj] at this
  rw [this]
  by_cases e : j = b
  · rw [if_pos e, if_pos (Fin.ext (by omega))]
  · rw [if_neg e, if_neg (fun q => e (by rw [← hj, ← hb, q]))]
theorem bt_1 {s j : Int} (h2 : 0 ≤ s ∧ s < 8) (h3 : 0 ≤ j ∧ j < 8) : bt (p2 s) j = if j = s then 1 else 0 := by
  obtain ⟨b', hb⟩ := fin_e (n := 8) h2
  obtain ⟨j', hj⟩ := fin_e (n := 8) h3
  have := (bt_one b').2.2.2 j'
  rw [hb, hj] at this
  rw [this]
  by_cases e : j = s
  · rw [if_pos e, if_pos (Fin.ext (by omega))]
  · rw [if_neg e, if_neg (fun q => e (by rw [← hj, ← hb, q]))]
theorem bt_1i {s : Int} (h2 : 0 ≤ s ∧ s < 8) : zI 1 <<< (zI s &&& 31) = zI (p2 s) ∧ 0 ≤ p2 s ∧ p2 s < 256 := by
  obtain ⟨b', hb⟩ := fin_e (n := 8) h2
  have := bt_one b'
  rw [hb] at this
  exact ⟨this.1, this.2.2.1, this.2.1⟩
section ZG
variable {p : Program} {l : Launch} {e : Env} {R : Room} {s : State} {m : MethodId} {args : Array Value} {below : List Frame} {meth : Method} {c : Code} {H : Heap} {locs : List Loc} {cells slots : Nat} {Q : State → Prop} {cc : ByteArray} {pc : Nat} {ls : Array Slot} {rest : List Value}
theorem zr_bit (hx : p.tables.exec = Jvm.exec) (hb : c.code = cc) {al j : Int} (h1 : 0 ≤ al ∧ al < 256) (h2 : 0 ≤ j ∧ j < 8) (hd0 : decode cc pc = .ok (.ishr, 1)) (hd1 : decode cc (pc + 1) = .ok (.iconst 1, 1)) (hd2 : decode cc (pc + 1 + 1) = .ok (.iand, 1)) (k : W p l e R s m args below meth c H locs cells slots Q (F0 m (pc + 1 + 1 + 1) ls (.int (zI (bt al j)) :: rest))) : W p l e R s m args below meth c H locs cells slots Q (F0 m pc ls (.int (zI j) :: .int (zI al) :: rest)) :=
  lv_ishr hx hb hd0 (zr_iconst hx hb hd1 (lv_iand hx hb hd2 (by rw [bt_r h1 h2]; exact k)))
theorem zr_set (hx : p.tables.exec = Jvm.exec) (hb : c.code = cc) {al j : Int} (h1 : 0 ≤ al ∧ al < 256) (h2 : 0 ≤ j ∧ j < 8) (h3 : bt al j = 0) (hd0 : decode cc pc = .ok (.ishl, 1)) (hd1 : decode cc (pc + 1) = .ok (.ior, 1)) (k : W p l e R s m args below meth c H locs cells slots Q (F0 m (pc + 1 + 1) ls (.int (zI (al + p2 j)) :: rest))) : W p l e R s m args below meth c H locs cells slots Q (F0 m pc ls (.int (zI j) :: .int (zI 1) :: .int (zI al) :: rest)) :=
  lv_ishl hx hb hd0 (lv_ior hx hb hd1 (by rw [(bt_o h1 h2 h3).1]; exact k))
theorem zr_one (hx : p.tables.exec = Jvm.exec) (hb : c.code = cc) {j : Int} (h2 : 0 ≤ j ∧ j < 8) (hd0 : decode cc pc = .ok (.ishl, 1)) (k : W p l e R s m args below meth c H locs cells slots Q (F0 m (pc + 1) ls (.int (zI (p2 j)) :: rest))) : W p l e R s m args below meth c H locs cells slots Q (F0 m pc ls (.int (zI j) :: .int (zI 1) :: rest)) :=
  lv_ishl hx hb hd0 (by rw [(bt_1i h2).1]; exact k)
end ZG
def CL (J : Int → Int → Prop) (kc al : Int) : Prop := ∀ i j : Int, 0 ≤ i → i < kc → 0 ≤ j → j < kc → bt al i = 1 → J i j → bt al j = 1
/-- a mask grown from another -/
def GI (J : Int → Int → Prop) (kc s a0 al : Int) : Prop := (0 ≤ al ∧ al < 256) ∧ (∀ j : Int, 0 ≤ j → j < 8 → bt a0 j = 1 → bt al j = 1) ∧ (∀ i : Int, 0 ≤ i → i < kc → bt al i = 1 → Rch J kc s i) ∧ (al = a0 ∨ sumR (bt a0) 0 kc.toNat + 1 ≤ sumR (bt al) 0 kc.toNat) ∧ (CL J kc a0 → al = a0)
def GQ (J : Int → Int → Prop) (kc a0 al x y : Int) : Prop := ∀ i j : Int, 0 ≤ i → 0 ≤ j → j < kc → (i < x ∨ (i = x ∧ j < y)) → bt a0 i = 1 → J i j → bt al j = 1
theorem sumR_cg {f g : Int → Int} : ∀ m : Nat, (∀ j : Int, 0 ≤ j → j < (m : Int) → f j = g j) → sumR f 0 m = sumR g 0 m := by
  intro m
  induction m with
  | zero => intro _; rfl
  | succ m ih =>
    intro h
    have e1 : sumR f 0 (m + 1) = sumR f 0 m + f (0 + (m : Int)) := rfl
    have e2 : sumR g 0 (m + 1) = sumR g 0 m + g (0 + (m : Int)) := rfl
    rw [e1, e2, ih (fun j a b => h j a (by omega)), h _ (by omega) (by omega)]
theorem bt_sum {kc al y : Int} (hk : kc ≤ 8) (h1 : 0 ≤ al ∧ al < 256) (hy : 0 ≤ y ∧ y < kc) (h : bt al y = 0) : sumR (bt (al + p2 y)) 0 kc.toNat = sumR (bt al) 0 kc.toNat + 1 := by
  have e := sumR_cg (f := bt (al + p2 y)) (g := zup (bt al) y 1) kc.toNat (fun j a b => by
    rw [bt_s h1 (by omega) h (by omega)]
    unfold zup
    rfl)
  rw [e, sumR_z hy.1 h, if_pos (by omega)]
theorem GI_set {J : Int → Int → Prop} {kc s a0 al x y : Int} (hk : kc ≤ 8) (h : GI J kc s a0 al) (hx : 0 ≤ x ∧ x < kc) (hy : 0 ≤ y ∧ y < kc) (b1 : bt al x = 1) (b2 : bt al y = 0) (hJ : J x y) : GI J kc s a0 (al + p2 y) ∧ ∀ j : Int, 0 ≤ j → j < 8 → bt al j = 1 → bt (al + p2 y) j = 1 := by
  obtain ⟨h1, h2, h3, h4, h5⟩ := h
  have hS : ∀ j : Int, 0 ≤ j → j < 8 → bt (al + p2 y) j = if j = y then 1 else bt al j := fun j a b => bt_s h1 (by omega) b2 ⟨a, b⟩
  have hm : ∀ j : Int, 0 ≤ j → j < 8 → bt al j = 1 → bt (al + p2 y) j = 1 := fun j a b q => by rw [hS j a b]; split; rfl; exact q
  have hp := bt_1i (s := y) (by omega)
  have ho := bt_o h1 (by omega) b2
  refine ⟨⟨by omega, fun j a b q => hm j a b (h2 j a b q), fun i a b q => ?_, Or.inr ?_, fun hc => ?_⟩, hm⟩
  · rw [hS i a (by omega)] at q
    by_cases e : i = y
    · rw [e]; exact Rch_s (h3 x hx.1 hx.2 b1) hx hJ
    · rw [if_neg e] at q; exact h3 i a b q
  · rw [bt_sum hk h1 hy b2]
    rcases h4 with q | q
    · rw [q]; omega
    · omega
  · have q := h5 hc
    have := hc x y hx.1 hx.2 hy.1 hy.2 (by rw [← q]; exact b1) hJ
    rw [← q] at this
    omega
theorem sumR_1 {f : Int → Int} {x : Int} (hf : ∀ j, 0 ≤ f j) (hx : 0 ≤ x) (h1 : f x = 1) : ∀ m : Nat, x < (m : Int) → 1 ≤ sumR f 0 m := by
  intro m hm
  have e := sumR_le (lo := 0) hf (x.toNat + 1) (m - (x.toNat + 1))
  rw [show x.toNat + 1 + (m - (x.toNat + 1)) = m by omega] at e
  have e2 : sumR f 0 (x.toNat + 1) = sumR f 0 x.toNat + f (0 + ((x.toNat : Nat) : Int)) := rfl
  rw [show 0 + ((x.toNat : Nat) : Int) = x by omega, h1] at e2
  have e3 := sumR_nn (lo := 0) hf x.toNat
  omega
theorem bt_nn (al j : Int) : 0 ≤ bt al j := by unfold bt; omega
/-- the end of a round -/
theorem GI_end {J : Int → Int → Prop} {kc s a0 al rd : Int} (h : GI J kc s a0 al) (hq : GQ J kc a0 al kc 0) (hc : CL J kc a0 ∨ rd + 1 ≤ sumR (bt a0) 0 kc.toNat) : CL J kc al ∨ rd + 1 + 1 ≤ sumR (bt al) 0 kc.toNat := by
  obtain ⟨h1, h2, h3, h4, h5⟩ := h
  by_cases e : al = a0
  · left
    intro i j a b c d q hJ
    exact hq i j a c d (Or.inl b) (by rw [← e]; exact q) hJ
  · rcases hc with hc | hc
    · exact absurd (h5 hc) e
    · right
      rcases h4 with q | q
      · exact absurd q e
      · omega
theorem CL_end {J : Int → Int → Prop} {kc al : Int} (hk : 0 ≤ kc) (hc : CL J kc al ∨ kc + 1 ≤ sumR (bt al) 0 kc.toNat) : CL J kc al := by
  rcases hc with h | h
  · exact h
  · have := (sumR_full (f := bt al) kc.toNat (fun x _ _ => by have := bt_in al x; omega)).1
    omega
abbrev rm_M_group : Room := { frames := 4, cells := 0, slots := 0, locals := 115 }
set_option maxHeartbeats 4000000 in
set_option maxRecDepth 100000 in
theorem c_M_group (l : Launch) (D : va_G) (k : Nat → ClassId) (N : Nat) (AD : Int → Nat) (C : Int → va_E) (sz : Nat) (th : Int) (pn : Int) (kc : Int) (tr : Int) (lc : Int) (fa : Int) (fb : Int) (mn : Int) (mr : Int) (ma : Int) (ab : Int) (bl : Int) (mz : Int → Int) (mw : Int → Int) (s0 : Int) (least : Int) (bound : Int) (hN : 90 ≤ (N : Int)) (hM : C 82 = .inr (4, [.int (zI th), .int (zI pn), .ref (AD 83), .int (zI kc), .ref (AD 84), .ref (AD 85), .int (zI tr), .int (zI lc), .int (zI fa), .int (zI fb), .ref (AD 86), .ref (AD 87), .ref (AD 88), .int (zI mn), .int (zI mr), .int (zI ma), .long (zL ab), .long (zL bl)])) (h84 : C 84 = aI (k 0) 9 mz) (h85 : C 85 = aI (k 0) 216 mw) (hmz : ∀ i : Int, 0 ≤ i → i < 9 → 0 ≤ mz i ∧ mz i ≤ 24) (hkc : 0 ≤ kc ∧ kc ≤ 8) (hok : ∀ i : Int, 0 ≤ i → i < kc → MOK mw i (mz i)) (hm1 : ∀ i : Int, 0 ≤ i → i < kc → 1 ≤ mz i) (ha : inI s0) (hle : inI least) (hbo : inI bound) : MI l y_M_group (Cond.code y_M_group b_M_group 9 (Option.some Jvm.ClassFile.FieldType.int) :: WS) rm_M_group D clW (tyW k) N AD C sz [.ref (AD 82), .int (zI s0), .int (zI least), .int (zI bound)] (fun r C' => (((0 ≤ s0 ∧ s0 < kc) ∧ (3 ≤ least ∧ least ≤ 24) ∧ (∃ z : Int, r = zI z ∧ isGrp (Jn mz (WM mw) least bound) kc s0 z) ∧ ∃ n1 r1 a1 : Int, C' 82 = .inr (4, [.int (zI 0), .int (zI pn), .ref (AD 83), .int (zI kc), .ref (AD 84), .ref (AD 85), .int (zI tr), .int (zI lc), .int (zI fa), .int (zI fb), .ref (AD 86), .ref (AD 87), .ref (AD 88), .int (zI n1), .int (zI r1), .int (zI a1), .long (zL ab), .long (zL bl)])) ∨ (¬ (0 ≤ s0 ∧ s0 < kc) ∧ C' 82 = .inr (4, [.int (zI 1), .int (zI pn), .ref (AD 83), .int (zI kc), .ref (AD 84), .ref (AD 85), .int (zI tr), .int (zI lc), .int (zI fa), .int (zI fb), .ref (AD 86), .ref (AD 87), .ref (AD 88), .int (zI mn), .int (zI mr), .int (zI ma), .long (zL ab), .long (zL bl)])) ∨ ((0 ≤ s0 ∧ s0 < kc) ∧ ¬ (3 ≤ least ∧ least ≤ 24) ∧ C' 82 = .inr (4, [.int (zI 2), .int (zI pn), .ref (AD 83), .int (zI kc), .ref (AD 84), .ref (AD 85), .int (zI tr), .int (zI lc), .int (zI fa), .int (zI fb), .ref (AD 86), .ref (AD 87), .ref (AD 88), .int (zI mn), .int (zI mr), .int (zI ma), .long (zL ab), .long (zL bl)]))) ∧ ∀ j : Int, j ≠ 82 → C' j = C j) := by
  refine MI.start (cc := b_M_group) (maxL := 9) (rt := .int) (by decide) rfl (Nat.le_of_ble_eq_true rfl) ?_
  intro p e s m args below meth c Q ls hx hb hml hown hts hK hsz hw hl hret
  have hown : s.vm.findClass "RingMatchesModel" = some m.cls := hown
  have hl : lv_has ls 9 [(0, .ref (AD 82)), (1, .int (zI s0)), (2, .int (zI least)), (3, .int (zI bound))] := hl
  have hA := wA_hi (N := N) (AD := AD) hsz
  obtain ⟨H, hH⟩ : ∃ H, H = s.heap := ⟨_, rfl⟩
  obtain ⟨locs, hlocs⟩ : ∃ z : List Loc, z = [] := ⟨_, rfl⟩
  have hw : WD D clW (wA N AD sz) s.heap H locs N AD C := by rw [hH, hlocs]; exact hw
  rw [← hlocs]
  suffices hgo : W p l e rm_M_group s m args below meth c H locs 0 0 Q (F0 m 0 ls []) by rw [hH] at hgo; exact hgo
  obtain ⟨C0, hC0⟩ : ∃ z : Int → va_E, z = C := ⟨_, rfl⟩
  refine lv_aload_n hx hb d_M_group_0 rfl (lv_at hl 0 rfl) ?_
  refine lv_aload_n hx hb d_M_group_1 rfl (lv_at hl 0 rfl) ?_
  refine lv_iload_n hx hb d_M_group_2 rfl (lv_at hl 1 rfl) ?_
  refine zr_callI (va_runV (As := [.int (zI s0)]) (rest := [.ref (AD 82)]) ⟨hx, hb, hml, hown, hts⟩ (c_M_isSeries l D k N AD C H.size th pn kc tr lc fa fb mn mr ma ab bl s0 hN hM ⟨by omega, by omega⟩ (by omega)) (cwV 1 hts (good_V wk_598 wk_600 wk_14 wk_31 wk_601) rfl rfl rfl (by decide +kernel) ⟨Nat.le_of_ble_eq_true rfl, Nat.le_of_ble_eq_true rfl⟩) (cPre_V hK hw 82 ⟨by omega, by omega⟩ hM rfl) rfl rfl hl.1 rfl (lv_room (Nat.le_of_ble_eq_true rfl)) d_M_group_3 ⟨Nat.le_of_ble_eq_true rfl, Nat.le_of_ble_eq_true rfl⟩) hw hA (fun r9 C2 H locs hq1 hw => ?_)
  obtain ⟨hq1, hCe⟩ := hq1
  rw [hCe] at hw
  rcases hq1 with ⟨hr9, hq1⟩ | ⟨hr9, hq1⟩ <;> subst hr9
  · refine lv_iload_n hx hb d_M_group_6 rfl (lv_at hl 2 rfl) ?_
    refine zr_iconst hx hb d_M_group_7 ?_
    refine zr_bipush hx hb d_M_group_8 (by decide) ?_
    refine zr_callI (va_runS (As := [.int (zI least), .int (zI 3), .int (zI 24)]) (rest := [.int (zI 1), .ref (AD 82)]) ⟨hx, hb, hml, hown, hts⟩ (c_M_within l D k N AD C H.size least 3 24 ⟨by omega, by omega⟩ ⟨by omega, by omega⟩ ⟨by omega, by omega⟩) (va_cwS 3 hts (good_S wk_572 wk_573 wk_31 wk_574) rfl rfl rfl (by decide +kernel) ⟨Nat.le_of_ble_eq_true rfl, Nat.le_of_ble_eq_true rfl⟩) (cPre_S hK hw) rfl rfl hl.1 rfl (lv_room (Nat.le_of_ble_eq_true rfl)) d_M_group_10 ⟨Nat.le_of_ble_eq_true rfl, Nat.le_of_ble_eq_true rfl⟩) hw hA (fun r9 C4 H locs hq3 hw => ?_)
    obtain ⟨hq3, hCe⟩ := hq3
    rw [hCe] at hw
    rcases hq3 with ⟨hr9, hq3⟩ | ⟨hr9, hq3⟩ <;> subst hr9
    · refine zr_iconst hx hb d_M_group_13 ?_
      refine zr_callI (va_runV (As := [.int (zI 1), .int (zI 1), .int (zI 1)]) (rest := []) ⟨hx, hb, hml, hown, hts⟩ (c_M_goes l D k N AD C H.size th pn kc tr lc fa fb mn mr ma ab bl 1 1 1 0 1 hN hM (by decide) (by decide) (by decide) (by decide) (by decide)) (cwV 3 hts (good_V wk_578 wk_580 wk_11 wk_31 wk_581) rfl rfl rfl (by decide +kernel) ⟨Nat.le_of_ble_eq_true rfl, Nat.le_of_ble_eq_true rfl⟩) (cPre_V hK hw 82 ⟨by omega, by omega⟩ hM rfl) rfl rfl hl.1 rfl (lv_room (Nat.le_of_ble_eq_true rfl)) d_M_group_14 ⟨Nat.le_of_ble_eq_true rfl, Nat.le_of_ble_eq_true rfl⟩) hw hA (fun r9 C5 H locs hq6 hw => ?_)
      obtain ⟨hr9, hq6a, frC5⟩ := hq6
      subst hr9
      have hM : C5 82 = .inr (4, [.int (zI 0), .int (zI pn), .ref (AD 83), .int (zI kc), .ref (AD 84), .ref (AD 85), .int (zI tr), .int (zI lc), .int (zI fa), .int (zI fb), .ref (AD 86), .ref (AD 87), .ref (AD 88), .int (zI mn), .int (zI mr), .int (zI ma), .long (zL ab), .long (zL bl)]) := hq6a
      have h84 : C5 84 = aI (k 0) 9 mz := (frC5 _ (by omega)).trans h84
      have h85 : C5 85 = aI (k 0) 216 mw := (frC5 _ (by omega)).trans h85
      refine zr_if_ne (tgt := 22) hx hb ⟨by omega, by omega⟩ d_M_group_17 (by decide) (fun c7 => ?_) (fun c9 => absurd c9 (by decide))
      have hp2 := bt_1i (s := s0) (by omega)
      refine zr_iconst hx hb d_M_group_22 ?_
      refine lv_iload_n hx hb d_M_group_23 rfl (lv_at hl 1 rfl) ?_
      refine zr_one hx hb (by omega) d_M_group_24 ?_
      refine lv_istore (lv' := [(4, .int (zI (p2 s0))), (0, .ref (AD 82)), (1, .int (zI s0)), (2, .int (zI least)), (3, .int (zI bound))]) hx hb d_M_group_25 hl (by decide) rfl (fun ls hl => ?_)
      refine zr_iconst hx hb d_M_group_27 ?_
      refine lv_istore (lv' := [(5, .int (zI 0)), (4, .int (zI (p2 s0))), (0, .ref (AD 82)), (1, .int (zI s0)), (2, .int (zI least)), (3, .int (zI bound))]) hx hb d_M_group_28 hl (by decide) rfl (fun ls hl => ?_)
      have l1 : ∀ (n9 : Nat) (rd : Int) (al : Int) (n1 : Int) (r1 : Int) (a1 : Int) (C : Int → va_E) (H : Heap) (locs : List Loc) (ls : Array Slot), (0 ≤ rd ∧ rd ≤ kc) → (0 ≤ al ∧ al < 256) → (bt al s0 = 1) → (∀ i : Int, 0 ≤ i → i < kc → bt al i = 1 → Rch (Jn mz (WM mw) least bound) kc s0 i) → (CL (Jn mz (WM mw) least bound) kc al ∨ rd + 1 ≤ sumR (bt al) 0 kc.toNat) → (∀ j : Int, j ≠ 82 → C j = C0 j) → (C 82 = .inr (4, [.int (zI 0), .int (zI pn), .ref (AD 83), .int (zI kc), .ref (AD 84), .ref (AD 85), .int (zI tr), .int (zI lc), .int (zI fa), .int (zI fb), .ref (AD 86), .ref (AD 87), .ref (AD 88), .int (zI n1), .int (zI r1), .int (zI a1), .long (zL ab), .long (zL bl)])) → (C 84 = aI (k 0) 9 mz) → (C 85 = aI (k 0) 216 mw) → (kc - rd).toNat < n9 → WD D clW (wA N AD sz) s.heap H locs N AD C → lv_has ls 9 [(0, .ref (AD 82)), (1, .int (zI s0)), (2, .int (zI least)), (3, .int (zI bound)), (4, .int (zI al)), (5, .int (zI rd))] → W p l e rm_M_group s m args below meth c H locs 0 0 Q (F0 m 30 ls []) := by
        intro n9
        induction n9 with
        | zero => intro rd al n1 r1 a1 C H locs ls hrd hal hM1 hM2 hcl hfr hM h84 h85 hm hw hl; exact absurd hm (by omega)
        | succ n9 ihl1 =>
          intro rd al n1 r1 a1 C H locs ls hrd hal hM1 hM2 hcl hfr hM h84 h85 hm hw hl
          refine lv_iload hx hb d_M_group_30 (lv_at hl 5 rfl) ?_
          refine lv_aload_n hx hb d_M_group_32 rfl (lv_at hl 0 rfl) ?_
          refine zr_get (v := .int (zI kc)) hx hb hts iw_M hown hK hw 82 ⟨by omega, by omega⟩ hM rfl 3 (by decide) (hts _ wk_509) (fun _ h => h) rfl d_M_group_33 ?_
          refine zr_icmp_ge (tgt := 141) hx hb ⟨by omega, by omega⟩ ⟨by omega, by omega⟩ d_M_group_36 (by decide) (fun c8 => ?_) (fun c8 => ?_)
          · have hce : CL (Jn mz (WM mw) least bound) kc al := CL_end hkc.1 (by have e9 : rd = kc := (by omega); rw [e9] at hcl; exact hcl)
            refine zr_iconst hx hb d_M_group_141 ?_
            refine lv_istore (lv' := [(5, .int (zI 0)), (0, .ref (AD 82)), (1, .int (zI s0)), (2, .int (zI least)), (3, .int (zI bound)), (4, .int (zI al))]) hx hb d_M_group_142 hl (by decide) rfl (fun ls hl => ?_)
            have l4 : ∀ (n9 : Nat) (z : Int) (H : Heap) (locs : List Loc) (ls : Array Slot), (0 ≤ z ∧ z ≤ s0) → (∀ j : Int, 0 ≤ j → j < z → bt al j = 0) → (s0 - z).toNat < n9 → WD D clW (wA N AD sz) s.heap H locs N AD C → lv_has ls 9 [(4, .int (zI al)), (5, .int (zI z))] → W p l e rm_M_group s m args below meth c H locs 0 0 Q (F0 m 144 ls []) := by
              intro n9
              induction n9 with
              | zero => intro z H locs ls hz hzz  hm hw hl; exact absurd hm (by omega)
              | succ n9 ihl4 =>
                intro z H locs ls hz hzz  hm hw hl
                refine lv_iload hx hb d_M_group_144 (lv_at hl 0 rfl) ?_
                refine lv_iload hx hb d_M_group_146 (lv_at hl 1 rfl) ?_
                refine zr_bit hx hb (by omega) (by omega) d_M_group_148 d_M_group_149 d_M_group_150 ?_
                have hbi148 := bt_in al z
                refine zr_if_ne (tgt := 160) hx hb ⟨by omega, by omega⟩ d_M_group_151 (by decide) (fun c9 => ?_) (fun c9 => ?_)
                · refine lv_iload hx hb d_M_group_160 (lv_at hl 1 rfl) ?_
                  exact hret _ _ _ _ _ _ d_M_group_162 hw rfl ⟨Or.inl ⟨by omega, by omega, ⟨z, rfl, (fun i => bt al i = 1), hM1, hM2, fun i j h1 h2 h3 h4 h5 h6 => hce i j h1 h2 h3 h4 h5 h6, by omega, by show bt al z = 1; omega, fun j h1 h2 h9 => by have h9' : bt al j = 1 := h9; have := hzz j h1 h2; omega⟩, n1, r1, a1, hM⟩, fun j hj => (hfr j hj).trans (by rw [hC0])⟩
                · have hzs : z ≠ s0 := fun e => by rw [← e] at hM1; omega
                  refine lv_iinc (v := zI (z + 1)) (lv' := [(5, .int (zI (z + 1))), (4, .int (zI al))]) hx hb d_M_group_154 hl (k := 1) rfl (zI_add _ _) (by decide) rfl (fun ls hl => ?_)
                  refine lv_goto (tgt := 144) hx hb d_M_group_157 (by decide) ?_
                  exact ihl4 (z + 1) H locs ls (by omega) (fun j h1 h2 => by by_cases e : j = z; rw [e]; omega; exact hzz j h1 (by omega))  (by omega) hw (lv_sub hl [1, 0] rfl)
            exact l4 ((s0 - 0 : Int).toNat + 1) 0 H locs ls (by omega) (fun j h1 h2 => absurd h2 (by omega))  (by omega) hw (lv_sub hl [5, 0] rfl)
          · refine zr_iconst hx hb d_M_group_39 ?_
            refine lv_istore (lv' := [(6, .int (zI 0)), (0, .ref (AD 82)), (1, .int (zI s0)), (2, .int (zI least)), (3, .int (zI bound)), (4, .int (zI al)), (5, .int (zI rd))]) hx hb d_M_group_40 hl (by decide) rfl (fun ls hl => ?_)
            have l2 : ∀ (n9 : Nat) (x2 : Int) (al2 : Int) (n1 : Int) (r1 : Int) (a1 : Int) (C : Int → va_E) (H : Heap) (locs : List Loc) (ls : Array Slot), (0 ≤ x2 ∧ x2 ≤ kc) → (GI (Jn mz (WM mw) least bound) kc s0 al al2) → (GQ (Jn mz (WM mw) least bound) kc al al2 x2 0) → (∀ j : Int, j ≠ 82 → C j = C0 j) → (C 82 = .inr (4, [.int (zI 0), .int (zI pn), .ref (AD 83), .int (zI kc), .ref (AD 84), .ref (AD 85), .int (zI tr), .int (zI lc), .int (zI fa), .int (zI fb), .ref (AD 86), .ref (AD 87), .ref (AD 88), .int (zI n1), .int (zI r1), .int (zI a1), .long (zL ab), .long (zL bl)])) → (C 84 = aI (k 0) 9 mz) → (C 85 = aI (k 0) 216 mw) → (kc - x2).toNat < n9 → WD D clW (wA N AD sz) s.heap H locs N AD C → lv_has ls 9 [(0, .ref (AD 82)), (1, .int (zI s0)), (2, .int (zI least)), (3, .int (zI bound)), (4, .int (zI al2)), (5, .int (zI rd)), (6, .int (zI x2))] → W p l e rm_M_group s m args below meth c H locs 0 0 Q (F0 m 42 ls []) := by
              intro n9
              induction n9 with
              | zero => intro x2 al2 n1 r1 a1 C H locs ls hx2 hgi hgq hfr hM h84 h85 hm hw hl; exact absurd hm (by omega)
              | succ n9 ihl2 =>
                intro x2 al2 n1 r1 a1 C H locs ls hx2 hgi hgq hfr hM h84 h85 hm hw hl
                refine lv_iload hx hb d_M_group_42 (lv_at hl 6 rfl) ?_
                refine lv_aload_n hx hb d_M_group_44 rfl (lv_at hl 0 rfl) ?_
                refine zr_get (v := .int (zI kc)) hx hb hts iw_M hown hK hw 82 ⟨by omega, by omega⟩ hM rfl 3 (by decide) (hts _ wk_509) (fun _ h => h) rfl d_M_group_45 ?_
                refine zr_icmp_ge (tgt := 135) hx hb ⟨by omega, by omega⟩ ⟨by omega, by omega⟩ d_M_group_48 (by decide) (fun c10 => ?_) (fun c10 => ?_)
                · refine lv_iinc (v := zI (rd + 1)) (lv' := [(5, .int (zI (rd + 1))), (0, .ref (AD 82)), (1, .int (zI s0)), (2, .int (zI least)), (3, .int (zI bound)), (4, .int (zI al2)), (6, .int (zI x2))]) hx hb d_M_group_135 hl (k := 5) rfl (zI_add _ _) (by decide) rfl (fun ls hl => ?_)
                  refine lv_goto (tgt := 30) hx hb d_M_group_138 (by decide) ?_
                  exact ihl1 (rd + 1) al2 n1 r1 a1 C H locs ls (by omega) hgi.1 (hgi.2.1 s0 (by omega) (by omega) hM1) hgi.2.2.1 (GI_end hgi (by have e9 : x2 = kc := (by omega); rw [e9] at hgq; exact hgq) hcl) hfr hM h84 h85 (by omega) hw (lv_sub hl [1, 2, 3, 4, 5, 0] rfl)
                · refine zr_iconst hx hb d_M_group_51 ?_
                  refine lv_istore (lv' := [(7, .int (zI 0)), (0, .ref (AD 82)), (1, .int (zI s0)), (2, .int (zI least)), (3, .int (zI bound)), (4, .int (zI al2)), (5, .int (zI rd)), (6, .int (zI x2))]) hx hb d_M_group_52 hl (by decide) rfl (fun ls hl => ?_)
                  have l3 : ∀ (n9 : Nat) (x3 : Int) (al3 : Int) (n1 : Int) (r1 : Int) (a1 : Int) (C : Int → va_E) (H : Heap) (locs : List Loc) (ls : Array Slot), (0 ≤ x3 ∧ x3 ≤ kc) → (GI (Jn mz (WM mw) least bound) kc s0 al al3) → (GQ (Jn mz (WM mw) least bound) kc al al3 x2 x3) → (∀ j : Int, j ≠ 82 → C j = C0 j) → (C 82 = .inr (4, [.int (zI 0), .int (zI pn), .ref (AD 83), .int (zI kc), .ref (AD 84), .ref (AD 85), .int (zI tr), .int (zI lc), .int (zI fa), .int (zI fb), .ref (AD 86), .ref (AD 87), .ref (AD 88), .int (zI n1), .int (zI r1), .int (zI a1), .long (zL ab), .long (zL bl)])) → (C 84 = aI (k 0) 9 mz) → (C 85 = aI (k 0) 216 mw) → (kc - x3).toNat < n9 → WD D clW (wA N AD sz) s.heap H locs N AD C → lv_has ls 9 [(0, .ref (AD 82)), (1, .int (zI s0)), (2, .int (zI least)), (3, .int (zI bound)), (4, .int (zI al3)), (5, .int (zI rd)), (6, .int (zI x2)), (7, .int (zI x3))] → W p l e rm_M_group s m args below meth c H locs 0 0 Q (F0 m 54 ls []) := by
                    intro n9
                    induction n9 with
                    | zero => intro x3 al3 n1 r1 a1 C H locs ls hx3 hgi3 hgq3 hfr hM h84 h85 hm hw hl; exact absurd hm (by omega)
                    | succ n9 ihl3 =>
                      intro x3 al3 n1 r1 a1 C H locs ls hx3 hgi3 hgq3 hfr hM h84 h85 hm hw hl
                      have ha3 := hgi3.1
                      refine lv_iload hx hb d_M_group_54 (lv_at hl 7 rfl) ?_
                      refine lv_aload_n hx hb d_M_group_56 rfl (lv_at hl 0 rfl) ?_
                      refine zr_get (v := .int (zI kc)) hx hb hts iw_M hown hK hw 82 ⟨by omega, by omega⟩ hM rfl 3 (by decide) (hts _ wk_509) (fun _ h => h) rfl d_M_group_57 ?_
                      refine zr_icmp_ge (tgt := 129) hx hb ⟨by omega, by omega⟩ ⟨by omega, by omega⟩ d_M_group_60 (by decide) (fun c11 => ?_) (fun c11 => ?_)
                      · refine lv_iinc (v := zI (x2 + 1)) (lv' := [(6, .int (zI (x2 + 1))), (0, .ref (AD 82)), (1, .int (zI s0)), (2, .int (zI least)), (3, .int (zI bound)), (4, .int (zI al3)), (5, .int (zI rd)), (7, .int (zI x3))]) hx hb d_M_group_129 hl (k := 6) rfl (zI_add _ _) (by decide) rfl (fun ls hl => ?_)
                        refine lv_goto (tgt := 42) hx hb d_M_group_132 (by decide) ?_
                        exact ihl2 (x2 + 1) al3 n1 r1 a1 C H locs ls (by omega) hgi3 (fun i j h1 h2 h3 h4 => hgq3 i j h1 h2 h3 (by omega)) hfr hM h84 h85 (by omega) hw (lv_sub hl [1, 2, 3, 4, 5, 6, 0] rfl)
                      · refine lv_iload hx hb d_M_group_63 (lv_at hl 4 rfl) ?_
                        refine lv_iload hx hb d_M_group_65 (lv_at hl 6 rfl) ?_
                        refine zr_bit hx hb (by omega) (by omega) d_M_group_67 d_M_group_68 d_M_group_69 ?_
                        have hbi67 := bt_in al3 x2
                        refine zr_iconst hx hb d_M_group_70 ?_
                        refine zr_icmp_ne (tgt := 88) hx hb ⟨by omega, by omega⟩ ⟨by omega, by omega⟩ d_M_group_71 (by decide) (fun c12 => ?_) (fun c12 => ?_)
                        · refine zr_iconst hx hb d_M_group_88 ?_
                          refine lv_istore (lv' := [(8, .int (zI 0)), (0, .ref (AD 82)), (1, .int (zI s0)), (2, .int (zI least)), (3, .int (zI bound)), (4, .int (zI al3)), (5, .int (zI rd)), (6, .int (zI x2)), (7, .int (zI x3))]) hx hb d_M_group_89 hl (by decide) rfl (fun ls hl => ?_)
                          refine lv_iload hx hb d_M_group_91 (lv_at hl 0 rfl) ?_
                          refine zr_if_eq (tgt := 119) hx hb ⟨by omega, by omega⟩ d_M_group_93 (by decide) (fun c13 => ?_) (fun c9 => absurd c9 (by decide))
                          refine lv_iload hx hb d_M_group_119 (lv_at hl 5 rfl) ?_
                          refine lv_istore (lv' := [(4, .int (zI al3)), (8, .int (zI 0)), (0, .ref (AD 82)), (1, .int (zI s0)), (2, .int (zI least)), (3, .int (zI bound)), (5, .int (zI rd)), (6, .int (zI x2)), (7, .int (zI x3))]) hx hb d_M_group_121 hl (by decide) rfl (fun ls hl => ?_)
                          refine lv_iinc (v := zI (x3 + 1)) (lv' := [(7, .int (zI (x3 + 1))), (4, .int (zI al3)), (8, .int (zI 0)), (0, .ref (AD 82)), (1, .int (zI s0)), (2, .int (zI least)), (3, .int (zI bound)), (5, .int (zI rd)), (6, .int (zI x2))]) hx hb d_M_group_123 hl (k := 8) rfl (zI_add _ _) (by decide) rfl (fun ls hl => ?_)
                          refine lv_goto (tgt := 54) hx hb d_M_group_126 (by decide) ?_
                          exact ihl3 (x3 + 1) al3 n1 r1 a1 C H locs ls (by omega) hgi3 (fun i j h1 h2 h3 h4 h5 h6 => by by_cases e : i < x2 ∨ (i = x2 ∧ j < x3); exact hgq3 i j h1 h2 h3 e h5 h6; have h7 := hgi3.2.1 i h1 (by omega) h5; rw [show i = x2 by omega] at h7; omega) hfr hM h84 h85 (by omega) hw (lv_sub hl [3, 4, 5, 6, 1, 7, 8, 0] rfl)
                        · refine lv_iload hx hb d_M_group_74 (lv_at hl 4 rfl) ?_
                          refine lv_iload hx hb d_M_group_76 (lv_at hl 7 rfl) ?_
                          refine zr_bit hx hb (by omega) (by omega) d_M_group_78 d_M_group_79 d_M_group_80 ?_
                          have hbi78 := bt_in al3 x3
                          refine zr_if_ne (tgt := 88) hx hb ⟨by omega, by omega⟩ d_M_group_81 (by decide) (fun c14 => ?_) (fun c14 => ?_)
                          · refine zr_iconst hx hb d_M_group_88 ?_
                            refine lv_istore (lv' := [(8, .int (zI 0)), (0, .ref (AD 82)), (1, .int (zI s0)), (2, .int (zI least)), (3, .int (zI bound)), (4, .int (zI al3)), (5, .int (zI rd)), (6, .int (zI x2)), (7, .int (zI x3))]) hx hb d_M_group_89 hl (by decide) rfl (fun ls hl => ?_)
                            refine lv_iload hx hb d_M_group_91 (lv_at hl 0 rfl) ?_
                            refine zr_if_eq (tgt := 119) hx hb ⟨by omega, by omega⟩ d_M_group_93 (by decide) (fun c15 => ?_) (fun c9 => absurd c9 (by decide))
                            refine lv_iload hx hb d_M_group_119 (lv_at hl 5 rfl) ?_
                            refine lv_istore (lv' := [(4, .int (zI al3)), (8, .int (zI 0)), (0, .ref (AD 82)), (1, .int (zI s0)), (2, .int (zI least)), (3, .int (zI bound)), (5, .int (zI rd)), (6, .int (zI x2)), (7, .int (zI x3))]) hx hb d_M_group_121 hl (by decide) rfl (fun ls hl => ?_)
                            refine lv_iinc (v := zI (x3 + 1)) (lv' := [(7, .int (zI (x3 + 1))), (4, .int (zI al3)), (8, .int (zI 0)), (0, .ref (AD 82)), (1, .int (zI s0)), (2, .int (zI least)), (3, .int (zI bound)), (5, .int (zI rd)), (6, .int (zI x2))]) hx hb d_M_group_123 hl (k := 8) rfl (zI_add _ _) (by decide) rfl (fun ls hl => ?_)
                            refine lv_goto (tgt := 54) hx hb d_M_group_126 (by decide) ?_
                            exact ihl3 (x3 + 1) al3 n1 r1 a1 C H locs ls (by omega) hgi3 (fun i j h1 h2 h3 h4 h5 h6 => by by_cases e : i < x2 ∨ (i = x2 ∧ j < x3); exact hgq3 i j h1 h2 h3 e h5 h6; rw [show j = x3 by omega]; omega) hfr hM h84 h85 (by omega) hw (lv_sub hl [3, 4, 5, 6, 1, 7, 8, 0] rfl)
                          · refine zr_iconst hx hb d_M_group_84 ?_
                            refine lv_goto (tgt := 89) hx hb d_M_group_85 (by decide) ?_
                            refine lv_istore (lv' := [(8, .int (zI 1)), (0, .ref (AD 82)), (1, .int (zI s0)), (2, .int (zI least)), (3, .int (zI bound)), (4, .int (zI al3)), (5, .int (zI rd)), (6, .int (zI x2)), (7, .int (zI x3))]) hx hb d_M_group_89 hl (by decide) rfl (fun ls hl => ?_)
                            refine lv_iload hx hb d_M_group_91 (lv_at hl 0 rfl) ?_
                            refine zr_if_eq (tgt := 119) hx hb ⟨by omega, by omega⟩ d_M_group_93 (by decide) (fun c9 => absurd c9 (by decide)) (fun c16 => ?_)
                            refine lv_aload_n hx hb d_M_group_96 rfl (lv_at hl 1 rfl) ?_
                            refine lv_iload hx hb d_M_group_97 (lv_at hl 7 rfl) ?_
                            refine lv_iload hx hb d_M_group_99 (lv_at hl 8 rfl) ?_
                            refine lv_iload_n hx hb d_M_group_101 rfl (lv_at hl 3 rfl) ?_
                            refine lv_iload_n hx hb d_M_group_102 rfl (lv_at hl 4 rfl) ?_
                            refine zr_callI (va_runV (As := [.int (zI x2), .int (zI x3), .int (zI least), .int (zI bound)]) (rest := []) ⟨hx, hb, hml, hown, hts⟩ (c_M_joined l D k N AD C H.size 0 pn kc tr lc fa fb n1 r1 a1 ab bl mz mw x2 x3 least bound hN hM h84 h85 hmz (by omega) ⟨by omega, by omega⟩ ⟨by omega, by omega⟩ (hok x2 (by omega) (by omega)) (hok x3 (by omega) (by omega)) ⟨hm1 x2 (by omega) (by omega), hm1 x3 (by omega) (by omega)⟩ hle hbo) (cwV 4 hts (good_V wk_683 wk_685 wk_25 wk_31 wk_686) rfl rfl rfl (by decide +kernel) ⟨Nat.le_of_ble_eq_true rfl, Nat.le_of_ble_eq_true rfl⟩) (cPre_V hK hw 82 ⟨by omega, by omega⟩ hM rfl) rfl rfl hl.1 rfl (lv_room (Nat.le_of_ble_eq_true rfl)) d_M_group_103 ⟨Nat.le_of_ble_eq_true rfl, Nat.le_of_ble_eq_true rfl⟩) hw hA (fun r9 C17 H locs hq18 hw => ?_)
                            obtain ⟨hq18, ⟨s1, s2, s3, hq18p⟩, frC17⟩ := hq18
                            have hM : C17 82 = .inr (4, [.int (zI 0), .int (zI pn), .ref (AD 83), .int (zI kc), .ref (AD 84), .ref (AD 85), .int (zI tr), .int (zI lc), .int (zI fa), .int (zI fb), .ref (AD 86), .ref (AD 87), .ref (AD 88), .int (zI s1), .int (zI s2), .int (zI s3), .long (zL ab), .long (zL bl)]) := hq18p
                            have h84 : C17 84 = aI (k 0) 9 mz := (frC17 _ (by omega)).trans h84
                            have h85 : C17 85 = aI (k 0) 216 mw := (frC17 _ (by omega)).trans h85
                            rcases hq18 with ⟨hr9, hq18⟩ | ⟨hr9, hq18⟩ <;> subst hr9
                            · have hgs := GI_set hkc.2 hgi3 (x := x2) (y := x3) (by omega) (by omega) (by omega) (by omega) hq18
                              refine zr_if_eq (tgt := 119) hx hb ⟨by omega, by omega⟩ d_M_group_106 (by decide) (fun c9 => absurd c9 (by decide)) (fun c19 => ?_)
                              refine lv_iload hx hb d_M_group_109 (lv_at hl 5 rfl) ?_
                              refine zr_iconst hx hb d_M_group_111 ?_
                              refine lv_iload hx hb d_M_group_112 (lv_at hl 8 rfl) ?_
                              refine zr_set hx hb (by omega) (by omega) (by omega) d_M_group_114 d_M_group_115 ?_
                              refine lv_goto (tgt := 121) hx hb d_M_group_116 (by decide) ?_
                              refine lv_istore (lv' := [(4, .int (zI (al3 + p2 x3))), (8, .int (zI 1)), (0, .ref (AD 82)), (1, .int (zI s0)), (2, .int (zI least)), (3, .int (zI bound)), (5, .int (zI rd)), (6, .int (zI x2)), (7, .int (zI x3))]) hx hb d_M_group_121 hl (by decide) rfl (fun ls hl => ?_)
                              refine lv_iinc (v := zI (x3 + 1)) (lv' := [(7, .int (zI (x3 + 1))), (4, .int (zI (al3 + p2 x3))), (8, .int (zI 1)), (0, .ref (AD 82)), (1, .int (zI s0)), (2, .int (zI least)), (3, .int (zI bound)), (5, .int (zI rd)), (6, .int (zI x2))]) hx hb d_M_group_123 hl (k := 8) rfl (zI_add _ _) (by decide) rfl (fun ls hl => ?_)
                              refine lv_goto (tgt := 54) hx hb d_M_group_126 (by decide) ?_
                              exact ihl3 (x3 + 1) (al3 + p2 x3) s1 s2 s3 C17 H locs ls (by omega) hgs.1 (fun i j h1 h2 h3 h4 h5 h6 => by by_cases e : i < x2 ∨ (i = x2 ∧ j < x3); exact hgs.2 j h2 (by omega) (hgq3 i j h1 h2 h3 e h5 h6); rw [show j = x3 by omega, bt_s (by omega) (by omega) (by omega) (by omega), if_pos rfl]) (fun j hj => by rw [frC17 j hj]; exact hfr j hj) hM h84 h85 (by omega) hw (lv_sub hl [3, 4, 5, 6, 1, 7, 8, 0] rfl)
                            · refine zr_if_eq (tgt := 119) hx hb ⟨by omega, by omega⟩ d_M_group_106 (by decide) (fun c20 => ?_) (fun c9 => absurd c9 (by decide))
                              refine lv_iload hx hb d_M_group_119 (lv_at hl 5 rfl) ?_
                              refine lv_istore (lv' := [(4, .int (zI al3)), (8, .int (zI 1)), (0, .ref (AD 82)), (1, .int (zI s0)), (2, .int (zI least)), (3, .int (zI bound)), (5, .int (zI rd)), (6, .int (zI x2)), (7, .int (zI x3))]) hx hb d_M_group_121 hl (by decide) rfl (fun ls hl => ?_)
                              refine lv_iinc (v := zI (x3 + 1)) (lv' := [(7, .int (zI (x3 + 1))), (4, .int (zI al3)), (8, .int (zI 1)), (0, .ref (AD 82)), (1, .int (zI s0)), (2, .int (zI least)), (3, .int (zI bound)), (5, .int (zI rd)), (6, .int (zI x2))]) hx hb d_M_group_123 hl (k := 8) rfl (zI_add _ _) (by decide) rfl (fun ls hl => ?_)
                              refine lv_goto (tgt := 54) hx hb d_M_group_126 (by decide) ?_
                              exact ihl3 (x3 + 1) al3 s1 s2 s3 C17 H locs ls (by omega) hgi3 (fun i j h1 h2 h3 h4 h5 h6 => by by_cases e : i < x2 ∨ (i = x2 ∧ j < x3); exact hgq3 i j h1 h2 h3 e h5 h6; rw [show i = x2 by omega, show j = x3 by omega] at h6; exact absurd h6 hq18) (fun j hj => by rw [frC17 j hj]; exact hfr j hj) hM h84 h85 (by omega) hw (lv_sub hl [3, 4, 5, 6, 1, 7, 8, 0] rfl)
                  exact l3 ((kc - 0 : Int).toNat + 1) 0 al2 n1 r1 a1 C H locs ls (by omega) hgi hgq hfr hM h84 h85 (by omega) hw (lv_sub hl [1, 2, 3, 4, 5, 6, 7, 0] rfl)
            exact l2 ((kc - 0 : Int).toNat + 1) 0 al n1 r1 a1 C H locs ls (by omega) ⟨hal, fun j _ _ h => h, hM2, Or.inl rfl, fun _ => rfl⟩ (fun i j h1 h2 h3 h4 => absurd h4 (by omega)) hfr hM h84 h85 (by omega) hw (lv_sub hl [1, 2, 3, 4, 5, 6, 0] rfl)
      exact l1 ((kc - 0 : Int).toNat + 1) 0 (p2 s0) mn mr ma C5 H locs ls (by omega) hp2.2 (by rw [bt_1 (by omega) (by omega), if_pos rfl]) (fun i h1 h2 h3 => by rw [bt_1 (by omega) (by omega)] at h3; by_cases e : i = s0; rw [e]; exact Rch_0 _ _ _; rw [if_neg e] at h3; omega) (Or.inr (by have := sumR_1 (f := bt (p2 s0)) (x := s0) (bt_nn _) (by omega) (by rw [bt_1 (by omega) (by omega), if_pos rfl]) kc.toNat (by omega); omega)) (fun j hj => by rw [frC5 j hj, hC0]) hM h84 h85 (by omega) hw (lv_sub hl [2, 3, 4, 5, 1, 0] rfl)
    · refine zr_iconst hx hb d_M_group_13 ?_
      refine zr_callI (va_runV (As := [.int (zI 1), .int (zI 0), .int (zI 1)]) (rest := []) ⟨hx, hb, hml, hown, hts⟩ (c_M_goes l D k N AD C H.size th pn kc tr lc fa fb mn mr ma ab bl 1 0 1 2 0 hN hM (by decide) (by decide) (by decide) (by decide) (by decide)) (cwV 3 hts (good_V wk_578 wk_580 wk_11 wk_31 wk_581) rfl rfl rfl (by decide +kernel) ⟨Nat.le_of_ble_eq_true rfl, Nat.le_of_ble_eq_true rfl⟩) (cPre_V hK hw 82 ⟨by omega, by omega⟩ hM rfl) rfl rfl hl.1 rfl (lv_room (Nat.le_of_ble_eq_true rfl)) d_M_group_14 ⟨Nat.le_of_ble_eq_true rfl, Nat.le_of_ble_eq_true rfl⟩) hw hA (fun r9 C21 H locs hq22 hw => ?_)
      obtain ⟨hr9, hq22a, frC21⟩ := hq22
      subst hr9
      have hM : C21 82 = .inr (4, [.int (zI 2), .int (zI pn), .ref (AD 83), .int (zI kc), .ref (AD 84), .ref (AD 85), .int (zI tr), .int (zI lc), .int (zI fa), .int (zI fb), .ref (AD 86), .ref (AD 87), .ref (AD 88), .int (zI mn), .int (zI mr), .int (zI ma), .long (zL ab), .long (zL bl)]) := hq22a
      have h84 : C21 84 = aI (k 0) 9 mz := (frC21 _ (by omega)).trans h84
      have h85 : C21 85 = aI (k 0) 216 mw := (frC21 _ (by omega)).trans h85
      refine zr_if_ne (tgt := 22) hx hb ⟨by omega, by omega⟩ d_M_group_17 (by decide) (fun c9 => absurd c9 (by decide)) (fun c23 => ?_)
      refine zr_iconst hx hb d_M_group_20 ?_
      exact hret _ _ _ _ _ _ d_M_group_21 hw rfl ⟨Or.inr (Or.inr ⟨by omega, by omega, hM⟩), fun j hj => by rw [frC21 _ (by omega)]⟩
  · refine lv_iload_n hx hb d_M_group_6 rfl (lv_at hl 2 rfl) ?_
    refine zr_iconst hx hb d_M_group_7 ?_
    refine zr_bipush hx hb d_M_group_8 (by decide) ?_
    refine zr_callI (va_runS (As := [.int (zI least), .int (zI 3), .int (zI 24)]) (rest := [.int (zI 0), .ref (AD 82)]) ⟨hx, hb, hml, hown, hts⟩ (c_M_within l D k N AD C H.size least 3 24 ⟨by omega, by omega⟩ ⟨by omega, by omega⟩ ⟨by omega, by omega⟩) (va_cwS 3 hts (good_S wk_572 wk_573 wk_31 wk_574) rfl rfl rfl (by decide +kernel) ⟨Nat.le_of_ble_eq_true rfl, Nat.le_of_ble_eq_true rfl⟩) (cPre_S hK hw) rfl rfl hl.1 rfl (lv_room (Nat.le_of_ble_eq_true rfl)) d_M_group_10 ⟨Nat.le_of_ble_eq_true rfl, Nat.le_of_ble_eq_true rfl⟩) hw hA (fun r9 C25 H locs hq24 hw => ?_)
    obtain ⟨hq24, hCe⟩ := hq24
    rw [hCe] at hw
    rcases hq24 with ⟨hr9, hq24⟩ | ⟨hr9, hq24⟩ <;> subst hr9
    · refine zr_iconst hx hb d_M_group_13 ?_
      refine zr_callI (va_runV (As := [.int (zI 0), .int (zI 1), .int (zI 1)]) (rest := []) ⟨hx, hb, hml, hown, hts⟩ (c_M_goes l D k N AD C H.size th pn kc tr lc fa fb mn mr ma ab bl 0 1 1 1 0 hN hM (by decide) (by decide) (by decide) (by decide) (by decide)) (cwV 3 hts (good_V wk_578 wk_580 wk_11 wk_31 wk_581) rfl rfl rfl (by decide +kernel) ⟨Nat.le_of_ble_eq_true rfl, Nat.le_of_ble_eq_true rfl⟩) (cPre_V hK hw 82 ⟨by omega, by omega⟩ hM rfl) rfl rfl hl.1 rfl (lv_room (Nat.le_of_ble_eq_true rfl)) d_M_group_14 ⟨Nat.le_of_ble_eq_true rfl, Nat.le_of_ble_eq_true rfl⟩) hw hA (fun r9 C26 H locs hq27 hw => ?_)
      obtain ⟨hr9, hq27a, frC26⟩ := hq27
      subst hr9
      have hM : C26 82 = .inr (4, [.int (zI 1), .int (zI pn), .ref (AD 83), .int (zI kc), .ref (AD 84), .ref (AD 85), .int (zI tr), .int (zI lc), .int (zI fa), .int (zI fb), .ref (AD 86), .ref (AD 87), .ref (AD 88), .int (zI mn), .int (zI mr), .int (zI ma), .long (zL ab), .long (zL bl)]) := hq27a
      have h84 : C26 84 = aI (k 0) 9 mz := (frC26 _ (by omega)).trans h84
      have h85 : C26 85 = aI (k 0) 216 mw := (frC26 _ (by omega)).trans h85
      refine zr_if_ne (tgt := 22) hx hb ⟨by omega, by omega⟩ d_M_group_17 (by decide) (fun c9 => absurd c9 (by decide)) (fun c28 => ?_)
      refine zr_iconst hx hb d_M_group_20 ?_
      exact hret _ _ _ _ _ _ d_M_group_21 hw rfl ⟨Or.inr (Or.inl ⟨by omega, hM⟩), fun j hj => by rw [frC26 _ (by omega)]⟩
    · refine zr_iconst hx hb d_M_group_13 ?_
      refine zr_callI (va_runV (As := [.int (zI 0), .int (zI 0), .int (zI 1)]) (rest := []) ⟨hx, hb, hml, hown, hts⟩ (c_M_goes l D k N AD C H.size th pn kc tr lc fa fb mn mr ma ab bl 0 0 1 1 0 hN hM (by decide) (by decide) (by decide) (by decide) (by decide)) (cwV 3 hts (good_V wk_578 wk_580 wk_11 wk_31 wk_581) rfl rfl rfl (by decide +kernel) ⟨Nat.le_of_ble_eq_true rfl, Nat.le_of_ble_eq_true rfl⟩) (cPre_V hK hw 82 ⟨by omega, by omega⟩ hM rfl) rfl rfl hl.1 rfl (lv_room (Nat.le_of_ble_eq_true rfl)) d_M_group_14 ⟨Nat.le_of_ble_eq_true rfl, Nat.le_of_ble_eq_true rfl⟩) hw hA (fun r9 C29 H locs hq30 hw => ?_)
      obtain ⟨hr9, hq30a, frC29⟩ := hq30
      subst hr9
      have hM : C29 82 = .inr (4, [.int (zI 1), .int (zI pn), .ref (AD 83), .int (zI kc), .ref (AD 84), .ref (AD 85), .int (zI tr), .int (zI lc), .int (zI fa), .int (zI fb), .ref (AD 86), .ref (AD 87), .ref (AD 88), .int (zI mn), .int (zI mr), .int (zI ma), .long (zL ab), .long (zL bl)]) := hq30a
      have h84 : C29 84 = aI (k 0) 9 mz := (frC29 _ (by omega)).trans h84
      have h85 : C29 85 = aI (k 0) 216 mw := (frC29 _ (by omega)).trans h85
      refine zr_if_ne (tgt := 22) hx hb ⟨by omega, by omega⟩ d_M_group_17 (by decide) (fun c9 => absurd c9 (by decide)) (fun c31 => ?_)
      refine zr_iconst hx hb d_M_group_20 ?_
      exact hret _ _ _ _ _ _ d_M_group_21 hw rfl ⟨Or.inr (Or.inl ⟨by omega, hM⟩), fun j hj => by rw [frC29 _ (by omega)]⟩
