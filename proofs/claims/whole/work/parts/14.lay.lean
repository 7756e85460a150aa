/-- a ring evened, -1 where there is none -/
def xV (w : Int → Int) (n p : Int) : Int := wAt (evF w n) n p
theorem xV_e {w e : Int → Int} {n : Int} (h : EvOK w e n) (p : Int) : wAt e n p = xV w n p := by
  unfold xV wAt
  split
  · rename_i hp; exact h p hp.1 hp.2
  · rfl
theorem xV_in {w : Int → Int} {n : Int} (h : WOK w n) (p : Int) : xV w n p = -1 ∨ (0 ≤ xV w n p ∧ xV w n p ≤ 200) := by
  unfold xV wAt
  split
  · rename_i hp; exact evF_in h hp.1 hp.2
  · exact Or.inl rfl
/-- a sum over the pairs of an overlap -/
def ovT (w1 : Int → Int) (n1 : Int) (w2 : Int → Int) (n2 a : Int) (g : Int → Int → Int) : Int → Int := prT (xV w1 n1) (fun p => xV w2 n2 (p - a)) g
def ovS (w1 : Int → Int) (n1 : Int) (w2 : Int → Int) (n2 a : Int) (g : Int → Int → Int) : Int := sumR (ovT w1 n1 w2 n2 a g) (max 0 a) (min n1 (n2 + a) - max 0 a).toNat
def ovN (w1 : Int → Int) (n1 : Int) (w2 : Int → Int) (n2 a : Int) : Int := ovS w1 n1 w2 n2 a (fun _ _ => 1)
def ovC (w1 : Int → Int) (n1 : Int) (w2 : Int → Int) (n2 a : Int) : Int :=
  corrF (ovN w1 n1 w2 n2 a * ovS w1 n1 w2 n2 a (fun p q => p * q) - ovS w1 n1 w2 n2 a (fun p _ => p) * ovS w1 n1 w2 n2 a (fun _ q => q))
    (ovN w1 n1 w2 n2 a * ovS w1 n1 w2 n2 a (fun p _ => p * p) - ovS w1 n1 w2 n2 a (fun p _ => p) * ovS w1 n1 w2 n2 a (fun p _ => p))
    (ovN w1 n1 w2 n2 a * ovS w1 n1 w2 n2 a (fun _ q => q * q) - ovS w1 n1 w2 n2 a (fun _ q => q) * ovS w1 n1 w2 n2 a (fun _ q => q))
theorem ovT_f {w1 w2 : Int → Int} {n1 n2 a x : Int} {g : Int → Int → Int} (h1 : ¬ xV w1 n1 x = -1) (h2 : ¬ xV w2 n2 (x - a) = -1) : ovT w1 n1 w2 n2 a g x = g (xV w1 n1 x) (xV w2 n2 (x - a)) := prT_f (x := xV w1 n1) (y := fun p => xV w2 n2 (p - a)) h1 h2
theorem ovT_t {w1 w2 : Int → Int} {n1 n2 a x : Int} {g : Int → Int → Int} (h : xV w1 n1 x = -1 ∨ xV w2 n2 (x - a) = -1) : ovT w1 n1 w2 n2 a g x = 0 := prT_t (x := xV w1 n1) (y := fun p => xV w2 n2 (p - a)) h
abbrev rm_O_lay : Room := { frames := 2, cells := 0, slots := 0, locals := 42 }
set_option maxHeartbeats 4000000 in
set_option maxRecDepth 100000 in
theorem c_O_lay (l : Launch) (D : va_G) (k : Nat → ClassId) (N : Nat) (AD : Int → Nat) (C : Int → va_E) (sz : Nat) (o : Int) (s0 : Int) (p0 : Int) (r0 : Int) (t0 : Int) (a0 : Int) (b1 : Int) (n1 : Int) (w1 : Int → Int) (e1 : Int → Int) (b2 : Int) (n2 : Int) (w2 : Int → Int) (e2 : Int → Int) (a : Int) (ho : 0 ≤ o ∧ o < (N : Int)) (hO : C o = .inr (0, [.int (zI s0), .int (zI p0), .int (zI r0), .int (zI t0), .int (zI a0)])) (hb1 : 0 ≤ b1 ∧ b1 + 2 < (N : Int)) (hn1 : 0 ≤ n1 ∧ n1 ≤ 24) (hS : C b1 = .inr (2, [.ref (AD (b1 + 1)), .ref (AD (b1 + 2)), .int (zI n1)])) (hSw : C (b1 + 1) = aI (k 0) 24 w1) (hSe : C (b1 + 2) = aI (k 0) 24 e1) (hb2 : 0 ≤ b2 ∧ b2 + 2 < (N : Int)) (hn2 : 0 ≤ n2 ∧ n2 ≤ 24) (hT : C b2 = .inr (2, [.ref (AD (b2 + 1)), .ref (AD (b2 + 2)), .int (zI n2)])) (hTw : C (b2 + 1) = aI (k 0) 24 w2) (hTe : C (b2 + 2) = aI (k 0) 24 e2) (hok1 : WOK w1 n1) (hok2 : WOK w2 n2) (hev1 : EvOK w1 e1 n1) (hev2 : EvOK w2 e2 n2) (ha : -24 ≤ a ∧ a ≤ 24) (hd1 : o < b1 ∨ b1 + 2 < o) (hd2 : o < b2 ∨ b2 + 2 < o) : MV l y_O_lay (Cond.code y_O_lay b_O_lay 19 (Option.none : Option FieldType) :: WS) rm_O_lay D clW (tyW k) N AD C sz [.ref (AD o), .ref (AD b1), .ref (AD b2), .int (zI a)] (fun C' => C' o = .inr (0, [.int (zI a), .int (zI (ovN w1 n1 w2 n2 a)), .int (zI (ovC w1 n1 w2 n2 a)), .int (zI t0), .int (zI a0)]) ∧ ∀ j : Int, j ≠ o → C' j = C j) := by
  refine MV.start (cc := b_O_lay) (maxL := 19) (by decide) rfl (Nat.le_of_ble_eq_true rfl) ?_
  intro p e s m args below meth c Q ls hx hb hml hown hts hK hsz hw hl hret
  have hown : s.vm.findClass "RingMatches$Overlap" = some m.cls := hown
  have hl : lv_has ls 19 [(0, .ref (AD o)), (1, .ref (AD b1)), (2, .ref (AD b2)), (3, .int (zI a))] := hl
  have hA := wA_hi (N := N) (AD := AD) hsz
  obtain ⟨H, hH⟩ : ∃ H, H = s.heap := ⟨_, rfl⟩
  obtain ⟨locs, hlocs⟩ : ∃ z : List Loc, z = [] := ⟨_, rfl⟩
  have hw : WD D clW (wA N AD sz) s.heap H locs N AD C := by rw [hH, hlocs]; exact hw
  rw [← hlocs]
  suffices hgo : W p l e rm_O_lay s m args below meth c H locs 0 0 Q (F0 m 0 ls []) by rw [hH] at hgo; exact hgo
  refine zr_iconst hx hb d_O_lay_0 ?_
  refine lv_istore (lv' := [(4, .int (zI 0)), (0, .ref (AD o)), (1, .ref (AD b1)), (2, .ref (AD b2)), (3, .int (zI a))]) hx hb d_O_lay_1 hl (by decide) rfl (fun ls hl => ?_)
  refine zr_lconst0 hx hb d_O_lay_3 ?_
  refine lv_lstore (lv' := [(5, .long (zL 0)), (4, .int (zI 0)), (0, .ref (AD o)), (1, .ref (AD b1)), (2, .ref (AD b2)), (3, .int (zI a))]) hx hb d_O_lay_4 hl (by decide) rfl (fun ls hl => ?_)
  refine zr_lconst0 hx hb d_O_lay_6 ?_
  refine lv_lstore (lv' := [(7, .long (zL 0)), (5, .long (zL 0)), (4, .int (zI 0)), (0, .ref (AD o)), (1, .ref (AD b1)), (2, .ref (AD b2)), (3, .int (zI a))]) hx hb d_O_lay_7 hl (by decide) rfl (fun ls hl => ?_)
  refine zr_lconst0 hx hb d_O_lay_9 ?_
  refine lv_lstore (lv' := [(9, .long (zL 0)), (7, .long (zL 0)), (5, .long (zL 0)), (4, .int (zI 0)), (0, .ref (AD o)), (1, .ref (AD b1)), (2, .ref (AD b2)), (3, .int (zI a))]) hx hb d_O_lay_10 hl (by decide) rfl (fun ls hl => ?_)
  refine zr_lconst0 hx hb d_O_lay_12 ?_
  refine lv_lstore (lv' := [(11, .long (zL 0)), (9, .long (zL 0)), (7, .long (zL 0)), (5, .long (zL 0)), (4, .int (zI 0)), (0, .ref (AD o)), (1, .ref (AD b1)), (2, .ref (AD b2)), (3, .int (zI a))]) hx hb d_O_lay_13 hl (by decide) rfl (fun ls hl => ?_)
  refine zr_lconst0 hx hb d_O_lay_15 ?_
  refine lv_lstore (lv' := [(13, .long (zL 0)), (11, .long (zL 0)), (9, .long (zL 0)), (7, .long (zL 0)), (5, .long (zL 0)), (4, .int (zI 0)), (0, .ref (AD o)), (1, .ref (AD b1)), (2, .ref (AD b2)), (3, .int (zI a))]) hx hb d_O_lay_16 hl (by decide) rfl (fun ls hl => ?_)
  refine lv_aload_n hx hb d_O_lay_18 rfl (lv_at hl 7 rfl) ?_
  refine zr_get (v := .int (zI n1)) hx hb hts iw_S hown hK hw b1 ⟨by omega, by omega⟩ hS rfl 2 (by decide) (hts _ wk_72) (fun _ h => h) rfl d_O_lay_19 ?_
  refine lv_aload_n hx hb d_O_lay_22 rfl (lv_at hl 8 rfl) ?_
  refine zr_get (v := .int (zI n2)) hx hb hts iw_S hown hK hw b2 ⟨by omega, by omega⟩ hT rfl 2 (by decide) (hts _ wk_72) (fun _ h => h) rfl d_O_lay_23 ?_
  refine lv_iload_n hx hb d_O_lay_26 rfl (lv_at hl 9 rfl) ?_
  refine zr_iadd hx hb d_O_lay_27 ?_
  refine zr_min hx hb (hml.trans hl.1.symm) hown hts wk_369 (Nat.le_of_ble_eq_true rfl) (Nat.le_of_ble_eq_true rfl) (Nat.le_of_ble_eq_true rfl) (Nat.le_of_ble_eq_true rfl) ⟨by omega, by omega⟩ ⟨by omega, by omega⟩ d_O_lay_28 ?_
  refine lv_istore (lv' := [(15, .int (zI (min n1 (n2 + a)))), (13, .long (zL 0)), (11, .long (zL 0)), (9, .long (zL 0)), (7, .long (zL 0)), (5, .long (zL 0)), (4, .int (zI 0)), (0, .ref (AD o)), (1, .ref (AD b1)), (2, .ref (AD b2)), (3, .int (zI a))]) hx hb d_O_lay_31 hl (by decide) rfl (fun ls hl => ?_)
  refine zr_iconst hx hb d_O_lay_33 ?_
  refine lv_iload_n hx hb d_O_lay_34 rfl (lv_at hl 10 rfl) ?_
  refine zr_max hx hb (hml.trans hl.1.symm) hown hts wk_370 (Nat.le_of_ble_eq_true rfl) (Nat.le_of_ble_eq_true rfl) (Nat.le_of_ble_eq_true rfl) (Nat.le_of_ble_eq_true rfl) ⟨by omega, by omega⟩ ⟨by omega, by omega⟩ d_O_lay_35 ?_
  refine lv_istore (lv' := [(16, .int (zI (max 0 a))), (15, .int (zI (min n1 (n2 + a)))), (13, .long (zL 0)), (11, .long (zL 0)), (9, .long (zL 0)), (7, .long (zL 0)), (5, .long (zL 0)), (4, .int (zI 0)), (0, .ref (AD o)), (1, .ref (AD b1)), (2, .ref (AD b2)), (3, .int (zI a))]) hx hb d_O_lay_38 hl (by decide) rfl (fun ls hl => ?_)
  have lp : ∀ (n9 : Nat) (x : Int) (cn : Int) (sx : Int) (sy : Int) (sxx : Int) (syy : Int) (sxy : Int) (H : Heap) (locs : List Loc) (ls : Array Slot), (max 0 a ≤ x) → (cn = sumR (ovT w1 n1 w2 n2 a (fun _ _ => 1)) (max 0 a) (x - max 0 a).toNat) → (sx = sumR (ovT w1 n1 w2 n2 a (fun p _ => p)) (max 0 a) (x - max 0 a).toNat) → (sy = sumR (ovT w1 n1 w2 n2 a (fun _ q => q)) (max 0 a) (x - max 0 a).toNat) → (sxx = sumR (ovT w1 n1 w2 n2 a (fun p _ => p * p)) (max 0 a) (x - max 0 a).toNat) → (syy = sumR (ovT w1 n1 w2 n2 a (fun _ q => q * q)) (max 0 a) (x - max 0 a).toNat) → (sxy = sumR (ovT w1 n1 w2 n2 a (fun p q => p * q)) (max 0 a) (x - max 0 a).toNat) → ((0 ≤ cn ∧ cn ≤ x - max 0 a) ∧ (0 ≤ sx ∧ sx ≤ 200 * (x - max 0 a)) ∧ (0 ≤ sy ∧ sy ≤ 200 * (x - max 0 a)) ∧ (0 ≤ sxx ∧ sxx ≤ 40000 * (x - max 0 a)) ∧ (0 ≤ syy ∧ syy ≤ 40000 * (x - max 0 a)) ∧ (0 ≤ sxy ∧ sxy ≤ 40000 * (x - max 0 a))) → (x ≤ max (max 0 a) (min n1 (n2 + a))) → (min n1 (n2 + a) - x).toNat < n9 → WD D clW (wA N AD sz) s.heap H locs N AD C → lv_has ls 19 [(0, .ref (AD o)), (1, .ref (AD b1)), (2, .ref (AD b2)), (3, .int (zI a)), (4, .int (zI cn)), (5, .long (zL sx)), (7, .long (zL sy)), (9, .long (zL sxx)), (11, .long (zL syy)), (13, .long (zL sxy)), (15, .int (zI (min n1 (n2 + a)))), (16, .int (zI x))] → W p l e rm_O_lay s m args below meth c H locs 0 0 Q (F0 m 40 ls []) := by
    intro n9
    induction n9 with
    | zero => intro x cn sx sy sxx syy sxy H locs ls hx1 h_cn h_sx h_sy h_sxx h_syy h_sxy hbd hx2  hm hw hl; exact absurd hm (by omega)
    | succ n9 ihlp =>
      intro x cn sx sy sxx syy sxy H locs ls hx1 h_cn h_sx h_sy h_sxx h_syy h_sxy hbd hx2  hm hw hl
      refine lv_iload hx hb d_O_lay_40 (lv_at hl 11 rfl) ?_
      refine lv_iload hx hb d_O_lay_42 (lv_at hl 10 rfl) ?_
      refine zr_icmp_ge (tgt := 135) hx hb ⟨by omega, by omega⟩ ⟨by omega, by omega⟩ d_O_lay_44 (by decide) (fun c1 => ?_) (fun c1 => ?_)
      · have hxe : (x - max 0 a).toNat = (min n1 (n2 + a) - max 0 a).toNat := by omega
        rw [hxe] at h_cn
        rw [hxe] at h_sx
        rw [hxe] at h_sy
        rw [hxe] at h_sxx
        rw [hxe] at h_syy
        rw [hxe] at h_sxy
        have hcs9 := cs_all (xV w1 n1) (fun p => xV w2 n2 (p - a)) (max 0 a) (min n1 (n2 + a) - max 0 a).toNat h_cn h_sx h_sy h_sxx h_syy h_sxy
        obtain ⟨hu9, hv9, hcs⟩ := hcs9
        have q1 := mul_b (a := cn) (b := sxx) (A := 24) (B := 960000) (by omega) (by omega) (by omega) (by omega)
        have q2 := mul_b (a := cn) (b := syy) (A := 24) (B := 960000) (by omega) (by omega) (by omega) (by omega)
        have q3 := mul_b (a := cn) (b := sxy) (A := 24) (B := 960000) (by omega) (by omega) (by omega) (by omega)
        have q4 := mul_b (a := sx) (b := sy) (A := 4800) (B := 4800) (by omega) (by omega) (by omega) (by omega)
        have q5 := mul_b (a := sx) (b := sx) (A := 4800) (B := 4800) (by omega) (by omega) (by omega) (by omega)
        have q6 := mul_b (a := sy) (b := sy) (A := 4800) (B := 4800) (by omega) (by omega) (by omega) (by omega)
        refine lv_aload_n hx hb d_O_lay_135 rfl (lv_at hl 0 rfl) ?_
        refine lv_iload_n hx hb d_O_lay_136 rfl (lv_at hl 3 rfl) ?_
        refine zr_put (ty := .int) (v := .int (zI a)) hx hb hts iw_O tyO tyO_ok nmO hown hK hw o ⟨by omega, by omega⟩ hO rfl 0 (by decide) (hts _ wk_89) (fun _ h => h) rfl (by decide +kernel) rfl rfl (Nat.le_of_ble_eq_true rfl) d_O_lay_137 (fun H locs hw => ?_)
        obtain ⟨C2, hC2⟩ : ∃ z : Int → va_E, z = zup C o (.inr (0, [.int (zI a), .int (zI p0), .int (zI r0), .int (zI t0), .int (zI a0)])) := ⟨_, rfl⟩
        have hw : WD D clW (wA N AD sz) s.heap H locs N AD C2 := by rw [hC2]; exact hw
        have frC2 : ∀ j : Int, j ≠ o → C2 j = C j := fun j h => by rw [hC2]; exact zup_n h
        have hS : C2 b1 = .inr (2, [.ref (AD (b1 + 1)), .ref (AD (b1 + 2)), .int (zI n1)]) := (frC2 _ (by omega)).trans hS
        have hSw : C2 (b1 + 1) = aI (k 0) 24 w1 := (frC2 _ (by omega)).trans hSw
        have hSe : C2 (b1 + 2) = aI (k 0) 24 e1 := (frC2 _ (by omega)).trans hSe
        have hT : C2 b2 = .inr (2, [.ref (AD (b2 + 1)), .ref (AD (b2 + 2)), .int (zI n2)]) := (frC2 _ (by omega)).trans hT
        have hTw : C2 (b2 + 1) = aI (k 0) 24 w2 := (frC2 _ (by omega)).trans hTw
        have hTe : C2 (b2 + 2) = aI (k 0) 24 e2 := (frC2 _ (by omega)).trans hTe
        have hO : C2 o = .inr (0, [.int (zI a), .int (zI p0), .int (zI r0), .int (zI t0), .int (zI a0)]) := by rw [hC2]; exact zup_s
        refine lv_aload_n hx hb d_O_lay_140 rfl (lv_at hl 0 rfl) ?_
        refine lv_iload hx hb d_O_lay_141 (lv_at hl 4 rfl) ?_
        refine zr_put (ty := .int) (v := .int (zI cn)) hx hb hts iw_O tyO tyO_ok nmO hown hK hw o ⟨by omega, by omega⟩ hO rfl 1 (by decide) (hts _ wk_91) (fun _ h => h) rfl (by decide +kernel) rfl rfl (Nat.le_of_ble_eq_true rfl) d_O_lay_143 (fun H locs hw => ?_)
        obtain ⟨C3, hC3⟩ : ∃ z : Int → va_E, z = zup C2 o (.inr (0, [.int (zI a), .int (zI cn), .int (zI r0), .int (zI t0), .int (zI a0)])) := ⟨_, rfl⟩
        have hw : WD D clW (wA N AD sz) s.heap H locs N AD C3 := by rw [hC3]; exact hw
        have frC3 : ∀ j : Int, j ≠ o → C3 j = C2 j := fun j h => by rw [hC3]; exact zup_n h
        have hS : C3 b1 = .inr (2, [.ref (AD (b1 + 1)), .ref (AD (b1 + 2)), .int (zI n1)]) := (frC3 _ (by omega)).trans hS
        have hSw : C3 (b1 + 1) = aI (k 0) 24 w1 := (frC3 _ (by omega)).trans hSw
        have hSe : C3 (b1 + 2) = aI (k 0) 24 e1 := (frC3 _ (by omega)).trans hSe
        have hT : C3 b2 = .inr (2, [.ref (AD (b2 + 1)), .ref (AD (b2 + 2)), .int (zI n2)]) := (frC3 _ (by omega)).trans hT
        have hTw : C3 (b2 + 1) = aI (k 0) 24 w2 := (frC3 _ (by omega)).trans hTw
        have hTe : C3 (b2 + 2) = aI (k 0) 24 e2 := (frC3 _ (by omega)).trans hTe
        have hO : C3 o = .inr (0, [.int (zI a), .int (zI cn), .int (zI r0), .int (zI t0), .int (zI a0)]) := by rw [hC3]; exact zup_s
        refine lv_aload_n hx hb d_O_lay_146 rfl (lv_at hl 0 rfl) ?_
        refine lv_iload hx hb d_O_lay_147 (lv_at hl 4 rfl) ?_
        refine zr_i2l hx hb d_O_lay_149 ⟨by omega, by omega⟩ ?_
        refine lv_lload hx hb d_O_lay_150 (lv_at hl 9 rfl) ?_
        refine zr_lmul hx hb d_O_lay_152 ?_
        refine lv_lload hx hb d_O_lay_153 (lv_at hl 5 rfl) ?_
        refine lv_lload hx hb d_O_lay_155 (lv_at hl 6 rfl) ?_
        refine zr_lmul hx hb d_O_lay_157 ?_
        refine zr_lsub hx hb d_O_lay_158 ?_
        refine lv_iload hx hb d_O_lay_159 (lv_at hl 4 rfl) ?_
        refine zr_i2l hx hb d_O_lay_161 ⟨by omega, by omega⟩ ?_
        refine lv_lload hx hb d_O_lay_162 (lv_at hl 7 rfl) ?_
        refine zr_lmul hx hb d_O_lay_164 ?_
        refine lv_lload hx hb d_O_lay_165 (lv_at hl 5 rfl) ?_
        refine lv_lload hx hb d_O_lay_167 (lv_at hl 5 rfl) ?_
        refine zr_lmul hx hb d_O_lay_169 ?_
        refine zr_lsub hx hb d_O_lay_170 ?_
        refine lv_iload hx hb d_O_lay_171 (lv_at hl 4 rfl) ?_
        refine zr_i2l hx hb d_O_lay_173 ⟨by omega, by omega⟩ ?_
        refine lv_lload hx hb d_O_lay_174 (lv_at hl 8 rfl) ?_
        refine zr_lmul hx hb d_O_lay_176 ?_
        refine lv_lload hx hb d_O_lay_177 (lv_at hl 6 rfl) ?_
        refine lv_lload hx hb d_O_lay_179 (lv_at hl 6 rfl) ?_
        refine zr_lmul hx hb d_O_lay_181 ?_
        refine zr_lsub hx hb d_O_lay_182 ?_
        refine zr_callI (va_runS (As := [.long (zL ((cn * sxy) - (sx * sy))), .long (zL ((cn * sxx) - (sx * sx))), .long (zL ((cn * syy) - (sy * sy)))]) (rest := [.ref (AD o)]) ⟨hx, hb, hml, hown, hts⟩ (c_O_hundredths l D k N AD C3 H.size ((cn * sxy) - (sx * sy)) ((cn * sxx) - (sx * sx)) ((cn * syy) - (sy * sy)) (by omega) (by omega) (by omega) hcs) (va_cwS 3 hts (good_S wk_374 wk_375 wk_30 wk_376) rfl rfl rfl (by decide +kernel) ⟨Nat.le_of_ble_eq_true rfl, Nat.le_of_ble_eq_true rfl⟩) (cPre_S hK hw) rfl rfl hl.1 rfl (lv_room (Nat.le_of_ble_eq_true rfl)) d_O_lay_183 ⟨Nat.le_of_ble_eq_true rfl, Nat.le_of_ble_eq_true rfl⟩) hw hA (fun r9 C5 H locs hq4 hw => ?_)
        obtain ⟨hr9, hCe⟩ := hq4
        rw [hCe] at hw; subst hr9
        refine zr_put (ty := .int) (v := .int (zI (corrF ((cn * sxy) - (sx * sy)) ((cn * sxx) - (sx * sx)) ((cn * syy) - (sy * sy))))) hx hb hts iw_O tyO tyO_ok nmO hown hK hw o ⟨by omega, by omega⟩ hO rfl 2 (by decide) (hts _ wk_93) (fun _ h => h) rfl (by decide +kernel) rfl rfl (Nat.le_of_ble_eq_true rfl) d_O_lay_186 (fun H locs hw => ?_)
        obtain ⟨C6, hC6⟩ : ∃ z : Int → va_E, z = zup C3 o (.inr (0, [.int (zI a), .int (zI cn), .int (zI (corrF ((cn * sxy) - (sx * sy)) ((cn * sxx) - (sx * sx)) ((cn * syy) - (sy * sy)))), .int (zI t0), .int (zI a0)])) := ⟨_, rfl⟩
        have hw : WD D clW (wA N AD sz) s.heap H locs N AD C6 := by rw [hC6]; exact hw
        have frC6 : ∀ j : Int, j ≠ o → C6 j = C3 j := fun j h => by rw [hC6]; exact zup_n h
        have hS : C6 b1 = .inr (2, [.ref (AD (b1 + 1)), .ref (AD (b1 + 2)), .int (zI n1)]) := (frC6 _ (by omega)).trans hS
        have hSw : C6 (b1 + 1) = aI (k 0) 24 w1 := (frC6 _ (by omega)).trans hSw
        have hSe : C6 (b1 + 2) = aI (k 0) 24 e1 := (frC6 _ (by omega)).trans hSe
        have hT : C6 b2 = .inr (2, [.ref (AD (b2 + 1)), .ref (AD (b2 + 2)), .int (zI n2)]) := (frC6 _ (by omega)).trans hT
        have hTw : C6 (b2 + 1) = aI (k 0) 24 w2 := (frC6 _ (by omega)).trans hTw
        have hTe : C6 (b2 + 2) = aI (k 0) 24 e2 := (frC6 _ (by omega)).trans hTe
        have hO : C6 o = .inr (0, [.int (zI a), .int (zI cn), .int (zI (corrF ((cn * sxy) - (sx * sy)) ((cn * sxx) - (sx * sx)) ((cn * syy) - (sy * sy)))), .int (zI t0), .int (zI a0)]) := by rw [hC6]; exact zup_s
        exact hret _ _ _ _ _ d_O_lay_189 hw ⟨by rw [hO]; unfold ovC ovN ovS; rw [← h_cn, ← h_sx, ← h_sy, ← h_sxx, ← h_syy, ← h_sxy], fun j hj => by rw [frC6 j hj, frC3 j hj, frC2 j hj]⟩
      · refine lv_aload_n hx hb d_O_lay_47 rfl (lv_at hl 1 rfl) ?_
        refine lv_iload hx hb d_O_lay_48 (lv_at hl 11 rfl) ?_
        refine zr_callI (va_runV (As := [.int (zI x)]) (rest := []) ⟨hx, hb, hml, hown, hts⟩ (c_S_evenAt l D k N AD C H.size b1 n1 w1 e1 x ⟨by omega, by omega⟩ ⟨by omega, by omega⟩ hS hSw hSe ⟨by omega, by omega⟩) (cwV 1 hts (good_V wk_373 wk_351 wk_352 wk_29 wk_353) rfl rfl rfl (by decide +kernel) ⟨Nat.le_of_ble_eq_true rfl, Nat.le_of_ble_eq_true rfl⟩) (cPre_V hK hw b1 ⟨by omega, by omega⟩ hS rfl) rfl rfl hl.1 rfl (lv_room (Nat.le_of_ble_eq_true rfl)) d_O_lay_50 ⟨Nat.le_of_ble_eq_true rfl, Nat.le_of_ble_eq_true rfl⟩) hw hA (fun r9 C8 H locs hq7 hw => ?_)
        obtain ⟨hr9, hCe⟩ := hq7
        rw [hCe] at hw; subst hr9
        refine lv_istore (lv' := [(17, .int (zI (wAt e1 n1 x))), (0, .ref (AD o)), (1, .ref (AD b1)), (2, .ref (AD b2)), (3, .int (zI a)), (4, .int (zI cn)), (5, .long (zL sx)), (7, .long (zL sy)), (9, .long (zL sxx)), (11, .long (zL syy)), (13, .long (zL sxy)), (15, .int (zI (min n1 (n2 + a)))), (16, .int (zI x))]) hx hb d_O_lay_53 hl (by decide) rfl (fun ls hl => ?_)
        rw [xV_e hev1] at hl
        refine lv_aload_n hx hb d_O_lay_55 rfl (lv_at hl 3 rfl) ?_
        refine lv_iload hx hb d_O_lay_56 (lv_at hl 12 rfl) ?_
        refine lv_iload_n hx hb d_O_lay_58 rfl (lv_at hl 4 rfl) ?_
        refine zr_isub hx hb d_O_lay_59 ?_
        refine zr_callI (va_runV (As := [.int (zI (x - a))]) (rest := []) ⟨hx, hb, hml, hown, hts⟩ (c_S_evenAt l D k N AD C H.size b2 n2 w2 e2 (x - a) ⟨by omega, by omega⟩ ⟨by omega, by omega⟩ hT hTw hTe ⟨by omega, by omega⟩) (cwV 1 hts (good_V wk_373 wk_351 wk_352 wk_29 wk_353) rfl rfl rfl (by decide +kernel) ⟨Nat.le_of_ble_eq_true rfl, Nat.le_of_ble_eq_true rfl⟩) (cPre_V hK hw b2 ⟨by omega, by omega⟩ hT rfl) rfl rfl hl.1 rfl (lv_room (Nat.le_of_ble_eq_true rfl)) d_O_lay_60 ⟨Nat.le_of_ble_eq_true rfl, Nat.le_of_ble_eq_true rfl⟩) hw hA (fun r9 C10 H locs hq9 hw => ?_)
        obtain ⟨hr9, hCe⟩ := hq9
        rw [hCe] at hw; subst hr9
        refine lv_istore (lv' := [(18, .int (zI (wAt e2 n2 (x - a)))), (17, .int (zI (xV w1 n1 x))), (0, .ref (AD o)), (1, .ref (AD b1)), (2, .ref (AD b2)), (3, .int (zI a)), (4, .int (zI cn)), (5, .long (zL sx)), (7, .long (zL sy)), (9, .long (zL sxx)), (11, .long (zL syy)), (13, .long (zL sxy)), (15, .int (zI (min n1 (n2 + a)))), (16, .int (zI x))]) hx hb d_O_lay_63 hl (by decide) rfl (fun ls hl => ?_)
        rw [xV_e hev2] at hl
        have hv1 := xV_in hok1 x
        have hv2 := xV_in hok2 (x - a)
        refine lv_iload hx hb d_O_lay_65 (lv_at hl 1 rfl) ?_
        refine zr_iconst hx hb d_O_lay_67 ?_
        refine zr_icmp_eq (tgt := 129) hx hb ⟨by omega, by omega⟩ ⟨by omega, by omega⟩ d_O_lay_68 (by decide) (fun c11 => ?_) (fun c11 => ?_)
        · have hp1 : xV w1 n1 x = -1 ∨ xV w2 n2 (x - a) = -1 := Or.inl c11
          refine lv_iinc (v := zI (x + 1)) (lv' := [(16, .int (zI (x + 1))), (18, .int (zI (xV w2 n2 (x - a)))), (17, .int (zI (xV w1 n1 x))), (0, .ref (AD o)), (1, .ref (AD b1)), (2, .ref (AD b2)), (3, .int (zI a)), (4, .int (zI cn)), (5, .long (zL sx)), (7, .long (zL sy)), (9, .long (zL sxx)), (11, .long (zL syy)), (13, .long (zL sxy)), (15, .int (zI (min n1 (n2 + a))))]) hx hb d_O_lay_129 hl (k := 13) rfl (zI_add _ _) (by decide) rfl (fun ls hl => ?_)
          refine lv_goto (tgt := 40) hx hb d_O_lay_132 (by decide) ?_
          exact ihlp (x + 1) cn sx sy sxx syy sxy H locs ls (by omega) (by rw [sumR_step _ hx1, ← h_cn, ovT_t hp1]; omega) (by rw [sumR_step _ hx1, ← h_sx, ovT_t hp1]; omega) (by rw [sumR_step _ hx1, ← h_sy, ovT_t hp1]; omega) (by rw [sumR_step _ hx1, ← h_sxx, ovT_t hp1]; omega) (by rw [sumR_step _ hx1, ← h_syy, ovT_t hp1]; omega) (by rw [sumR_step _ hx1, ← h_sxy, ovT_t hp1]; omega) (by omega) (by omega)  (by omega) hw (lv_sub hl [3, 4, 5, 6, 7, 8, 9, 10, 11, 12, 13, 0] rfl)
        · have hp1 := c11
          refine lv_iload hx hb d_O_lay_71 (lv_at hl 0 rfl) ?_
          refine zr_iconst hx hb d_O_lay_73 ?_
          refine zr_icmp_eq (tgt := 129) hx hb ⟨by omega, by omega⟩ ⟨by omega, by omega⟩ d_O_lay_74 (by decide) (fun c12 => ?_) (fun c12 => ?_)
          · have hp1 : xV w1 n1 x = -1 ∨ xV w2 n2 (x - a) = -1 := Or.inr c12
            refine lv_iinc (v := zI (x + 1)) (lv' := [(16, .int (zI (x + 1))), (18, .int (zI (xV w2 n2 (x - a)))), (17, .int (zI (xV w1 n1 x))), (0, .ref (AD o)), (1, .ref (AD b1)), (2, .ref (AD b2)), (3, .int (zI a)), (4, .int (zI cn)), (5, .long (zL sx)), (7, .long (zL sy)), (9, .long (zL sxx)), (11, .long (zL syy)), (13, .long (zL sxy)), (15, .int (zI (min n1 (n2 + a))))]) hx hb d_O_lay_129 hl (k := 13) rfl (zI_add _ _) (by decide) rfl (fun ls hl => ?_)
            refine lv_goto (tgt := 40) hx hb d_O_lay_132 (by decide) ?_
            exact ihlp (x + 1) cn sx sy sxx syy sxy H locs ls (by omega) (by rw [sumR_step _ hx1, ← h_cn, ovT_t hp1]; omega) (by rw [sumR_step _ hx1, ← h_sx, ovT_t hp1]; omega) (by rw [sumR_step _ hx1, ← h_sy, ovT_t hp1]; omega) (by rw [sumR_step _ hx1, ← h_sxx, ovT_t hp1]; omega) (by rw [sumR_step _ hx1, ← h_syy, ovT_t hp1]; omega) (by rw [sumR_step _ hx1, ← h_sxy, ovT_t hp1]; omega) (by omega) (by omega)  (by omega) hw (lv_sub hl [3, 4, 5, 6, 7, 8, 9, 10, 11, 12, 13, 0] rfl)
          · have hp2 := c12
            have hm1 := mul_b (a := xV w1 n1 x) (b := xV w1 n1 x) (A := 200) (B := 200) (by omega) (by omega) (by omega) (by omega)
            have hm2 := mul_b (a := xV w2 n2 (x - a)) (b := xV w2 n2 (x - a)) (A := 200) (B := 200) (by omega) (by omega) (by omega) (by omega)
            have hm3 := mul_b (a := xV w1 n1 x) (b := xV w2 n2 (x - a)) (A := 200) (B := 200) (by omega) (by omega) (by omega) (by omega)
            refine lv_iinc (v := zI (cn + 1)) (lv' := [(4, .int (zI (cn + 1))), (18, .int (zI (xV w2 n2 (x - a)))), (17, .int (zI (xV w1 n1 x))), (0, .ref (AD o)), (1, .ref (AD b1)), (2, .ref (AD b2)), (3, .int (zI a)), (5, .long (zL sx)), (7, .long (zL sy)), (9, .long (zL sxx)), (11, .long (zL syy)), (13, .long (zL sxy)), (15, .int (zI (min n1 (n2 + a)))), (16, .int (zI x))]) hx hb d_O_lay_77 hl (k := 6) rfl (zI_add _ _) (by decide) rfl (fun ls hl => ?_)
            refine lv_lload hx hb d_O_lay_80 (lv_at hl 7 rfl) ?_
            refine lv_iload hx hb d_O_lay_82 (lv_at hl 2 rfl) ?_
            refine zr_i2l hx hb d_O_lay_84 ⟨by omega, by omega⟩ ?_
            refine zr_ladd hx hb d_O_lay_85 ?_
            refine lv_lstore (lv' := [(5, .long (zL (sx + (xV w1 n1 x)))), (4, .int (zI (cn + 1))), (18, .int (zI (xV w2 n2 (x - a)))), (17, .int (zI (xV w1 n1 x))), (0, .ref (AD o)), (1, .ref (AD b1)), (2, .ref (AD b2)), (3, .int (zI a)), (7, .long (zL sy)), (9, .long (zL sxx)), (11, .long (zL syy)), (13, .long (zL sxy)), (15, .int (zI (min n1 (n2 + a)))), (16, .int (zI x))]) hx hb d_O_lay_86 hl (by decide) rfl (fun ls hl => ?_)
            refine lv_lload hx hb d_O_lay_88 (lv_at hl 8 rfl) ?_
            refine lv_iload hx hb d_O_lay_90 (lv_at hl 2 rfl) ?_
            refine zr_i2l hx hb d_O_lay_92 ⟨by omega, by omega⟩ ?_
            refine zr_ladd hx hb d_O_lay_93 ?_
            refine lv_lstore (lv' := [(7, .long (zL (sy + (xV w2 n2 (x - a))))), (5, .long (zL (sx + (xV w1 n1 x)))), (4, .int (zI (cn + 1))), (18, .int (zI (xV w2 n2 (x - a)))), (17, .int (zI (xV w1 n1 x))), (0, .ref (AD o)), (1, .ref (AD b1)), (2, .ref (AD b2)), (3, .int (zI a)), (9, .long (zL sxx)), (11, .long (zL syy)), (13, .long (zL sxy)), (15, .int (zI (min n1 (n2 + a)))), (16, .int (zI x))]) hx hb d_O_lay_94 hl (by decide) rfl (fun ls hl => ?_)
            refine lv_lload hx hb d_O_lay_96 (lv_at hl 9 rfl) ?_
            refine lv_iload hx hb d_O_lay_98 (lv_at hl 4 rfl) ?_
            refine lv_iload hx hb d_O_lay_100 (lv_at hl 4 rfl) ?_
            refine zr_imul hx hb d_O_lay_102 ?_
            refine zr_i2l hx hb d_O_lay_103 ⟨by omega, by omega⟩ ?_
            refine zr_ladd hx hb d_O_lay_104 ?_
            refine lv_lstore (lv' := [(9, .long (zL (sxx + ((xV w1 n1 x) * (xV w1 n1 x))))), (7, .long (zL (sy + (xV w2 n2 (x - a))))), (5, .long (zL (sx + (xV w1 n1 x)))), (4, .int (zI (cn + 1))), (18, .int (zI (xV w2 n2 (x - a)))), (17, .int (zI (xV w1 n1 x))), (0, .ref (AD o)), (1, .ref (AD b1)), (2, .ref (AD b2)), (3, .int (zI a)), (11, .long (zL syy)), (13, .long (zL sxy)), (15, .int (zI (min n1 (n2 + a)))), (16, .int (zI x))]) hx hb d_O_lay_105 hl (by decide) rfl (fun ls hl => ?_)
            refine lv_lload hx hb d_O_lay_107 (lv_at hl 10 rfl) ?_
            refine lv_iload hx hb d_O_lay_109 (lv_at hl 4 rfl) ?_
            refine lv_iload hx hb d_O_lay_111 (lv_at hl 4 rfl) ?_
            refine zr_imul hx hb d_O_lay_113 ?_
            refine zr_i2l hx hb d_O_lay_114 ⟨by omega, by omega⟩ ?_
            refine zr_ladd hx hb d_O_lay_115 ?_
            refine lv_lstore (lv' := [(11, .long (zL (syy + ((xV w2 n2 (x - a)) * (xV w2 n2 (x - a)))))), (9, .long (zL (sxx + ((xV w1 n1 x) * (xV w1 n1 x))))), (7, .long (zL (sy + (xV w2 n2 (x - a))))), (5, .long (zL (sx + (xV w1 n1 x)))), (4, .int (zI (cn + 1))), (18, .int (zI (xV w2 n2 (x - a)))), (17, .int (zI (xV w1 n1 x))), (0, .ref (AD o)), (1, .ref (AD b1)), (2, .ref (AD b2)), (3, .int (zI a)), (13, .long (zL sxy)), (15, .int (zI (min n1 (n2 + a)))), (16, .int (zI x))]) hx hb d_O_lay_116 hl (by decide) rfl (fun ls hl => ?_)
            refine lv_lload hx hb d_O_lay_118 (lv_at hl 11 rfl) ?_
            refine lv_iload hx hb d_O_lay_120 (lv_at hl 6 rfl) ?_
            refine lv_iload hx hb d_O_lay_122 (lv_at hl 5 rfl) ?_
            refine zr_imul hx hb d_O_lay_124 ?_
            refine zr_i2l hx hb d_O_lay_125 ⟨by omega, by omega⟩ ?_
            refine zr_ladd hx hb d_O_lay_126 ?_
            refine lv_lstore (lv' := [(13, .long (zL (sxy + ((xV w1 n1 x) * (xV w2 n2 (x - a)))))), (11, .long (zL (syy + ((xV w2 n2 (x - a)) * (xV w2 n2 (x - a)))))), (9, .long (zL (sxx + ((xV w1 n1 x) * (xV w1 n1 x))))), (7, .long (zL (sy + (xV w2 n2 (x - a))))), (5, .long (zL (sx + (xV w1 n1 x)))), (4, .int (zI (cn + 1))), (18, .int (zI (xV w2 n2 (x - a)))), (17, .int (zI (xV w1 n1 x))), (0, .ref (AD o)), (1, .ref (AD b1)), (2, .ref (AD b2)), (3, .int (zI a)), (15, .int (zI (min n1 (n2 + a)))), (16, .int (zI x))]) hx hb d_O_lay_127 hl (by decide) rfl (fun ls hl => ?_)
            refine lv_iinc (v := zI (x + 1)) (lv' := [(16, .int (zI (x + 1))), (13, .long (zL (sxy + ((xV w1 n1 x) * (xV w2 n2 (x - a)))))), (11, .long (zL (syy + ((xV w2 n2 (x - a)) * (xV w2 n2 (x - a)))))), (9, .long (zL (sxx + ((xV w1 n1 x) * (xV w1 n1 x))))), (7, .long (zL (sy + (xV w2 n2 (x - a))))), (5, .long (zL (sx + (xV w1 n1 x)))), (4, .int (zI (cn + 1))), (18, .int (zI (xV w2 n2 (x - a)))), (17, .int (zI (xV w1 n1 x))), (0, .ref (AD o)), (1, .ref (AD b1)), (2, .ref (AD b2)), (3, .int (zI a)), (15, .int (zI (min n1 (n2 + a))))]) hx hb d_O_lay_129 hl (k := 13) rfl (zI_add _ _) (by decide) rfl (fun ls hl => ?_)
            refine lv_goto (tgt := 40) hx hb d_O_lay_132 (by decide) ?_
            exact ihlp (x + 1) (cn + 1) (sx + (xV w1 n1 x)) (sy + (xV w2 n2 (x - a))) (sxx + ((xV w1 n1 x) * (xV w1 n1 x))) (syy + ((xV w2 n2 (x - a)) * (xV w2 n2 (x - a)))) (sxy + ((xV w1 n1 x) * (xV w2 n2 (x - a)))) H locs ls (by omega) (by rw [sumR_step _ hx1, ← h_cn, ovT_f hp1 hp2]) (by rw [sumR_step _ hx1, ← h_sx, ovT_f hp1 hp2]) (by rw [sumR_step _ hx1, ← h_sy, ovT_f hp1 hp2]) (by rw [sumR_step _ hx1, ← h_sxx, ovT_f hp1 hp2]) (by rw [sumR_step _ hx1, ← h_syy, ovT_f hp1 hp2]) (by rw [sumR_step _ hx1, ← h_sxy, ovT_f hp1 hp2]) (by omega) (by omega)  (by omega) hw (lv_sub hl [9, 10, 11, 12, 6, 5, 4, 3, 2, 1, 13, 0] rfl)
  exact lp ((min n1 (n2 + a) - (max 0 a) : Int).toNat + 1) (max 0 a) 0 0 0 0 0 0 H locs ls (by omega) (sumR_self _ _).symm (sumR_self _ _).symm (sumR_self _ _).symm (sumR_self _ _).symm (sumR_self _ _).symm (sumR_self _ _).symm (by omega) (by omega)  (by omega) hw (lv_sub hl [8, 9, 10, 11, 7, 6, 5, 4, 3, 2, 1, 0] rfl)
/-- what a place adds to the number of rises, to the agreement -/
def rsT (w1 : Int → Int) (n1 : Int) (w2 : Int → Int) (n2 a p : Int) : Int := if (wAt w1 n1 (p - 1) = -1 ∨ wAt w2 n2 (p - 1 - a) = -1) ∨ (wAt w1 n1 p = -1 ∨ wAt w2 n2 (p - a) = -1) then 0 else 1
def agT (w1 : Int → Int) (n1 : Int) (w2 : Int → Int) (n2 a p : Int) : Int := if (wAt w1 n1 (p - 1) = -1 ∨ wAt w2 n2 (p - 1 - a) = -1) ∨ (wAt w1 n1 p = -1 ∨ wAt w2 n2 (p - a) = -1) then 0 else lik (ris w1 n1 p) (ris w2 n2 (p - a))
def ovR (w1 : Int → Int) (n1 : Int) (w2 : Int → Int) (n2 a : Int) : Int := sumR (rsT w1 n1 w2 n2 a) (max 0 a + 1) (min n1 (n2 + a) - (max 0 a + 1)).toNat
def ovA (w1 : Int → Int) (n1 : Int) (w2 : Int → Int) (n2 a : Int) : Int := sumR (agT w1 n1 w2 n2 a) (max 0 a + 1) (min n1 (n2 + a) - (max 0 a + 1)).toNat
abbrev rm_O_compareRises : Room := { frames := 3, cells := 0, slots := 0, locals := 65 }
set_option maxHeartbeats 4000000 in
set_option maxRecDepth 100000 in
theorem c_O_compareRises (l : Launch) (D : va_G) (k : Nat → ClassId) (N : Nat) (AD : Int → Nat) (C : Int → va_E) (sz : Nat) (o : Int) (s0 : Int) (p0 : Int) (r0 : Int) (t0 : Int) (a0 : Int) (b1 : Int) (n1 : Int) (w1 : Int → Int) (e1 : Int → Int) (b2 : Int) (n2 : Int) (w2 : Int → Int) (e2 : Int → Int) (ho : 0 ≤ o ∧ o < (N : Int)) (hO : C o = .inr (0, [.int (zI s0), .int (zI p0), .int (zI r0), .int (zI t0), .int (zI a0)])) (hb1 : 0 ≤ b1 ∧ b1 + 2 < (N : Int)) (hn1 : 0 ≤ n1 ∧ n1 ≤ 24) (hS : C b1 = .inr (2, [.ref (AD (b1 + 1)), .ref (AD (b1 + 2)), .int (zI n1)])) (hSw : C (b1 + 1) = aI (k 0) 24 w1) (hSe : C (b1 + 2) = aI (k 0) 24 e1) (hb2 : 0 ≤ b2 ∧ b2 + 2 < (N : Int)) (hn2 : 0 ≤ n2 ∧ n2 ≤ 24) (hT : C b2 = .inr (2, [.ref (AD (b2 + 1)), .ref (AD (b2 + 2)), .int (zI n2)])) (hTw : C (b2 + 1) = aI (k 0) 24 w2) (hTe : C (b2 + 2) = aI (k 0) 24 e2) (hok1 : WOK w1 n1) (hok2 : WOK w2 n2) (ha : -24 ≤ s0 ∧ s0 ≤ 24) (hd1 : o < b1 ∨ b1 + 2 < o) (hd2 : o < b2 ∨ b2 + 2 < o) : MV l y_O_compareRises (Cond.code y_O_compareRises b_O_compareRises 5 (Option.none : Option FieldType) :: WS) rm_O_compareRises D clW (tyW k) N AD C sz [.ref (AD o), .ref (AD b1), .ref (AD b2)] (fun C' => C' o = .inr (0, [.int (zI s0), .int (zI p0), .int (zI r0), .int (zI (ovR w1 n1 w2 n2 s0)), .int (zI (ovA w1 n1 w2 n2 s0))]) ∧ ∀ j : Int, j ≠ o → C' j = C j) := by
  refine MV.start (cc := b_O_compareRises) (maxL := 5) (by decide) rfl (Nat.le_of_ble_eq_true rfl) ?_
  intro p e s m args below meth c Q ls hx hb hml hown hts hK hsz hw hl hret
  have hown : s.vm.findClass "RingMatches$Overlap" = some m.cls := hown
  have hl : lv_has ls 5 [(0, .ref (AD o)), (1, .ref (AD b1)), (2, .ref (AD b2))] := hl
  have hA := wA_hi (N := N) (AD := AD) hsz
  obtain ⟨H, hH⟩ : ∃ H, H = s.heap := ⟨_, rfl⟩
  obtain ⟨locs, hlocs⟩ : ∃ z : List Loc, z = [] := ⟨_, rfl⟩
  have hw : WD D clW (wA N AD sz) s.heap H locs N AD C := by rw [hH, hlocs]; exact hw
  rw [← hlocs]
  suffices hgo : W p l e rm_O_compareRises s m args below meth c H locs 0 0 Q (F0 m 0 ls []) by rw [hH] at hgo; exact hgo
  obtain ⟨C0, hC0⟩ : ∃ z : Int → va_E, z = C := ⟨_, rfl⟩
  rw [← hC0] at hret
  refine lv_aload_n hx hb d_O_compareRises_0 rfl (lv_at hl 0 rfl) ?_
  refine zr_iconst hx hb d_O_compareRises_1 ?_
  refine zr_put (ty := .int) (v := .int (zI 0)) hx hb hts iw_O tyO tyO_ok nmO hown hK hw o ⟨by omega, by omega⟩ hO rfl 3 (by decide) (hts _ wk_95) (fun _ h => h) rfl (by decide +kernel) rfl rfl (Nat.le_of_ble_eq_true rfl) d_O_compareRises_2 (fun H locs hw => ?_)
  obtain ⟨C1, hC1⟩ : ∃ z : Int → va_E, z = zup C o (.inr (0, [.int (zI s0), .int (zI p0), .int (zI r0), .int (zI 0), .int (zI a0)])) := ⟨_, rfl⟩
  have hw : WD D clW (wA N AD sz) s.heap H locs N AD C1 := by rw [hC1]; exact hw
  have frC1 : ∀ j : Int, j ≠ o → C1 j = C j := fun j h => by rw [hC1]; exact zup_n h
  have hS : C1 b1 = .inr (2, [.ref (AD (b1 + 1)), .ref (AD (b1 + 2)), .int (zI n1)]) := (frC1 _ (by omega)).trans hS
  have hSw : C1 (b1 + 1) = aI (k 0) 24 w1 := (frC1 _ (by omega)).trans hSw
  have hSe : C1 (b1 + 2) = aI (k 0) 24 e1 := (frC1 _ (by omega)).trans hSe
  have hT : C1 b2 = .inr (2, [.ref (AD (b2 + 1)), .ref (AD (b2 + 2)), .int (zI n2)]) := (frC1 _ (by omega)).trans hT
  have hTw : C1 (b2 + 1) = aI (k 0) 24 w2 := (frC1 _ (by omega)).trans hTw
  have hTe : C1 (b2 + 2) = aI (k 0) 24 e2 := (frC1 _ (by omega)).trans hTe
  have hO : C1 o = .inr (0, [.int (zI s0), .int (zI p0), .int (zI r0), .int (zI 0), .int (zI a0)]) := by rw [hC1]; exact zup_s
  refine lv_aload_n hx hb d_O_compareRises_5 rfl (lv_at hl 0 rfl) ?_
  refine zr_iconst hx hb d_O_compareRises_6 ?_
  refine zr_put (ty := .int) (v := .int (zI 0)) hx hb hts iw_O tyO tyO_ok nmO hown hK hw o ⟨by omega, by omega⟩ hO rfl 4 (by decide) (hts _ wk_97) (fun _ h => h) rfl (by decide +kernel) rfl rfl (Nat.le_of_ble_eq_true rfl) d_O_compareRises_7 (fun H locs hw => ?_)
  obtain ⟨C2, hC2⟩ : ∃ z : Int → va_E, z = zup C1 o (.inr (0, [.int (zI s0), .int (zI p0), .int (zI r0), .int (zI 0), .int (zI 0)])) := ⟨_, rfl⟩
  have hw : WD D clW (wA N AD sz) s.heap H locs N AD C2 := by rw [hC2]; exact hw
  have frC2 : ∀ j : Int, j ≠ o → C2 j = C1 j := fun j h => by rw [hC2]; exact zup_n h
  have hS : C2 b1 = .inr (2, [.ref (AD (b1 + 1)), .ref (AD (b1 + 2)), .int (zI n1)]) := (frC2 _ (by omega)).trans hS
  have hSw : C2 (b1 + 1) = aI (k 0) 24 w1 := (frC2 _ (by omega)).trans hSw
  have hSe : C2 (b1 + 2) = aI (k 0) 24 e1 := (frC2 _ (by omega)).trans hSe
  have hT : C2 b2 = .inr (2, [.ref (AD (b2 + 1)), .ref (AD (b2 + 2)), .int (zI n2)]) := (frC2 _ (by omega)).trans hT
  have hTw : C2 (b2 + 1) = aI (k 0) 24 w2 := (frC2 _ (by omega)).trans hTw
  have hTe : C2 (b2 + 2) = aI (k 0) 24 e2 := (frC2 _ (by omega)).trans hTe
  have hO : C2 o = .inr (0, [.int (zI s0), .int (zI p0), .int (zI r0), .int (zI 0), .int (zI 0)]) := by rw [hC2]; exact zup_s
  refine lv_aload_n hx hb d_O_compareRises_10 rfl (lv_at hl 1 rfl) ?_
  refine zr_get (v := .int (zI n1)) hx hb hts iw_S hown hK hw b1 ⟨by omega, by omega⟩ hS rfl 2 (by decide) (hts _ wk_72) (fun _ h => h) rfl d_O_compareRises_11 ?_
  refine lv_aload_n hx hb d_O_compareRises_14 rfl (lv_at hl 2 rfl) ?_
  refine zr_get (v := .int (zI n2)) hx hb hts iw_S hown hK hw b2 ⟨by omega, by omega⟩ hT rfl 2 (by decide) (hts _ wk_72) (fun _ h => h) rfl d_O_compareRises_15 ?_
  refine lv_aload_n hx hb d_O_compareRises_18 rfl (lv_at hl 0 rfl) ?_
  refine zr_get (v := .int (zI s0)) hx hb hts iw_O hown hK hw o ⟨by omega, by omega⟩ hO rfl 0 (by decide) (hts _ wk_89) (fun _ h => h) rfl d_O_compareRises_19 ?_
  refine zr_iadd hx hb d_O_compareRises_22 ?_
  refine zr_min hx hb (hml.trans hl.1.symm) hown hts wk_369 (Nat.le_of_ble_eq_true rfl) (Nat.le_of_ble_eq_true rfl) (Nat.le_of_ble_eq_true rfl) (Nat.le_of_ble_eq_true rfl) ⟨by omega, by omega⟩ ⟨by omega, by omega⟩ d_O_compareRises_23 ?_
  refine lv_istore_n (lv' := [(3, .int (zI (min n1 (n2 + s0)))), (0, .ref (AD o)), (1, .ref (AD b1)), (2, .ref (AD b2))]) hx hb d_O_compareRises_26 rfl hl (by decide) rfl (fun ls hl => ?_)
  refine zr_iconst hx hb d_O_compareRises_27 ?_
  refine lv_aload_n hx hb d_O_compareRises_28 rfl (lv_at hl 1 rfl) ?_
  refine zr_get (v := .int (zI s0)) hx hb hts iw_O hown hK hw o ⟨by omega, by omega⟩ hO rfl 0 (by decide) (hts _ wk_89) (fun _ h => h) rfl d_O_compareRises_29 ?_
  refine zr_max hx hb (hml.trans hl.1.symm) hown hts wk_370 (Nat.le_of_ble_eq_true rfl) (Nat.le_of_ble_eq_true rfl) (Nat.le_of_ble_eq_true rfl) (Nat.le_of_ble_eq_true rfl) ⟨by omega, by omega⟩ ⟨by omega, by omega⟩ d_O_compareRises_32 ?_
  refine zr_iconst hx hb d_O_compareRises_35 ?_
  refine zr_iadd hx hb d_O_compareRises_36 ?_
  refine lv_istore (lv' := [(4, .int (zI ((max 0 s0) + 1))), (3, .int (zI (min n1 (n2 + s0)))), (0, .ref (AD o)), (1, .ref (AD b1)), (2, .ref (AD b2))]) hx hb d_O_compareRises_37 hl (by decide) rfl (fun ls hl => ?_)
  have lp : ∀ (n9 : Nat) (x : Int) (st : Int) (ag : Int) (C : Int → va_E) (H : Heap) (locs : List Loc) (ls : Array Slot), (max 0 s0 + 1 ≤ x) → (st = sumR (rsT w1 n1 w2 n2 s0) (max 0 s0 + 1) (x - (max 0 s0 + 1)).toNat) → (ag = sumR (agT w1 n1 w2 n2 s0) (max 0 s0 + 1) (x - (max 0 s0 + 1)).toNat) → (0 ≤ st ∧ st ≤ x - (max 0 s0 + 1) ∧ 0 ≤ ag ∧ ag ≤ 2 * st) → (x ≤ max (max 0 s0 + 1) (min n1 (n2 + s0))) → (∀ j : Int, j ≠ o → C j = C0 j) → (C b1 = .inr (2, [.ref (AD (b1 + 1)), .ref (AD (b1 + 2)), .int (zI n1)])) → (C (b1 + 1) = aI (k 0) 24 w1) → (C (b1 + 2) = aI (k 0) 24 e1) → (C b2 = .inr (2, [.ref (AD (b2 + 1)), .ref (AD (b2 + 2)), .int (zI n2)])) → (C (b2 + 1) = aI (k 0) 24 w2) → (C (b2 + 2) = aI (k 0) 24 e2) → (C o = .inr (0, [.int (zI s0), .int (zI p0), .int (zI r0), .int (zI st), .int (zI ag)])) → (min n1 (n2 + s0) - x).toNat < n9 → WD D clW (wA N AD sz) s.heap H locs N AD C → lv_has ls 5 [(0, .ref (AD o)), (1, .ref (AD b1)), (2, .ref (AD b2)), (3, .int (zI (min n1 (n2 + s0)))), (4, .int (zI x))] → W p l e rm_O_compareRises s m args below meth c H locs 0 0 Q (F0 m 39 ls []) := by
    intro n9
    induction n9 with
    | zero => intro x st ag C H locs ls hx1 hst hag hbd hx2 hfr hS hSw hSe hT hTw hTe hO hm hw hl; exact absurd hm (by omega)
    | succ n9 ihlp =>
      intro x st ag C H locs ls hx1 hst hag hbd hx2 hfr hS hSw hSe hT hTw hTe hO hm hw hl
      refine lv_iload hx hb d_O_compareRises_39 (lv_at hl 4 rfl) ?_
      refine lv_iload_n hx hb d_O_compareRises_41 rfl (lv_at hl 3 rfl) ?_
      refine zr_icmp_ge (tgt := 114) hx hb ⟨by omega, by omega⟩ ⟨by omega, by omega⟩ d_O_compareRises_42 (by decide) (fun c3 => ?_) (fun c3 => ?_)
      · have hxe : (x - (max 0 s0 + 1)).toNat = (min n1 (n2 + s0) - (max 0 s0 + 1)).toNat := by omega
        rw [hxe] at hst hag
        exact hret _ _ _ _ _ d_O_compareRises_114 hw ⟨by rw [hO]; unfold ovR ovA; rw [← hst, ← hag], hfr⟩
      · refine lv_aload_n hx hb d_O_compareRises_45 rfl (lv_at hl 0 rfl) ?_
        refine lv_aload_n hx hb d_O_compareRises_46 rfl (lv_at hl 1 rfl) ?_
        refine lv_aload_n hx hb d_O_compareRises_47 rfl (lv_at hl 2 rfl) ?_
        refine lv_iload hx hb d_O_compareRises_48 (lv_at hl 4 rfl) ?_
        refine zr_iconst hx hb d_O_compareRises_50 ?_
        refine zr_isub hx hb d_O_compareRises_51 ?_
        refine zr_callI (va_runV (As := [.ref (AD b1), .ref (AD b2), .int (zI (x - 1))]) (rest := []) ⟨hx, hb, hml, hown, hts⟩ (c_O_isPair l D k N AD C H.size o s0 p0 r0 st ag b1 n1 w1 e1 b2 n2 w2 e2 (x - 1) ⟨by omega, by omega⟩ hO ⟨by omega, by omega⟩ ⟨by omega, by omega⟩ hS hSw hSe ⟨by omega, by omega⟩ ⟨by omega, by omega⟩ hT hTw hTe hok1 hok2 (by omega) (by omega)) (cwV 3 hts (good_V wk_382 wk_384 wk_4 wk_30 wk_385) rfl rfl rfl (by decide +kernel) ⟨Nat.le_of_ble_eq_true rfl, Nat.le_of_ble_eq_true rfl⟩) (cPre_V hK hw o ⟨by omega, by omega⟩ hO rfl) rfl rfl hl.1 rfl (lv_room (Nat.le_of_ble_eq_true rfl)) d_O_compareRises_52 ⟨Nat.le_of_ble_eq_true rfl, Nat.le_of_ble_eq_true rfl⟩) hw hA (fun r9 C5 H locs hq4 hw => ?_)
        obtain ⟨hq4, hCe⟩ := hq4
        rw [hCe] at hw
        rcases hq4 with ⟨hr9, hq4⟩ | ⟨hr9, hq4⟩ <;> subst hr9
        · refine zr_if_eq (tgt := 108) hx hb ⟨by omega, by omega⟩ d_O_compareRises_55 (by decide) (fun c9 => absurd c9 (by decide)) (fun c6 => ?_)
          refine lv_aload_n hx hb d_O_compareRises_58 rfl (lv_at hl 0 rfl) ?_
          refine lv_aload_n hx hb d_O_compareRises_59 rfl (lv_at hl 1 rfl) ?_
          refine lv_aload_n hx hb d_O_compareRises_60 rfl (lv_at hl 2 rfl) ?_
          refine lv_iload hx hb d_O_compareRises_61 (lv_at hl 4 rfl) ?_
          refine zr_callI (va_runV (As := [.ref (AD b1), .ref (AD b2), .int (zI x)]) (rest := []) ⟨hx, hb, hml, hown, hts⟩ (c_O_isPair l D k N AD C H.size o s0 p0 r0 st ag b1 n1 w1 e1 b2 n2 w2 e2 x ⟨by omega, by omega⟩ hO ⟨by omega, by omega⟩ ⟨by omega, by omega⟩ hS hSw hSe ⟨by omega, by omega⟩ ⟨by omega, by omega⟩ hT hTw hTe hok1 hok2 (by omega) (by omega)) (cwV 3 hts (good_V wk_382 wk_384 wk_4 wk_30 wk_385) rfl rfl rfl (by decide +kernel) ⟨Nat.le_of_ble_eq_true rfl, Nat.le_of_ble_eq_true rfl⟩) (cPre_V hK hw o ⟨by omega, by omega⟩ hO rfl) rfl rfl hl.1 rfl (lv_room (Nat.le_of_ble_eq_true rfl)) d_O_compareRises_63 ⟨Nat.le_of_ble_eq_true rfl, Nat.le_of_ble_eq_true rfl⟩) hw hA (fun r9 C8 H locs hq7 hw => ?_)
          obtain ⟨hq7, hCe⟩ := hq7
          rw [hCe] at hw
          rcases hq7 with ⟨hr9, hq7⟩ | ⟨hr9, hq7⟩ <;> subst hr9
          · refine zr_if_eq (tgt := 108) hx hb ⟨by omega, by omega⟩ d_O_compareRises_66 (by decide) (fun c9 => absurd c9 (by decide)) (fun c9 => ?_)
            refine lv_aload_n hx hb d_O_compareRises_69 rfl (lv_at hl 0 rfl) ?_
            refine lv_dup hx hb d_O_compareRises_70 rfl ?_
            refine zr_get (v := .int (zI st)) hx hb hts iw_O hown hK hw o ⟨by omega, by omega⟩ hO rfl 3 (by decide) (hts _ wk_95) (fun _ h => h) rfl d_O_compareRises_71 ?_
            refine zr_iconst hx hb d_O_compareRises_74 ?_
            refine zr_iadd hx hb d_O_compareRises_75 ?_
            refine zr_put (ty := .int) (v := .int (zI (st + 1))) hx hb hts iw_O tyO tyO_ok nmO hown hK hw o ⟨by omega, by omega⟩ hO rfl 3 (by decide) (hts _ wk_95) (fun _ h => h) rfl (by decide +kernel) rfl rfl (Nat.le_of_ble_eq_true rfl) d_O_compareRises_76 (fun H locs hw => ?_)
            obtain ⟨C10, hC10⟩ : ∃ z : Int → va_E, z = zup C o (.inr (0, [.int (zI s0), .int (zI p0), .int (zI r0), .int (zI (st + 1)), .int (zI ag)])) := ⟨_, rfl⟩
            have hw : WD D clW (wA N AD sz) s.heap H locs N AD C10 := by rw [hC10]; exact hw
            have frC10 : ∀ j : Int, j ≠ o → C10 j = C j := fun j h => by rw [hC10]; exact zup_n h
            have hS : C10 b1 = .inr (2, [.ref (AD (b1 + 1)), .ref (AD (b1 + 2)), .int (zI n1)]) := (frC10 _ (by omega)).trans hS
            have hSw : C10 (b1 + 1) = aI (k 0) 24 w1 := (frC10 _ (by omega)).trans hSw
            have hSe : C10 (b1 + 2) = aI (k 0) 24 e1 := (frC10 _ (by omega)).trans hSe
            have hT : C10 b2 = .inr (2, [.ref (AD (b2 + 1)), .ref (AD (b2 + 2)), .int (zI n2)]) := (frC10 _ (by omega)).trans hT
            have hTw : C10 (b2 + 1) = aI (k 0) 24 w2 := (frC10 _ (by omega)).trans hTw
            have hTe : C10 (b2 + 2) = aI (k 0) 24 e2 := (frC10 _ (by omega)).trans hTe
            have hO : C10 o = .inr (0, [.int (zI s0), .int (zI p0), .int (zI r0), .int (zI (st + 1)), .int (zI ag)]) := by rw [hC10]; exact zup_s
            refine lv_aload_n hx hb d_O_compareRises_79 rfl (lv_at hl 0 rfl) ?_
            refine lv_dup hx hb d_O_compareRises_80 rfl ?_
            refine zr_get (v := .int (zI ag)) hx hb hts iw_O hown hK hw o ⟨by omega, by omega⟩ hO rfl 4 (by decide) (hts _ wk_97) (fun _ h => h) rfl d_O_compareRises_81 ?_
            refine lv_aload_n hx hb d_O_compareRises_84 rfl (lv_at hl 1 rfl) ?_
            refine lv_iload hx hb d_O_compareRises_85 (lv_at hl 4 rfl) ?_
            refine zr_callI (va_runS (As := [.ref (AD b1), .int (zI x)]) (rest := [.int (zI ag), .ref (AD o)]) ⟨hx, hb, hml, hown, hts⟩ (c_O_rise l D k N AD C10 H.size b1 n1 w1 e1 x ⟨by omega, by omega⟩ ⟨by omega, by omega⟩ hS hSw hSe hok1 (by omega)) (va_cwS 2 hts (good_S wk_387 wk_388 wk_30 wk_389) rfl rfl rfl (by decide +kernel) ⟨Nat.le_of_ble_eq_true rfl, Nat.le_of_ble_eq_true rfl⟩) (cPre_S hK hw) rfl rfl hl.1 rfl (lv_room (Nat.le_of_ble_eq_true rfl)) d_O_compareRises_87 ⟨Nat.le_of_ble_eq_true rfl, Nat.le_of_ble_eq_true rfl⟩) hw hA (fun r9 C12 H locs hq11 hw => ?_)
            obtain ⟨hr9, hCe⟩ := hq11
            rw [hCe] at hw; subst hr9
            refine lv_aload_n hx hb d_O_compareRises_90 rfl (lv_at hl 2 rfl) ?_
            refine lv_iload hx hb d_O_compareRises_91 (lv_at hl 4 rfl) ?_
            refine lv_aload_n hx hb d_O_compareRises_93 rfl (lv_at hl 0 rfl) ?_
            refine zr_get (v := .int (zI s0)) hx hb hts iw_O hown hK hw o ⟨by omega, by omega⟩ hO rfl 0 (by decide) (hts _ wk_89) (fun _ h => h) rfl d_O_compareRises_94 ?_
            refine zr_isub hx hb d_O_compareRises_97 ?_
            refine zr_callI (va_runS (As := [.ref (AD b2), .int (zI (x - s0))]) (rest := [.int (zI (ris w1 n1 x)), .int (zI ag), .ref (AD o)]) ⟨hx, hb, hml, hown, hts⟩ (c_O_rise l D k N AD C10 H.size b2 n2 w2 e2 (x - s0) ⟨by omega, by omega⟩ ⟨by omega, by omega⟩ hT hTw hTe hok2 (by omega)) (va_cwS 2 hts (good_S wk_387 wk_388 wk_30 wk_389) rfl rfl rfl (by decide +kernel) ⟨Nat.le_of_ble_eq_true rfl, Nat.le_of_ble_eq_true rfl⟩) (cPre_S hK hw) rfl rfl hl.1 rfl (lv_room (Nat.le_of_ble_eq_true rfl)) d_O_compareRises_98 ⟨Nat.le_of_ble_eq_true rfl, Nat.le_of_ble_eq_true rfl⟩) hw hA (fun r9 C14 H locs hq13 hw => ?_)
            obtain ⟨hr9, hCe⟩ := hq13
            rw [hCe] at hw; subst hr9
            have hr1 := ris_in w1 n1 x
            have hr2 := ris_in w2 n2 (x - s0)
            refine zr_callI (va_runS (As := [.int (zI (ris w1 n1 x)), .int (zI (ris w2 n2 (x - s0)))]) (rest := [.int (zI ag), .ref (AD o)]) ⟨hx, hb, hml, hown, hts⟩ (c_O_likeness l D k N AD C10 H.size (ris w1 n1 x) (ris w2 n2 (x - s0)) ⟨by omega, by omega⟩ ⟨by omega, by omega⟩) (va_cwS 2 hts (good_S wk_390 wk_391 wk_30 wk_392) rfl rfl rfl (by decide +kernel) ⟨Nat.le_of_ble_eq_true rfl, Nat.le_of_ble_eq_true rfl⟩) (cPre_S hK hw) rfl rfl hl.1 rfl (lv_room (Nat.le_of_ble_eq_true rfl)) d_O_compareRises_101 ⟨Nat.le_of_ble_eq_true rfl, Nat.le_of_ble_eq_true rfl⟩) hw hA (fun r9 C16 H locs hq15 hw => ?_)
            obtain ⟨hr9, hCe⟩ := hq15
            rw [hCe] at hw; subst hr9
            have hl9 := lik_in (ris w1 n1 x) (ris w2 n2 (x - s0))
            refine zr_iadd hx hb d_O_compareRises_104 ?_
            refine zr_put (ty := .int) (v := .int (zI (ag + (lik (ris w1 n1 x) (ris w2 n2 (x - s0)))))) hx hb hts iw_O tyO tyO_ok nmO hown hK hw o ⟨by omega, by omega⟩ hO rfl 4 (by decide) (hts _ wk_97) (fun _ h => h) rfl (by decide +kernel) rfl rfl (Nat.le_of_ble_eq_true rfl) d_O_compareRises_105 (fun H locs hw => ?_)
            obtain ⟨C17, hC17⟩ : ∃ z : Int → va_E, z = zup C10 o (.inr (0, [.int (zI s0), .int (zI p0), .int (zI r0), .int (zI (st + 1)), .int (zI (ag + (lik (ris w1 n1 x) (ris w2 n2 (x - s0)))))])) := ⟨_, rfl⟩
            have hw : WD D clW (wA N AD sz) s.heap H locs N AD C17 := by rw [hC17]; exact hw
            have frC17 : ∀ j : Int, j ≠ o → C17 j = C10 j := fun j h => by rw [hC17]; exact zup_n h
            have hS : C17 b1 = .inr (2, [.ref (AD (b1 + 1)), .ref (AD (b1 + 2)), .int (zI n1)]) := (frC17 _ (by omega)).trans hS
            have hSw : C17 (b1 + 1) = aI (k 0) 24 w1 := (frC17 _ (by omega)).trans hSw
            have hSe : C17 (b1 + 2) = aI (k 0) 24 e1 := (frC17 _ (by omega)).trans hSe
            have hT : C17 b2 = .inr (2, [.ref (AD (b2 + 1)), .ref (AD (b2 + 2)), .int (zI n2)]) := (frC17 _ (by omega)).trans hT
            have hTw : C17 (b2 + 1) = aI (k 0) 24 w2 := (frC17 _ (by omega)).trans hTw
            have hTe : C17 (b2 + 2) = aI (k 0) 24 e2 := (frC17 _ (by omega)).trans hTe
            have hO : C17 o = .inr (0, [.int (zI s0), .int (zI p0), .int (zI r0), .int (zI (st + 1)), .int (zI (ag + (lik (ris w1 n1 x) (ris w2 n2 (x - s0)))))]) := by rw [hC17]; exact zup_s
            refine lv_iinc (v := zI (x + 1)) (lv' := [(4, .int (zI (x + 1))), (0, .ref (AD o)), (1, .ref (AD b1)), (2, .ref (AD b2)), (3, .int (zI (min n1 (n2 + s0))))]) hx hb d_O_compareRises_108 hl (k := 4) rfl (zI_add _ _) (by decide) rfl (fun ls hl => ?_)
            refine lv_goto (tgt := 39) hx hb d_O_compareRises_111 (by decide) ?_
            exact ihlp (x + 1) (st + 1) (ag + (lik (ris w1 n1 x) (ris w2 n2 (x - s0)))) C17 H locs ls (by omega) (by rw [sumR_step _ hx1, ← hst]; unfold rsT; rw [if_neg (by omega)]) (by rw [sumR_step _ hx1, ← hag]; unfold agT; rw [if_neg (by omega)]) (by omega) (by omega) (fun j hj => by rw [frC17 j hj, frC10 j hj]; exact hfr j hj) hS hSw hSe hT hTw hTe hO (by omega) hw (lv_sub hl [1, 2, 3, 4, 0] rfl)
          · refine zr_if_eq (tgt := 108) hx hb ⟨by omega, by omega⟩ d_O_compareRises_66 (by decide) (fun c18 => ?_) (fun c9 => absurd c9 (by decide))
            refine lv_iinc (v := zI (x + 1)) (lv' := [(4, .int (zI (x + 1))), (0, .ref (AD o)), (1, .ref (AD b1)), (2, .ref (AD b2)), (3, .int (zI (min n1 (n2 + s0))))]) hx hb d_O_compareRises_108 hl (k := 4) rfl (zI_add _ _) (by decide) rfl (fun ls hl => ?_)
            refine lv_goto (tgt := 39) hx hb d_O_compareRises_111 (by decide) ?_
            exact ihlp (x + 1) st ag C H locs ls (by omega) (by rw [sumR_step _ hx1, ← hst]; unfold rsT; rw [if_pos (by omega)]; omega) (by rw [sumR_step _ hx1, ← hag]; unfold agT; rw [if_pos (by omega)]; omega) (by omega) (by omega) hfr hS hSw hSe hT hTw hTe hO (by omega) hw (lv_sub hl [1, 2, 3, 4, 0] rfl)
        · refine zr_if_eq (tgt := 108) hx hb ⟨by omega, by omega⟩ d_O_compareRises_55 (by decide) (fun c19 => ?_) (fun c9 => absurd c9 (by decide))
          refine lv_iinc (v := zI (x + 1)) (lv' := [(4, .int (zI (x + 1))), (0, .ref (AD o)), (1, .ref (AD b1)), (2, .ref (AD b2)), (3, .int (zI (min n1 (n2 + s0))))]) hx hb d_O_compareRises_108 hl (k := 4) rfl (zI_add _ _) (by decide) rfl (fun ls hl => ?_)
          refine lv_goto (tgt := 39) hx hb d_O_compareRises_111 (by decide) ?_
          exact ihlp (x + 1) st ag C H locs ls (by omega) (by rw [sumR_step _ hx1, ← hst]; unfold rsT; rw [if_pos (by omega)]; omega) (by rw [sumR_step _ hx1, ← hag]; unfold agT; rw [if_pos (by omega)]; omega) (by omega) (by omega) hfr hS hSw hSe hT hTw hTe hO (by omega) hw (lv_sub hl [1, 2, 3, 4, 0] rfl)
  exact lp ((min n1 (n2 + s0) - ((max 0 s0) + 1) : Int).toNat + 1) ((max 0 s0) + 1) 0 0 C2 H locs ls (by omega) (sumR_self _ _).symm (sumR_self _ _).symm (by omega) (by omega) (fun j hj => by rw [frC2 j hj, frC1 j hj, hC0]) hS hSw hSe hT hTw hTe hO (by omega) hw (lv_sub hl [2, 3, 4, 1, 0] rfl)
