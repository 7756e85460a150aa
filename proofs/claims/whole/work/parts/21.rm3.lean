/-- the greatest that divides both -/
def gcdZ (x y : Int) : Int := ((Int.gcd x y : Nat) : Int)
theorem gcdZ_step {g s : Int} (hg : 0 ≤ g) (hs : 0 < s) : gcdZ s (g % s) = gcdZ g s := by
  obtain ⟨a, rfl⟩ := Int.eq_ofNat_of_zero_le hg
  obtain ⟨b, rfl⟩ := Int.eq_ofNat_of_zero_le (Int.le_of_lt hs)
  unfold gcdZ
  congr 1
  rw [← Int.natCast_emod]
  show Nat.gcd b (a % b) = Nat.gcd a b
  rw [Nat.gcd_comm b, ← Nat.gcd_rec, Nat.gcd_comm]
theorem gcdZ_0 {g : Int} (hg : 0 ≤ g) : gcdZ g 0 = g := by
  unfold gcdZ
  rw [Int.gcd_zero_right]
  omega
theorem gcdZ_pos {x y : Int} (h : 0 < y) : 0 < gcdZ x y := by
  unfold gcdZ
  have : 0 < Int.gcd x y := by
    apply Nat.pos_of_ne_zero
    intro e
    have := (Int.gcd_eq_zero_iff.mp e).2
    omega
  omega
theorem gd_step {g s B : Int} (hs : 0 < s) (hgs : s ≤ g) (hp : g * s < 2 * B) : s * (g % s) < B := by
  have h1 : g % s + s ≤ g := by
    have e := Int.emod_add_mul_ediv g s
    have h2 : 1 ≤ g / s := by
      apply Int.le_ediv_of_mul_le hs
      omega
    have h3 : s * 1 ≤ s * (g / s) := Int.mul_le_mul_of_nonneg_left h2 (by omega)
    omega
  have h2 := Int.emod_lt_of_pos g hs
  have h3 : s * (2 * (g % s) + 1) ≤ s * g := Int.mul_le_mul_of_nonneg_left (by omega) (by omega)
  have e1 : s * (2 * (g % s) + 1) = 2 * (s * (g % s)) + s := by grind
  have e2 : s * g = g * s := Int.mul_comm _ _
  omega
def B66 (x : Int) : Int := 2 ^ (66 - x).toNat
theorem B66_step {x : Int} (h : x ≤ 65) : B66 x = 2 * B66 (x + 1) := by
  unfold B66
  rw [show (66 - x).toNat = (66 - (x + 1)).toNat + 1 by omega, Int.pow_succ, Int.mul_comm]
/-- how far a pair of numbers may still be from its end -/
def gdI (x g s : Int) : Prop := s = 0 ∨ (x ≤ 65 ∧ g * s < B66 x ∧ (s ≤ g ∨ (x = 0 ∧ g * s < 1152921504606846976)))
theorem gdI_step {x g s : Int} (h0 : 0 ≤ x) (hg : 0 ≤ g) (hs : 0 < s) (h : gdI x g s) : gdI (x + 1) s (g % s) := by
  have hr0 := Int.emod_nonneg g (show s ≠ 0 by omega)
  have hr1 := Int.emod_lt_of_pos g hs
  rcases h with h | ⟨h1, h2, h3⟩
  · omega
  · by_cases hz : g % s = 0
    · exact Or.inl hz
    · have key : s * (g % s) < B66 (x + 1) := by
        by_cases hgs : s ≤ g
        · exact gd_step hs hgs (by rw [B66_step h1] at h2; exact h2)
        · have e : g % s = g := Int.emod_eq_of_lt hg (by omega)
          rcases h3 with h3 | h3
          · omega
          · rw [e, Int.mul_comm]
            have hx : x = 0 := h3.1
            rw [hx]
            have : B66 (0 + 1) = 36893488147419103232 := by decide +kernel
            omega
      refine Or.inr ⟨?_, key, Or.inl (by omega)⟩
      by_cases hx : x = 65
      · rw [hx] at key
        have e66 : B66 (65 + 1) = 1 := by decide +kernel
        have hp : 0 < s * (g % s) := Int.mul_pos hs (by omega)
        omega
      · omega
theorem B66_0 : B66 0 = 73786976294838206464 := by decide +kernel
abbrev rm_R_greatestDivisor : Room := { frames := 0, cells := 0, slots := 0, locals := 0 }
set_option maxHeartbeats 4000000 in
set_option maxRecDepth 100000 in
theorem c_R_greatestDivisor (l : Launch) (D : va_G) (k : Nat → ClassId) (N : Nat) (AD : Int → Nat) (C : Int → va_E) (sz : Nat) (x : Int) (y : Int) (hx0 : 0 ≤ x ∧ x < 4611686018427387904) (hy0 : 0 < y ∧ y < 4611686018427387904) (hxy : x * y < 1152921504606846976) : ML l y_R_greatestDivisor (Cond.code y_R_greatestDivisor b_R_greatestDivisor 11 (Option.some Jvm.ClassFile.FieldType.long) :: WS) rm_R_greatestDivisor D clW (tyW k) N AD C sz [.long (zL x), .long (zL y)] (fun r C' => r = zL (gcdZ x y) ∧ C' = C) := by
  refine ML.start (cc := b_R_greatestDivisor) (maxL := 11) (by decide) rfl (Nat.le_of_ble_eq_true rfl) ?_
  intro p e s m args below meth c Q ls hx hb hml hown hts hK hsz hw hl hret
  have hown : s.vm.findClass "RingMatches" = some m.cls := hown
  have hl : lv_has ls 11 [(0, .long (zL x)), (2, .long (zL y))] := hl
  have hA := wA_hi (N := N) (AD := AD) hsz
  obtain ⟨H, hH⟩ : ∃ H, H = s.heap := ⟨_, rfl⟩
  obtain ⟨locs, hlocs⟩ : ∃ z : List Loc, z = [] := ⟨_, rfl⟩
  have hw : WD D clW (wA N AD sz) s.heap H locs N AD C := by rw [hH, hlocs]; exact hw
  rw [← hlocs]
  suffices hgo : W p l e rm_R_greatestDivisor s m args below meth c H locs 0 0 Q (F0 m 0 ls []) by rw [hH] at hgo; exact hgo
  refine lv_lload_n hx hb d_R_greatestDivisor_0 rfl (lv_at hl 0 rfl) ?_
  refine lv_lstore (lv' := [(4, .long (zL x)), (0, .long (zL x)), (2, .long (zL y))]) hx hb d_R_greatestDivisor_1 hl (by decide) rfl (fun ls hl => ?_)
  refine lv_lload_n hx hb d_R_greatestDivisor_3 rfl (lv_at hl 2 rfl) ?_
  refine lv_lstore (lv' := [(6, .long (zL y)), (4, .long (zL x)), (0, .long (zL x)), (2, .long (zL y))]) hx hb d_R_greatestDivisor_4 hl (by decide) rfl (fun ls hl => ?_)
  refine zr_iconst hx hb d_R_greatestDivisor_6 ?_
  refine lv_istore (lv' := [(8, .int (zI 0)), (6, .long (zL y)), (4, .long (zL x)), (0, .long (zL x)), (2, .long (zL y))]) hx hb d_R_greatestDivisor_7 hl (by decide) rfl (fun ls hl => ?_)
  have lp : ∀ (n9 : Nat) (t : Int) (g : Int) (s9 : Int) (H : Heap) (locs : List Loc) (ls : Array Slot), (0 ≤ t) → (0 ≤ g ∧ g < 4611686018427387904) → (0 ≤ s9 ∧ s9 < 4611686018427387904) → (gcdZ g s9 = gcdZ x y) → (gdI t g s9) → (t ≤ 200) → (200 - t).toNat < n9 → WD D clW (wA N AD sz) s.heap H locs N AD C → lv_has ls 11 [(0, .long (zL x)), (2, .long (zL y)), (4, .long (zL g)), (6, .long (zL s9)), (8, .int (zI t))] → W p l e rm_R_greatestDivisor s m args below meth c H locs 0 0 Q (F0 m 9 ls []) := by
    intro n9
    induction n9 with
    | zero => intro t g s9 H locs ls ht hg hs9 hgc hgd ht2  hm hw hl; exact absurd hm (by omega)
    | succ n9 ihlp =>
      intro t g s9 H locs ls ht hg hs9 hgc hgd ht2  hm hw hl
      refine lv_iload hx hb d_R_greatestDivisor_9 (lv_at hl 4 rfl) ?_
      refine zr_sipush hx hb d_R_greatestDivisor_11 (by decide) ?_
      refine zr_icmp_ge (tgt := 45) hx hb ⟨by omega, by omega⟩ ⟨by omega, by omega⟩ d_R_greatestDivisor_14 (by decide) (fun c1 => ?_) (fun c1 => ?_)
      · have hz : s9 = 0 := by rcases hgd with h | h; exact h; omega
        rw [hz, gcdZ_0 hg.1] at hgc
        have hgp := gcdZ_pos (x := x) (y := y) (by omega)
        refine lv_lload hx hb d_R_greatestDivisor_45 (lv_at hl 2 rfl) ?_
        refine zr_lconst0 hx hb d_R_greatestDivisor_47 ?_
        refine zr_lcmp_ne (tgt := 56) hx hb ⟨by omega, by omega⟩ ⟨by omega, by omega⟩ d_R_greatestDivisor_48 d_R_greatestDivisor_49 (by decide) (fun c2 => ?_) (fun c2 => ?_)
        · refine lv_lload hx hb d_R_greatestDivisor_56 (lv_at hl 2 rfl) ?_
          exact hret _ _ _ _ _ _ d_R_greatestDivisor_58 hw ⟨by rw [hgc], rfl⟩
        · exact absurd c2 (by omega)
      · refine lv_lload hx hb d_R_greatestDivisor_17 (lv_at hl 3 rfl) ?_
        refine zr_lconst0 hx hb d_R_greatestDivisor_19 ?_
        refine zr_lcmp_eq (tgt := 45) hx hb ⟨by omega, by omega⟩ ⟨by omega, by omega⟩ d_R_greatestDivisor_20 d_R_greatestDivisor_21 (by decide) (fun c3 => ?_) (fun c3 => ?_)
        · have hz : s9 = 0 := by rcases hgd with h | h; exact h; omega
          rw [hz, gcdZ_0 hg.1] at hgc
          have hgp := gcdZ_pos (x := x) (y := y) (by omega)
          refine lv_lload hx hb d_R_greatestDivisor_45 (lv_at hl 2 rfl) ?_
          refine zr_lconst0 hx hb d_R_greatestDivisor_47 ?_
          refine zr_lcmp_ne (tgt := 56) hx hb ⟨by omega, by omega⟩ ⟨by omega, by omega⟩ d_R_greatestDivisor_48 d_R_greatestDivisor_49 (by decide) (fun c4 => ?_) (fun c4 => ?_)
          · refine lv_lload hx hb d_R_greatestDivisor_56 (lv_at hl 2 rfl) ?_
            exact hret _ _ _ _ _ _ d_R_greatestDivisor_58 hw ⟨by rw [hgc], rfl⟩
          · exact absurd c4 (by omega)
        · have hr0 := Int.emod_nonneg g (show s9 ≠ 0 by omega)
          have hr1 := Int.emod_lt_of_pos g (show 0 < s9 by omega)
          refine lv_lload hx hb d_R_greatestDivisor_24 (lv_at hl 2 rfl) ?_
          refine lv_lload hx hb d_R_greatestDivisor_26 (lv_at hl 3 rfl) ?_
          refine zr_lrem hx hb d_R_greatestDivisor_28 ⟨by omega, by omega⟩ ⟨by omega, by omega⟩ (by omega) (by omega) ?_
          refine lv_lstore (lv' := [(9, .long (zL (g % s9))), (0, .long (zL x)), (2, .long (zL y)), (4, .long (zL g)), (6, .long (zL s9)), (8, .int (zI t))]) hx hb d_R_greatestDivisor_29 hl (by decide) rfl (fun ls hl => ?_)
          refine lv_lload hx hb d_R_greatestDivisor_31 (lv_at hl 4 rfl) ?_
          refine lv_lstore (lv' := [(4, .long (zL s9)), (9, .long (zL (g % s9))), (0, .long (zL x)), (2, .long (zL y)), (6, .long (zL s9)), (8, .int (zI t))]) hx hb d_R_greatestDivisor_33 hl (by decide) rfl (fun ls hl => ?_)
          refine lv_lload hx hb d_R_greatestDivisor_35 (lv_at hl 1 rfl) ?_
          refine lv_lstore (lv' := [(6, .long (zL (g % s9))), (4, .long (zL s9)), (9, .long (zL (g % s9))), (0, .long (zL x)), (2, .long (zL y)), (8, .int (zI t))]) hx hb d_R_greatestDivisor_37 hl (by decide) rfl (fun ls hl => ?_)
          refine lv_iinc (v := zI (t + 1)) (lv' := [(8, .int (zI (t + 1))), (6, .long (zL (g % s9))), (4, .long (zL s9)), (9, .long (zL (g % s9))), (0, .long (zL x)), (2, .long (zL y))]) hx hb d_R_greatestDivisor_39 hl (k := 5) rfl (zI_add _ _) (by decide) rfl (fun ls hl => ?_)
          refine lv_goto (tgt := 9) hx hb d_R_greatestDivisor_42 (by decide) ?_
          exact ihlp (t + 1) s9 (g % s9) H locs ls (by omega) (by omega) (by omega) ((gcdZ_step hg.1 (by omega)).trans hgc) (gdI_step ht hg.1 (by omega) hgd) (by omega)  (by omega) hw (lv_sub hl [4, 5, 2, 1, 0] rfl)
  exact lp ((200 - 0 : Int).toNat + 1) 0 x y H locs ls (by omega) (by omega) (by omega) rfl (Or.inr ⟨by omega, by rw [B66_0]; omega, Or.inr ⟨rfl, hxy⟩⟩) (by omega)  (by omega) hw (lv_sub hl [3, 4, 2, 1, 0] rfl)
theorem gcdZ_le {x y : Int} (h : 0 < y) : gcdZ x y ≤ y := by
  unfold gcdZ
  have h1 : Int.gcd x y ≤ y.natAbs := Nat.le_of_dvd (by omega) (Int.gcd_dvd_natAbs_right x y)
  omega
def lesF (x y i : Int) : Int := (if i = 0 then x else y) / gcdZ x y
abbrev rm_R_lessened : Room := { frames := 1, cells := 0, slots := 0, locals := 30 }
set_option maxHeartbeats 4000000 in
set_option maxRecDepth 100000 in
theorem c_R_lessened (l : Launch) (D : va_G) (k : Nat → ClassId) (N : Nat) (AD : Int → Nat) (C : Int → va_E) (sz : Nat) (x : Int) (y : Int) (i : Int) (hx0 : 0 ≤ x ∧ x < 4611686018427387904) (hy0 : 0 < y ∧ y < 4611686018427387904) (hxy : x * y < 1152921504606846976) (hi : inI i) : ML l y_R_lessened (Cond.code y_R_lessened b_R_lessened 7 (Option.some Jvm.ClassFile.FieldType.long) :: WS) rm_R_lessened D clW (tyW k) N AD C sz [.long (zL x), .long (zL y), .int (zI i)] (fun r C' => r = zL (lesF x y i) ∧ C' = C) := by
  refine ML.start (cc := b_R_lessened) (maxL := 7) (by decide) rfl (Nat.le_of_ble_eq_true rfl) ?_
  intro p e s m args below meth c Q ls hx hb hml hown hts hK hsz hw hl hret
  have hown : s.vm.findClass "RingMatches" = some m.cls := hown
  have hl : lv_has ls 7 [(0, .long (zL x)), (2, .long (zL y)), (4, .int (zI i))] := hl
  have hA := wA_hi (N := N) (AD := AD) hsz
  obtain ⟨H, hH⟩ : ∃ H, H = s.heap := ⟨_, rfl⟩
  obtain ⟨locs, hlocs⟩ : ∃ z : List Loc, z = [] := ⟨_, rfl⟩
  have hw : WD D clW (wA N AD sz) s.heap H locs N AD C := by rw [hH, hlocs]; exact hw
  rw [← hlocs]
  suffices hgo : W p l e rm_R_lessened s m args below meth c H locs 0 0 Q (F0 m 0 ls []) by rw [hH] at hgo; exact hgo
  refine lv_lload_n hx hb d_R_lessened_0 rfl (lv_at hl 0 rfl) ?_
  refine lv_lload_n hx hb d_R_lessened_1 rfl (lv_at hl 1 rfl) ?_
  refine zr_callL (va_runS (As := [.long (zL x), .long (zL y)]) (rest := []) ⟨hx, hb, hml, hown, hts⟩ (c_R_greatestDivisor l D k N AD C H.size x y (by omega) (by omega) hxy) (va_cwS 2 hts (good_S wk_428 wk_429 wk_27 wk_430) rfl rfl rfl (by decide +kernel) ⟨Nat.le_of_ble_eq_true rfl, Nat.le_of_ble_eq_true rfl⟩) (cPre_S hK hw) rfl rfl hl.1 rfl (lv_room (Nat.le_of_ble_eq_true rfl)) d_R_lessened_2 ⟨Nat.le_of_ble_eq_true rfl, Nat.le_of_ble_eq_true rfl⟩) hw hA (fun r9 C2 H locs hq1 hw => ?_)
  obtain ⟨hr9, hCe⟩ := hq1
  rw [hCe] at hw; subst hr9
  refine lv_lstore (lv' := [(5, .long (zL (gcdZ x y))), (0, .long (zL x)), (2, .long (zL y)), (4, .int (zI i))]) hx hb d_R_lessened_5 hl (by decide) rfl (fun ls hl => ?_)
  have hgp := gcdZ_pos (x := x) (y := y) (by omega)
  have hgl := gcdZ_le (x := x) (y := y) (by omega)
  refine lv_iload hx hb d_R_lessened_7 (lv_at hl 3 rfl) ?_
  refine zr_if_ne (tgt := 16) hx hb ⟨by omega, by omega⟩ d_R_lessened_9 (by decide) (fun c3 => ?_) (fun c3 => ?_)
  · have hz9 := c3
    refine lv_lload_n hx hb d_R_lessened_16 rfl (lv_at hl 2 rfl) ?_
    refine lv_lload hx hb d_R_lessened_17 (lv_at hl 0 rfl) ?_
    refine zr_ldiv hx hb d_R_lessened_19 ⟨by omega, by omega⟩ ⟨by omega, by omega⟩ (by omega) (by omega) ?_
    exact hret _ _ _ _ _ _ d_R_lessened_20 hw ⟨by unfold lesF; rw [if_neg hz9], rfl⟩
  · have hz9 := c3
    refine lv_lload_n hx hb d_R_lessened_12 rfl (lv_at hl 1 rfl) ?_
    refine lv_goto (tgt := 17) hx hb d_R_lessened_13 (by decide) ?_
    refine lv_lload hx hb d_R_lessened_17 (lv_at hl 0 rfl) ?_
    refine zr_ldiv hx hb d_R_lessened_19 ⟨by omega, by omega⟩ ⟨by omega, by omega⟩ (by omega) (by omega) ?_
    exact hret _ _ _ _ _ _ d_R_lessened_20 hw ⟨by unfold lesF; rw [if_pos hz9], rfl⟩
/-- the ways to take i of r -/
def exR (r : Int) : Nat → Int
  | 0 => 1
  | i + 1 => exR r i * (r - (i : Int)) / ((i : Int) + 1)
theorem exR_step (r : Int) {x : Int} (h : 0 ≤ x) : exR r (x + 1).toNat = exR r x.toNat * (r - x) / (x + 1) := by
  have e1 : (x + 1).toNat = x.toNat + 1 := by omega
  have e2 : ((x.toNat : Nat) : Int) = x := by omega
  rw [e1]
  show exR r x.toNat * (r - ((x.toNat : Nat) : Int)) / (((x.toNat : Nat) : Int) + 1) = _
  rw [e2]
theorem exR_all : ∀ r : Fin 24, ∀ i : Fin 26, 0 ≤ exR ((r.val : Nat) : Int) i.val ∧ exR ((r.val : Nat) : Int) i.val ≤ 1352078 := by decide +kernel
theorem exR_in {r x : Int} (hr : 0 ≤ r ∧ r ≤ 23) (hx : 0 ≤ x ∧ x ≤ 25) : 0 ≤ exR r x.toNat ∧ exR r x.toNat ≤ 1352078 := by
  have h := exR_all ⟨r.toNat, by omega⟩ ⟨x.toNat, by omega⟩
  have e : ((r.toNat : Nat) : Int) = r := by omega
  simp only [e] at h
  exact h
def wyT (f r x : Int) : Int := if f ≤ x then exR r x.toNat else 0
def ways (f r : Int) : Int := sumR (wyT f r) 0 (r + 1 - 0).toNat
theorem sumR_ub {f : Int → Int} {M : Int} (h : ∀ x, 0 ≤ x → x ≤ 25 → 0 ≤ f x ∧ f x ≤ M) : ∀ m : Nat, m ≤ 26 → 0 ≤ sumR f 0 m ∧ sumR f 0 m ≤ M * (m : Int) := by
  intro m
  induction m with
  | zero => intro _; exact ⟨Int.le_refl 0, by show (0 : Int) ≤ M * ((0 : Nat) : Int); simp⟩
  | succ m ih =>
    intro hm
    have h1 := ih (by omega)
    have h2 := h (0 + (m : Int)) (by omega) (by omega)
    have e : sumR f 0 (m + 1) = sumR f 0 m + f (0 + (m : Int)) := rfl
    have e2 : M * ((m + 1 : Nat) : Int) = M * (m : Int) + M := by rw [Int.natCast_add]; grind
    omega
theorem wyT_in {f r : Int} (hr : 0 ≤ r ∧ r ≤ 23) : ∀ x, 0 ≤ x → x ≤ 25 → 0 ≤ wyT f r x ∧ wyT f r x ≤ 1352078 := fun x h1 h2 => by
  unfold wyT
  split
  · exact exR_in hr ⟨h1, h2⟩
  · omega
theorem ways_in {f r : Int} (hr : 0 ≤ r ∧ r ≤ 23) : 0 ≤ ways f r ∧ ways f r ≤ 40000000 := by
  have h := sumR_ub (wyT_in (f := f) hr) (r + 1 - 0).toNat (by omega)
  unfold ways
  have : 1352078 * (((r + 1 - 0).toNat : Nat) : Int) ≤ 1352078 * 24 := Int.mul_le_mul_of_nonneg_left (by omega) (by omega)
  omega
abbrev rm_R_waysToTake : Room := { frames := 0, cells := 0, slots := 0, locals := 0 }
set_option maxHeartbeats 4000000 in
set_option maxRecDepth 100000 in
theorem c_R_waysToTake (l : Launch) (D : va_G) (k : Nat → ClassId) (N : Nat) (AD : Int → Nat) (C : Int → va_E) (sz : Nat) (f : Int) (r : Int) (hf : 0 ≤ f ∧ f ≤ 100) (hr : 0 ≤ r ∧ r ≤ 23) : ML l y_R_waysToTake (Cond.code y_R_waysToTake b_R_waysToTake 7 (Option.some Jvm.ClassFile.FieldType.long) :: WS) rm_R_waysToTake D clW (tyW k) N AD C sz [.int (zI f), .int (zI r)] (fun r9 C' => r9 = zL (ways f r) ∧ C' = C) := by
  refine ML.start (cc := b_R_waysToTake) (maxL := 7) (by decide) rfl (Nat.le_of_ble_eq_true rfl) ?_
  intro p e s m args below meth c Q ls hx hb hml hown hts hK hsz hw hl hret
  have hown : s.vm.findClass "RingMatches" = some m.cls := hown
  have hl : lv_has ls 7 [(0, .int (zI f)), (1, .int (zI r))] := hl
  have hA := wA_hi (N := N) (AD := AD) hsz
  obtain ⟨H, hH⟩ : ∃ H, H = s.heap := ⟨_, rfl⟩
  obtain ⟨locs, hlocs⟩ : ∃ z : List Loc, z = [] := ⟨_, rfl⟩
  have hw : WD D clW (wA N AD sz) s.heap H locs N AD C := by rw [hH, hlocs]; exact hw
  rw [← hlocs]
  suffices hgo : W p l e rm_R_waysToTake s m args below meth c H locs 0 0 Q (F0 m 0 ls []) by rw [hH] at hgo; exact hgo
  refine zr_lconst0 hx hb d_R_waysToTake_0 ?_
  refine lv_lstore_n (lv' := [(2, .long (zL 0)), (0, .int (zI f)), (1, .int (zI r))]) hx hb d_R_waysToTake_1 rfl hl (by decide) rfl (fun ls hl => ?_)
  refine zr_lconst1 hx hb d_R_waysToTake_2 ?_
  refine lv_lstore (lv' := [(4, .long (zL 1)), (2, .long (zL 0)), (0, .int (zI f)), (1, .int (zI r))]) hx hb d_R_waysToTake_3 hl (by decide) rfl (fun ls hl => ?_)
  refine zr_iconst hx hb d_R_waysToTake_5 ?_
  refine lv_istore (lv' := [(6, .int (zI 0)), (4, .long (zL 1)), (2, .long (zL 0)), (0, .int (zI f)), (1, .int (zI r))]) hx hb d_R_waysToTake_6 hl (by decide) rfl (fun ls hl => ?_)
  have lp : ∀ (n9 : Nat) (x : Int) (wy : Int) (ex : Int) (H : Heap) (locs : List Loc) (ls : Array Slot), (0 ≤ x ∧ x ≤ r + 1) → (wy = sumR (wyT f r) 0 (x - 0).toNat) → (ex = exR r x.toNat) → (r + 1 - x).toNat < n9 → WD D clW (wA N AD sz) s.heap H locs N AD C → lv_has ls 7 [(0, .int (zI f)), (1, .int (zI r)), (2, .long (zL wy)), (4, .long (zL ex)), (6, .int (zI x))] → W p l e rm_R_waysToTake s m args below meth c H locs 0 0 Q (F0 m 8 ls []) := by
    intro n9
    induction n9 with
    | zero => intro x wy ex H locs ls hx1 hwy hex  hm hw hl; exact absurd hm (by omega)
    | succ n9 ihlp =>
      intro x wy ex H locs ls hx1 hwy hex  hm hw hl
      have hei := exR_in (r := r) (x := x) hr (by omega)
      refine lv_iload hx hb d_R_waysToTake_8 (lv_at hl 4 rfl) ?_
      refine lv_iload_n hx hb d_R_waysToTake_10 rfl (lv_at hl 1 rfl) ?_
      refine zr_icmp_gt (tgt := 47) hx hb ⟨by omega, by omega⟩ ⟨by omega, by omega⟩ d_R_waysToTake_11 (by decide) (fun c1 => ?_) (fun c1 => ?_)
      · have hxr : x = r + 1 := by omega
        refine lv_lload_n hx hb d_R_waysToTake_47 rfl (lv_at hl 2 rfl) ?_
        exact hret _ _ _ _ _ _ d_R_waysToTake_48 hw ⟨by rw [hwy, hxr]; rfl, rfl⟩
      · refine lv_iload hx hb d_R_waysToTake_14 (lv_at hl 4 rfl) ?_
        refine lv_iload_n hx hb d_R_waysToTake_16 rfl (lv_at hl 0 rfl) ?_
        refine zr_icmp_lt (tgt := 25) hx hb ⟨by omega, by omega⟩ ⟨by omega, by omega⟩ d_R_waysToTake_17 (by decide) (fun c2 => ?_) (fun c2 => ?_)
        · have hmb := mul_b (a := ex) (b := r - x) (A := 1352078) (B := 23) (by omega) (by omega) (by omega) (by omega)
          refine lv_lload hx hb d_R_waysToTake_25 (lv_at hl 3 rfl) ?_
          refine lv_iload_n hx hb d_R_waysToTake_27 rfl (lv_at hl 1 rfl) ?_
          refine lv_iload hx hb d_R_waysToTake_28 (lv_at hl 4 rfl) ?_
          refine zr_isub hx hb d_R_waysToTake_30 ?_
          refine zr_i2l hx hb d_R_waysToTake_31 ⟨by omega, by omega⟩ ?_
          refine zr_lmul hx hb d_R_waysToTake_32 ?_
          refine lv_iload hx hb d_R_waysToTake_33 (lv_at hl 4 rfl) ?_
          refine zr_iconst hx hb d_R_waysToTake_35 ?_
          refine zr_iadd hx hb d_R_waysToTake_36 ?_
          refine zr_i2l hx hb d_R_waysToTake_37 ⟨by omega, by omega⟩ ?_
          refine zr_ldiv hx hb d_R_waysToTake_38 ⟨by omega, by omega⟩ ⟨by omega, by omega⟩ (by omega) (by omega) ?_
          refine lv_lstore (lv' := [(4, .long (zL ((ex * (r - x)) / (x + 1)))), (0, .int (zI f)), (1, .int (zI r)), (2, .long (zL wy)), (6, .int (zI x))]) hx hb d_R_waysToTake_39 hl (by decide) rfl (fun ls hl => ?_)
          refine lv_iinc (v := zI (x + 1)) (lv' := [(6, .int (zI (x + 1))), (4, .long (zL ((ex * (r - x)) / (x + 1)))), (0, .int (zI f)), (1, .int (zI r)), (2, .long (zL wy))]) hx hb d_R_waysToTake_41 hl (k := 4) rfl (zI_add _ _) (by decide) rfl (fun ls hl => ?_)
          refine lv_goto (tgt := 8) hx hb d_R_waysToTake_44 (by decide) ?_
          exact ihlp (x + 1) wy ((ex * (r - x)) / (x + 1)) H locs ls (by omega) (by rw [sumR_step _ hx1.1, ← hwy]; unfold wyT; rw [if_neg (by omega)]; omega) (by rw [exR_step r hx1.1, ← hex])  (by omega) hw (lv_sub hl [2, 3, 4, 1, 0] rfl)
        · refine lv_lload_n hx hb d_R_waysToTake_20 rfl (lv_at hl 2 rfl) ?_
          refine lv_lload hx hb d_R_waysToTake_21 (lv_at hl 3 rfl) ?_
          refine zr_ladd hx hb d_R_waysToTake_23 ?_
          refine lv_lstore_n (lv' := [(2, .long (zL (wy + ex))), (0, .int (zI f)), (1, .int (zI r)), (4, .long (zL ex)), (6, .int (zI x))]) hx hb d_R_waysToTake_24 rfl hl (by decide) rfl (fun ls hl => ?_)
          have hmb := mul_b (a := ex) (b := r - x) (A := 1352078) (B := 23) (by omega) (by omega) (by omega) (by omega)
          refine lv_lload hx hb d_R_waysToTake_25 (lv_at hl 3 rfl) ?_
          refine lv_iload_n hx hb d_R_waysToTake_27 rfl (lv_at hl 2 rfl) ?_
          refine lv_iload hx hb d_R_waysToTake_28 (lv_at hl 4 rfl) ?_
          refine zr_isub hx hb d_R_waysToTake_30 ?_
          refine zr_i2l hx hb d_R_waysToTake_31 ⟨by omega, by omega⟩ ?_
          refine zr_lmul hx hb d_R_waysToTake_32 ?_
          refine lv_iload hx hb d_R_waysToTake_33 (lv_at hl 4 rfl) ?_
          refine zr_iconst hx hb d_R_waysToTake_35 ?_
          refine zr_iadd hx hb d_R_waysToTake_36 ?_
          refine zr_i2l hx hb d_R_waysToTake_37 ⟨by omega, by omega⟩ ?_
          refine zr_ldiv hx hb d_R_waysToTake_38 ⟨by omega, by omega⟩ ⟨by omega, by omega⟩ (by omega) (by omega) ?_
          refine lv_lstore (lv' := [(4, .long (zL ((ex * (r - x)) / (x + 1)))), (2, .long (zL (wy + ex))), (0, .int (zI f)), (1, .int (zI r)), (6, .int (zI x))]) hx hb d_R_waysToTake_39 hl (by decide) rfl (fun ls hl => ?_)
          refine lv_iinc (v := zI (x + 1)) (lv' := [(6, .int (zI (x + 1))), (4, .long (zL ((ex * (r - x)) / (x + 1)))), (2, .long (zL (wy + ex))), (0, .int (zI f)), (1, .int (zI r))]) hx hb d_R_waysToTake_41 hl (k := 4) rfl (zI_add _ _) (by decide) rfl (fun ls hl => ?_)
          refine lv_goto (tgt := 8) hx hb d_R_waysToTake_44 (by decide) ?_
          exact ihlp (x + 1) (wy + ex) ((ex * (r - x)) / (x + 1)) H locs ls (by omega) (by rw [sumR_step _ hx1.1, ← hwy]; unfold wyT; rw [if_pos (by omega), hex]) (by rw [exR_step r hx1.1, ← hex])  (by omega) hw (lv_sub hl [3, 4, 2, 1, 0] rfl)
  exact lp ((r + 1 - 0 : Int).toNat + 1) 0 0 1 H locs ls (by omega) rfl rfl  (by omega) hw (lv_sub hl [3, 4, 2, 1, 0] rfl)
def agrF (t a i : Int) : Int := lesF a (if t = 0 then 1 else 2 * t) i
abbrev rm_R_agree : Room := { frames := 7, cells := 2, slots := 12, locals := 103 }
set_option maxHeartbeats 4000000 in
set_option maxRecDepth 100000 in
theorem c_R_agree (l : Launch) (D : va_G) (k : Nat → ClassId) (N : Nat) (AD : Int → Nat) (C : Int → va_E) (sz : Nat) (hlt : l.stackTraces = false) (pn : Int) (pf : Int → Int) (kc : Int) (nn : Int → Int) (ww : Int → Int → Int) (ee : Int → Int → Int) (lc : Int) (pm : Int → Int) (pS : Int → Int) (pN : Int → Int) (pR : Int → Int) (pT : Int → Int) (pA : Int → Int) (oS : Int → Int) (oN : Int → Int) (oR : Int → Int) (oT : Int → Int) (oA : Int → Int) (tr : Int) (sn : Int) (sw : Int → Int) (se : Int → Int) (q0 : Int) (q1 : Int) (q2 : Int) (q3 : Int) (q4 : Int) (mb : Int → Int) (ak : Int → Int) (a : Int) (i : Int) (hN : 82 ≤ (N : Int)) (hRI : RIx k AD C pn pf kc nn ww ee lc pm pS pN pR pT pA oS oN oR oT oA tr sn sw se q0 q1 q2 q3 q4 mb ak) (ha : inI a) (hi : inI i) : XI l y_R_agree (Cond.code y_R_agree b_R_agree 5 (Option.some Jvm.ClassFile.FieldType.int) :: WS) rm_R_agree 2 12 D clW (tyW k) N AD C sz [.ref (AD 0), .int (zI a), .int (zI i)] (fun r C' => r = zI (agrF (oT a) (oA a) i) ∧ ((0 ≤ a ∧ a < lc) ∧ (i = 0 ∨ i = 1)) ∧ C' = C) (fun E => E = "java/lang/IndexOutOfBoundsException" ∧ ¬ ((0 ≤ a ∧ a < lc) ∧ (i = 0 ∨ i = 1))) := by
  refine XI.start (cc := b_R_agree) (maxL := 5) (rt := .int) (by decide) rfl (Nat.le_of_ble_eq_true rfl) ?_
  intro p e s m args below meth c Q ls hx hb hml hown hts hK hsz hw hl htb hlk hxc hQ hret
  obtain ⟨Qc9, hQ⟩ := hQ
  have hown : s.vm.findClass "RingMatches" = some m.cls := hown
  have hl : lv_has ls 5 [(0, .ref (AD 0)), (1, .int (zI a)), (2, .int (zI i))] := hl
  have hA := wA_hi (N := N) (AD := AD) hsz
  obtain ⟨H, hH⟩ : ∃ H, H = s.heap := ⟨_, rfl⟩
  obtain ⟨locs, hlocs⟩ : ∃ z : List Loc, z = [] := ⟨_, rfl⟩
  have hw : WD D clW (wA N AD sz) s.heap H locs N AD C := by rw [hH, hlocs]; exact hw
  rw [← hlocs]
  suffices hgo : W p l e rm_R_agree s m args below meth c H locs 0 0 Q (F0 m 0 ls []) by rw [hH] at hgo; exact hgo
  obtain ⟨hR, hP, hPs, h3, hser, h28, hov, hpm, hpi, hls, hst, hstw, hste, hsn, hpr, hmb, hak, hpn, hkc, hlc, htr, hpf, hok, hlb⟩ := hRI
  refine lv_aload_n hx hb d_R_agree_0 rfl (lv_at hl 0 rfl) ?_
  refine lv_iload_n hx hb d_R_agree_1 rfl (lv_at hl 1 rfl) ?_
  refine zr_xcallR (vx_runV (As := [.int (zI a)]) (rest := []) ⟨hx, hb, hml, hown, hts⟩ (c_R_overlapAt l D k N AD C H.size hlt kc lc tr pm a hN (by omega) ⟨by omega, by omega⟩ hR h28) (cwV 1 hts (good_V wk_408 wk_410 wk_6 wk_27 wk_411) rfl rfl rfl (by decide +kernel) ⟨Nat.le_of_ble_eq_true rfl, Nat.le_of_ble_eq_true rfl⟩) (xPre_V hK hw hA hxc 0 ⟨by omega, by omega⟩ hR rfl) rfl rfl hl.1 rfl (lv_room (Nat.le_of_ble_eq_true rfl)) d_R_agree_2 ⟨Nat.le_of_ble_eq_true rfl, Nat.le_of_ble_eq_true rfl⟩) hw hA (fun E9 ce9 q9 H locs hxp hw h91 h92 h93 => ?_) (fun H locs hrp1 hw => ?_)
  · rw [hQ]; exact xout hK htb hlk hw ⟨hxp.1, fun h => hxp.2 h.1⟩ h91 h92 h93 (Nat.le_of_ble_eq_true rfl) (Nat.le_of_ble_eq_true rfl)
  have hpmi := hpm a hrp1.1 (by omega)
  have hO := hov (pm a) hpmi.1 hpmi.2
  obtain ⟨hl1, hl2, hl3, hl4, hl5⟩ := hls a hrp1.1 hrp1.2
  rw [hl1, hl2, hl3, hl4, hl5] at hO
  have hlbi := hlb a hrp1.1 hrp1.2
  refine lv_astore_n (lv' := [(3, .ref (AD (29 + pm a))), (0, .ref (AD 0)), (1, .int (zI a)), (2, .int (zI i))]) hx hb d_R_agree_5 rfl hl (by decide) rfl (fun ls hl => ?_)
  refine lv_iload_n hx hb d_R_agree_6 rfl (lv_at hl 3 rfl) ?_
  refine zr_xcallV (vx_runS (As := [.int (zI i)]) (rest := []) ⟨hx, hb, hml, hown, hts⟩ (c_R_requirePart l D k N AD C H.size hlt i ⟨by omega, by omega⟩) (va_cwS 1 hts (good_S wk_421 wk_422 wk_27 wk_423) rfl rfl rfl (by decide +kernel) ⟨Nat.le_of_ble_eq_true rfl, Nat.le_of_ble_eq_true rfl⟩) (xPre_S hK hw hA hxc) rfl rfl hl.1 rfl (lv_room (Nat.le_of_ble_eq_true rfl)) d_R_agree_7 ⟨Nat.le_of_ble_eq_true rfl, Nat.le_of_ble_eq_true rfl⟩) hw hA (fun E9 ce9 q9 H locs hxp hw h91 h92 h93 => ?_) (fun C2 H locs hq3 hw => ?_)
  · rw [hQ]; exact xout hK htb hlk hw ⟨hxp.1, fun h => hxp.2 h.2⟩ h91 h92 h93 (Nat.le_of_ble_eq_true rfl) (Nat.le_of_ble_eq_true rfl)
  obtain ⟨hrq, hCe⟩ := hq3
  rw [hCe] at hw
  refine lv_aload_n hx hb d_R_agree_10 rfl (lv_at hl 0 rfl) ?_
  refine zr_get (v := .int (zI (oT a))) hx hb hts iw_O hown hK hw (29 + pm a) ⟨by omega, by omega⟩ hO rfl 3 (by decide) (hts _ wk_96) (fun _ h => h) rfl d_R_agree_11 ?_
  refine zr_if_ne (tgt := 21) hx hb ⟨by omega, by omega⟩ d_R_agree_14 (by decide) (fun c4 => ?_) (fun c4 => ?_)
  · have hz9 := c4
    refine zr_iconst hx hb d_R_agree_21 ?_
    refine lv_aload_n hx hb d_R_agree_22 rfl (lv_at hl 0 rfl) ?_
    refine zr_get (v := .int (zI (oT a))) hx hb hts iw_O hown hK hw (29 + pm a) ⟨by omega, by omega⟩ hO rfl 3 (by decide) (hts _ wk_96) (fun _ h => h) rfl d_R_agree_23 ?_
    refine zr_imul hx hb d_R_agree_26 ?_
    refine lv_istore (lv' := [(4, .int (zI (2 * (oT a)))), (3, .ref (AD (29 + pm a))), (0, .ref (AD 0)), (1, .int (zI a)), (2, .int (zI i))]) hx hb d_R_agree_27 hl (by decide) rfl (fun ls hl => ?_)
    have hxy := (mul_b (a := oA a) (b := (2 * (oT a))) (A := 46) (B := 46) (by omega) (by omega) (by omega) (by omega)).2
    have hxy : oA a * (2 * (oT a)) < 1152921504606846976 := by omega
    refine lv_aload_n hx hb d_R_agree_29 rfl (lv_at hl 1 rfl) ?_
    refine zr_get (v := .int (zI (oA a))) hx hb hts iw_O hown hK hw (29 + pm a) ⟨by omega, by omega⟩ hO rfl 4 (by decide) (hts _ wk_98) (fun _ h => h) rfl d_R_agree_30 ?_
    refine zr_i2l hx hb d_R_agree_33 ⟨by omega, by omega⟩ ?_
    refine lv_iload hx hb d_R_agree_34 (lv_at hl 0 rfl) ?_
    refine zr_i2l hx hb d_R_agree_36 ⟨by omega, by omega⟩ ?_
    refine lv_iload_n hx hb d_R_agree_37 rfl (lv_at hl 4 rfl) ?_
    refine zr_callL (va_runS (As := [.long (zL (oA a)), .long (zL (2 * (oT a))), .int (zI i)]) (rest := []) ⟨hx, hb, hml, hown, hts⟩ (c_R_lessened l D k N AD C H.size (oA a) (2 * (oT a)) i (by omega) (by omega) hxy ⟨by omega, by omega⟩) (va_cwS 3 hts (good_S wk_425 wk_426 wk_27 wk_427) rfl rfl rfl (by decide +kernel) ⟨Nat.le_of_ble_eq_true rfl, Nat.le_of_ble_eq_true rfl⟩) (cPre_S hK hw) rfl rfl hl.1 rfl (lv_room (Nat.le_of_ble_eq_true rfl)) d_R_agree_38 ⟨Nat.le_of_ble_eq_true rfl, Nat.le_of_ble_eq_true rfl⟩) hw hA (fun r9 C6 H locs hq5 hw => ?_)
    obtain ⟨hr9, hCe⟩ := hq5
    rw [hCe] at hw; subst hr9
    refine zr_l2i hx hb d_R_agree_41 ?_
    exact hret _ _ _ _ _ _ 2 12 (by decide) (by decide) d_R_agree_42 hw rfl ⟨by unfold agrF; rw [if_neg hz9], by omega, rfl⟩
  · have hz9 := c4
    refine zr_iconst hx hb d_R_agree_17 ?_
    refine lv_goto (tgt := 27) hx hb d_R_agree_18 (by decide) ?_
    refine lv_istore (lv' := [(4, .int (zI 1)), (3, .ref (AD (29 + pm a))), (0, .ref (AD 0)), (1, .int (zI a)), (2, .int (zI i))]) hx hb d_R_agree_27 hl (by decide) rfl (fun ls hl => ?_)
    have hxy := (mul_b (a := oA a) (b := 1) (A := 46) (B := 46) (by omega) (by omega) (by omega) (by omega)).2
    have hxy : oA a * 1 < 1152921504606846976 := by omega
    refine lv_aload_n hx hb d_R_agree_29 rfl (lv_at hl 1 rfl) ?_
    refine zr_get (v := .int (zI (oA a))) hx hb hts iw_O hown hK hw (29 + pm a) ⟨by omega, by omega⟩ hO rfl 4 (by decide) (hts _ wk_98) (fun _ h => h) rfl d_R_agree_30 ?_
    refine zr_i2l hx hb d_R_agree_33 ⟨by omega, by omega⟩ ?_
    refine lv_iload hx hb d_R_agree_34 (lv_at hl 0 rfl) ?_
    refine zr_i2l hx hb d_R_agree_36 ⟨by omega, by omega⟩ ?_
    refine lv_iload_n hx hb d_R_agree_37 rfl (lv_at hl 4 rfl) ?_
    refine zr_callL (va_runS (As := [.long (zL (oA a)), .long (zL 1), .int (zI i)]) (rest := []) ⟨hx, hb, hml, hown, hts⟩ (c_R_lessened l D k N AD C H.size (oA a) 1 i (by omega) (by omega) hxy ⟨by omega, by omega⟩) (va_cwS 3 hts (good_S wk_425 wk_426 wk_27 wk_427) rfl rfl rfl (by decide +kernel) ⟨Nat.le_of_ble_eq_true rfl, Nat.le_of_ble_eq_true rfl⟩) (cPre_S hK hw) rfl rfl hl.1 rfl (lv_room (Nat.le_of_ble_eq_true rfl)) d_R_agree_38 ⟨Nat.le_of_ble_eq_true rfl, Nat.le_of_ble_eq_true rfl⟩) hw hA (fun r9 C8 H locs hq7 hw => ?_)
    obtain ⟨hr9, hCe⟩ := hq7
    rw [hCe] at hw; subst hr9
    refine zr_l2i hx hb d_R_agree_41 ?_
    exact hret _ _ _ _ _ _ 2 12 (by decide) (by decide) d_R_agree_42 hw rfl ⟨by unfold agrF; rw [if_pos hz9], by omega, rfl⟩
def p2 (x : Int) : Int := 2 ^ x.toNat
theorem p2_all : ∀ r : Fin 24, zL 1 <<< ((zI ((r.val : Nat) : Int)).toInt64 &&& 63) = zL (2 ^ r.val) := by decide +kernel
theorem p2_is {r : Int} (hr : 0 ≤ r ∧ r ≤ 23) : zL 1 <<< ((zI r).toInt64 &&& 63) = zL (p2 r) := by
  have h := p2_all ⟨r.toNat, by omega⟩
  have e : ((r.toNat : Nat) : Int) = r := by omega
  simp only [e] at h
  exact h
theorem p2_all2 : ∀ r : Fin 24, (1 : Int) ≤ 2 ^ r.val ∧ (2 : Int) ^ r.val ≤ 8388608 := by decide +kernel
theorem p2_in {r : Int} (hr : 0 ≤ r ∧ r ≤ 23) : 1 ≤ p2 r ∧ p2 r ≤ 8388608 := p2_all2 ⟨r.toNat, by omega⟩
/-- odds of an overlap with t rises, the agreement a, after tr tries -/
def oddF (t a tr i : Int) : Int := if p2 t ≤ ways ((a + 1) / 2) t * tr then 1 else lesF (ways ((a + 1) / 2) t * tr) (p2 t) i
abbrev rm_R_odds : Room := { frames := 7, cells := 2, slots := 12, locals := 103 }
set_option maxHeartbeats 4000000 in
set_option maxRecDepth 100000 in
theorem c_R_odds (l : Launch) (D : va_G) (k : Nat → ClassId) (N : Nat) (AD : Int → Nat) (C : Int → va_E) (sz : Nat) (hlt : l.stackTraces = false) (pn : Int) (pf : Int → Int) (kc : Int) (nn : Int → Int) (ww : Int → Int → Int) (ee : Int → Int → Int) (lc : Int) (pm : Int → Int) (pS : Int → Int) (pN : Int → Int) (pR : Int → Int) (pT : Int → Int) (pA : Int → Int) (oS : Int → Int) (oN : Int → Int) (oR : Int → Int) (oT : Int → Int) (oA : Int → Int) (tr : Int) (sn : Int) (sw : Int → Int) (se : Int → Int) (q0 : Int) (q1 : Int) (q2 : Int) (q3 : Int) (q4 : Int) (mb : Int → Int) (ak : Int → Int) (a : Int) (i : Int) (hN : 82 ≤ (N : Int)) (hRI : RIx k AD C pn pf kc nn ww ee lc pm pS pN pR pT pA oS oN oR oT oA tr sn sw se q0 q1 q2 q3 q4 mb ak) (ha : inI a) (hi : inI i) (htr2 : tr ≤ 100000) : XL l y_R_odds (Cond.code y_R_odds b_R_odds 8 (Option.some Jvm.ClassFile.FieldType.long) :: WS) rm_R_odds 2 12 D clW (tyW k) N AD C sz [.ref (AD 0), .int (zI a), .int (zI i)] (fun r C' => r = zL (oddF (oT a) (oA a) tr i) ∧ ((0 ≤ a ∧ a < lc) ∧ (i = 0 ∨ i = 1)) ∧ C' = C) (fun E => E = "java/lang/IndexOutOfBoundsException" ∧ ¬ ((0 ≤ a ∧ a < lc) ∧ (i = 0 ∨ i = 1))) := by
  refine XL.start (cc := b_R_odds) (maxL := 8) (by decide) rfl (Nat.le_of_ble_eq_true rfl) ?_
  intro p e s m args below meth c Q ls hx hb hml hown hts hK hsz hw hl htb hlk hxc hQ hret
  obtain ⟨Qc9, hQ⟩ := hQ
  have hown : s.vm.findClass "RingMatches" = some m.cls := hown
  have hl : lv_has ls 8 [(0, .ref (AD 0)), (1, .int (zI a)), (2, .int (zI i))] := hl
  have hA := wA_hi (N := N) (AD := AD) hsz
  obtain ⟨H, hH⟩ : ∃ H, H = s.heap := ⟨_, rfl⟩
  obtain ⟨locs, hlocs⟩ : ∃ z : List Loc, z = [] := ⟨_, rfl⟩
  have hw : WD D clW (wA N AD sz) s.heap H locs N AD C := by rw [hH, hlocs]; exact hw
  rw [← hlocs]
  suffices hgo : W p l e rm_R_odds s m args below meth c H locs 0 0 Q (F0 m 0 ls []) by rw [hH] at hgo; exact hgo
  obtain ⟨hR, hP, hPs, h3, hser, h28, hov, hpm, hpi, hls, hst, hstw, hste, hsn, hpr, hmb, hak, hpn, hkc, hlc, htr, hpf, hok, hlb⟩ := hRI
  refine lv_aload_n hx hb d_R_odds_0 rfl (lv_at hl 0 rfl) ?_
  refine lv_iload_n hx hb d_R_odds_1 rfl (lv_at hl 1 rfl) ?_
  refine zr_xcallR (vx_runV (As := [.int (zI a)]) (rest := []) ⟨hx, hb, hml, hown, hts⟩ (c_R_overlapAt l D k N AD C H.size hlt kc lc tr pm a hN (by omega) ⟨by omega, by omega⟩ hR h28) (cwV 1 hts (good_V wk_408 wk_410 wk_6 wk_27 wk_411) rfl rfl rfl (by decide +kernel) ⟨Nat.le_of_ble_eq_true rfl, Nat.le_of_ble_eq_true rfl⟩) (xPre_V hK hw hA hxc 0 ⟨by omega, by omega⟩ hR rfl) rfl rfl hl.1 rfl (lv_room (Nat.le_of_ble_eq_true rfl)) d_R_odds_2 ⟨Nat.le_of_ble_eq_true rfl, Nat.le_of_ble_eq_true rfl⟩) hw hA (fun E9 ce9 q9 H locs hxp hw h91 h92 h93 => ?_) (fun H locs hrp1 hw => ?_)
  · rw [hQ]; exact xout hK htb hlk hw ⟨hxp.1, fun h => hxp.2 h.1⟩ h91 h92 h93 (Nat.le_of_ble_eq_true rfl) (Nat.le_of_ble_eq_true rfl)
  have hpmi := hpm a hrp1.1 (by omega)
  have hO := hov (pm a) hpmi.1 hpmi.2
  obtain ⟨hl1, hl2, hl3, hl4, hl5⟩ := hls a hrp1.1 hrp1.2
  rw [hl1, hl2, hl3, hl4, hl5] at hO
  have hlbi := hlb a hrp1.1 hrp1.2
  refine lv_astore_n (lv' := [(3, .ref (AD (29 + pm a))), (0, .ref (AD 0)), (1, .int (zI a)), (2, .int (zI i))]) hx hb d_R_odds_5 rfl hl (by decide) rfl (fun ls hl => ?_)
  refine lv_iload_n hx hb d_R_odds_6 rfl (lv_at hl 3 rfl) ?_
  refine zr_xcallV (vx_runS (As := [.int (zI i)]) (rest := []) ⟨hx, hb, hml, hown, hts⟩ (c_R_requirePart l D k N AD C H.size hlt i ⟨by omega, by omega⟩) (va_cwS 1 hts (good_S wk_421 wk_422 wk_27 wk_423) rfl rfl rfl (by decide +kernel) ⟨Nat.le_of_ble_eq_true rfl, Nat.le_of_ble_eq_true rfl⟩) (xPre_S hK hw hA hxc) rfl rfl hl.1 rfl (lv_room (Nat.le_of_ble_eq_true rfl)) d_R_odds_7 ⟨Nat.le_of_ble_eq_true rfl, Nat.le_of_ble_eq_true rfl⟩) hw hA (fun E9 ce9 q9 H locs hxp hw h91 h92 h93 => ?_) (fun C2 H locs hq3 hw => ?_)
  · rw [hQ]; exact xout hK htb hlk hw ⟨hxp.1, fun h => hxp.2 h.2⟩ h91 h92 h93 (Nat.le_of_ble_eq_true rfl) (Nat.le_of_ble_eq_true rfl)
  obtain ⟨hrq, hCe⟩ := hq3
  rw [hCe] at hw
  refine lv_aload_n hx hb d_R_odds_10 rfl (lv_at hl 0 rfl) ?_
  refine zr_get (v := .int (zI (oA a))) hx hb hts iw_O hown hK hw (29 + pm a) ⟨by omega, by omega⟩ hO rfl 4 (by decide) (hts _ wk_98) (fun _ h => h) rfl d_R_odds_11 ?_
  refine zr_iconst hx hb d_R_odds_14 ?_
  refine zr_iadd hx hb d_R_odds_15 ?_
  refine zr_iconst hx hb d_R_odds_16 ?_
  refine zr_idiv hx hb d_R_odds_17 ⟨by omega, by omega⟩ ⟨by omega, by omega⟩ (by omega) (by omega) ?_
  refine lv_aload_n hx hb d_R_odds_18 rfl (lv_at hl 0 rfl) ?_
  refine zr_get (v := .int (zI (oT a))) hx hb hts iw_O hown hK hw (29 + pm a) ⟨by omega, by omega⟩ hO rfl 3 (by decide) (hts _ wk_96) (fun _ h => h) rfl d_R_odds_19 ?_
  refine zr_callL (va_runS (As := [.int (zI (((oA a) + 1) / 2)), .int (zI (oT a))]) (rest := []) ⟨hx, hb, hml, hown, hts⟩ (c_R_waysToTake l D k N AD C H.size (((oA a) + 1) / 2) (oT a) (by omega) (by omega)) (va_cwS 2 hts (good_S wk_438 wk_439 wk_27 wk_440) rfl rfl rfl (by decide +kernel) ⟨Nat.le_of_ble_eq_true rfl, Nat.le_of_ble_eq_true rfl⟩) (cPre_S hK hw) rfl rfl hl.1 rfl (lv_room (Nat.le_of_ble_eq_true rfl)) d_R_odds_22 ⟨Nat.le_of_ble_eq_true rfl, Nat.le_of_ble_eq_true rfl⟩) hw hA (fun r9 C5 H locs hq4 hw => ?_)
  obtain ⟨hr9, hCe⟩ := hq4
  rw [hCe] at hw; subst hr9
  have hwi := ways_in (f := (oA a + 1) / 2) (r := oT a) (by omega)
  refine lv_aload_n hx hb d_R_odds_25 rfl (lv_at hl 1 rfl) ?_
  refine zr_get (v := .int (zI tr)) hx hb hts iw_R hown hK hw 0 ⟨by omega, by omega⟩ hR rfl 5 (by decide) (hts _ wk_115) (fun _ h => h) rfl d_R_odds_26 ?_
  refine zr_i2l hx hb d_R_odds_29 ⟨by omega, by omega⟩ ?_
  have hmb := mul_b (a := ways ((oA a + 1) / 2) (oT a)) (b := tr) (A := 40000000) (B := 100000) (by omega) (by omega) (by omega) (by omega)
  refine zr_lmul hx hb d_R_odds_30 ?_
  refine lv_lstore (lv' := [(4, .long (zL ((ways (((oA a) + 1) / 2) (oT a)) * tr))), (3, .ref (AD (29 + pm a))), (0, .ref (AD 0)), (1, .int (zI a)), (2, .int (zI i))]) hx hb d_R_odds_31 hl (by decide) rfl (fun ls hl => ?_)
  refine zr_lconst1 hx hb d_R_odds_33 ?_
  refine lv_aload_n hx hb d_R_odds_34 rfl (lv_at hl 1 rfl) ?_
  refine zr_get (v := .int (zI (oT a))) hx hb hts iw_O hown hK hw (29 + pm a) ⟨by omega, by omega⟩ hO rfl 3 (by decide) (hts _ wk_96) (fun _ h => h) rfl d_R_odds_35 ?_
  refine lv_lshl (v := zL (p2 (oT a))) hx hb d_R_odds_38 (p2_is (by omega)) ?_
  have hpi := p2_in (r := oT a) (by omega)
  refine lv_lstore (lv' := [(6, .long (zL (p2 (oT a)))), (4, .long (zL ((ways (((oA a) + 1) / 2) (oT a)) * tr))), (3, .ref (AD (29 + pm a))), (0, .ref (AD 0)), (1, .int (zI a)), (2, .int (zI i))]) hx hb d_R_odds_39 hl (by decide) rfl (fun ls hl => ?_)
  refine lv_lload hx hb d_R_odds_41 (lv_at hl 1 rfl) ?_
  refine lv_lload hx hb d_R_odds_43 (lv_at hl 0 rfl) ?_
  refine zr_lcmp_lt (tgt := 51) hx hb ⟨by omega, by omega⟩ ⟨by omega, by omega⟩ d_R_odds_45 d_R_odds_46 (by decide) (fun c6 => ?_) (fun c6 => ?_)
  · refine lv_lload hx hb d_R_odds_51 (lv_at hl 1 rfl) ?_
    refine lv_lload hx hb d_R_odds_53 (lv_at hl 0 rfl) ?_
    refine lv_iload_n hx hb d_R_odds_55 rfl (lv_at hl 5 rfl) ?_
    have hxy := (mul_b (a := ways ((oA a + 1) / 2) (oT a) * tr) (b := p2 (oT a)) (A := 8388608) (B := 8388608) (by omega) (by omega) (by omega) (by omega)).2
    have hxy : ways ((oA a + 1) / 2) (oT a) * tr * p2 (oT a) < 1152921504606846976 := by omega
    refine zr_callL (va_runS (As := [.long (zL ((ways (((oA a) + 1) / 2) (oT a)) * tr)), .long (zL (p2 (oT a))), .int (zI i)]) (rest := []) ⟨hx, hb, hml, hown, hts⟩ (c_R_lessened l D k N AD C H.size ((ways (((oA a) + 1) / 2) (oT a)) * tr) (p2 (oT a)) i (by omega) (by omega) hxy ⟨by omega, by omega⟩) (va_cwS 3 hts (good_S wk_425 wk_426 wk_27 wk_427) rfl rfl rfl (by decide +kernel) ⟨Nat.le_of_ble_eq_true rfl, Nat.le_of_ble_eq_true rfl⟩) (cPre_S hK hw) rfl rfl hl.1 rfl (lv_room (Nat.le_of_ble_eq_true rfl)) d_R_odds_56 ⟨Nat.le_of_ble_eq_true rfl, Nat.le_of_ble_eq_true rfl⟩) hw hA (fun r9 C8 H locs hq7 hw => ?_)
    obtain ⟨hr9, hCe⟩ := hq7
    rw [hCe] at hw; subst hr9
    exact hret _ _ _ _ _ _ 2 12 (by decide) (by decide) d_R_odds_59 hw ⟨by unfold oddF; rw [if_neg (by omega)], by omega, rfl⟩
  · refine zr_lconst1 hx hb d_R_odds_49 ?_
    exact hret _ _ _ _ _ _ 2 12 (by decide) (by decide) d_R_odds_50 hw ⟨by unfold oddF; rw [if_pos (by omega)], by omega, rfl⟩
