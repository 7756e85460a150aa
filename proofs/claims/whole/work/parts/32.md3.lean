theorem xV_w {w : Int → Int} {n : Int} (h : WOK w n) (p : Int) : (xV w n p = -1) ↔ (wAt w n p = -1) := by
  unfold xV
  by_cases hp : 0 ≤ p ∧ p < n
  · rw [wAt_in hp, wAt_in hp]
    have h1 := evF_in h hp.1 hp.2
    constructor
    · intro e
      apply Classical.byContradiction
      intro hw
      have h2 := nS_pos h hp.1 hp.2 hw
      have h3 := nF_in (w := w) (n := n) (i := p)
      have h4 := h p hp.1 hp.2
      have h5 : 0 ≤ 100 * w p * nF w n p / nS w n p := Int.ediv_nonneg (Int.mul_nonneg (by omega) h3.1) (by omega)
      unfold evF at e
      rw [if_neg hw] at e
      omega
    · intro e
      unfold evF
      exact if_pos e
  · rw [wAt_out hp, wAt_out hp]
theorem sumR_split (f : Int → Int) (lo : Int) (m : Nat) : ∀ d : Nat, sumR f lo (m + d) = sumR f lo m + sumR f (lo + (m : Int)) d := by
  intro d
  induction d with
  | zero => show sumR f lo m = sumR f lo m + 0; omega
  | succ d ih =>
    have e1 : sumR f lo (m + (d + 1)) = sumR f lo (m + d) + f (lo + ((m + d : Nat) : Int)) := rfl
    have e2 : sumR f (lo + (m : Int)) (d + 1) = sumR f (lo + (m : Int)) d + f (lo + (m : Int) + (d : Int)) := rfl
    rw [e1, e2, ih, show lo + ((m + d : Nat) : Int) = lo + (m : Int) + (d : Int) by omega]
    omega
theorem sumR_0 {f : Int → Int} {lo : Int} : ∀ m : Nat, (∀ p : Int, lo ≤ p → p < lo + (m : Int) → f p = 0) → sumR f lo m = 0 := by
  intro m
  induction m with
  | zero => intro _; rfl
  | succ m ih =>
    intro h
    have e : sumR f lo (m + 1) = sumR f lo m + f (lo + (m : Int)) := rfl
    rw [e, ih (fun p a b => h p a (by omega)), h _ (by omega) (by omega)]
    rfl
theorem sumR_win {f : Int → Int} {lo hi L U : Int} (hz : ∀ p : Int, lo ≤ p → p < hi → ¬ (L ≤ p ∧ p < U) → f p = 0) (h1 : lo ≤ L) (h2 : U ≤ hi) : sumR f lo (hi - lo).toNat = sumR f L (U - L).toNat := by
  by_cases h : U ≤ L
  · rw [show (U - L).toNat = 0 by omega]
    show _ = (0 : Int)
    exact sumR_0 _ (fun p a b => hz p a (by omega) (by omega))
  · have e : (hi - lo).toNat = (L - lo).toNat + ((U - L).toNat + (hi - U).toNat) := by omega
    rw [e, sumR_split, sumR_split, sumR_0 (L - lo).toNat (fun p a b => hz p a (by omega) (by omega)), sumR_0 (hi - U).toNat (fun p a b => hz p (by omega) (by omega) (by omega)), show lo + (((L - lo).toNat : Nat) : Int) = L by omega]
    omega
theorem sumR_shift (f : Int → Int) (lo s : Int) : ∀ m : Nat, sumR (fun j => f (j + s)) lo m = sumR f (lo + s) m := by
  intro m
  induction m with
  | zero => rfl
  | succ m ih =>
    have e1 : sumR (fun j => f (j + s)) lo (m + 1) = sumR (fun j => f (j + s)) lo m + f (lo + (m : Int) + s) := rfl
    have e2 : sumR f (lo + s) (m + 1) = sumR f (lo + s) m + f (lo + s + (m : Int)) := rfl
    rw [e1, e2, ih, show lo + (m : Int) + s = lo + s + (m : Int) by omega]
/-- what the reference adds at the ring j of the second -/
def mT (w1 : Int → Int) (n1 : Int) (w2 : Int → Int) (n2 s : Int) (g : Int → Int → Int) (j : Int) : Int := ovT w1 n1 w2 n2 s g (j + s)
def mRs (w1 : Int → Int) (n1 : Int) (w2 : Int → Int) (n2 s j : Int) : Int := rsT w1 n1 w2 n2 s (j + (s + 1))
def mAg (w1 : Int → Int) (n1 : Int) (w2 : Int → Int) (n2 s j : Int) : Int := agT w1 n1 w2 n2 s (j + (s + 1))
theorem xV_out {w : Int → Int} {n p : Int} (h : ¬ (0 ≤ p ∧ p < n)) : xV w n p = -1 := if_neg h
theorem mT_sum {w1 w2 : Int → Int} {n1 n2 s : Int} (g : Int → Int → Int) (h2 : 0 ≤ n2) : sumR (mT w1 n1 w2 n2 s g) 0 (n2 - 0).toNat = ovS w1 n1 w2 n2 s g := by
  unfold ovS
  have e := sumR_shift (ovT w1 n1 w2 n2 s g) 0 s (n2 - 0).toNat
  have e2 := sumR_win (f := ovT w1 n1 w2 n2 s g) (lo := 0 + s) (hi := n2 + s) (L := max 0 s) (U := min n1 (n2 + s)) (fun p a b c => ovT_t (by
    by_cases hp : 0 ≤ p ∧ p < n1
    · exact Or.inr (xV_out (by omega))
    · exact Or.inl (xV_out hp))) (by omega) (by omega)
  rw [show n2 + s - (0 + s) = n2 - 0 by omega] at e2
  exact e.trans e2
theorem rs_out {w1 w2 : Int → Int} {n1 n2 s p : Int} (h : ¬ (max 0 s + 1 ≤ p ∧ p < min n1 (n2 + s))) : (wAt w1 n1 (p - 1) = -1 ∨ wAt w2 n2 (p - 1 - s) = -1) ∨ (wAt w1 n1 p = -1 ∨ wAt w2 n2 (p - s) = -1) := by
  by_cases h1 : 0 ≤ p - 1 ∧ p - 1 < n1
  · by_cases h3 : 0 ≤ p - 1 - s ∧ p - 1 - s < n2
    · by_cases h5 : 0 ≤ p ∧ p < n1
      · exact Or.inr (Or.inr (wAt_out (by omega)))
      · exact Or.inr (Or.inl (wAt_out h5))
    · exact Or.inl (Or.inr (wAt_out h3))
  · exact Or.inl (Or.inl (wAt_out h1))
theorem mRs_sum {w1 w2 : Int → Int} {n1 n2 s : Int} (h2 : 0 ≤ n2) : sumR (mRs w1 n1 w2 n2 s) 0 (n2 - 0).toNat = ovR w1 n1 w2 n2 s := by
  unfold ovR
  have e := sumR_shift (rsT w1 n1 w2 n2 s) 0 (s + 1) (n2 - 0).toNat
  have e2 := sumR_win (f := rsT w1 n1 w2 n2 s) (lo := 0 + (s + 1)) (hi := n2 + (s + 1)) (L := max 0 s + 1) (U := min n1 (n2 + s)) (fun p a b c => if_pos (rs_out c)) (by omega) (by omega)
  rw [show n2 + (s + 1) - (0 + (s + 1)) = n2 - 0 by omega] at e2
  exact e.trans e2
theorem mAg_sum {w1 w2 : Int → Int} {n1 n2 s : Int} (h2 : 0 ≤ n2) : sumR (mAg w1 n1 w2 n2 s) 0 (n2 - 0).toNat = ovA w1 n1 w2 n2 s := by
  unfold ovA
  have e := sumR_shift (agT w1 n1 w2 n2 s) 0 (s + 1) (n2 - 0).toNat
  have e2 := sumR_win (f := agT w1 n1 w2 n2 s) (lo := 0 + (s + 1)) (hi := n2 + (s + 1)) (L := max 0 s + 1) (U := min n1 (n2 + s)) (fun p a b c => if_pos (rs_out c)) (by omega) (by omega)
  rw [show n2 + (s + 1) - (0 + (s + 1)) = n2 - 0 by omega] at e2
  exact e.trans e2
theorem mT_f {w1 w2 : Int → Int} {n1 n2 s x : Int} {g : Int → Int → Int} (h1 : ¬ xV w1 n1 (x + s) = -1) (h2 : ¬ xV w2 n2 x = -1) : mT w1 n1 w2 n2 s g x = g (xV w1 n1 (x + s)) (xV w2 n2 x) := by
  have e : x + s - s = x := by omega
  unfold mT
  rw [ovT_f h1 (by rw [e]; exact h2), e]
theorem mT_t {w1 w2 : Int → Int} {n1 n2 s x : Int} {g : Int → Int → Int} (h : xV w1 n1 (x + s) = -1 ∨ xV w2 n2 x = -1) : mT w1 n1 w2 n2 s g x = 0 := by
  have e : x + s - s = x := by omega
  unfold mT
  exact ovT_t (by rw [e]; exact h)
theorem mRs_f {w1 w2 : Int → Int} {n1 n2 s x : Int} (h : (¬ wAt w1 n1 (x + s) = -1 ∧ ¬ wAt w2 n2 x = -1) ∧ (¬ wAt w1 n1 (x + 1 + s) = -1 ∧ ¬ wAt w2 n2 (x + 1) = -1)) : mRs w1 n1 w2 n2 s x = 1 ∧ mAg w1 n1 w2 n2 s x = lik (ris w1 n1 (x + s + 1)) (ris w2 n2 (x + 1)) := by
  have e1 : x + (s + 1) - 1 = x + s := by omega
  have e2 : x + (s + 1) - 1 - s = x := by omega
  have e3 : x + (s + 1) = x + s + 1 := by omega
  have e4 : x + (s + 1) - s = x + 1 := by omega
  have e5 : x + 1 + s = x + s + 1 := by omega
  rw [e5] at h
  unfold mRs mAg rsT agT
  rw [e2, e1, e4, e3, if_neg (by omega), if_neg (by omega)]
  exact ⟨rfl, rfl⟩
theorem mRs_t {w1 w2 : Int → Int} {n1 n2 s x : Int} (h : ¬ ((¬ wAt w1 n1 (x + s) = -1 ∧ ¬ wAt w2 n2 x = -1) ∧ (¬ wAt w1 n1 (x + 1 + s) = -1 ∧ ¬ wAt w2 n2 (x + 1) = -1))) : mRs w1 n1 w2 n2 s x = 0 ∧ mAg w1 n1 w2 n2 s x = 0 := by
  have e1 : x + (s + 1) - 1 = x + s := by omega
  have e2 : x + (s + 1) - 1 - s = x := by omega
  have e3 : x + (s + 1) = x + s + 1 := by omega
  have e4 : x + (s + 1) - s = x + 1 := by omega
  have e5 : x + 1 + s = x + s + 1 := by omega
  rw [e5] at h
  unfold mRs mAg rsT agT
  rw [e2, e1, e4, e3, if_pos (by omega), if_pos (by omega)]
  exact ⟨rfl, rfl⟩
theorem tls_t {c u v t : Int} (h : 0 ≤ t ∧ t < 100) (hp : (t + 1) * (t + 1) * u * v ≤ 10000 * c * c) : tls c u v (100 - t).toNat t = tls c u v (100 - (t + 1)).toNat (t + 1) := by
  have e : (100 - t).toNat = (100 - (t + 1)).toNat + 1 := by omega
  rw [e]
  exact if_pos hp
theorem tls_f {c u v t : Int} (h : 0 ≤ t ∧ t < 100) (hp : ¬ (t + 1) * (t + 1) * u * v ≤ 10000 * c * c) : tls c u v (100 - t).toNat t = t := by
  have e : (100 - t).toNat = (100 - (t + 1)).toNat + 1 := by omega
  rw [e]
  exact if_neg hp
abbrev rm_M_correlate : Room := { frames := 2, cells := 0, slots := 0, locals := 48 }
set_option maxHeartbeats 4000000 in
set_option maxRecDepth 100000 in
theorem c_M_correlate (l : Launch) (D : va_G) (k : Nat → ClassId) (N : Nat) (AD : Int → Nat) (C : Int → va_E) (sz : Nat) (th : Int) (pn : Int) (kc : Int) (tr : Int) (lc : Int) (fa : Int) (fb : Int) (mn : Int) (mr : Int) (ma : Int) (ab : Int) (bl : Int) (mz : Int → Int) (mw : Int → Int) (a : Int) (b : Int) (s0 : Int) (hN : 90 ≤ (N : Int)) (hM : C 82 = .inr (4, [.int (zI th), .int (zI pn), .ref (AD 83), .int (zI kc), .ref (AD 84), .ref (AD 85), .int (zI tr), .int (zI lc), .int (zI fa), .int (zI fb), .ref (AD 86), .ref (AD 87), .ref (AD 88), .int (zI mn), .int (zI mr), .int (zI ma), .long (zL ab), .long (zL bl)])) (h84 : C 84 = aI (k 0) 9 mz) (h85 : C 85 = aI (k 0) 216 mw) (hmz : ∀ i : Int, 0 ≤ i → i < 9 → 0 ≤ mz i ∧ mz i ≤ 24) (hkc : 0 ≤ kc ∧ kc ≤ 8) (ha : 0 ≤ a ∧ a < 9) (hb9 : 0 ≤ b ∧ b < 9) (hs0 : -24 ≤ s0 ∧ s0 ≤ 24) (hok1 : MOK mw a (mz a)) (hok2 : MOK mw b (mz b)) : MI l y_M_correlate (Cond.code y_M_correlate b_M_correlate 21 (Option.some Jvm.ClassFile.FieldType.int) :: WS) rm_M_correlate D clW (tyW k) N AD C sz [.ref (AD 82), .int (zI a), .int (zI b), .int (zI s0)] (fun r C' => r = zI (ovC (WM mw a) (mz a) (WM mw b) (mz b) s0) ∧ C' 82 = .inr (4, [.int (zI th), .int (zI pn), .ref (AD 83), .int (zI kc), .ref (AD 84), .ref (AD 85), .int (zI tr), .int (zI lc), .int (zI fa), .int (zI fb), .ref (AD 86), .ref (AD 87), .ref (AD 88), .int (zI (ovN (WM mw a) (mz a) (WM mw b) (mz b) s0)), .int (zI (ovR (WM mw a) (mz a) (WM mw b) (mz b) s0)), .int (zI (ovA (WM mw a) (mz a) (WM mw b) (mz b) s0)), .long (zL ab), .long (zL bl)]) ∧ ∀ j : Int, j ≠ 82 → C' j = C j) := by
  refine MI.start (cc := b_M_correlate) (maxL := 21) (rt := .int) (by decide) rfl (Nat.le_of_ble_eq_true rfl) ?_
  intro p e s m args below meth c Q ls hx hb hml hown hts hK hsz hw hl hret
  have hown : s.vm.findClass "RingMatchesModel" = some m.cls := hown
  have hl : lv_has ls 21 [(0, .ref (AD 82)), (1, .int (zI a)), (2, .int (zI b)), (3, .int (zI s0))] := hl
  have hA := wA_hi (N := N) (AD := AD) hsz
  obtain ⟨H, hH⟩ : ∃ H, H = s.heap := ⟨_, rfl⟩
  obtain ⟨locs, hlocs⟩ : ∃ z : List Loc, z = [] := ⟨_, rfl⟩
  have hw : WD D clW (wA N AD sz) s.heap H locs N AD C := by rw [hH, hlocs]; exact hw
  rw [← hlocs]
  suffices hgo : W p l e rm_M_correlate s m args below meth c H locs 0 0 Q (F0 m 0 ls []) by rw [hH] at hgo; exact hgo
  obtain ⟨C0, hC0⟩ : ∃ z : Int → va_E, z = C := ⟨_, rfl⟩
  rw [← hC0] at hret
  have hz1 := hmz a (by omega) (by omega)
  have hz2 := hmz b (by omega) (by omega)
  refine zr_lconst0 hx hb d_M_correlate_0 ?_
  refine lv_lstore (lv' := [(4, .long (zL 0)), (0, .ref (AD 82)), (1, .int (zI a)), (2, .int (zI b)), (3, .int (zI s0))]) hx hb d_M_correlate_1 hl (by decide) rfl (fun ls hl => ?_)
  refine zr_lconst0 hx hb d_M_correlate_3 ?_
  refine lv_lstore (lv' := [(6, .long (zL 0)), (4, .long (zL 0)), (0, .ref (AD 82)), (1, .int (zI a)), (2, .int (zI b)), (3, .int (zI s0))]) hx hb d_M_correlate_4 hl (by decide) rfl (fun ls hl => ?_)
  refine zr_lconst0 hx hb d_M_correlate_6 ?_
  refine lv_lstore (lv' := [(8, .long (zL 0)), (6, .long (zL 0)), (4, .long (zL 0)), (0, .ref (AD 82)), (1, .int (zI a)), (2, .int (zI b)), (3, .int (zI s0))]) hx hb d_M_correlate_7 hl (by decide) rfl (fun ls hl => ?_)
  refine zr_lconst0 hx hb d_M_correlate_9 ?_
  refine lv_lstore (lv' := [(10, .long (zL 0)), (8, .long (zL 0)), (6, .long (zL 0)), (4, .long (zL 0)), (0, .ref (AD 82)), (1, .int (zI a)), (2, .int (zI b)), (3, .int (zI s0))]) hx hb d_M_correlate_10 hl (by decide) rfl (fun ls hl => ?_)
  refine zr_lconst0 hx hb d_M_correlate_12 ?_
  refine lv_lstore (lv' := [(12, .long (zL 0)), (10, .long (zL 0)), (8, .long (zL 0)), (6, .long (zL 0)), (4, .long (zL 0)), (0, .ref (AD 82)), (1, .int (zI a)), (2, .int (zI b)), (3, .int (zI s0))]) hx hb d_M_correlate_13 hl (by decide) rfl (fun ls hl => ?_)
  refine lv_aload_n hx hb d_M_correlate_15 rfl (lv_at hl 5 rfl) ?_
  refine zr_iconst hx hb d_M_correlate_16 ?_
  refine zr_put (ty := .int) (v := .int (zI 0)) hx hb hts iw_M tyM tyM_ok nmM hown hK hw 82 ⟨by omega, by omega⟩ hM rfl 13 (by decide) (hts _ wk_519) (fun _ h => h) rfl (by decide +kernel) rfl rfl (Nat.le_of_ble_eq_true rfl) d_M_correlate_17 (fun H locs hw => ?_)
  obtain ⟨C1, hC1⟩ : ∃ z : Int → va_E, z = zup C 82 (.inr (4, [.int (zI th), .int (zI pn), .ref (AD 83), .int (zI kc), .ref (AD 84), .ref (AD 85), .int (zI tr), .int (zI lc), .int (zI fa), .int (zI fb), .ref (AD 86), .ref (AD 87), .ref (AD 88), .int (zI 0), .int (zI mr), .int (zI ma), .long (zL ab), .long (zL bl)])) := ⟨_, rfl⟩
  have hw : WD D clW (wA N AD sz) s.heap H locs N AD C1 := by rw [hC1]; exact hw
  have frC1 : ∀ j : Int, j ≠ 82 → C1 j = C j := fun j h => by rw [hC1]; exact zup_n h
  have hM : C1 82 = .inr (4, [.int (zI th), .int (zI pn), .ref (AD 83), .int (zI kc), .ref (AD 84), .ref (AD 85), .int (zI tr), .int (zI lc), .int (zI fa), .int (zI fb), .ref (AD 86), .ref (AD 87), .ref (AD 88), .int (zI 0), .int (zI mr), .int (zI ma), .long (zL ab), .long (zL bl)]) := by rw [hC1]; exact zup_s
  have h84 : C1 84 = aI (k 0) 9 mz := (frC1 _ (by omega)).trans h84
  have h85 : C1 85 = aI (k 0) 216 mw := (frC1 _ (by omega)).trans h85
  refine lv_aload_n hx hb d_M_correlate_20 rfl (lv_at hl 5 rfl) ?_
  refine zr_iconst hx hb d_M_correlate_21 ?_
  refine zr_put (ty := .int) (v := .int (zI 0)) hx hb hts iw_M tyM tyM_ok nmM hown hK hw 82 ⟨by omega, by omega⟩ hM rfl 14 (by decide) (hts _ wk_520) (fun _ h => h) rfl (by decide +kernel) rfl rfl (Nat.le_of_ble_eq_true rfl) d_M_correlate_22 (fun H locs hw => ?_)
  obtain ⟨C2, hC2⟩ : ∃ z : Int → va_E, z = zup C1 82 (.inr (4, [.int (zI th), .int (zI pn), .ref (AD 83), .int (zI kc), .ref (AD 84), .ref (AD 85), .int (zI tr), .int (zI lc), .int (zI fa), .int (zI fb), .ref (AD 86), .ref (AD 87), .ref (AD 88), .int (zI 0), .int (zI 0), .int (zI ma), .long (zL ab), .long (zL bl)])) := ⟨_, rfl⟩
  have hw : WD D clW (wA N AD sz) s.heap H locs N AD C2 := by rw [hC2]; exact hw
  have frC2 : ∀ j : Int, j ≠ 82 → C2 j = C1 j := fun j h => by rw [hC2]; exact zup_n h
  have hM : C2 82 = .inr (4, [.int (zI th), .int (zI pn), .ref (AD 83), .int (zI kc), .ref (AD 84), .ref (AD 85), .int (zI tr), .int (zI lc), .int (zI fa), .int (zI fb), .ref (AD 86), .ref (AD 87), .ref (AD 88), .int (zI 0), .int (zI 0), .int (zI ma), .long (zL ab), .long (zL bl)]) := by rw [hC2]; exact zup_s
  have h84 : C2 84 = aI (k 0) 9 mz := (frC2 _ (by omega)).trans h84
  have h85 : C2 85 = aI (k 0) 216 mw := (frC2 _ (by omega)).trans h85
  refine lv_aload_n hx hb d_M_correlate_25 rfl (lv_at hl 5 rfl) ?_
  refine zr_iconst hx hb d_M_correlate_26 ?_
  refine zr_put (ty := .int) (v := .int (zI 0)) hx hb hts iw_M tyM tyM_ok nmM hown hK hw 82 ⟨by omega, by omega⟩ hM rfl 15 (by decide) (hts _ wk_521) (fun _ h => h) rfl (by decide +kernel) rfl rfl (Nat.le_of_ble_eq_true rfl) d_M_correlate_27 (fun H locs hw => ?_)
  obtain ⟨C3, hC3⟩ : ∃ z : Int → va_E, z = zup C2 82 (.inr (4, [.int (zI th), .int (zI pn), .ref (AD 83), .int (zI kc), .ref (AD 84), .ref (AD 85), .int (zI tr), .int (zI lc), .int (zI fa), .int (zI fb), .ref (AD 86), .ref (AD 87), .ref (AD 88), .int (zI 0), .int (zI 0), .int (zI 0), .long (zL ab), .long (zL bl)])) := ⟨_, rfl⟩
  have hw : WD D clW (wA N AD sz) s.heap H locs N AD C3 := by rw [hC3]; exact hw
  have frC3 : ∀ j : Int, j ≠ 82 → C3 j = C2 j := fun j h => by rw [hC3]; exact zup_n h
  have hM : C3 82 = .inr (4, [.int (zI th), .int (zI pn), .ref (AD 83), .int (zI kc), .ref (AD 84), .ref (AD 85), .int (zI tr), .int (zI lc), .int (zI fa), .int (zI fb), .ref (AD 86), .ref (AD 87), .ref (AD 88), .int (zI 0), .int (zI 0), .int (zI 0), .long (zL ab), .long (zL bl)]) := by rw [hC3]; exact zup_s
  have h84 : C3 84 = aI (k 0) 9 mz := (frC3 _ (by omega)).trans h84
  have h85 : C3 85 = aI (k 0) 216 mw := (frC3 _ (by omega)).trans h85
  refine zr_iconst hx hb d_M_correlate_30 ?_
  refine lv_istore (lv' := [(14, .int (zI 0)), (12, .long (zL 0)), (10, .long (zL 0)), (8, .long (zL 0)), (6, .long (zL 0)), (4, .long (zL 0)), (0, .ref (AD 82)), (1, .int (zI a)), (2, .int (zI b)), (3, .int (zI s0))]) hx hb d_M_correlate_31 hl (by decide) rfl (fun ls hl => ?_)
  have lp : ∀ (n9 : Nat) (x : Int) (cn : Int) (sx : Int) (sy : Int) (sxx : Int) (syy : Int) (sxy : Int) (rs : Int) (ag : Int) (C : Int → va_E) (H : Heap) (locs : List Loc) (ls : Array Slot), (0 ≤ x ∧ x ≤ mz b) → (cn = sumR (mT (WM mw a) (mz a) (WM mw b) (mz b) s0 (fun _ _ => 1)) 0 (x - 0).toNat) → (sx = sumR (mT (WM mw a) (mz a) (WM mw b) (mz b) s0 (fun p _ => p)) 0 (x - 0).toNat) → (sy = sumR (mT (WM mw a) (mz a) (WM mw b) (mz b) s0 (fun _ q => q)) 0 (x - 0).toNat) → (sxx = sumR (mT (WM mw a) (mz a) (WM mw b) (mz b) s0 (fun p _ => p * p)) 0 (x - 0).toNat) → (syy = sumR (mT (WM mw a) (mz a) (WM mw b) (mz b) s0 (fun _ q => q * q)) 0 (x - 0).toNat) → (sxy = sumR (mT (WM mw a) (mz a) (WM mw b) (mz b) s0 (fun p q => p * q)) 0 (x - 0).toNat) → (rs = sumR (mRs (WM mw a) (mz a) (WM mw b) (mz b) s0) 0 (x - 0).toNat) → (ag = sumR (mAg (WM mw a) (mz a) (WM mw b) (mz b) s0) 0 (x - 0).toNat) → ((0 ≤ cn ∧ cn ≤ x) ∧ (0 ≤ sx ∧ sx ≤ 200 * x) ∧ (0 ≤ sy ∧ sy ≤ 200 * x) ∧ (0 ≤ sxx ∧ sxx ≤ 40000 * x) ∧ (0 ≤ syy ∧ syy ≤ 40000 * x) ∧ (0 ≤ sxy ∧ sxy ≤ 40000 * x) ∧ (0 ≤ rs ∧ rs ≤ x) ∧ (0 ≤ ag ∧ ag ≤ 2 * rs)) → (∀ j : Int, j ≠ 82 → C j = C0 j) → (C 82 = .inr (4, [.int (zI th), .int (zI pn), .ref (AD 83), .int (zI kc), .ref (AD 84), .ref (AD 85), .int (zI tr), .int (zI lc), .int (zI fa), .int (zI fb), .ref (AD 86), .ref (AD 87), .ref (AD 88), .int (zI cn), .int (zI rs), .int (zI ag), .long (zL ab), .long (zL bl)])) → (C 84 = aI (k 0) 9 mz) → (C 85 = aI (k 0) 216 mw) → (mz b - x).toNat < n9 → WD D clW (wA N AD sz) s.heap H locs N AD C → lv_has ls 21 [(0, .ref (AD 82)), (1, .int (zI a)), (2, .int (zI b)), (3, .int (zI s0)), (4, .long (zL sx)), (6, .long (zL sy)), (8, .long (zL sxx)), (10, .long (zL syy)), (12, .long (zL sxy)), (14, .int (zI x))] → W p l e rm_M_correlate s m args below meth c H locs 0 0 Q (F0 m 33 ls []) := by
    intro n9
    induction n9 with
    | zero => intro x cn sx sy sxx syy sxy rs ag C H locs ls hx1 h_cn h_sx h_sy h_sxx h_syy h_sxy h_rs h_ag hbd hfr hM h84 h85 hm hw hl; exact absurd hm (by omega)
    | succ n9 ihlp =>
      intro x cn sx sy sxx syy sxy rs ag C H locs ls hx1 h_cn h_sx h_sy h_sxx h_syy h_sxy h_rs h_ag hbd hfr hM h84 h85 hm hw hl
      have ea := wAtM hok1 (x + s0)
      have eb := wAtM hok2 x
      have ea2 := xV_w (MOK_W hok1) (x + s0)
      have eb2 := xV_w (MOK_W hok2) x
      have hva := xV_in (MOK_W hok1) (x + s0)
      have hvb := xV_in (MOK_W hok2) x
      refine lv_iload hx hb d_M_correlate_33 (lv_at hl 9 rfl) ?_
      refine lv_aload_n hx hb d_M_correlate_35 rfl (lv_at hl 0 rfl) ?_
      refine zr_get (v := .ref (AD 84)) hx hb hts iw_M hown hK hw 82 ⟨by omega, by omega⟩ hM rfl 4 (by decide) (hts _ wk_510) (fun _ h => h) rfl d_M_correlate_36 ?_
      refine lv_iload_n hx hb d_M_correlate_39 rfl (lv_at hl 2 rfl) ?_
      refine zr_iald hx hb hK hw 84 ⟨by omega, by omega⟩ 0 h84 rfl ⟨by omega, by omega⟩ (by decide) d_M_correlate_40 ?_
      refine zr_icmp_ge (tgt := 190) hx hb ⟨by omega, by omega⟩ ⟨by omega, by omega⟩ d_M_correlate_41 (by decide) (fun c4 => ?_) (fun c4 => ?_)
      · have hxe : x = mz b := by omega
        rw [hxe] at h_cn h_sx h_sy h_sxx h_syy h_sxy h_rs h_ag
        rw [mT_sum _ hz2.1] at h_cn
        rw [mT_sum _ hz2.1] at h_sx
        rw [mT_sum _ hz2.1] at h_sy
        rw [mT_sum _ hz2.1] at h_sxx
        rw [mT_sum _ hz2.1] at h_syy
        rw [mT_sum _ hz2.1] at h_sxy
        rw [mRs_sum hz2.1] at h_rs
        rw [mAg_sum hz2.1] at h_ag
        have hcs9 := cs_all (xV (WM mw a) (mz a)) (fun p => xV (WM mw b) (mz b) (p - s0)) (max 0 s0) (min (mz a) (mz b + s0) - max 0 s0).toNat h_cn h_sx h_sy h_sxx h_syy h_sxy
        obtain ⟨hu9, hv9, hcs⟩ := hcs9
        have q1 := mul_b (a := cn) (b := sxx) (A := 24) (B := 960000) (by omega) (by omega) (by omega) (by omega)
        have q2 := mul_b (a := cn) (b := syy) (A := 24) (B := 960000) (by omega) (by omega) (by omega) (by omega)
        have q3 := mul_b (a := cn) (b := sxy) (A := 24) (B := 960000) (by omega) (by omega) (by omega) (by omega)
        have q4 := mul_b (a := sx) (b := sy) (A := 4800) (B := 4800) (by omega) (by omega) (by omega) (by omega)
        have q5 := mul_b (a := sx) (b := sx) (A := 4800) (B := 4800) (by omega) (by omega) (by omega) (by omega)
        have q6 := mul_b (a := sy) (b := sy) (A := 4800) (B := 4800) (by omega) (by omega) (by omega) (by omega)
        refine lv_aload_n hx hb d_M_correlate_190 rfl (lv_at hl 0 rfl) ?_
        refine zr_get (v := .int (zI cn)) hx hb hts iw_M hown hK hw 82 ⟨by omega, by omega⟩ hM rfl 13 (by decide) (hts _ wk_519) (fun _ h => h) rfl d_M_correlate_191 ?_
        refine zr_i2l hx hb d_M_correlate_194 ⟨by omega, by omega⟩ ?_
        refine lv_lload hx hb d_M_correlate_195 (lv_at hl 8 rfl) ?_
        refine zr_lmul hx hb d_M_correlate_197 ?_
        refine lv_lload hx hb d_M_correlate_198 (lv_at hl 4 rfl) ?_
        refine lv_lload hx hb d_M_correlate_200 (lv_at hl 5 rfl) ?_
        refine zr_lmul hx hb d_M_correlate_202 ?_
        refine zr_lsub hx hb d_M_correlate_203 ?_
        refine lv_lstore (lv' := [(14, .long (zL ((cn * sxy) - (sx * sy)))), (0, .ref (AD 82)), (1, .int (zI a)), (2, .int (zI b)), (3, .int (zI s0)), (4, .long (zL sx)), (6, .long (zL sy)), (8, .long (zL sxx)), (10, .long (zL syy)), (12, .long (zL sxy))]) hx hb d_M_correlate_204 hl (by decide) rfl (fun ls hl => ?_)
        refine lv_aload_n hx hb d_M_correlate_206 rfl (lv_at hl 1 rfl) ?_
        refine zr_get (v := .int (zI cn)) hx hb hts iw_M hown hK hw 82 ⟨by omega, by omega⟩ hM rfl 13 (by decide) (hts _ wk_519) (fun _ h => h) rfl d_M_correlate_207 ?_
        refine zr_i2l hx hb d_M_correlate_210 ⟨by omega, by omega⟩ ?_
        refine lv_lload hx hb d_M_correlate_211 (lv_at hl 7 rfl) ?_
        refine zr_lmul hx hb d_M_correlate_213 ?_
        refine lv_lload hx hb d_M_correlate_214 (lv_at hl 5 rfl) ?_
        refine lv_lload hx hb d_M_correlate_216 (lv_at hl 5 rfl) ?_
        refine zr_lmul hx hb d_M_correlate_218 ?_
        refine zr_lsub hx hb d_M_correlate_219 ?_
        refine lv_lstore (lv' := [(16, .long (zL ((cn * sxx) - (sx * sx)))), (14, .long (zL ((cn * sxy) - (sx * sy)))), (0, .ref (AD 82)), (1, .int (zI a)), (2, .int (zI b)), (3, .int (zI s0)), (4, .long (zL sx)), (6, .long (zL sy)), (8, .long (zL sxx)), (10, .long (zL syy)), (12, .long (zL sxy))]) hx hb d_M_correlate_220 hl (by decide) rfl (fun ls hl => ?_)
        refine lv_aload_n hx hb d_M_correlate_222 rfl (lv_at hl 2 rfl) ?_
        refine zr_get (v := .int (zI cn)) hx hb hts iw_M hown hK hw 82 ⟨by omega, by omega⟩ hM rfl 13 (by decide) (hts _ wk_519) (fun _ h => h) rfl d_M_correlate_223 ?_
        refine zr_i2l hx hb d_M_correlate_226 ⟨by omega, by omega⟩ ?_
        refine lv_lload hx hb d_M_correlate_227 (lv_at hl 9 rfl) ?_
        refine zr_lmul hx hb d_M_correlate_229 ?_
        refine lv_lload hx hb d_M_correlate_230 (lv_at hl 7 rfl) ?_
        refine lv_lload hx hb d_M_correlate_232 (lv_at hl 7 rfl) ?_
        refine zr_lmul hx hb d_M_correlate_234 ?_
        refine zr_lsub hx hb d_M_correlate_235 ?_
        refine lv_lstore (lv' := [(18, .long (zL ((cn * syy) - (sy * sy)))), (16, .long (zL ((cn * sxx) - (sx * sx)))), (14, .long (zL ((cn * sxy) - (sx * sy)))), (0, .ref (AD 82)), (1, .int (zI a)), (2, .int (zI b)), (3, .int (zI s0)), (4, .long (zL sx)), (6, .long (zL sy)), (8, .long (zL sxx)), (10, .long (zL syy)), (12, .long (zL sxy))]) hx hb d_M_correlate_236 hl (by decide) rfl (fun ls hl => ?_)
        obtain ⟨c0, hc0⟩ : ∃ z : Int, z = cn * sxy - sx * sy := ⟨_, rfl⟩
        obtain ⟨u0, hu0⟩ : ∃ z : Int, z = cn * sxx - sx * sx := ⟨_, rfl⟩
        obtain ⟨v0, hv0⟩ : ∃ z : Int, z = cn * syy - sy * sy := ⟨_, rfl⟩
        rw [← hc0, ← hu0, ← hv0] at hl
        rw [← hc0, ← hu0, ← hv0] at hcs
        rw [← hu0] at hu9
        rw [← hv0] at hv9
        have hcb : -23040000 ≤ c0 ∧ c0 ≤ 23040000 := by omega
        have hub : u0 ≤ 23040000 := by omega
        have hvb : v0 ≤ 23040000 := by omega
        have hsq := sq_nn c0
        have hsq2 : c0 * c0 ≤ 530841600000000 := by have := mul_b (a := u0) (b := v0) hu9 hub hv9 hvb; omega
        have hlim : 10000 * c0 * c0 = 10000 * (c0 * c0) := Int.mul_assoc _ _ _
        have hcf : ovC (WM mw a) (mz a) (WM mw b) (mz b) s0 = corrF c0 u0 v0 := by unfold ovC ovN; rw [← h_cn, ← h_sx, ← h_sy, ← h_sxx, ← h_syy, ← h_sxy, ← hc0, ← hu0, ← hv0]
        refine lv_lload hx hb d_M_correlate_238 (lv_at hl 1 rfl) ?_
        refine zr_lconst0 hx hb d_M_correlate_240 ?_
        refine zr_lcmp_eq (tgt := 252) hx hb ⟨by omega, by omega⟩ inL0 d_M_correlate_241 d_M_correlate_242 (by decide) (fun c5 => ?_) (fun c5 => ?_)
        · refine zr_iconst hx hb d_M_correlate_252 ?_
          exact hret _ _ _ _ _ _ d_M_correlate_253 hw rfl ⟨by rw [hcf]; unfold corrF; rw [if_pos (by omega)], by rw [hM]; unfold ovN; rw [← h_cn, ← h_rs, ← h_ag], hfr⟩
        · refine lv_lload hx hb d_M_correlate_245 (lv_at hl 0 rfl) ?_
          refine zr_lconst0 hx hb d_M_correlate_247 ?_
          refine zr_lcmp_ne (tgt := 254) hx hb ⟨by omega, by omega⟩ inL0 d_M_correlate_248 d_M_correlate_249 (by decide) (fun c6 => ?_) (fun c6 => ?_)
          · refine zr_iconst hx hb d_M_correlate_254 ?_
            refine lv_istore (lv' := [(20, .int (zI 0)), (18, .long (zL v0)), (16, .long (zL u0)), (14, .long (zL c0)), (0, .ref (AD 82)), (1, .int (zI a)), (2, .int (zI b)), (3, .int (zI s0)), (4, .long (zL sx)), (6, .long (zL sy)), (8, .long (zL sxx)), (10, .long (zL syy)), (12, .long (zL sxy))]) hx hb d_M_correlate_255 hl (by decide) rfl (fun ls hl => ?_)
            have lt : ∀ (n9 : Nat) (t : Int) (H : Heap) (locs : List Loc) (ls : Array Slot), (0 ≤ t ∧ t ≤ 100) → (tls c0 u0 v0 (100 - t).toNat t = corrT c0 u0 v0) → (100 - t).toNat < n9 → WD D clW (wA N AD sz) s.heap H locs N AD C → lv_has ls 21 [(14, .long (zL c0)), (16, .long (zL u0)), (18, .long (zL v0)), (20, .int (zI t))] → W p l e rm_M_correlate s m args below meth c H locs 0 0 Q (F0 m 257 ls []) := by
              intro n9
              induction n9 with
              | zero => intro t H locs ls ht1 htl  hm hw hl; exact absurd hm (by omega)
              | succ n9 ihlt =>
                intro t H locs ls ht1 htl  hm hw hl
                refine lv_iload hx hb d_M_correlate_257 (lv_at hl 3 rfl) ?_
                refine zr_bipush hx hb d_M_correlate_259 (by decide) ?_
                refine zr_icmp_ge (tgt := 300) hx hb ⟨by omega, by omega⟩ ⟨by omega, by omega⟩ d_M_correlate_261 (by decide) (fun c7 => ?_) (fun c7 => ?_)
                · have hT : corrT c0 u0 v0 = t := by rw [← htl, show t = 100 by omega]; rfl
                  refine lv_lload hx hb d_M_correlate_300 (lv_at hl 0 rfl) ?_
                  refine zr_lconst0 hx hb d_M_correlate_302 ?_
                  refine zr_lcmp_ge (tgt := 314) hx hb ⟨by omega, by omega⟩ inL0 d_M_correlate_303 d_M_correlate_304 (by decide) (fun c8 => ?_) (fun c8 => ?_)
                  · refine lv_iload hx hb d_M_correlate_314 (lv_at hl 3 rfl) ?_
                    exact hret _ _ _ _ _ _ d_M_correlate_316 hw rfl ⟨by rw [hcf]; unfold corrF; rw [if_neg (by omega), if_neg (by omega), hT], by rw [hM]; unfold ovN; rw [← h_cn, ← h_rs, ← h_ag], hfr⟩
                  · refine zr_iconst hx hb d_M_correlate_307 ?_
                    refine lv_iload hx hb d_M_correlate_308 (lv_at hl 3 rfl) ?_
                    refine zr_isub hx hb d_M_correlate_310 ?_
                    refine lv_goto (tgt := 316) hx hb d_M_correlate_311 (by decide) ?_
                    exact hret _ _ _ _ _ _ d_M_correlate_316 hw rfl ⟨by rw [hcf]; unfold corrF; rw [if_neg (by omega), if_pos (by omega), hT, Int.zero_sub], by rw [hM]; unfold ovN; rw [← h_cn, ← h_rs, ← h_ag], hfr⟩
                · have hm0 := mul_b (a := t + 1) (b := t + 1) (A := 100) (B := 100) (by omega) (by omega) (by omega) (by omega)
                  have hm1 := mul_b (a := (t + 1) * (t + 1)) (b := u0) (A := 10000) (B := 23040000) (by omega) (by omega) (by omega) (by omega)
                  have hm2 := mul_b (a := (t + 1) * (t + 1) * u0) (b := v0) (A := 230400000000) (B := 23040000) (by omega) (by omega) (by omega) (by omega)
                  refine lv_iload hx hb d_M_correlate_264 (lv_at hl 3 rfl) ?_
                  refine zr_i2l hx hb d_M_correlate_266 ⟨by omega, by omega⟩ ?_
                  refine zr_lconst1 hx hb d_M_correlate_267 ?_
                  refine zr_ladd hx hb d_M_correlate_268 ?_
                  refine lv_iload hx hb d_M_correlate_269 (lv_at hl 3 rfl) ?_
                  refine zr_i2l hx hb d_M_correlate_271 ⟨by omega, by omega⟩ ?_
                  refine zr_lconst1 hx hb d_M_correlate_272 ?_
                  refine zr_ladd hx hb d_M_correlate_273 ?_
                  refine zr_lmul hx hb d_M_correlate_274 ?_
                  refine lv_lload hx hb d_M_correlate_275 (lv_at hl 1 rfl) ?_
                  refine zr_lmul hx hb d_M_correlate_277 ?_
                  refine lv_lload hx hb d_M_correlate_278 (lv_at hl 2 rfl) ?_
                  refine zr_lmul hx hb d_M_correlate_280 ?_
                  refine zr_ldc2 10000 hx hb hown (hts _ wk_641) (by decide +kernel) d_M_correlate_281 ?_
                  refine lv_lload hx hb d_M_correlate_284 (lv_at hl 0 rfl) ?_
                  refine zr_lmul hx hb d_M_correlate_286 ?_
                  refine lv_lload hx hb d_M_correlate_287 (lv_at hl 0 rfl) ?_
                  refine zr_lmul hx hb d_M_correlate_289 ?_
                  refine zr_lcmp_gt (tgt := 300) hx hb ⟨by omega, by omega⟩ ⟨by omega, by omega⟩ d_M_correlate_290 d_M_correlate_291 (by decide) (fun c9 => ?_) (fun c9 => ?_)
                  · have hT : corrT c0 u0 v0 = t := by rw [← htl]; exact tls_f (by omega) (by omega)
                    refine lv_lload hx hb d_M_correlate_300 (lv_at hl 0 rfl) ?_
                    refine zr_lconst0 hx hb d_M_correlate_302 ?_
                    refine zr_lcmp_ge (tgt := 314) hx hb ⟨by omega, by omega⟩ inL0 d_M_correlate_303 d_M_correlate_304 (by decide) (fun c10 => ?_) (fun c10 => ?_)
                    · refine lv_iload hx hb d_M_correlate_314 (lv_at hl 3 rfl) ?_
                      exact hret _ _ _ _ _ _ d_M_correlate_316 hw rfl ⟨by rw [hcf]; unfold corrF; rw [if_neg (by omega), if_neg (by omega), hT], by rw [hM]; unfold ovN; rw [← h_cn, ← h_rs, ← h_ag], hfr⟩
                    · refine zr_iconst hx hb d_M_correlate_307 ?_
                      refine lv_iload hx hb d_M_correlate_308 (lv_at hl 3 rfl) ?_
                      refine zr_isub hx hb d_M_correlate_310 ?_
                      refine lv_goto (tgt := 316) hx hb d_M_correlate_311 (by decide) ?_
                      exact hret _ _ _ _ _ _ d_M_correlate_316 hw rfl ⟨by rw [hcf]; unfold corrF; rw [if_neg (by omega), if_pos (by omega), hT, Int.zero_sub], by rw [hM]; unfold ovN; rw [← h_cn, ← h_rs, ← h_ag], hfr⟩
                  · refine lv_iinc (v := zI (t + 1)) (lv' := [(20, .int (zI (t + 1))), (14, .long (zL c0)), (16, .long (zL u0)), (18, .long (zL v0))]) hx hb d_M_correlate_294 hl (k := 3) rfl (zI_add _ _) (by decide) rfl (fun ls hl => ?_)
                    refine lv_goto (tgt := 257) hx hb d_M_correlate_297 (by decide) ?_
                    exact ihlt (t + 1) H locs ls (by omega) ((tls_t (by omega) (by omega)).symm.trans htl)  (by omega) hw (lv_sub hl [1, 2, 3, 0] rfl)
            exact lt ((100 - 0 : Int).toNat + 1) 0 H locs ls (by omega) rfl  (by omega) hw (lv_sub hl [3, 2, 1, 0] rfl)
          · refine zr_iconst hx hb d_M_correlate_252 ?_
            exact hret _ _ _ _ _ _ d_M_correlate_253 hw rfl ⟨by rw [hcf]; unfold corrF; rw [if_pos (by omega)], by rw [hM]; unfold ovN; rw [← h_cn, ← h_rs, ← h_ag], hfr⟩
      · refine lv_aload_n hx hb d_M_correlate_44 rfl (lv_at hl 0 rfl) ?_
        refine lv_iload_n hx hb d_M_correlate_45 rfl (lv_at hl 1 rfl) ?_
        refine lv_iload_n hx hb d_M_correlate_46 rfl (lv_at hl 2 rfl) ?_
        refine lv_iload_n hx hb d_M_correlate_47 rfl (lv_at hl 3 rfl) ?_
        refine lv_iload hx hb d_M_correlate_48 (lv_at hl 9 rfl) ?_
        refine zr_callI (va_runV (As := [.int (zI a), .int (zI b), .int (zI s0), .int (zI x)]) (rest := []) ⟨hx, hb, hml, hown, hts⟩ (c_M_isPair l D k N AD C H.size th pn kc tr lc fa fb cn rs ag ab bl mz mw a b s0 x hN hM h84 h85 hmz (by omega) ⟨by omega, by omega⟩ ⟨by omega, by omega⟩ ⟨by omega, by omega⟩ ⟨by omega, by omega⟩ hok1 hok2) (cwV 4 hts (good_V wk_630 wk_632 wk_19 wk_31 wk_633) rfl rfl rfl (by decide +kernel) ⟨Nat.le_of_ble_eq_true rfl, Nat.le_of_ble_eq_true rfl⟩) (cPre_V hK hw 82 ⟨by omega, by omega⟩ hM rfl) rfl rfl hl.1 rfl (lv_room (Nat.le_of_ble_eq_true rfl)) d_M_correlate_50 ⟨Nat.le_of_ble_eq_true rfl, Nat.le_of_ble_eq_true rfl⟩) hw hA (fun r9 C12 H locs hq11 hw => ?_)
        obtain ⟨hq11, hCe⟩ := hq11
        rw [hCe] at hw
        rcases hq11 with ⟨hr9, hq11⟩ | ⟨hr9, hq11⟩ <;> subst hr9
        · have hxa : ¬ xV (WM mw a) (mz a) (x + s0) = -1 := by omega
          have hxb : ¬ xV (WM mw b) (mz b) x = -1 := by omega
          have eva : evF (WM mw a) (mz a) (x + s0) = xV (WM mw a) (mz a) (x + s0) := (wAt_in (by omega)).symm
          have evb : evF (WM mw b) (mz b) x = xV (WM mw b) (mz b) x := (wAt_in (by omega)).symm
          have hm1 := mul_b (a := xV (WM mw a) (mz a) (x + s0)) (b := xV (WM mw a) (mz a) (x + s0)) (A := 200) (B := 200) (by omega) (by omega) (by omega) (by omega)
          have hm2 := mul_b (a := xV (WM mw b) (mz b) x) (b := xV (WM mw b) (mz b) x) (A := 200) (B := 200) (by omega) (by omega) (by omega) (by omega)
          have hm3 := mul_b (a := xV (WM mw a) (mz a) (x + s0)) (b := xV (WM mw b) (mz b) x) (A := 200) (B := 200) (by omega) (by omega) (by omega) (by omega)
          refine zr_if_eq (tgt := 184) hx hb ⟨by omega, by omega⟩ d_M_correlate_53 (by decide) (fun c9 => absurd c9 (by decide)) (fun c13 => ?_)
          refine lv_aload_n hx hb d_M_correlate_56 rfl (lv_at hl 0 rfl) ?_
          refine lv_iload_n hx hb d_M_correlate_57 rfl (lv_at hl 1 rfl) ?_
          refine lv_iload hx hb d_M_correlate_58 (lv_at hl 9 rfl) ?_
          refine lv_iload_n hx hb d_M_correlate_60 rfl (lv_at hl 3 rfl) ?_
          refine zr_iadd hx hb d_M_correlate_61 ?_
          refine zr_callI (va_runV (As := [.int (zI a), .int (zI (x + s0))]) (rest := []) ⟨hx, hb, hml, hown, hts⟩ (c_M_even l D k N AD C H.size th pn kc tr lc fa fb cn rs ag ab bl mz mw a (x + s0) hN hM h84 h85 hmz (by omega) ⟨by omega, by omega⟩ ⟨by omega, by omega⟩ hok1) (cwV 2 hts (good_V wk_618 wk_620 wk_17 wk_31 wk_621) rfl rfl rfl (by decide +kernel) ⟨Nat.le_of_ble_eq_true rfl, Nat.le_of_ble_eq_true rfl⟩) (cPre_V hK hw 82 ⟨by omega, by omega⟩ hM rfl) rfl rfl hl.1 rfl (lv_room (Nat.le_of_ble_eq_true rfl)) d_M_correlate_62 ⟨Nat.le_of_ble_eq_true rfl, Nat.le_of_ble_eq_true rfl⟩) hw hA (fun r9 C15 H locs hq14 hw => ?_)
          obtain ⟨hr9, hCe⟩ := hq14
          rw [hCe] at hw; subst hr9
          rw [eva]
          refine zr_i2l hx hb d_M_correlate_65 ⟨by omega, by omega⟩ ?_
          refine lv_lstore (lv' := [(15, .long (zL (xV (WM mw a) (mz a) (x + s0)))), (0, .ref (AD 82)), (1, .int (zI a)), (2, .int (zI b)), (3, .int (zI s0)), (4, .long (zL sx)), (6, .long (zL sy)), (8, .long (zL sxx)), (10, .long (zL syy)), (12, .long (zL sxy)), (14, .int (zI x))]) hx hb d_M_correlate_66 hl (by decide) rfl (fun ls hl => ?_)
          refine lv_aload_n hx hb d_M_correlate_68 rfl (lv_at hl 1 rfl) ?_
          refine lv_iload_n hx hb d_M_correlate_69 rfl (lv_at hl 3 rfl) ?_
          refine lv_iload hx hb d_M_correlate_70 (lv_at hl 10 rfl) ?_
          refine zr_callI (va_runV (As := [.int (zI b), .int (zI x)]) (rest := []) ⟨hx, hb, hml, hown, hts⟩ (c_M_even l D k N AD C H.size th pn kc tr lc fa fb cn rs ag ab bl mz mw b x hN hM h84 h85 hmz (by omega) ⟨by omega, by omega⟩ ⟨by omega, by omega⟩ hok2) (cwV 2 hts (good_V wk_618 wk_620 wk_17 wk_31 wk_621) rfl rfl rfl (by decide +kernel) ⟨Nat.le_of_ble_eq_true rfl, Nat.le_of_ble_eq_true rfl⟩) (cPre_V hK hw 82 ⟨by omega, by omega⟩ hM rfl) rfl rfl hl.1 rfl (lv_room (Nat.le_of_ble_eq_true rfl)) d_M_correlate_72 ⟨Nat.le_of_ble_eq_true rfl, Nat.le_of_ble_eq_true rfl⟩) hw hA (fun r9 C17 H locs hq16 hw => ?_)
          obtain ⟨hr9, hCe⟩ := hq16
          rw [hCe] at hw; subst hr9
          rw [evb]
          refine zr_i2l hx hb d_M_correlate_75 ⟨by omega, by omega⟩ ?_
          refine lv_lstore (lv' := [(17, .long (zL (xV (WM mw b) (mz b) x))), (15, .long (zL (xV (WM mw a) (mz a) (x + s0)))), (0, .ref (AD 82)), (1, .int (zI a)), (2, .int (zI b)), (3, .int (zI s0)), (4, .long (zL sx)), (6, .long (zL sy)), (8, .long (zL sxx)), (10, .long (zL syy)), (12, .long (zL sxy)), (14, .int (zI x))]) hx hb d_M_correlate_76 hl (by decide) rfl (fun ls hl => ?_)
          refine lv_lload hx hb d_M_correlate_78 (lv_at hl 6 rfl) ?_
          refine lv_lload hx hb d_M_correlate_80 (lv_at hl 1 rfl) ?_
          refine zr_ladd hx hb d_M_correlate_82 ?_
          refine lv_lstore (lv' := [(4, .long (zL (sx + (xV (WM mw a) (mz a) (x + s0))))), (17, .long (zL (xV (WM mw b) (mz b) x))), (15, .long (zL (xV (WM mw a) (mz a) (x + s0)))), (0, .ref (AD 82)), (1, .int (zI a)), (2, .int (zI b)), (3, .int (zI s0)), (6, .long (zL sy)), (8, .long (zL sxx)), (10, .long (zL syy)), (12, .long (zL sxy)), (14, .int (zI x))]) hx hb d_M_correlate_83 hl (by decide) rfl (fun ls hl => ?_)
          refine lv_lload hx hb d_M_correlate_85 (lv_at hl 7 rfl) ?_
          refine lv_lload hx hb d_M_correlate_87 (lv_at hl 1 rfl) ?_
          refine zr_ladd hx hb d_M_correlate_89 ?_
          refine lv_lstore (lv' := [(6, .long (zL (sy + (xV (WM mw b) (mz b) x)))), (4, .long (zL (sx + (xV (WM mw a) (mz a) (x + s0))))), (17, .long (zL (xV (WM mw b) (mz b) x))), (15, .long (zL (xV (WM mw a) (mz a) (x + s0)))), (0, .ref (AD 82)), (1, .int (zI a)), (2, .int (zI b)), (3, .int (zI s0)), (8, .long (zL sxx)), (10, .long (zL syy)), (12, .long (zL sxy)), (14, .int (zI x))]) hx hb d_M_correlate_90 hl (by decide) rfl (fun ls hl => ?_)
          refine lv_lload hx hb d_M_correlate_92 (lv_at hl 8 rfl) ?_
          refine lv_lload hx hb d_M_correlate_94 (lv_at hl 3 rfl) ?_
          refine lv_lload hx hb d_M_correlate_96 (lv_at hl 3 rfl) ?_
          refine zr_lmul hx hb d_M_correlate_98 ?_
          refine zr_ladd hx hb d_M_correlate_99 ?_
          refine lv_lstore (lv' := [(8, .long (zL (sxx + ((xV (WM mw a) (mz a) (x + s0)) * (xV (WM mw a) (mz a) (x + s0)))))), (6, .long (zL (sy + (xV (WM mw b) (mz b) x)))), (4, .long (zL (sx + (xV (WM mw a) (mz a) (x + s0))))), (17, .long (zL (xV (WM mw b) (mz b) x))), (15, .long (zL (xV (WM mw a) (mz a) (x + s0)))), (0, .ref (AD 82)), (1, .int (zI a)), (2, .int (zI b)), (3, .int (zI s0)), (10, .long (zL syy)), (12, .long (zL sxy)), (14, .int (zI x))]) hx hb d_M_correlate_100 hl (by decide) rfl (fun ls hl => ?_)
          refine lv_lload hx hb d_M_correlate_102 (lv_at hl 9 rfl) ?_
          refine lv_lload hx hb d_M_correlate_104 (lv_at hl 3 rfl) ?_
          refine lv_lload hx hb d_M_correlate_106 (lv_at hl 3 rfl) ?_
          refine zr_lmul hx hb d_M_correlate_108 ?_
          refine zr_ladd hx hb d_M_correlate_109 ?_
          refine lv_lstore (lv' := [(10, .long (zL (syy + ((xV (WM mw b) (mz b) x) * (xV (WM mw b) (mz b) x))))), (8, .long (zL (sxx + ((xV (WM mw a) (mz a) (x + s0)) * (xV (WM mw a) (mz a) (x + s0)))))), (6, .long (zL (sy + (xV (WM mw b) (mz b) x)))), (4, .long (zL (sx + (xV (WM mw a) (mz a) (x + s0))))), (17, .long (zL (xV (WM mw b) (mz b) x))), (15, .long (zL (xV (WM mw a) (mz a) (x + s0)))), (0, .ref (AD 82)), (1, .int (zI a)), (2, .int (zI b)), (3, .int (zI s0)), (12, .long (zL sxy)), (14, .int (zI x))]) hx hb d_M_correlate_110 hl (by decide) rfl (fun ls hl => ?_)
          refine lv_lload hx hb d_M_correlate_112 (lv_at hl 10 rfl) ?_
          refine lv_lload hx hb d_M_correlate_114 (lv_at hl 5 rfl) ?_
          refine lv_lload hx hb d_M_correlate_116 (lv_at hl 4 rfl) ?_
          refine zr_lmul hx hb d_M_correlate_118 ?_
          refine zr_ladd hx hb d_M_correlate_119 ?_
          refine lv_lstore (lv' := [(12, .long (zL (sxy + ((xV (WM mw a) (mz a) (x + s0)) * (xV (WM mw b) (mz b) x))))), (10, .long (zL (syy + ((xV (WM mw b) (mz b) x) * (xV (WM mw b) (mz b) x))))), (8, .long (zL (sxx + ((xV (WM mw a) (mz a) (x + s0)) * (xV (WM mw a) (mz a) (x + s0)))))), (6, .long (zL (sy + (xV (WM mw b) (mz b) x)))), (4, .long (zL (sx + (xV (WM mw a) (mz a) (x + s0))))), (17, .long (zL (xV (WM mw b) (mz b) x))), (15, .long (zL (xV (WM mw a) (mz a) (x + s0)))), (0, .ref (AD 82)), (1, .int (zI a)), (2, .int (zI b)), (3, .int (zI s0)), (14, .int (zI x))]) hx hb d_M_correlate_120 hl (by decide) rfl (fun ls hl => ?_)
          refine lv_aload_n hx hb d_M_correlate_122 rfl (lv_at hl 7 rfl) ?_
          refine lv_dup hx hb d_M_correlate_123 rfl ?_
          refine zr_get (v := .int (zI cn)) hx hb hts iw_M hown hK hw 82 ⟨by omega, by omega⟩ hM rfl 13 (by decide) (hts _ wk_519) (fun _ h => h) rfl d_M_correlate_124 ?_
          refine zr_iconst hx hb d_M_correlate_127 ?_
          refine zr_iadd hx hb d_M_correlate_128 ?_
          refine zr_put (ty := .int) (v := .int (zI (cn + 1))) hx hb hts iw_M tyM tyM_ok nmM hown hK hw 82 ⟨by omega, by omega⟩ hM rfl 13 (by decide) (hts _ wk_519) (fun _ h => h) rfl (by decide +kernel) rfl rfl (Nat.le_of_ble_eq_true rfl) d_M_correlate_129 (fun H locs hw => ?_)
          obtain ⟨C18, hC18⟩ : ∃ z : Int → va_E, z = zup C 82 (.inr (4, [.int (zI th), .int (zI pn), .ref (AD 83), .int (zI kc), .ref (AD 84), .ref (AD 85), .int (zI tr), .int (zI lc), .int (zI fa), .int (zI fb), .ref (AD 86), .ref (AD 87), .ref (AD 88), .int (zI (cn + 1)), .int (zI rs), .int (zI ag), .long (zL ab), .long (zL bl)])) := ⟨_, rfl⟩
          have hw : WD D clW (wA N AD sz) s.heap H locs N AD C18 := by rw [hC18]; exact hw
          have frC18 : ∀ j : Int, j ≠ 82 → C18 j = C j := fun j h => by rw [hC18]; exact zup_n h
          have hM : C18 82 = .inr (4, [.int (zI th), .int (zI pn), .ref (AD 83), .int (zI kc), .ref (AD 84), .ref (AD 85), .int (zI tr), .int (zI lc), .int (zI fa), .int (zI fb), .ref (AD 86), .ref (AD 87), .ref (AD 88), .int (zI (cn + 1)), .int (zI rs), .int (zI ag), .long (zL ab), .long (zL bl)]) := by rw [hC18]; exact zup_s
          have h84 : C18 84 = aI (k 0) 9 mz := (frC18 _ (by omega)).trans h84
          have h85 : C18 85 = aI (k 0) 216 mw := (frC18 _ (by omega)).trans h85
          refine lv_aload_n hx hb d_M_correlate_132 rfl (lv_at hl 7 rfl) ?_
          refine lv_iload_n hx hb d_M_correlate_133 rfl (lv_at hl 8 rfl) ?_
          refine lv_iload_n hx hb d_M_correlate_134 rfl (lv_at hl 9 rfl) ?_
          refine lv_iload_n hx hb d_M_correlate_135 rfl (lv_at hl 10 rfl) ?_
          refine lv_iload hx hb d_M_correlate_136 (lv_at hl 11 rfl) ?_
          refine zr_iconst hx hb d_M_correlate_138 ?_
          refine zr_iadd hx hb d_M_correlate_139 ?_
          refine zr_callI (va_runV (As := [.int (zI a), .int (zI b), .int (zI s0), .int (zI (x + 1))]) (rest := []) ⟨hx, hb, hml, hown, hts⟩ (c_M_isPair l D k N AD C18 H.size th pn kc tr lc fa fb (cn + 1) rs ag ab bl mz mw a b s0 (x + 1) hN hM h84 h85 hmz (by omega) ⟨by omega, by omega⟩ ⟨by omega, by omega⟩ ⟨by omega, by omega⟩ ⟨by omega, by omega⟩ hok1 hok2) (cwV 4 hts (good_V wk_630 wk_632 wk_19 wk_31 wk_633) rfl rfl rfl (by decide +kernel) ⟨Nat.le_of_ble_eq_true rfl, Nat.le_of_ble_eq_true rfl⟩) (cPre_V hK hw 82 ⟨by omega, by omega⟩ hM rfl) rfl rfl hl.1 rfl (lv_room (Nat.le_of_ble_eq_true rfl)) d_M_correlate_140 ⟨Nat.le_of_ble_eq_true rfl, Nat.le_of_ble_eq_true rfl⟩) hw hA (fun r9 C20 H locs hq19 hw => ?_)
          obtain ⟨hq19, hCe⟩ := hq19
          rw [hCe] at hw
          rcases hq19 with ⟨hr9, hq19⟩ | ⟨hr9, hq19⟩ <;> subst hr9
          · have hrs9 := mRs_f (w1 := WM mw a) (w2 := WM mw b) (n1 := mz a) (n2 := mz b) (s := s0) (x := x) ⟨hq11, hq19⟩
            have hq5 : ¬ wAt (WM mw a) (mz a) (x + s0 + 1) = -1 := by rw [show x + s0 + 1 = x + 1 + s0 by omega]; exact hq19.1
            refine zr_if_eq (tgt := 184) hx hb ⟨by omega, by omega⟩ d_M_correlate_143 (by decide) (fun c9 => absurd c9 (by decide)) (fun c21 => ?_)
            refine lv_aload_n hx hb d_M_correlate_146 rfl (lv_at hl 7 rfl) ?_
            refine lv_dup hx hb d_M_correlate_147 rfl ?_
            refine zr_get (v := .int (zI rs)) hx hb hts iw_M hown hK hw 82 ⟨by omega, by omega⟩ hM rfl 14 (by decide) (hts _ wk_520) (fun _ h => h) rfl d_M_correlate_148 ?_
            refine zr_iconst hx hb d_M_correlate_151 ?_
            refine zr_iadd hx hb d_M_correlate_152 ?_
            refine zr_put (ty := .int) (v := .int (zI (rs + 1))) hx hb hts iw_M tyM tyM_ok nmM hown hK hw 82 ⟨by omega, by omega⟩ hM rfl 14 (by decide) (hts _ wk_520) (fun _ h => h) rfl (by decide +kernel) rfl rfl (Nat.le_of_ble_eq_true rfl) d_M_correlate_153 (fun H locs hw => ?_)
            obtain ⟨C22, hC22⟩ : ∃ z : Int → va_E, z = zup C18 82 (.inr (4, [.int (zI th), .int (zI pn), .ref (AD 83), .int (zI kc), .ref (AD 84), .ref (AD 85), .int (zI tr), .int (zI lc), .int (zI fa), .int (zI fb), .ref (AD 86), .ref (AD 87), .ref (AD 88), .int (zI (cn + 1)), .int (zI (rs + 1)), .int (zI ag), .long (zL ab), .long (zL bl)])) := ⟨_, rfl⟩
            have hw : WD D clW (wA N AD sz) s.heap H locs N AD C22 := by rw [hC22]; exact hw
            have frC22 : ∀ j : Int, j ≠ 82 → C22 j = C18 j := fun j h => by rw [hC22]; exact zup_n h
            have hM : C22 82 = .inr (4, [.int (zI th), .int (zI pn), .ref (AD 83), .int (zI kc), .ref (AD 84), .ref (AD 85), .int (zI tr), .int (zI lc), .int (zI fa), .int (zI fb), .ref (AD 86), .ref (AD 87), .ref (AD 88), .int (zI (cn + 1)), .int (zI (rs + 1)), .int (zI ag), .long (zL ab), .long (zL bl)]) := by rw [hC22]; exact zup_s
            have h84 : C22 84 = aI (k 0) 9 mz := (frC22 _ (by omega)).trans h84
            have h85 : C22 85 = aI (k 0) 216 mw := (frC22 _ (by omega)).trans h85
            refine lv_aload_n hx hb d_M_correlate_156 rfl (lv_at hl 7 rfl) ?_
            refine lv_aload_n hx hb d_M_correlate_157 rfl (lv_at hl 7 rfl) ?_
            refine zr_get (v := .int (zI ag)) hx hb hts iw_M hown hK hw 82 ⟨by omega, by omega⟩ hM rfl 15 (by decide) (hts _ wk_521) (fun _ h => h) rfl d_M_correlate_158 ?_
            refine lv_aload_n hx hb d_M_correlate_161 rfl (lv_at hl 7 rfl) ?_
            refine lv_iload_n hx hb d_M_correlate_162 rfl (lv_at hl 8 rfl) ?_
            refine lv_iload hx hb d_M_correlate_163 (lv_at hl 11 rfl) ?_
            refine lv_iload_n hx hb d_M_correlate_165 rfl (lv_at hl 10 rfl) ?_
            refine zr_iadd hx hb d_M_correlate_166 ?_
            refine zr_callI (va_runV (As := [.int (zI a), .int (zI (x + s0))]) (rest := [.int (zI ag), .ref (AD 82)]) ⟨hx, hb, hml, hown, hts⟩ (c_M_rise l D k N AD C22 H.size th pn kc tr lc fa fb (cn + 1) (rs + 1) ag ab bl mz mw a (x + s0) hN hM h84 h85 hmz (by omega) ⟨by omega, by omega⟩ hok1 (by omega) hq5) (cwV 2 hts (good_V wk_634 wk_636 wk_20 wk_31 wk_637) rfl rfl rfl (by decide +kernel) ⟨Nat.le_of_ble_eq_true rfl, Nat.le_of_ble_eq_true rfl⟩) (cPre_V hK hw 82 ⟨by omega, by omega⟩ hM rfl) rfl rfl hl.1 rfl (lv_room (Nat.le_of_ble_eq_true rfl)) d_M_correlate_167 ⟨Nat.le_of_ble_eq_true rfl, Nat.le_of_ble_eq_true rfl⟩) hw hA (fun r9 C24 H locs hq23 hw => ?_)
            obtain ⟨hr9, hCe⟩ := hq23
            rw [hCe] at hw; subst hr9
            refine lv_aload_n hx hb d_M_correlate_170 rfl (lv_at hl 7 rfl) ?_
            refine lv_iload_n hx hb d_M_correlate_171 rfl (lv_at hl 9 rfl) ?_
            refine lv_iload hx hb d_M_correlate_172 (lv_at hl 11 rfl) ?_
            refine zr_callI (va_runV (As := [.int (zI b), .int (zI x)]) (rest := [.int (zI (ris (WM mw a) (mz a) ((x + s0) + 1))), .int (zI ag), .ref (AD 82)]) ⟨hx, hb, hml, hown, hts⟩ (c_M_rise l D k N AD C22 H.size th pn kc tr lc fa fb (cn + 1) (rs + 1) ag ab bl mz mw b x hN hM h84 h85 hmz (by omega) ⟨by omega, by omega⟩ hok2 (by omega) hq19.2) (cwV 2 hts (good_V wk_634 wk_636 wk_20 wk_31 wk_637) rfl rfl rfl (by decide +kernel) ⟨Nat.le_of_ble_eq_true rfl, Nat.le_of_ble_eq_true rfl⟩) (cPre_V hK hw 82 ⟨by omega, by omega⟩ hM rfl) rfl rfl hl.1 rfl (lv_room (Nat.le_of_ble_eq_true rfl)) d_M_correlate_174 ⟨Nat.le_of_ble_eq_true rfl, Nat.le_of_ble_eq_true rfl⟩) hw hA (fun r9 C26 H locs hq25 hw => ?_)
            obtain ⟨hr9, hCe⟩ := hq25
            rw [hCe] at hw; subst hr9
            have hr1 := ris_in (WM mw a) (mz a) (x + s0 + 1)
            have hr2 := ris_in (WM mw b) (mz b) (x + 1)
            refine zr_callI (va_runS (As := [.int (zI (ris (WM mw a) (mz a) ((x + s0) + 1))), .int (zI (ris (WM mw b) (mz b) (x + 1)))]) (rest := [.int (zI ag), .ref (AD 82)]) ⟨hx, hb, hml, hown, hts⟩ (c_M_alike l D k N AD C22 H.size (ris (WM mw a) (mz a) ((x + s0) + 1)) (ris (WM mw b) (mz b) (x + 1)) (by omega) (by omega)) (va_cwS 2 hts (good_S wk_638 wk_639 wk_31 wk_640) rfl rfl rfl (by decide +kernel) ⟨Nat.le_of_ble_eq_true rfl, Nat.le_of_ble_eq_true rfl⟩) (cPre_S hK hw) rfl rfl hl.1 rfl (lv_room (Nat.le_of_ble_eq_true rfl)) d_M_correlate_177 ⟨Nat.le_of_ble_eq_true rfl, Nat.le_of_ble_eq_true rfl⟩) hw hA (fun r9 C28 H locs hq27 hw => ?_)
            obtain ⟨hr9, hCe⟩ := hq27
            rw [hCe] at hw; subst hr9
            have hl9 := lik_in (ris (WM mw a) (mz a) (x + s0 + 1)) (ris (WM mw b) (mz b) (x + 1))
            refine zr_iadd hx hb d_M_correlate_180 ?_
            refine zr_put (ty := .int) (v := .int (zI (ag + (lik (ris (WM mw a) (mz a) ((x + s0) + 1)) (ris (WM mw b) (mz b) (x + 1)))))) hx hb hts iw_M tyM tyM_ok nmM hown hK hw 82 ⟨by omega, by omega⟩ hM rfl 15 (by decide) (hts _ wk_521) (fun _ h => h) rfl (by decide +kernel) rfl rfl (Nat.le_of_ble_eq_true rfl) d_M_correlate_181 (fun H locs hw => ?_)
            obtain ⟨C29, hC29⟩ : ∃ z : Int → va_E, z = zup C22 82 (.inr (4, [.int (zI th), .int (zI pn), .ref (AD 83), .int (zI kc), .ref (AD 84), .ref (AD 85), .int (zI tr), .int (zI lc), .int (zI fa), .int (zI fb), .ref (AD 86), .ref (AD 87), .ref (AD 88), .int (zI (cn + 1)), .int (zI (rs + 1)), .int (zI (ag + (lik (ris (WM mw a) (mz a) ((x + s0) + 1)) (ris (WM mw b) (mz b) (x + 1))))), .long (zL ab), .long (zL bl)])) := ⟨_, rfl⟩
            have hw : WD D clW (wA N AD sz) s.heap H locs N AD C29 := by rw [hC29]; exact hw
            have frC29 : ∀ j : Int, j ≠ 82 → C29 j = C22 j := fun j h => by rw [hC29]; exact zup_n h
            have hM : C29 82 = .inr (4, [.int (zI th), .int (zI pn), .ref (AD 83), .int (zI kc), .ref (AD 84), .ref (AD 85), .int (zI tr), .int (zI lc), .int (zI fa), .int (zI fb), .ref (AD 86), .ref (AD 87), .ref (AD 88), .int (zI (cn + 1)), .int (zI (rs + 1)), .int (zI (ag + (lik (ris (WM mw a) (mz a) ((x + s0) + 1)) (ris (WM mw b) (mz b) (x + 1))))), .long (zL ab), .long (zL bl)]) := by rw [hC29]; exact zup_s
            have h84 : C29 84 = aI (k 0) 9 mz := (frC29 _ (by omega)).trans h84
            have h85 : C29 85 = aI (k 0) 216 mw := (frC29 _ (by omega)).trans h85
            refine lv_iinc (v := zI (x + 1)) (lv' := [(14, .int (zI (x + 1))), (12, .long (zL (sxy + ((xV (WM mw a) (mz a) (x + s0)) * (xV (WM mw b) (mz b) x))))), (10, .long (zL (syy + ((xV (WM mw b) (mz b) x) * (xV (WM mw b) (mz b) x))))), (8, .long (zL (sxx + ((xV (WM mw a) (mz a) (x + s0)) * (xV (WM mw a) (mz a) (x + s0)))))), (6, .long (zL (sy + (xV (WM mw b) (mz b) x)))), (4, .long (zL (sx + (xV (WM mw a) (mz a) (x + s0))))), (17, .long (zL (xV (WM mw b) (mz b) x))), (15, .long (zL (xV (WM mw a) (mz a) (x + s0)))), (0, .ref (AD 82)), (1, .int (zI a)), (2, .int (zI b)), (3, .int (zI s0))]) hx hb d_M_correlate_184 hl (k := 11) rfl (zI_add _ _) (by decide) rfl (fun ls hl => ?_)
            refine lv_goto (tgt := 33) hx hb d_M_correlate_187 (by decide) ?_
            exact ihlp (x + 1) (cn + 1) (sx + (xV (WM mw a) (mz a) (x + s0))) (sy + (xV (WM mw b) (mz b) x)) (sxx + ((xV (WM mw a) (mz a) (x + s0)) * (xV (WM mw a) (mz a) (x + s0)))) (syy + ((xV (WM mw b) (mz b) x) * (xV (WM mw b) (mz b) x))) (sxy + ((xV (WM mw a) (mz a) (x + s0)) * (xV (WM mw b) (mz b) x))) (rs + 1) (ag + (lik (ris (WM mw a) (mz a) ((x + s0) + 1)) (ris (WM mw b) (mz b) (x + 1)))) C29 H locs ls (by omega) (by rw [sumR_step _ hx1.1, ← h_cn, mT_f hxa hxb]) (by rw [sumR_step _ hx1.1, ← h_sx, mT_f hxa hxb]) (by rw [sumR_step _ hx1.1, ← h_sy, mT_f hxa hxb]) (by rw [sumR_step _ hx1.1, ← h_sxx, mT_f hxa hxb]) (by rw [sumR_step _ hx1.1, ← h_syy, mT_f hxa hxb]) (by rw [sumR_step _ hx1.1, ← h_sxy, mT_f hxa hxb]) (by rw [sumR_step _ hx1.1, ← h_rs, hrs9.1]) (by rw [sumR_step _ hx1.1, ← h_ag, hrs9.2]) (by omega) (fun j hj => by rw [frC29 j hj, frC22 j hj, frC18 j hj]; exact hfr j hj) hM h84 h85 (by omega) hw (lv_sub hl [8, 9, 10, 11, 5, 4, 3, 2, 1, 0] rfl)
          · have hrs9 := mRs_t (w1 := WM mw a) (w2 := WM mw b) (n1 := mz a) (n2 := mz b) (s := s0) (x := x) (fun h => hq19 h.2)
            refine zr_if_eq (tgt := 184) hx hb ⟨by omega, by omega⟩ d_M_correlate_143 (by decide) (fun c30 => ?_) (fun c9 => absurd c9 (by decide))
            refine lv_iinc (v := zI (x + 1)) (lv' := [(14, .int (zI (x + 1))), (12, .long (zL (sxy + ((xV (WM mw a) (mz a) (x + s0)) * (xV (WM mw b) (mz b) x))))), (10, .long (zL (syy + ((xV (WM mw b) (mz b) x) * (xV (WM mw b) (mz b) x))))), (8, .long (zL (sxx + ((xV (WM mw a) (mz a) (x + s0)) * (xV (WM mw a) (mz a) (x + s0)))))), (6, .long (zL (sy + (xV (WM mw b) (mz b) x)))), (4, .long (zL (sx + (xV (WM mw a) (mz a) (x + s0))))), (17, .long (zL (xV (WM mw b) (mz b) x))), (15, .long (zL (xV (WM mw a) (mz a) (x + s0)))), (0, .ref (AD 82)), (1, .int (zI a)), (2, .int (zI b)), (3, .int (zI s0))]) hx hb d_M_correlate_184 hl (k := 11) rfl (zI_add _ _) (by decide) rfl (fun ls hl => ?_)
            refine lv_goto (tgt := 33) hx hb d_M_correlate_187 (by decide) ?_
            exact ihlp (x + 1) (cn + 1) (sx + (xV (WM mw a) (mz a) (x + s0))) (sy + (xV (WM mw b) (mz b) x)) (sxx + ((xV (WM mw a) (mz a) (x + s0)) * (xV (WM mw a) (mz a) (x + s0)))) (syy + ((xV (WM mw b) (mz b) x) * (xV (WM mw b) (mz b) x))) (sxy + ((xV (WM mw a) (mz a) (x + s0)) * (xV (WM mw b) (mz b) x))) rs ag C18 H locs ls (by omega) (by rw [sumR_step _ hx1.1, ← h_cn, mT_f hxa hxb]) (by rw [sumR_step _ hx1.1, ← h_sx, mT_f hxa hxb]) (by rw [sumR_step _ hx1.1, ← h_sy, mT_f hxa hxb]) (by rw [sumR_step _ hx1.1, ← h_sxx, mT_f hxa hxb]) (by rw [sumR_step _ hx1.1, ← h_syy, mT_f hxa hxb]) (by rw [sumR_step _ hx1.1, ← h_sxy, mT_f hxa hxb]) (by rw [sumR_step _ hx1.1, ← h_rs, hrs9.1]; omega) (by rw [sumR_step _ hx1.1, ← h_ag, hrs9.2]; omega) (by omega) (fun j hj => by rw [frC18 j hj]; exact hfr j hj) hM h84 h85 (by omega) hw (lv_sub hl [8, 9, 10, 11, 5, 4, 3, 2, 1, 0] rfl)
        · have hp0 : xV (WM mw a) (mz a) (x + s0) = -1 ∨ xV (WM mw b) (mz b) x = -1 := by omega
          have hrs9 := mRs_t (w1 := WM mw a) (w2 := WM mw b) (n1 := mz a) (n2 := mz b) (s := s0) (x := x) (fun h => hq11 h.1)
          refine zr_if_eq (tgt := 184) hx hb ⟨by omega, by omega⟩ d_M_correlate_53 (by decide) (fun c31 => ?_) (fun c9 => absurd c9 (by decide))
          refine lv_iinc (v := zI (x + 1)) (lv' := [(14, .int (zI (x + 1))), (0, .ref (AD 82)), (1, .int (zI a)), (2, .int (zI b)), (3, .int (zI s0)), (4, .long (zL sx)), (6, .long (zL sy)), (8, .long (zL sxx)), (10, .long (zL syy)), (12, .long (zL sxy))]) hx hb d_M_correlate_184 hl (k := 9) rfl (zI_add _ _) (by decide) rfl (fun ls hl => ?_)
          refine lv_goto (tgt := 33) hx hb d_M_correlate_187 (by decide) ?_
          exact ihlp (x + 1) cn sx sy sxx syy sxy rs ag C H locs ls (by omega) (by rw [sumR_step _ hx1.1, ← h_cn, mT_t hp0]; omega) (by rw [sumR_step _ hx1.1, ← h_sx, mT_t hp0]; omega) (by rw [sumR_step _ hx1.1, ← h_sy, mT_t hp0]; omega) (by rw [sumR_step _ hx1.1, ← h_sxx, mT_t hp0]; omega) (by rw [sumR_step _ hx1.1, ← h_syy, mT_t hp0]; omega) (by rw [sumR_step _ hx1.1, ← h_sxy, mT_t hp0]; omega) (by rw [sumR_step _ hx1.1, ← h_rs, hrs9.1]; omega) (by rw [sumR_step _ hx1.1, ← h_ag, hrs9.2]; omega) (by omega) hfr hM h84 h85 (by omega) hw (lv_sub hl [1, 2, 3, 4, 5, 6, 7, 8, 9, 0] rfl)
  exact lp ((mz b - 0 : Int).toNat + 1) 0 0 0 0 0 0 0 0 0 C3 H locs ls (by omega) rfl rfl rfl rfl rfl rfl rfl rfl (by omega) (fun j hj => by rw [frC3 j hj, frC2 j hj, frC1 j hj, hC0]) hM h84 h85 (by omega) hw (lv_sub hl [6, 7, 8, 9, 5, 4, 3, 2, 1, 0] rfl)
