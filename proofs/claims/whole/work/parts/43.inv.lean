/-- class and reference agree: all of it told -/
def INVx (k : Nat → ClassId) (AD : Int → Nat) (C : Int → va_E) (th : Int) (pn : Int) (pf : Int → Int) (kc : Int) (nn : Int → Int) (ww : Int → Int → Int) (ee : Int → Int → Int) (lc : Int) (pm : Int → Int) (pS : Int → Int) (pN : Int → Int) (pR : Int → Int) (pT : Int → Int) (pA : Int → Int) (oS : Int → Int) (oN : Int → Int) (oR : Int → Int) (oT : Int → Int) (oA : Int → Int) (tr : Int) (sn : Int) (sw : Int → Int) (se : Int → Int) (q0 : Int) (q1 : Int) (q2 : Int) (q3 : Int) (q4 : Int) (mb : Int → Int) (ak : Int → Int) (fa : Int) (fb : Int) (mn : Int) (mr : Int) (ma : Int) (ab : Int) (bl : Int) (mz : Int → Int) (mw : Int → Int) (mS : Int → Int) (mN : Int → Int) (mR : Int → Int) (of : Int → Int) : Prop :=
  (RIx k AD C pn pf kc nn ww ee lc pm pS pN pR pT pA oS oN oR oT oA tr sn sw se q0 q1 q2 q3 q4 mb ak) ∧
  (C 82 = .inr (4, [.int (zI th), .int (zI pn), .ref (AD 83), .int (zI kc), .ref (AD 84), .ref (AD 85), .int (zI tr), .int (zI lc), .int (zI fa), .int (zI fb), .ref (AD 86), .ref (AD 87), .ref (AD 88), .int (zI mn), .int (zI mr), .int (zI ma), .long (zL ab), .long (zL bl)])) ∧
  (C 83 = aI (k 0) 100 pf) ∧
  (C 84 = aI (k 0) 9 mz) ∧
  (C 85 = aI (k 0) 216 mw) ∧
  (C 86 = aI (k 0) 48 mS) ∧
  (C 87 = aI (k 0) 48 mN) ∧
  (C 88 = aI (k 0) 48 mR) ∧
  (C 89 = aL (k 2) 1 of) ∧
  (∀ i : Int, 0 ≤ i → i < 9 → 0 ≤ mz i ∧ mz i ≤ 24) ∧
  (∀ i : Int, 0 ≤ i → i < kc → mz i = nn i ∧ MOK mw i (mz i) ∧ ∀ j : Int, 0 ≤ j → j < nn i → WM mw i j = ww i j) ∧
  (∀ r : Int, 0 ≤ r → r < lc → mS r = oS r ∧ mN r = oN r ∧ mR r = oR r) ∧
  (0 < lc → (0 ≤ fa ∧ fa < kc) ∧ (0 ≤ fb ∧ fb < kc)) ∧
  (∀ r : Int, 0 ≤ r → r < lc → oT r = ovR (ww fa) (nn fa) (ww fb) (nn fb) (oS r) ∧ oA r = ovA (ww fa) (nn fa) (ww fb) (nn fb) (oS r))
def INV (k : Nat → ClassId) (AD : Int → Nat) (C : Int → va_E) (t th : Int) : Prop := ∃ (pn : Int) (pf : Int → Int) (kc : Int) (nn : Int → Int) (ww : Int → Int → Int) (ee : Int → Int → Int) (lc : Int) (pm : Int → Int) (pS : Int → Int) (pN : Int → Int) (pR : Int → Int) (pT : Int → Int) (pA : Int → Int) (oS : Int → Int) (oN : Int → Int) (oR : Int → Int) (oT : Int → Int) (oA : Int → Int) (tr : Int) (sn : Int) (sw : Int → Int) (se : Int → Int) (q0 : Int) (q1 : Int) (q2 : Int) (q3 : Int) (q4 : Int) (mb : Int → Int) (ak : Int → Int) (fa : Int) (fb : Int) (mn : Int) (mr : Int) (ma : Int) (ab : Int) (bl : Int) (mz : Int → Int) (mw : Int → Int) (mS : Int → Int) (mN : Int → Int) (mR : Int → Int) (of : Int → Int), INVx k AD C th pn pf kc nn ww ee lc pm pS pN pR pT pA oS oN oR oT oA tr sn sw se q0 q1 q2 q3 q4 mb ak fa fb mn mr ma ab bl mz mw mS mN mR of ∧ tr ≤ t
theorem RIx_cg {k : Nat → ClassId} {AD : Int → Nat} {C C' : Int → va_E} {pn : Int} {pf : Int → Int} {kc : Int} {nn : Int → Int} {ww : Int → Int → Int} {ee : Int → Int → Int} {lc : Int} {pm : Int → Int} {pS : Int → Int} {pN : Int → Int} {pR : Int → Int} {pT : Int → Int} {pA : Int → Int} {oS : Int → Int} {oN : Int → Int} {oR : Int → Int} {oT : Int → Int} {oA : Int → Int} {tr : Int} {sn : Int} {sw : Int → Int} {se : Int → Int} {q0 : Int} {q1 : Int} {q2 : Int} {q3 : Int} {q4 : Int} {mb : Int → Int} {ak : Int → Int} (h : ∀ j : Int, 0 ≤ j → j ≤ 81 → C' j = C j) (hRI : RIx k AD C pn pf kc nn ww ee lc pm pS pN pR pT pA oS oN oR oT oA tr sn sw se q0 q1 q2 q3 q4 mb ak) : RIx k AD C' pn pf kc nn ww ee lc pm pS pN pR pT pA oS oN oR oT oA tr sn sw se q0 q1 q2 q3 q4 mb ak := by
  obtain ⟨hR, hP, hPs, h3, hser, h28, hov, hpm, hpi, hls, hst, hstw, hste, hsn, hpr, hmb, hak, hpn, hkc, hlc, htr, hpf, hok, hlb⟩ := hRI
  exact ⟨(h _ (by omega) (by omega)).trans hR, (h _ (by omega) (by omega)).trans hP, (h _ (by omega) (by omega)).trans hPs, (h _ (by omega) (by omega)).trans h3, fun i h1 h2 => by obtain ⟨a1, a2, a3, a4⟩ := hser i h1 h2; exact ⟨(h _ (by omega) (by omega)).trans a1, (h _ (by omega) (by omega)).trans a2, (h _ (by omega) (by omega)).trans a3, a4⟩, (h _ (by omega) (by omega)).trans h28, fun j h1 h2 => (h _ (by omega) (by omega)).trans (hov j h1 h2), hpm, hpi, hls, (h _ (by omega) (by omega)).trans hst, (h _ (by omega) (by omega)).trans hstw, (h _ (by omega) (by omega)).trans hste, hsn, (h _ (by omega) (by omega)).trans hpr, (h _ (by omega) (by omega)).trans hmb, (h _ (by omega) (by omega)).trans hak, hpn, hkc, hlc, htr, hpf, hok, hlb⟩
theorem mAll_eq {w1 v1 w2 v2 : Int → Int} {n1 n2 least : Int} (h1 : ∀ j : Int, 0 ≤ j → j < n1 → w1 j = v1 j) (h2 : ∀ j : Int, 0 ≤ j → j < n2 → w2 j = v2 j) : ∀ m : Nat, mAll w1 n1 w2 n2 least m = mAll v1 n1 v2 n2 least m := by
  intro m
  induction m with
  | zero => rfl
  | succ m ih =>
    show mStp w1 n1 w2 n2 least (1 - n2 + (m : Int)) (mAll w1 n1 w2 n2 least m) = mStp v1 n1 v2 n2 least (1 - n2 + (m : Int)) (mAll v1 n1 v2 n2 least m)
    obtain ⟨e1, e2, e3, e4⟩ := ov_eq (a := 1 - n2 + (m : Int)) h1 h2
    rw [ih]
    unfold mStp mKq
    rw [e1, e2, e3, e4]
theorem gapW_cg {w v : Int → Int} {n p : Int} (h : ∀ j : Int, 0 ≤ j → j < n → w j = v j) (hp : 0 ≤ p ∧ p ≤ n) : ∀ j : Int, 0 ≤ j → j < n + 1 → gapW w p j = gapW v p j := by
  intro j h1 h2
  unfold gapW
  by_cases e1 : j < p
  · rw [if_pos e1, if_pos e1]; exact h j h1 (by omega)
  · rw [if_neg e1, if_neg e1]
    by_cases e2 : j = p
    · rw [if_pos e2, if_pos e2]
    · rw [if_neg e2, if_neg e2]; exact h (j - 1) (by omega) (by omega)
theorem abS_eq {w1 v1 w2 v2 : Int → Int} {n1 n2 s : Int} (h1 : ∀ j : Int, 0 ≤ j → j < n1 → w1 j = v1 j) (h2 : ∀ j : Int, 0 ≤ j → j < n2 → w2 j = v2 j) : ∀ m : Nat, (m : Int) ≤ n2 + 1 → abS w1 n1 w2 n2 s m = abS v1 n1 v2 n2 s m := by
  intro m
  induction m with
  | zero => intro _; rfl
  | succ m ih =>
    intro hm
    obtain ⟨e1, e2, -, -⟩ := ov_eq (a := s) h1 (gapW_cg (p := (m : Int)) h2 (by omega))
    have e3 : abN w1 n1 w2 n2 s (m : Int) = abN v1 n1 v2 n2 s (m : Int) := e1
    have e4 : abC w1 n1 w2 n2 s (m : Int) = abC v1 n1 v2 n2 s (m : Int) := e2
    show (if 3 ≤ abN w1 n1 w2 n2 s (m : Int) ∧ ((abS w1 n1 w2 n2 s m).1 = -1 ∨ (abS w1 n1 w2 n2 s m).2 < abC w1 n1 w2 n2 s (m : Int)) then ((m : Int), abC w1 n1 w2 n2 s (m : Int)) else abS w1 n1 w2 n2 s m) = (if 3 ≤ abN v1 n1 v2 n2 s (m : Int) ∧ ((abS v1 n1 v2 n2 s m).1 = -1 ∨ (abS v1 n1 v2 n2 s m).2 < abC v1 n1 v2 n2 s (m : Int)) then ((m : Int), abC v1 n1 v2 n2 s (m : Int)) else abS v1 n1 v2 n2 s m)
    rw [e3, e4, ih (by omega)]
theorem corW_eq {w1 v1 w2 v2 : Int → Int} {n1 n2 s : Int} (h1 : ∀ j : Int, 0 ≤ j → j < n1 → w1 j = v1 j) (h2 : ∀ j : Int, 0 ≤ j → j < n2 → w2 j = v2 j) (j : Int) : corW w1 n1 w2 n2 s j = corW v1 n1 v2 n2 s j := by
  unfold corW
  rw [wAt_eq h1, wAt_eq h2]
theorem rch_cg {J K : Int → Int → Prop} {kc s : Int} (h : ∀ a b : Int, 0 ≤ a → a < kc → 0 ≤ b → b < kc → J a b → K a b) : ∀ (m : Nat) (i : Int), 0 ≤ i → i < kc → rch J kc s m i → rch K kc s m i := by
  intro m
  induction m with
  | zero => intro i _ _ h; exact h
  | succ m ih =>
    intro i h1 h2 h3
    obtain ⟨j, hj, hr, hJ⟩ := h3
    exact ⟨j, hj, ih j hj.1 hj.2 hr, h j i hj.1 hj.2 h1 h2 hJ⟩
theorem isGrp_cg {J K : Int → Int → Prop} {kc s r : Int} (h : ∀ a b : Int, 0 ≤ a → a < kc → 0 ≤ b → b < kc → (J a b ↔ K a b)) (g : isGrp J kc s r) : isGrp K kc s r := by
  obtain ⟨M, m1, m2, m3, m4, m5, m6⟩ := g
  refine ⟨M, m1, fun i a b c => ?_, fun i j a b c d e f => m3 i j a b c d e ((h i j a b c d).mpr f), m4, m5, m6⟩
  obtain ⟨q, hq⟩ := m2 i a b c
  exact ⟨q, rch_cg (fun a b c d e f g => (h a b c d e f).mp g) q i a b hq⟩
theorem posR_eq {w v : Int → Int} {n : Int} (h : ∀ j : Int, 0 ≤ j → j < n → w j = v j) {x : Int} (hx : 0 ≤ x ∧ x ≤ n) : posR w x = posR v x := by
  unfold posR
  exact sumR_cg _ (fun j a b => by show dg (w j) + 1 = dg (v j) + 1; rw [h j a (by omega)])
theorem posR_mono (w : Int → Int) {x y : Int} (h0 : 0 ≤ x) (h : x ≤ y) : posR w x ≤ posR w y := by
  unfold posR
  have := sumR_le (f := fun j => dg (w j) + 1) (lo := 0) (fun j => by have := dg_in (w j); show 0 ≤ dg (w j) + 1; omega) x.toNat (y.toNat - x.toNat)
  rw [show x.toNat + (y.toNat - x.toNat) = y.toNat by omega] at this
  exact this
theorem posR_one {w : Int → Int} {x y i : Int} (hx : 0 ≤ x) (hy : 0 ≤ y) (h1 : posR w x ≤ i ∧ i < posR w (x + 1)) (h2 : posR w y ≤ i ∧ i < posR w (y + 1)) : x = y := by
  rcases Int.lt_trichotomy x y with h | h | h
  · have := posR_mono w (x := x + 1) (y := y) (by omega) (by omega); omega
  · exact h
  · have := posR_mono w (x := y + 1) (y := x) (by omega) (by omega); omega
theorem tsg_eq {w v : Int → Int} {n : Int} (h : ∀ j : Int, 0 ≤ j → j < n → w j = v j) {x i : Int} (hx : 0 ≤ x ∧ x < n) : tsg w x i = tsg v x i := by
  unfold tsg
  rw [posR_eq h (by omega), h x hx.1 hx.2]
theorem Jn_cg {nn mz : Int → Int} {ww : Int → Int → Int} {mw : Int → Int} {least bound a b : Int} (ha : mz a = nn a ∧ ∀ j : Int, 0 ≤ j → j < nn a → WM mw a j = ww a j) (hb : mz b = nn b ∧ ∀ j : Int, 0 ≤ j → j < nn b → WM mw b j = ww b j) : Jn nn ww least bound a b ↔ Jn mz (WM mw) least bound a b := by
  unfold Jn
  rw [ha.1, hb.1]
  constructor
  · rintro ⟨s, h1, h2, h3, h4⟩
    obtain ⟨e1, e2, -, -⟩ := ov_eq (a := s) ha.2 hb.2
    exact ⟨s, h1, h2, by rw [e1]; exact h3, by rw [e2]; exact h4⟩
  · rintro ⟨s, h1, h2, h3, h4⟩
    obtain ⟨e1, e2, -, -⟩ := ov_eq (a := s) ha.2 hb.2
    exact ⟨s, h1, h2, by rw [← e1]; exact h3, by rw [← e2]; exact h4⟩
theorem okP_one {f : Int → Int} {x y : Int} (hx : 0 ≤ x) (h1 : okP f y) (h2 : ¬ okS (f x) (ps f x.toNat)) : y ≤ x := by
  apply Int.not_lt.mp
  intro h
  exact h2 (h1 x hx h)
theorem st_width {k : Nat → ClassId} {AD : Int → Nat} {C Ck Cb : Int → va_E} {rk : Int32} {rb : Int32} {t th : Int} {pn : Int} {pf : Int → Int} {kc : Int} {nn : Int → Int} {ww : Int → Int → Int} {ee : Int → Int → Int} {lc : Int} {pm : Int → Int} {pS : Int → Int} {pN : Int → Int} {pR : Int → Int} {pT : Int → Int} {pA : Int → Int} {oS : Int → Int} {oN : Int → Int} {oR : Int → Int} {oT : Int → Int} {oA : Int → Int} {tr : Int} {sn : Int} {sw : Int → Int} {se : Int → Int} {q0 : Int} {q1 : Int} {q2 : Int} {q3 : Int} {q4 : Int} {mb : Int → Int} {ak : Int → Int} {fa : Int} {fb : Int} {mn : Int} {mr : Int} {ma : Int} {ab : Int} {bl : Int} {mz : Int → Int} {mw : Int → Int} {mS : Int → Int} {mN : Int → Int} {mR : Int → Int} {of : Int → Int} {a : Int} {i : Int} (hI : INVx k AD C th pn pf kc nn ww ee lc pm pS pN pR pT pA oS oN oR oT oA tr sn sw se q0 q1 q2 q3 q4 mb ak fa fb mn mr ma ab bl mz mw mS mN mR of) (ht : tr ≤ t) (hk : (fun r C' => ((r = zI 0 ∧ ∃ (v : Int) (C1 : Int → va_E), inI v ∧ (fun r C' => r = zI (widF nn ww a i) ∧ ((0 ≤ a ∧ a < kc) ∧ (-1 ≤ i ∧ i < nn a)) ∧ C' = C) (zI v) C1 ∧ C' 89 = aL (k 2) 1 (zup of 0 v) ∧ ∀ j : Int, j ≠ 89 → C' j = C1 j) ∨ (r = zI 1 ∧ (¬ ((0 ≤ a ∧ a < kc) ∧ (-1 ≤ i ∧ i < nn a))) ∧ C' = C)) ∧ ∀ j : Int, 82 ≤ j → j ≠ 89 → C' j = C j) rk Ck) (hb : (fun (C : Int → va_E) => fun r C' => (((0 ≤ a ∧ a < kc) ∧ (-1 ≤ i ∧ i < mz a)) ∧ r = zI (widF mz (WM mw) a i) ∧ C' 82 = .inr (4, [.int (zI 0), .int (zI pn), .ref (AD 83), .int (zI kc), .ref (AD 84), .ref (AD 85), .int (zI tr), .int (zI lc), .int (zI fa), .int (zI fb), .ref (AD 86), .ref (AD 87), .ref (AD 88), .int (zI mn), .int (zI mr), .int (zI ma), .long (zL ab), .long (zL bl)]) ∨ ¬ ((0 ≤ a ∧ a < kc) ∧ (-1 ≤ i ∧ i < mz a)) ∧ C' 82 = .inr (4, [.int (zI 1), .int (zI pn), .ref (AD 83), .int (zI kc), .ref (AD 84), .ref (AD 85), .int (zI tr), .int (zI lc), .int (zI fa), .int (zI fb), .ref (AD 86), .ref (AD 87), .ref (AD 88), .int (zI mn), .int (zI mr), .int (zI ma), .long (zL ab), .long (zL bl)])) ∧ ∀ j : Int, j ≠ 82 → C' j = C j) Ck rb Cb) : ∃ u : Int, (u = 0 ∨ u = 1 ∨ u = 2) ∧ rk = zI u ∧ INV k AD Cb (t + 47) u ∧ (u = 0 → ∃ v : Int, inI v ∧ rb = zI v ∧ Cb 89 = aL (k 2) 1 (zup of 0 v)) := by
  obtain ⟨hRI, hM, h83, h84, h85, h86, h87, h88, hout, hmz, hrel, hlst, hfab, hra⟩ := hI
  obtain ⟨hk, frk⟩ := hk
  obtain ⟨hb, frM⟩ := hb
  rcases hk with ⟨hr0, v, C1, hv, hp, hk89, hk1⟩ | ⟨hr1, hn, hCe⟩
  · rcases hb with ⟨hP, hrb, hMb⟩ | ⟨hP, hMb⟩
    · obtain ⟨hq1, hq2, hq3⟩ := hp
      have hE : ∀ j : Int, 0 ≤ j → j ≤ 81 → Cb j = C j := fun j h1 h2 => (frM j (by omega)).trans ((hk1 j (by omega)).trans (by rw [hq3]))
      have hR1 := hRI
      obtain ⟨hz9, ho9, hw9⟩ := hrel a hq2.1.1 hq2.1.2
      have hve : rb = zI v := by rw [hrb, hq1]; congr 1; unfold widF; rw [hz9, wAt_eq hw9]
      exact ⟨0, Or.inl rfl, hr0, ⟨pn, pf, kc, nn, ww, ee, lc, pm, pS, pN, pR, pT, pA, oS, oN, oR, oT, oA, tr, sn, sw, se, q0, q1, q2, q3, q4, mb, ak, fa, fb, mn, mr, ma, ab, bl, mz, mw, mS, mN, mR, (zup of 0 v), ⟨(RIx_cg hE hR1), hMb, ((frM 83 (by omega)).trans ((frk 83 (by omega) (by omega)).trans h83)), ((frM 84 (by omega)).trans ((frk 84 (by omega) (by omega)).trans h84)), ((frM 85 (by omega)).trans ((frk 85 (by omega) (by omega)).trans h85)), ((frM 86 (by omega)).trans ((frk 86 (by omega) (by omega)).trans h86)), ((frM 87 (by omega)).trans ((frk 87 (by omega) (by omega)).trans h87)), ((frM 88 (by omega)).trans ((frk 88 (by omega) (by omega)).trans h88)), ((frM 89 (by omega)).trans hk89), hmz, hrel, hlst, hfab, hra⟩, (by omega)⟩, fun _ => ⟨v, hv, hve, (frM 89 (by omega)).trans hk89⟩⟩
    · have hr9 := (hrel a hp.2.1.1.1 hp.2.1.1.2).1; exact absurd ⟨hp.2.1.1, hp.2.1.2.1, by rw [hr9]; exact hp.2.1.2.2⟩ hP
  · subst hCe
    rcases hb with ⟨hP, hrb, hMb⟩ | ⟨hP, hMb⟩
    · have hr9 := (hrel a hP.1.1 hP.1.2).1; exact absurd ⟨hP.1, hP.2.1, by rw [← hr9]; exact hP.2.2⟩ hn
    · have hE : ∀ j : Int, 0 ≤ j → j ≤ 81 → Cb j = Ck j := fun j h1 h2 => frM j (by omega)
      have hR1 := hRI
      exact ⟨1, Or.inr (Or.inl rfl), hr1, ⟨pn, pf, kc, nn, ww, ee, lc, pm, pS, pN, pR, pT, pA, oS, oN, oR, oT, oA, tr, sn, sw, se, q0, q1, q2, q3, q4, mb, ak, fa, fb, mn, mr, ma, ab, bl, mz, mw, mS, mN, mR, of, ⟨(RIx_cg hE hR1), hMb, ((frM 83 (by omega)).trans ((frk 83 (by omega) (by omega)).trans h83)), ((frM 84 (by omega)).trans ((frk 84 (by omega) (by omega)).trans h84)), ((frM 85 (by omega)).trans ((frk 85 (by omega) (by omega)).trans h85)), ((frM 86 (by omega)).trans ((frk 86 (by omega) (by omega)).trans h86)), ((frM 87 (by omega)).trans ((frk 87 (by omega) (by omega)).trans h87)), ((frM 88 (by omega)).trans ((frk 88 (by omega) (by omega)).trans h88)), ((frM 89 (by omega)).trans hout), hmz, hrel, hlst, hfab, hra⟩, (by omega)⟩, fun h => absurd h (by omega)⟩
theorem st_evened {k : Nat → ClassId} {AD : Int → Nat} {C Ck Cb : Int → va_E} {rk : Int32} {rb : Int32} {t th : Int} {pn : Int} {pf : Int → Int} {kc : Int} {nn : Int → Int} {ww : Int → Int → Int} {ee : Int → Int → Int} {lc : Int} {pm : Int → Int} {pS : Int → Int} {pN : Int → Int} {pR : Int → Int} {pT : Int → Int} {pA : Int → Int} {oS : Int → Int} {oN : Int → Int} {oR : Int → Int} {oT : Int → Int} {oA : Int → Int} {tr : Int} {sn : Int} {sw : Int → Int} {se : Int → Int} {q0 : Int} {q1 : Int} {q2 : Int} {q3 : Int} {q4 : Int} {mb : Int → Int} {ak : Int → Int} {fa : Int} {fb : Int} {mn : Int} {mr : Int} {ma : Int} {ab : Int} {bl : Int} {mz : Int → Int} {mw : Int → Int} {mS : Int → Int} {mN : Int → Int} {mR : Int → Int} {of : Int → Int} {a : Int} {i : Int} (hI : INVx k AD C th pn pf kc nn ww ee lc pm pS pN pR pT pA oS oN oR oT oA tr sn sw se q0 q1 q2 q3 q4 mb ak fa fb mn mr ma ab bl mz mw mS mN mR of) (ht : tr ≤ t) (hk : (fun r C' => ((r = zI 0 ∧ ∃ (v : Int) (C1 : Int → va_E), inI v ∧ (fun r C' => r = zI (xV (ww a) (nn a) i) ∧ ((0 ≤ a ∧ a < kc) ∧ (0 ≤ i ∧ i < nn a)) ∧ C' = C) (zI v) C1 ∧ C' 89 = aL (k 2) 1 (zup of 0 v) ∧ ∀ j : Int, j ≠ 89 → C' j = C1 j) ∨ (r = zI 1 ∧ (¬ ((0 ≤ a ∧ a < kc) ∧ (0 ≤ i ∧ i < nn a))) ∧ C' = C)) ∧ ∀ j : Int, 82 ≤ j → j ≠ 89 → C' j = C j) rk Ck) (hb : (fun (C : Int → va_E) => fun r C' => (((0 ≤ a ∧ a < kc) ∧ (0 ≤ i ∧ i < mz a)) ∧ r = zI (xV (WM mw a) (mz a) i) ∧ C' 82 = .inr (4, [.int (zI 0), .int (zI pn), .ref (AD 83), .int (zI kc), .ref (AD 84), .ref (AD 85), .int (zI tr), .int (zI lc), .int (zI fa), .int (zI fb), .ref (AD 86), .ref (AD 87), .ref (AD 88), .int (zI mn), .int (zI mr), .int (zI ma), .long (zL ab), .long (zL bl)]) ∨ ¬ ((0 ≤ a ∧ a < kc) ∧ (0 ≤ i ∧ i < mz a)) ∧ C' 82 = .inr (4, [.int (zI 1), .int (zI pn), .ref (AD 83), .int (zI kc), .ref (AD 84), .ref (AD 85), .int (zI tr), .int (zI lc), .int (zI fa), .int (zI fb), .ref (AD 86), .ref (AD 87), .ref (AD 88), .int (zI mn), .int (zI mr), .int (zI ma), .long (zL ab), .long (zL bl)])) ∧ ∀ j : Int, j ≠ 82 → C' j = C j) Ck rb Cb) : ∃ u : Int, (u = 0 ∨ u = 1 ∨ u = 2) ∧ rk = zI u ∧ INV k AD Cb (t + 47) u ∧ (u = 0 → ∃ v : Int, inI v ∧ rb = zI v ∧ Cb 89 = aL (k 2) 1 (zup of 0 v)) := by
  obtain ⟨hRI, hM, h83, h84, h85, h86, h87, h88, hout, hmz, hrel, hlst, hfab, hra⟩ := hI
  obtain ⟨hk, frk⟩ := hk
  obtain ⟨hb, frM⟩ := hb
  rcases hk with ⟨hr0, v, C1, hv, hp, hk89, hk1⟩ | ⟨hr1, hn, hCe⟩
  · rcases hb with ⟨hP, hrb, hMb⟩ | ⟨hP, hMb⟩
    · obtain ⟨hq1, hq2, hq3⟩ := hp
      have hE : ∀ j : Int, 0 ≤ j → j ≤ 81 → Cb j = C j := fun j h1 h2 => (frM j (by omega)).trans ((hk1 j (by omega)).trans (by rw [hq3]))
      have hR1 := hRI
      obtain ⟨hz9, ho9, hw9⟩ := hrel a hq2.1.1 hq2.1.2
      have hve : rb = zI v := by rw [hrb, hq1, hz9, xV_eq hw9]
      exact ⟨0, Or.inl rfl, hr0, ⟨pn, pf, kc, nn, ww, ee, lc, pm, pS, pN, pR, pT, pA, oS, oN, oR, oT, oA, tr, sn, sw, se, q0, q1, q2, q3, q4, mb, ak, fa, fb, mn, mr, ma, ab, bl, mz, mw, mS, mN, mR, (zup of 0 v), ⟨(RIx_cg hE hR1), hMb, ((frM 83 (by omega)).trans ((frk 83 (by omega) (by omega)).trans h83)), ((frM 84 (by omega)).trans ((frk 84 (by omega) (by omega)).trans h84)), ((frM 85 (by omega)).trans ((frk 85 (by omega) (by omega)).trans h85)), ((frM 86 (by omega)).trans ((frk 86 (by omega) (by omega)).trans h86)), ((frM 87 (by omega)).trans ((frk 87 (by omega) (by omega)).trans h87)), ((frM 88 (by omega)).trans ((frk 88 (by omega) (by omega)).trans h88)), ((frM 89 (by omega)).trans hk89), hmz, hrel, hlst, hfab, hra⟩, (by omega)⟩, fun _ => ⟨v, hv, hve, (frM 89 (by omega)).trans hk89⟩⟩
    · have hr9 := (hrel a hp.2.1.1.1 hp.2.1.1.2).1; exact absurd ⟨hp.2.1.1, hp.2.1.2.1, by rw [hr9]; exact hp.2.1.2.2⟩ hP
  · subst hCe
    rcases hb with ⟨hP, hrb, hMb⟩ | ⟨hP, hMb⟩
    · have hr9 := (hrel a hP.1.1 hP.1.2).1; exact absurd ⟨hP.1, hP.2.1, by rw [← hr9]; exact hP.2.2⟩ hn
    · have hE : ∀ j : Int, 0 ≤ j → j ≤ 81 → Cb j = Ck j := fun j h1 h2 => frM j (by omega)
      have hR1 := hRI
      exact ⟨1, Or.inr (Or.inl rfl), hr1, ⟨pn, pf, kc, nn, ww, ee, lc, pm, pS, pN, pR, pT, pA, oS, oN, oR, oT, oA, tr, sn, sw, se, q0, q1, q2, q3, q4, mb, ak, fa, fb, mn, mr, ma, ab, bl, mz, mw, mS, mN, mR, of, ⟨(RIx_cg hE hR1), hMb, ((frM 83 (by omega)).trans ((frk 83 (by omega) (by omega)).trans h83)), ((frM 84 (by omega)).trans ((frk 84 (by omega) (by omega)).trans h84)), ((frM 85 (by omega)).trans ((frk 85 (by omega) (by omega)).trans h85)), ((frM 86 (by omega)).trans ((frk 86 (by omega) (by omega)).trans h86)), ((frM 87 (by omega)).trans ((frk 87 (by omega) (by omega)).trans h87)), ((frM 88 (by omega)).trans ((frk 88 (by omega) (by omega)).trans h88)), ((frM 89 (by omega)).trans hout), hmz, hrel, hlst, hfab, hra⟩, (by omega)⟩, fun h => absurd h (by omega)⟩
theorem st_count {k : Nat → ClassId} {AD : Int → Nat} {C Ck Cb : Int → va_E} {rk : Int32} {rb : Int32} {t th : Int} {pn : Int} {pf : Int → Int} {kc : Int} {nn : Int → Int} {ww : Int → Int → Int} {ee : Int → Int → Int} {lc : Int} {pm : Int → Int} {pS : Int → Int} {pN : Int → Int} {pR : Int → Int} {pT : Int → Int} {pA : Int → Int} {oS : Int → Int} {oN : Int → Int} {oR : Int → Int} {oT : Int → Int} {oA : Int → Int} {tr : Int} {sn : Int} {sw : Int → Int} {se : Int → Int} {q0 : Int} {q1 : Int} {q2 : Int} {q3 : Int} {q4 : Int} {mb : Int → Int} {ak : Int → Int} {fa : Int} {fb : Int} {mn : Int} {mr : Int} {ma : Int} {ab : Int} {bl : Int} {mz : Int → Int} {mw : Int → Int} {mS : Int → Int} {mN : Int → Int} {mR : Int → Int} {of : Int → Int} {i : Int} (hI : INVx k AD C th pn pf kc nn ww ee lc pm pS pN pR pT pA oS oN oR oT oA tr sn sw se q0 q1 q2 q3 q4 mb ak fa fb mn mr ma ab bl mz mw mS mN mR of) (ht : tr ≤ t) (hk : (fun r C' => ((r = zI 0 ∧ ∃ (v : Int) (C1 : Int → va_E), inI v ∧ (fun r C' => r = zI (cntF pn kc lc tr i) ∧ (0 ≤ i ∧ i ≤ 3) ∧ C' = C) (zI v) C1 ∧ C' 89 = aL (k 2) 1 (zup of 0 v) ∧ ∀ j : Int, j ≠ 89 → C' j = C1 j) ∨ (r = zI 1 ∧ (¬ (0 ≤ i ∧ i ≤ 3)) ∧ C' = C)) ∧ ∀ j : Int, 82 ≤ j → j ≠ 89 → C' j = C j) rk Ck) (hb : (fun (C : Int → va_E) => fun r C' => ((0 ≤ i ∧ i ≤ 3) ∧ r = zI (cntF pn kc lc tr i) ∧ C' 82 = .inr (4, [.int (zI 0), .int (zI pn), .ref (AD 83), .int (zI kc), .ref (AD 84), .ref (AD 85), .int (zI tr), .int (zI lc), .int (zI fa), .int (zI fb), .ref (AD 86), .ref (AD 87), .ref (AD 88), .int (zI mn), .int (zI mr), .int (zI ma), .long (zL ab), .long (zL bl)]) ∨ ¬ (0 ≤ i ∧ i ≤ 3) ∧ C' 82 = .inr (4, [.int (zI 1), .int (zI pn), .ref (AD 83), .int (zI kc), .ref (AD 84), .ref (AD 85), .int (zI tr), .int (zI lc), .int (zI fa), .int (zI fb), .ref (AD 86), .ref (AD 87), .ref (AD 88), .int (zI mn), .int (zI mr), .int (zI ma), .long (zL ab), .long (zL bl)])) ∧ ∀ j : Int, j ≠ 82 → C' j = C j) Ck rb Cb) : ∃ u : Int, (u = 0 ∨ u = 1 ∨ u = 2) ∧ rk = zI u ∧ INV k AD Cb (t + 47) u ∧ (u = 0 → ∃ v : Int, inI v ∧ rb = zI v ∧ Cb 89 = aL (k 2) 1 (zup of 0 v)) := by
  obtain ⟨hRI, hM, h83, h84, h85, h86, h87, h88, hout, hmz, hrel, hlst, hfab, hra⟩ := hI
  obtain ⟨hk, frk⟩ := hk
  obtain ⟨hb, frM⟩ := hb
  rcases hk with ⟨hr0, v, C1, hv, hp, hk89, hk1⟩ | ⟨hr1, hn, hCe⟩
  · rcases hb with ⟨hP, hrb, hMb⟩ | ⟨hP, hMb⟩
    · obtain ⟨hq1, hq2, hq3⟩ := hp
      have hE : ∀ j : Int, 0 ≤ j → j ≤ 81 → Cb j = C j := fun j h1 h2 => (frM j (by omega)).trans ((hk1 j (by omega)).trans (by rw [hq3]))
      have hR1 := hRI
      have hve : rb = zI v := by rw [hrb, hq1]
      exact ⟨0, Or.inl rfl, hr0, ⟨pn, pf, kc, nn, ww, ee, lc, pm, pS, pN, pR, pT, pA, oS, oN, oR, oT, oA, tr, sn, sw, se, q0, q1, q2, q3, q4, mb, ak, fa, fb, mn, mr, ma, ab, bl, mz, mw, mS, mN, mR, (zup of 0 v), ⟨(RIx_cg hE hR1), hMb, ((frM 83 (by omega)).trans ((frk 83 (by omega) (by omega)).trans h83)), ((frM 84 (by omega)).trans ((frk 84 (by omega) (by omega)).trans h84)), ((frM 85 (by omega)).trans ((frk 85 (by omega) (by omega)).trans h85)), ((frM 86 (by omega)).trans ((frk 86 (by omega) (by omega)).trans h86)), ((frM 87 (by omega)).trans ((frk 87 (by omega) (by omega)).trans h87)), ((frM 88 (by omega)).trans ((frk 88 (by omega) (by omega)).trans h88)), ((frM 89 (by omega)).trans hk89), hmz, hrel, hlst, hfab, hra⟩, (by omega)⟩, fun _ => ⟨v, hv, hve, (frM 89 (by omega)).trans hk89⟩⟩
    · exact absurd hp.2.1 hP
  · subst hCe
    rcases hb with ⟨hP, hrb, hMb⟩ | ⟨hP, hMb⟩
    · exact absurd hP hn
    · have hE : ∀ j : Int, 0 ≤ j → j ≤ 81 → Cb j = Ck j := fun j h1 h2 => frM j (by omega)
      have hR1 := hRI
      exact ⟨1, Or.inr (Or.inl rfl), hr1, ⟨pn, pf, kc, nn, ww, ee, lc, pm, pS, pN, pR, pT, pA, oS, oN, oR, oT, oA, tr, sn, sw, se, q0, q1, q2, q3, q4, mb, ak, fa, fb, mn, mr, ma, ab, bl, mz, mw, mS, mN, mR, of, ⟨(RIx_cg hE hR1), hMb, ((frM 83 (by omega)).trans ((frk 83 (by omega) (by omega)).trans h83)), ((frM 84 (by omega)).trans ((frk 84 (by omega) (by omega)).trans h84)), ((frM 85 (by omega)).trans ((frk 85 (by omega) (by omega)).trans h85)), ((frM 86 (by omega)).trans ((frk 86 (by omega) (by omega)).trans h86)), ((frM 87 (by omega)).trans ((frk 87 (by omega) (by omega)).trans h87)), ((frM 88 (by omega)).trans ((frk 88 (by omega) (by omega)).trans h88)), ((frM 89 (by omega)).trans hout), hmz, hrel, hlst, hfab, hra⟩, (by omega)⟩, fun h => absurd h (by omega)⟩
theorem st_overlap {k : Nat → ClassId} {AD : Int → Nat} {C Ck Cb : Int → va_E} {rk : Int32} {rb : Int32} {t th : Int} {pn : Int} {pf : Int → Int} {kc : Int} {nn : Int → Int} {ww : Int → Int → Int} {ee : Int → Int → Int} {lc : Int} {pm : Int → Int} {pS : Int → Int} {pN : Int → Int} {pR : Int → Int} {pT : Int → Int} {pA : Int → Int} {oS : Int → Int} {oN : Int → Int} {oR : Int → Int} {oT : Int → Int} {oA : Int → Int} {tr : Int} {sn : Int} {sw : Int → Int} {se : Int → Int} {q0 : Int} {q1 : Int} {q2 : Int} {q3 : Int} {q4 : Int} {mb : Int → Int} {ak : Int → Int} {fa : Int} {fb : Int} {mn : Int} {mr : Int} {ma : Int} {ab : Int} {bl : Int} {mz : Int → Int} {mw : Int → Int} {mS : Int → Int} {mN : Int → Int} {mR : Int → Int} {of : Int → Int} {a : Int} {i : Int} (hI : INVx k AD C th pn pf kc nn ww ee lc pm pS pN pR pT pA oS oN oR oT oA tr sn sw se q0 q1 q2 q3 q4 mb ak fa fb mn mr ma ab bl mz mw mS mN mR of) (ht : tr ≤ t) (hk : (fun r C' => ((r = zI 0 ∧ ∃ (v : Int) (C1 : Int → va_E), inI v ∧ (fun r C' => r = zI (ovlF oS oN oR a i) ∧ ((0 ≤ a ∧ a < lc) ∧ (0 ≤ i ∧ i ≤ 2)) ∧ C' = C) (zI v) C1 ∧ C' 89 = aL (k 2) 1 (zup of 0 v) ∧ ∀ j : Int, j ≠ 89 → C' j = C1 j) ∨ (r = zI 1 ∧ (¬ ((0 ≤ a ∧ a < lc) ∧ (0 ≤ i ∧ i ≤ 2))) ∧ C' = C)) ∧ ∀ j : Int, 82 ≤ j → j ≠ 89 → C' j = C j) rk Ck) (hb : (fun (C : Int → va_E) => fun r C' => (((0 ≤ a ∧ a < lc) ∧ (0 ≤ i ∧ i ≤ 2)) ∧ r = zI (ovlF mS mN mR a i) ∧ C' 82 = .inr (4, [.int (zI 0), .int (zI pn), .ref (AD 83), .int (zI kc), .ref (AD 84), .ref (AD 85), .int (zI tr), .int (zI lc), .int (zI fa), .int (zI fb), .ref (AD 86), .ref (AD 87), .ref (AD 88), .int (zI mn), .int (zI mr), .int (zI ma), .long (zL ab), .long (zL bl)]) ∨ ¬ ((0 ≤ a ∧ a < lc) ∧ (0 ≤ i ∧ i ≤ 2)) ∧ C' 82 = .inr (4, [.int (zI 1), .int (zI pn), .ref (AD 83), .int (zI kc), .ref (AD 84), .ref (AD 85), .int (zI tr), .int (zI lc), .int (zI fa), .int (zI fb), .ref (AD 86), .ref (AD 87), .ref (AD 88), .int (zI mn), .int (zI mr), .int (zI ma), .long (zL ab), .long (zL bl)])) ∧ ∀ j : Int, j ≠ 82 → C' j = C j) Ck rb Cb) : ∃ u : Int, (u = 0 ∨ u = 1 ∨ u = 2) ∧ rk = zI u ∧ INV k AD Cb (t + 47) u ∧ (u = 0 → ∃ v : Int, inI v ∧ rb = zI v ∧ Cb 89 = aL (k 2) 1 (zup of 0 v)) := by
  obtain ⟨hRI, hM, h83, h84, h85, h86, h87, h88, hout, hmz, hrel, hlst, hfab, hra⟩ := hI
  obtain ⟨hk, frk⟩ := hk
  obtain ⟨hb, frM⟩ := hb
  rcases hk with ⟨hr0, v, C1, hv, hp, hk89, hk1⟩ | ⟨hr1, hn, hCe⟩
  · rcases hb with ⟨hP, hrb, hMb⟩ | ⟨hP, hMb⟩
    · obtain ⟨hq1, hq2, hq3⟩ := hp
      have hE : ∀ j : Int, 0 ≤ j → j ≤ 81 → Cb j = C j := fun j h1 h2 => (frM j (by omega)).trans ((hk1 j (by omega)).trans (by rw [hq3]))
      have hR1 := hRI
      obtain ⟨e1, e2, e3⟩ := hlst a hq2.1.1 hq2.1.2
      have hve : rb = zI v := by rw [hrb, hq1]; congr 1; unfold ovlF; rw [e1, e2, e3]
      exact ⟨0, Or.inl rfl, hr0, ⟨pn, pf, kc, nn, ww, ee, lc, pm, pS, pN, pR, pT, pA, oS, oN, oR, oT, oA, tr, sn, sw, se, q0, q1, q2, q3, q4, mb, ak, fa, fb, mn, mr, ma, ab, bl, mz, mw, mS, mN, mR, (zup of 0 v), ⟨(RIx_cg hE hR1), hMb, ((frM 83 (by omega)).trans ((frk 83 (by omega) (by omega)).trans h83)), ((frM 84 (by omega)).trans ((frk 84 (by omega) (by omega)).trans h84)), ((frM 85 (by omega)).trans ((frk 85 (by omega) (by omega)).trans h85)), ((frM 86 (by omega)).trans ((frk 86 (by omega) (by omega)).trans h86)), ((frM 87 (by omega)).trans ((frk 87 (by omega) (by omega)).trans h87)), ((frM 88 (by omega)).trans ((frk 88 (by omega) (by omega)).trans h88)), ((frM 89 (by omega)).trans hk89), hmz, hrel, hlst, hfab, hra⟩, (by omega)⟩, fun _ => ⟨v, hv, hve, (frM 89 (by omega)).trans hk89⟩⟩
    · exact absurd hp.2.1 hP
  · subst hCe
    rcases hb with ⟨hP, hrb, hMb⟩ | ⟨hP, hMb⟩
    · exact absurd hP hn
    · have hE : ∀ j : Int, 0 ≤ j → j ≤ 81 → Cb j = Ck j := fun j h1 h2 => frM j (by omega)
      have hR1 := hRI
      exact ⟨1, Or.inr (Or.inl rfl), hr1, ⟨pn, pf, kc, nn, ww, ee, lc, pm, pS, pN, pR, pT, pA, oS, oN, oR, oT, oA, tr, sn, sw, se, q0, q1, q2, q3, q4, mb, ak, fa, fb, mn, mr, ma, ab, bl, mz, mw, mS, mN, mR, of, ⟨(RIx_cg hE hR1), hMb, ((frM 83 (by omega)).trans ((frk 83 (by omega) (by omega)).trans h83)), ((frM 84 (by omega)).trans ((frk 84 (by omega) (by omega)).trans h84)), ((frM 85 (by omega)).trans ((frk 85 (by omega) (by omega)).trans h85)), ((frM 86 (by omega)).trans ((frk 86 (by omega) (by omega)).trans h86)), ((frM 87 (by omega)).trans ((frk 87 (by omega) (by omega)).trans h87)), ((frM 88 (by omega)).trans ((frk 88 (by omega) (by omega)).trans h88)), ((frM 89 (by omega)).trans hout), hmz, hrel, hlst, hfab, hra⟩, (by omega)⟩, fun h => absurd h (by omega)⟩
theorem st_agree {k : Nat → ClassId} {AD : Int → Nat} {C Ck Cb : Int → va_E} {rk : Int32} {rb : Int32} {t th : Int} {pn : Int} {pf : Int → Int} {kc : Int} {nn : Int → Int} {ww : Int → Int → Int} {ee : Int → Int → Int} {lc : Int} {pm : Int → Int} {pS : Int → Int} {pN : Int → Int} {pR : Int → Int} {pT : Int → Int} {pA : Int → Int} {oS : Int → Int} {oN : Int → Int} {oR : Int → Int} {oT : Int → Int} {oA : Int → Int} {tr : Int} {sn : Int} {sw : Int → Int} {se : Int → Int} {q0 : Int} {q1 : Int} {q2 : Int} {q3 : Int} {q4 : Int} {mb : Int → Int} {ak : Int → Int} {fa : Int} {fb : Int} {mn : Int} {mr : Int} {ma : Int} {ab : Int} {bl : Int} {mz : Int → Int} {mw : Int → Int} {mS : Int → Int} {mN : Int → Int} {mR : Int → Int} {of : Int → Int} {a : Int} {i : Int} (hI : INVx k AD C th pn pf kc nn ww ee lc pm pS pN pR pT pA oS oN oR oT oA tr sn sw se q0 q1 q2 q3 q4 mb ak fa fb mn mr ma ab bl mz mw mS mN mR of) (ht : tr ≤ t) (hk : (fun r C' => ((r = zI 0 ∧ ∃ (v : Int) (C1 : Int → va_E), inI v ∧ (fun r C' => r = zI (agrF (oT a) (oA a) i) ∧ ((0 ≤ a ∧ a < lc) ∧ (i = 0 ∨ i = 1)) ∧ C' = C) (zI v) C1 ∧ C' 89 = aL (k 2) 1 (zup of 0 v) ∧ ∀ j : Int, j ≠ 89 → C' j = C1 j) ∨ (r = zI 1 ∧ (¬ ((0 ≤ a ∧ a < lc) ∧ (i = 0 ∨ i = 1))) ∧ C' = C)) ∧ ∀ j : Int, 82 ≤ j → j ≠ 89 → C' j = C j) rk Ck) (hb : (fun (C : Int → va_E) => fun r C' => (((0 ≤ a ∧ a < lc) ∧ (i = 0 ∨ i = 1)) ∧ r = zI (agrF (ovR (WM mw fa) (mz fa) (WM mw fb) (mz fb) (mS a)) (ovA (WM mw fa) (mz fa) (WM mw fb) (mz fb) (mS a)) i) ∧ (∃ n1 r1 a1 p1 p2 : Int, C' 82 = .inr (4, [.int (zI 0), .int (zI pn), .ref (AD 83), .int (zI kc), .ref (AD 84), .ref (AD 85), .int (zI tr), .int (zI lc), .int (zI fa), .int (zI fb), .ref (AD 86), .ref (AD 87), .ref (AD 88), .int (zI n1), .int (zI r1), .int (zI a1), .long (zL p1), .long (zL p2)])) ∨ ¬ ((0 ≤ a ∧ a < lc) ∧ (i = 0 ∨ i = 1)) ∧ C' 82 = .inr (4, [.int (zI 1), .int (zI pn), .ref (AD 83), .int (zI kc), .ref (AD 84), .ref (AD 85), .int (zI tr), .int (zI lc), .int (zI fa), .int (zI fb), .ref (AD 86), .ref (AD 87), .ref (AD 88), .int (zI mn), .int (zI mr), .int (zI ma), .long (zL ab), .long (zL bl)])) ∧ ∀ j : Int, j ≠ 82 → C' j = C j) Ck rb Cb) : ∃ u : Int, (u = 0 ∨ u = 1 ∨ u = 2) ∧ rk = zI u ∧ INV k AD Cb (t + 47) u ∧ (u = 0 → ∃ v : Int, inI v ∧ rb = zI v ∧ Cb 89 = aL (k 2) 1 (zup of 0 v)) := by
  obtain ⟨hRI, hM, h83, h84, h85, h86, h87, h88, hout, hmz, hrel, hlst, hfab, hra⟩ := hI
  obtain ⟨hk, frk⟩ := hk
  obtain ⟨hb, frM⟩ := hb
  rcases hk with ⟨hr0, v, C1, hv, hp, hk89, hk1⟩ | ⟨hr1, hn, hCe⟩
  · rcases hb with ⟨hP, hrb, n1, r1, a1, p1, p2, hMb⟩ | ⟨hP, hMb⟩
    · obtain ⟨hq1, hq2, hq3⟩ := hp
      have hE : ∀ j : Int, 0 ≤ j → j ≤ 81 → Cb j = C j := fun j h1 h2 => (frM j (by omega)).trans ((hk1 j (by omega)).trans (by rw [hq3]))
      have hR1 := hRI
      obtain ⟨e1, e2, e3⟩ := hlst a hq2.1.1 hq2.1.2
      obtain ⟨f1, f2⟩ := hfab (by omega)
      obtain ⟨g1, g2⟩ := hra a hq2.1.1 hq2.1.2
      obtain ⟨z1, _, w1⟩ := hrel fa f1.1 f1.2
      obtain ⟨z2, _, w2⟩ := hrel fb f2.1 f2.2
      obtain ⟨_, _, o3, o4⟩ := ov_eq (a := oS a) w1 w2
      have hve : rb = zI v := by rw [hrb, hq1, e1, z1, z2, o3, o4, g1, g2]
      exact ⟨0, Or.inl rfl, hr0, ⟨pn, pf, kc, nn, ww, ee, lc, pm, pS, pN, pR, pT, pA, oS, oN, oR, oT, oA, tr, sn, sw, se, q0, q1, q2, q3, q4, mb, ak, fa, fb, n1, r1, a1, p1, p2, mz, mw, mS, mN, mR, (zup of 0 v), ⟨(RIx_cg hE hR1), hMb, ((frM 83 (by omega)).trans ((frk 83 (by omega) (by omega)).trans h83)), ((frM 84 (by omega)).trans ((frk 84 (by omega) (by omega)).trans h84)), ((frM 85 (by omega)).trans ((frk 85 (by omega) (by omega)).trans h85)), ((frM 86 (by omega)).trans ((frk 86 (by omega) (by omega)).trans h86)), ((frM 87 (by omega)).trans ((frk 87 (by omega) (by omega)).trans h87)), ((frM 88 (by omega)).trans ((frk 88 (by omega) (by omega)).trans h88)), ((frM 89 (by omega)).trans hk89), hmz, hrel, hlst, hfab, hra⟩, (by omega)⟩, fun _ => ⟨v, hv, hve, (frM 89 (by omega)).trans hk89⟩⟩
    · exact absurd hp.2.1 hP
  · subst hCe
    rcases hb with ⟨hP, hrb, n1, r1, a1, p1, p2, hMb⟩ | ⟨hP, hMb⟩
    · exact absurd hP hn
    · have hE : ∀ j : Int, 0 ≤ j → j ≤ 81 → Cb j = Ck j := fun j h1 h2 => frM j (by omega)
      have hR1 := hRI
      exact ⟨1, Or.inr (Or.inl rfl), hr1, ⟨pn, pf, kc, nn, ww, ee, lc, pm, pS, pN, pR, pT, pA, oS, oN, oR, oT, oA, tr, sn, sw, se, q0, q1, q2, q3, q4, mb, ak, fa, fb, mn, mr, ma, ab, bl, mz, mw, mS, mN, mR, of, ⟨(RIx_cg hE hR1), hMb, ((frM 83 (by omega)).trans ((frk 83 (by omega) (by omega)).trans h83)), ((frM 84 (by omega)).trans ((frk 84 (by omega) (by omega)).trans h84)), ((frM 85 (by omega)).trans ((frk 85 (by omega) (by omega)).trans h85)), ((frM 86 (by omega)).trans ((frk 86 (by omega) (by omega)).trans h86)), ((frM 87 (by omega)).trans ((frk 87 (by omega) (by omega)).trans h87)), ((frM 88 (by omega)).trans ((frk 88 (by omega) (by omega)).trans h88)), ((frM 89 (by omega)).trans hout), hmz, hrel, hlst, hfab, hra⟩, (by omega)⟩, fun h => absurd h (by omega)⟩
theorem st_odds {k : Nat → ClassId} {AD : Int → Nat} {C Ck Cb : Int → va_E} {rk : Int32} {rb : Int64} {t th : Int} {pn : Int} {pf : Int → Int} {kc : Int} {nn : Int → Int} {ww : Int → Int → Int} {ee : Int → Int → Int} {lc : Int} {pm : Int → Int} {pS : Int → Int} {pN : Int → Int} {pR : Int → Int} {pT : Int → Int} {pA : Int → Int} {oS : Int → Int} {oN : Int → Int} {oR : Int → Int} {oT : Int → Int} {oA : Int → Int} {tr : Int} {sn : Int} {sw : Int → Int} {se : Int → Int} {q0 : Int} {q1 : Int} {q2 : Int} {q3 : Int} {q4 : Int} {mb : Int → Int} {ak : Int → Int} {fa : Int} {fb : Int} {mn : Int} {mr : Int} {ma : Int} {ab : Int} {bl : Int} {mz : Int → Int} {mw : Int → Int} {mS : Int → Int} {mN : Int → Int} {mR : Int → Int} {of : Int → Int} {a : Int} {i : Int} (hI : INVx k AD C th pn pf kc nn ww ee lc pm pS pN pR pT pA oS oN oR oT oA tr sn sw se q0 q1 q2 q3 q4 mb ak fa fb mn mr ma ab bl mz mw mS mN mR of) (ht : tr ≤ t) (hk : (fun r C' => ((r = zI 0 ∧ ∃ (v : Int) (C1 : Int → va_E), inL v ∧ (fun r C' => r = zL (oddF (oT a) (oA a) tr i) ∧ ((0 ≤ a ∧ a < lc) ∧ (i = 0 ∨ i = 1)) ∧ C' = C) (zL v) C1 ∧ C' 89 = aL (k 2) 1 (zup of 0 v) ∧ ∀ j : Int, j ≠ 89 → C' j = C1 j) ∨ (r = zI 1 ∧ (¬ ((0 ≤ a ∧ a < lc) ∧ (i = 0 ∨ i = 1))) ∧ C' = C)) ∧ ∀ j : Int, 82 ≤ j → j ≠ 89 → C' j = C j) rk Ck) (hb : (fun (C : Int → va_E) => fun r C' => (((0 ≤ a ∧ a < lc) ∧ (i = 0 ∨ i = 1)) ∧ r = zL (oddF (ovR (WM mw fa) (mz fa) (WM mw fb) (mz fb) (mS a)) (ovA (WM mw fa) (mz fa) (WM mw fb) (mz fb) (mS a)) tr i) ∧ (∃ n1 r1 a1 p1 p2 : Int, C' 82 = .inr (4, [.int (zI 0), .int (zI pn), .ref (AD 83), .int (zI kc), .ref (AD 84), .ref (AD 85), .int (zI tr), .int (zI lc), .int (zI fa), .int (zI fb), .ref (AD 86), .ref (AD 87), .ref (AD 88), .int (zI n1), .int (zI r1), .int (zI a1), .long (zL p1), .long (zL p2)])) ∨ ¬ ((0 ≤ a ∧ a < lc) ∧ (i = 0 ∨ i = 1)) ∧ C' 82 = .inr (4, [.int (zI 1), .int (zI pn), .ref (AD 83), .int (zI kc), .ref (AD 84), .ref (AD 85), .int (zI tr), .int (zI lc), .int (zI fa), .int (zI fb), .ref (AD 86), .ref (AD 87), .ref (AD 88), .int (zI mn), .int (zI mr), .int (zI ma), .long (zL ab), .long (zL bl)])) ∧ ∀ j : Int, j ≠ 82 → C' j = C j) Ck rb Cb) : ∃ u : Int, (u = 0 ∨ u = 1 ∨ u = 2) ∧ rk = zI u ∧ INV k AD Cb (t + 47) u ∧ (u = 0 → ∃ v : Int, inL v ∧ rb = zL v ∧ Cb 89 = aL (k 2) 1 (zup of 0 v)) := by
  obtain ⟨hRI, hM, h83, h84, h85, h86, h87, h88, hout, hmz, hrel, hlst, hfab, hra⟩ := hI
  obtain ⟨hk, frk⟩ := hk
  obtain ⟨hb, frM⟩ := hb
  rcases hk with ⟨hr0, v, C1, hv, hp, hk89, hk1⟩ | ⟨hr1, hn, hCe⟩
  · rcases hb with ⟨hP, hrb, n1, r1, a1, p1, p2, hMb⟩ | ⟨hP, hMb⟩
    · obtain ⟨hq1, hq2, hq3⟩ := hp
      have hE : ∀ j : Int, 0 ≤ j → j ≤ 81 → Cb j = C j := fun j h1 h2 => (frM j (by omega)).trans ((hk1 j (by omega)).trans (by rw [hq3]))
      have hR1 := hRI
      obtain ⟨e1, e2, e3⟩ := hlst a hq2.1.1 hq2.1.2
      obtain ⟨f1, f2⟩ := hfab (by omega)
      obtain ⟨g1, g2⟩ := hra a hq2.1.1 hq2.1.2
      obtain ⟨z1, _, w1⟩ := hrel fa f1.1 f1.2
      obtain ⟨z2, _, w2⟩ := hrel fb f2.1 f2.2
      obtain ⟨_, _, o3, o4⟩ := ov_eq (a := oS a) w1 w2
      have hve : rb = zL v := by rw [hrb, hq1, e1, z1, z2, o3, o4, g1, g2]
      exact ⟨0, Or.inl rfl, hr0, ⟨pn, pf, kc, nn, ww, ee, lc, pm, pS, pN, pR, pT, pA, oS, oN, oR, oT, oA, tr, sn, sw, se, q0, q1, q2, q3, q4, mb, ak, fa, fb, n1, r1, a1, p1, p2, mz, mw, mS, mN, mR, (zup of 0 v), ⟨(RIx_cg hE hR1), hMb, ((frM 83 (by omega)).trans ((frk 83 (by omega) (by omega)).trans h83)), ((frM 84 (by omega)).trans ((frk 84 (by omega) (by omega)).trans h84)), ((frM 85 (by omega)).trans ((frk 85 (by omega) (by omega)).trans h85)), ((frM 86 (by omega)).trans ((frk 86 (by omega) (by omega)).trans h86)), ((frM 87 (by omega)).trans ((frk 87 (by omega) (by omega)).trans h87)), ((frM 88 (by omega)).trans ((frk 88 (by omega) (by omega)).trans h88)), ((frM 89 (by omega)).trans hk89), hmz, hrel, hlst, hfab, hra⟩, (by omega)⟩, fun _ => ⟨v, hv, hve, (frM 89 (by omega)).trans hk89⟩⟩
    · exact absurd hp.2.1 hP
  · subst hCe
    rcases hb with ⟨hP, hrb, n1, r1, a1, p1, p2, hMb⟩ | ⟨hP, hMb⟩
    · exact absurd hP hn
    · have hE : ∀ j : Int, 0 ≤ j → j ≤ 81 → Cb j = Ck j := fun j h1 h2 => frM j (by omega)
      have hR1 := hRI
      exact ⟨1, Or.inr (Or.inl rfl), hr1, ⟨pn, pf, kc, nn, ww, ee, lc, pm, pS, pN, pR, pT, pA, oS, oN, oR, oT, oA, tr, sn, sw, se, q0, q1, q2, q3, q4, mb, ak, fa, fb, mn, mr, ma, ab, bl, mz, mw, mS, mN, mR, of, ⟨(RIx_cg hE hR1), hMb, ((frM 83 (by omega)).trans ((frk 83 (by omega) (by omega)).trans h83)), ((frM 84 (by omega)).trans ((frk 84 (by omega) (by omega)).trans h84)), ((frM 85 (by omega)).trans ((frk 85 (by omega) (by omega)).trans h85)), ((frM 86 (by omega)).trans ((frk 86 (by omega) (by omega)).trans h86)), ((frM 87 (by omega)).trans ((frk 87 (by omega) (by omega)).trans h87)), ((frM 88 (by omega)).trans ((frk 88 (by omega) (by omega)).trans h88)), ((frM 89 (by omega)).trans hout), hmz, hrel, hlst, hfab, hra⟩, (by omega)⟩, fun h => absurd h (by omega)⟩
