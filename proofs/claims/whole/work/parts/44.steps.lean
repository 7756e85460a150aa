theorem st_written {k : Nat → ClassId} {AD : Int → Nat} {C Ck Cb : Int → va_E} {rk : Int32} {rb : Int32} {t th : Int} {pn : Int} {pf : Int → Int} {kc : Int} {nn : Int → Int} {ww : Int → Int → Int} {ee : Int → Int → Int} {lc : Int} {pm : Int → Int} {pS : Int → Int} {pN : Int → Int} {pR : Int → Int} {pT : Int → Int} {pA : Int → Int} {oS : Int → Int} {oN : Int → Int} {oR : Int → Int} {oT : Int → Int} {oA : Int → Int} {tr : Int} {sn : Int} {sw : Int → Int} {se : Int → Int} {q0 : Int} {q1 : Int} {q2 : Int} {q3 : Int} {q4 : Int} {mb : Int → Int} {ak : Int → Int} {fa : Int} {fb : Int} {mn : Int} {mr : Int} {ma : Int} {ab : Int} {bl : Int} {mz : Int → Int} {mw : Int → Int} {mS : Int → Int} {mN : Int → Int} {mR : Int → Int} {of : Int → Int} {a : Int} {i : Int} (hI : INVx k AD C th pn pf kc nn ww ee lc pm pS pN pR pT pA oS oN oR oT oA tr sn sw se q0 q1 q2 q3 q4 mb ak fa fb mn mr ma ab bl mz mw mS mN mR of) (ht : tr ≤ t) (hk : (fun r C' => ((r = zI 0 ∧ ∃ (v : Int) (C1 : Int → va_E), inI v ∧ (fun r C' => ((0 ≤ a ∧ a < kc) ∧ (-1 ≤ i ∧ i < posR (ww a) (nn a) - 1)) ∧ (i = -1 ∧ r = zI (posR (ww a) (nn a) - 1) ∨ 0 ≤ i ∧ ∃ x : Int, (0 ≤ x ∧ x < nn a) ∧ (posR (ww a) x ≤ i ∧ i < posR (ww a) (x + 1)) ∧ r = zI (tsg (ww a) x i)) ∧ C' = C) (zI v) C1 ∧ C' 89 = aL (k 2) 1 (zup of 0 v) ∧ ∀ j : Int, j ≠ 89 → C' j = C1 j) ∨ (r = zI 1 ∧ (¬ ((0 ≤ a ∧ a < kc) ∧ (-1 ≤ i ∧ i < posR (ww a) (nn a) - 1))) ∧ C' = C)) ∧ ∀ j : Int, 82 ≤ j → j ≠ 89 → C' j = C j) rk Ck) (hb : (fun (C : Int → va_E) => fun r C' => (((0 ≤ a ∧ a < kc) ∧ (-1 ≤ i ∧ i < posR (WM mw a) (mz a) - 1)) ∧ (i = -1 ∧ r = zI (posR (WM mw a) (mz a) - 1) ∨ 0 ≤ i ∧ ∃ x : Int, (0 ≤ x ∧ x < mz a) ∧ (posR (WM mw a) x ≤ i ∧ i < posR (WM mw a) (x + 1)) ∧ r = zI (tsg (WM mw a) x i)) ∧ C' 82 = .inr (4, [.int (zI 0), .int (zI pn), .ref (AD 83), .int (zI kc), .ref (AD 84), .ref (AD 85), .int (zI tr), .int (zI lc), .int (zI fa), .int (zI fb), .ref (AD 86), .ref (AD 87), .ref (AD 88), .int (zI mn), .int (zI mr), .int (zI ma), .long (zL ab), .long (zL bl)]) ∨ ¬ ((0 ≤ a ∧ a < kc) ∧ (-1 ≤ i ∧ i < posR (WM mw a) (mz a) - 1)) ∧ C' 82 = .inr (4, [.int (zI 1), .int (zI pn), .ref (AD 83), .int (zI kc), .ref (AD 84), .ref (AD 85), .int (zI tr), .int (zI lc), .int (zI fa), .int (zI fb), .ref (AD 86), .ref (AD 87), .ref (AD 88), .int (zI mn), .int (zI mr), .int (zI ma), .long (zL ab), .long (zL bl)])) ∧ ∀ j : Int, j ≠ 82 → C' j = C j) Ck rb Cb) : ∃ u : Int, (u = 0 ∨ u = 1 ∨ u = 2) ∧ rk = zI u ∧ INV k AD Cb (t + 47) u ∧ (u = 0 → ∃ v : Int, inI v ∧ rb = zI v ∧ Cb 89 = aL (k 2) 1 (zup of 0 v)) := by
  obtain ⟨hRI, hM, h83, h84, h85, h86, h87, h88, hout, hmz, hrel, hlst, hfab, hra⟩ := hI
  obtain ⟨hk, frk⟩ := hk
  obtain ⟨hb, frM⟩ := hb
  rcases hk with ⟨hr0, v, C1, hv, hp, hk89, hk1⟩ | ⟨hr1, hn, hCe⟩
  · obtain ⟨hq2, hq1, hq3⟩ := hp
    obtain ⟨hz9, ho9, hw9⟩ := hrel a hq2.1.1 hq2.1.2
    have hkc9 : kc ≤ 8 := by obtain ⟨_, _, _, _, _, _, _, _, _, _, _, _, _, _, _, _, _, _, hkc, _⟩ := hRI; exact hkc.2
    have hnn : 0 ≤ nn a := by have := hmz a (by omega) (by omega); omega
    have ep : posR (WM mw a) (mz a) = posR (ww a) (nn a) := by rw [hz9]; exact posR_eq hw9 (by omega)
    rcases hb with ⟨hP, hrb, hMb⟩ | ⟨hP, hMb⟩
    · have hE : ∀ j : Int, 0 ≤ j → j ≤ 81 → Cb j = C j := fun j h1 h2 => (frM j (by omega)).trans ((hk1 j (by omega)).trans (by rw [hq3]))
      have hR1 := hRI
      have hve : rb = zI v := by
        rcases hq1 with ⟨i1, e1⟩ | ⟨i1, x, hx, hxp, e1⟩
        · rcases hrb with ⟨j1, e2⟩ | ⟨j1, y, hy, hyp, e2⟩
          · rw [e2, e1, ep]
          · omega
        · rcases hrb with ⟨j1, e2⟩ | ⟨j1, y, hy, hyp, e2⟩
          · omega
          · rw [posR_eq hw9 (by omega), posR_eq hw9 (by omega)] at hyp
            have exy := posR_one hx.1 hy.1 hxp hyp
            rw [e2, e1, ← exy, tsg_eq hw9 hx]
      exact ⟨0, Or.inl rfl, hr0, ⟨pn, pf, kc, nn, ww, ee, lc, pm, pS, pN, pR, pT, pA, oS, oN, oR, oT, oA, tr, sn, sw, se, q0, q1, q2, q3, q4, mb, ak, fa, fb, mn, mr, ma, ab, bl, mz, mw, mS, mN, mR, (zup of 0 v), ⟨(RIx_cg hE hR1), hMb, ((frM 83 (by omega)).trans ((frk 83 (by omega) (by omega)).trans h83)), ((frM 84 (by omega)).trans ((frk 84 (by omega) (by omega)).trans h84)), ((frM 85 (by omega)).trans ((frk 85 (by omega) (by omega)).trans h85)), ((frM 86 (by omega)).trans ((frk 86 (by omega) (by omega)).trans h86)), ((frM 87 (by omega)).trans ((frk 87 (by omega) (by omega)).trans h87)), ((frM 88 (by omega)).trans ((frk 88 (by omega) (by omega)).trans h88)), ((frM 89 (by omega)).trans hk89), hmz, hrel, hlst, hfab, hra⟩, (by omega)⟩, fun _ => ⟨v, hv, hve, (frM 89 (by omega)).trans hk89⟩⟩
    · exact absurd ⟨hq2.1, hq2.2.1, by rw [ep]; exact hq2.2.2⟩ hP
  · subst hCe
    rcases hb with ⟨hP, hrb, hMb⟩ | ⟨hP, hMb⟩
    · obtain ⟨hz9, ho9, hw9⟩ := hrel a hP.1.1 hP.1.2
      have hkc9 : kc ≤ 8 := by obtain ⟨_, _, _, _, _, _, _, _, _, _, _, _, _, _, _, _, _, _, hkc, _⟩ := hRI; exact hkc.2
      have hnn : 0 ≤ nn a := by have := hmz a (by omega) (by omega); omega
      have ep : posR (WM mw a) (mz a) = posR (ww a) (nn a) := by rw [hz9]; exact posR_eq hw9 (by omega)
      exact absurd ⟨hP.1, hP.2.1, by rw [← ep]; exact hP.2.2⟩ hn
    · have hE : ∀ j : Int, 0 ≤ j → j ≤ 81 → Cb j = Ck j := fun j h1 h2 => frM j (by omega)
      have hR1 := hRI
      exact ⟨1, Or.inr (Or.inl rfl), hr1, ⟨pn, pf, kc, nn, ww, ee, lc, pm, pS, pN, pR, pT, pA, oS, oN, oR, oT, oA, tr, sn, sw, se, q0, q1, q2, q3, q4, mb, ak, fa, fb, mn, mr, ma, ab, bl, mz, mw, mS, mN, mR, of, ⟨(RIx_cg hE hR1), hMb, ((frM 83 (by omega)).trans ((frk 83 (by omega) (by omega)).trans h83)), ((frM 84 (by omega)).trans ((frk 84 (by omega) (by omega)).trans h84)), ((frM 85 (by omega)).trans ((frk 85 (by omega) (by omega)).trans h85)), ((frM 86 (by omega)).trans ((frk 86 (by omega) (by omega)).trans h86)), ((frM 87 (by omega)).trans ((frk 87 (by omega) (by omega)).trans h87)), ((frM 88 (by omega)).trans ((frk 88 (by omega) (by omega)).trans h88)), ((frM 89 (by omega)).trans hout), hmz, hrel, hlst, hfab, hra⟩, (by omega)⟩, fun h => absurd h (by omega)⟩
theorem st_unit {k : Nat → ClassId} {AD : Int → Nat} {C Ck Cb : Int → va_E} {rk : Int32} {rb : Int32} {t th : Int} {pn : Int} {pf : Int → Int} {kc : Int} {nn : Int → Int} {ww : Int → Int → Int} {ee : Int → Int → Int} {lc : Int} {pm : Int → Int} {pS : Int → Int} {pN : Int → Int} {pR : Int → Int} {pT : Int → Int} {pA : Int → Int} {oS : Int → Int} {oN : Int → Int} {oR : Int → Int} {oT : Int → Int} {oA : Int → Int} {tr : Int} {sn : Int} {sw : Int → Int} {se : Int → Int} {q0 : Int} {q1 : Int} {q2 : Int} {q3 : Int} {q4 : Int} {mb : Int → Int} {ak : Int → Int} {fa : Int} {fb : Int} {mn : Int} {mr : Int} {ma : Int} {ab : Int} {bl : Int} {mz : Int → Int} {mw : Int → Int} {mS : Int → Int} {mN : Int → Int} {mR : Int → Int} {of : Int → Int} {a : Int} {b : Int} (hI : INVx k AD C th pn pf kc nn ww ee lc pm pS pN pR pT pA oS oN oR oT oA tr sn sw se q0 q1 q2 q3 q4 mb ak fa fb mn mr ma ab bl mz mw mS mN mR of) (ht : tr ≤ t) (hk : (fun r C' => ((r = zI 0 ∧ ∃ (v : Int) (C1 : Int → va_E), inI v ∧ (fun r C' => r = zI (pn + nz a + nz b) ∧ (TK a ∧ TK b) ∧ pn + nz a + nz b ≤ 100 ∧ RIx k AD C' (pn + nz a + nz b) (padF (padF pf pn a 4) (pn + nz a) b 4) kc nn ww ee lc pm pS pN pR pT pA oS oN oR oT oA tr sn sw se q0 q1 q2 q3 q4 mb ak ∧ ∀ j : Int, ¬ (0 ≤ j ∧ j ≤ 81) → C' j = C j) (zI v) C1 ∧ C' 89 = aL (k 2) 1 (zup of 0 v) ∧ ∀ j : Int, j ≠ 89 → C' j = C1 j) ∨ (r = zI 1 ∧ (¬ (TK a ∧ TK b)) ∧ C' = C) ∨ (r = zI 2 ∧ ((TK a ∧ TK b) ∧ 100 < pn + nz a + nz b) ∧ C' = C)) ∧ ∀ j : Int, 82 ≤ j → j ≠ 89 → C' j = C j) rk Ck) (hb : (fun (C : Int → va_E) => fun r C' => ((¬ (TK a ∧ TK b) ∧ C' 82 = .inr (4, [.int (zI 1), .int (zI pn), .ref (AD 83), .int (zI kc), .ref (AD 84), .ref (AD 85), .int (zI tr), .int (zI lc), .int (zI fa), .int (zI fb), .ref (AD 86), .ref (AD 87), .ref (AD 88), .int (zI mn), .int (zI mr), .int (zI ma), .long (zL ab), .long (zL bl)]) ∧ C' 83 = aI (k 0) 100 pf) ∨ ((TK a ∧ TK b) ∧ 100 < pn + nz a + nz b ∧ C' 82 = .inr (4, [.int (zI 2), .int (zI pn), .ref (AD 83), .int (zI kc), .ref (AD 84), .ref (AD 85), .int (zI tr), .int (zI lc), .int (zI fa), .int (zI fb), .ref (AD 86), .ref (AD 87), .ref (AD 88), .int (zI mn), .int (zI mr), .int (zI ma), .long (zL ab), .long (zL bl)]) ∧ C' 83 = aI (k 0) 100 pf) ∨ ((TK a ∧ TK b) ∧ pn + nz a + nz b ≤ 100 ∧ r = zI (pn + nz a + nz b) ∧ C' 82 = .inr (4, [.int (zI 0), .int (zI (pn + nz a + nz b)), .ref (AD 83), .int (zI kc), .ref (AD 84), .ref (AD 85), .int (zI tr), .int (zI lc), .int (zI fa), .int (zI fb), .ref (AD 86), .ref (AD 87), .ref (AD 88), .int (zI mn), .int (zI mr), .int (zI ma), .long (zL ab), .long (zL bl)]) ∧ C' 83 = aI (k 0) 100 (padF (padF pf pn a 4) (pn + nz a) b 4))) ∧ ∀ j : Int, ¬ (82 ≤ j ∧ j ≤ 83) → C' j = C j) Ck rb Cb) : ∃ u : Int, (u = 0 ∨ u = 1 ∨ u = 2) ∧ rk = zI u ∧ INV k AD Cb (t + 47) u ∧ (u = 0 → ∃ v : Int, inI v ∧ rb = zI v ∧ Cb 89 = aL (k 2) 1 (zup of 0 v)) := by
  obtain ⟨hRI, hM, h83, h84, h85, h86, h87, h88, hout, hmz, hrel, hlst, hfab, hra⟩ := hI
  obtain ⟨hk, frk⟩ := hk
  obtain ⟨hb, frM⟩ := hb
  rcases hk with ⟨hr, v, C1, hv, hp, hk89, hk1⟩ | ⟨hr, hn, hCe⟩ | ⟨hr, hn, hCe⟩
  · obtain ⟨hq1, hq2, hq3, hR1, hF⟩ := hp
    rcases hb with ⟨hP, hMb, hb83⟩ | ⟨hP, hP2, hMb, hb83⟩ | ⟨hP, hP2, hrb, hMb, hb83⟩
    · exact absurd hq2 hP
    · omega
    · have hE : ∀ j : Int, 0 ≤ j → j ≤ 81 → Cb j = C1 j := fun j h1 h2 => (frM j (by omega)).trans (hk1 j (by omega))
      exact ⟨0, Or.inl rfl, hr, ⟨(pn + nz a + nz b), (padF (padF pf pn a 4) (pn + nz a) b 4), kc, nn, ww, ee, lc, pm, pS, pN, pR, pT, pA, oS, oN, oR, oT, oA, tr, sn, sw, se, q0, q1, q2, q3, q4, mb, ak, fa, fb, mn, mr, ma, ab, bl, mz, mw, mS, mN, mR, (zup of 0 v), ⟨(RIx_cg hE hR1), hMb, hb83, ((frM 84 (by omega)).trans ((frk 84 (by omega) (by omega)).trans h84)), ((frM 85 (by omega)).trans ((frk 85 (by omega) (by omega)).trans h85)), ((frM 86 (by omega)).trans ((frk 86 (by omega) (by omega)).trans h86)), ((frM 87 (by omega)).trans ((frk 87 (by omega) (by omega)).trans h87)), ((frM 88 (by omega)).trans ((frk 88 (by omega) (by omega)).trans h88)), ((frM 89 (by omega)).trans hk89), hmz, hrel, hlst, hfab, hra⟩, (by omega)⟩, fun _ => ⟨v, hv, by rw [hrb, hq1], (frM 89 (by omega)).trans hk89⟩⟩
  · subst hCe
    rcases hb with ⟨hP, hMb, hb83⟩ | ⟨hP, hP2, hMb, hb83⟩ | ⟨hP, hP2, hrb, hMb, hb83⟩
    · have hE : ∀ j : Int, 0 ≤ j → j ≤ 81 → Cb j = Ck j := fun j h1 h2 => frM j (by omega)
      have hR1 := hRI
      exact ⟨1, Or.inr (Or.inl rfl), hr, ⟨pn, pf, kc, nn, ww, ee, lc, pm, pS, pN, pR, pT, pA, oS, oN, oR, oT, oA, tr, sn, sw, se, q0, q1, q2, q3, q4, mb, ak, fa, fb, mn, mr, ma, ab, bl, mz, mw, mS, mN, mR, of, ⟨(RIx_cg hE hR1), hMb, hb83, ((frM 84 (by omega)).trans ((frk 84 (by omega) (by omega)).trans h84)), ((frM 85 (by omega)).trans ((frk 85 (by omega) (by omega)).trans h85)), ((frM 86 (by omega)).trans ((frk 86 (by omega) (by omega)).trans h86)), ((frM 87 (by omega)).trans ((frk 87 (by omega) (by omega)).trans h87)), ((frM 88 (by omega)).trans ((frk 88 (by omega) (by omega)).trans h88)), ((frM 89 (by omega)).trans hout), hmz, hrel, hlst, hfab, hra⟩, (by omega)⟩, fun h => absurd h (by omega)⟩
    · exact absurd hP hn
    · exact absurd hP hn
  · subst hCe
    rcases hb with ⟨hP, hMb, hb83⟩ | ⟨hP, hP2, hMb, hb83⟩ | ⟨hP, hP2, hrb, hMb, hb83⟩
    · exact absurd hn.1 hP
    · have hE : ∀ j : Int, 0 ≤ j → j ≤ 81 → Cb j = Ck j := fun j h1 h2 => frM j (by omega)
      have hR1 := hRI
      exact ⟨2, Or.inr (Or.inr rfl), hr, ⟨pn, pf, kc, nn, ww, ee, lc, pm, pS, pN, pR, pT, pA, oS, oN, oR, oT, oA, tr, sn, sw, se, q0, q1, q2, q3, q4, mb, ak, fa, fb, mn, mr, ma, ab, bl, mz, mw, mS, mN, mR, of, ⟨(RIx_cg hE hR1), hMb, hb83, ((frM 84 (by omega)).trans ((frk 84 (by omega) (by omega)).trans h84)), ((frM 85 (by omega)).trans ((frk 85 (by omega) (by omega)).trans h85)), ((frM 86 (by omega)).trans ((frk 86 (by omega) (by omega)).trans h86)), ((frM 87 (by omega)).trans ((frk 87 (by omega) (by omega)).trans h87)), ((frM 88 (by omega)).trans ((frk 88 (by omega) (by omega)).trans h88)), ((frM 89 (by omega)).trans hout), hmz, hrel, hlst, hfab, hra⟩, (by omega)⟩, fun h => absurd h (by omega)⟩
    · omega
theorem st_match {k : Nat → ClassId} {AD : Int → Nat} {C Ck Cb : Int → va_E} {rk : Int32} {rb : Int32} {t th : Int} {pn : Int} {pf : Int → Int} {kc : Int} {nn : Int → Int} {ww : Int → Int → Int} {ee : Int → Int → Int} {lc : Int} {pm : Int → Int} {pS : Int → Int} {pN : Int → Int} {pR : Int → Int} {pT : Int → Int} {pA : Int → Int} {oS : Int → Int} {oN : Int → Int} {oR : Int → Int} {oT : Int → Int} {oA : Int → Int} {tr : Int} {sn : Int} {sw : Int → Int} {se : Int → Int} {q0 : Int} {q1 : Int} {q2 : Int} {q3 : Int} {q4 : Int} {mb : Int → Int} {ak : Int → Int} {fa : Int} {fb : Int} {mn : Int} {mr : Int} {ma : Int} {ab : Int} {bl : Int} {mz : Int → Int} {mw : Int → Int} {mS : Int → Int} {mN : Int → Int} {mR : Int → Int} {of : Int → Int} {a : Int} {b : Int} {least : Int} (hI : INVx k AD C th pn pf kc nn ww ee lc pm pS pN pR pT pA oS oN oR oT oA tr sn sw se q0 q1 q2 q3 q4 mb ak fa fb mn mr ma ab bl mz mw mS mN mR of) (ht : tr ≤ t) (hk : (fun r C' => ((r = zI 0 ∧ ∃ (v : Int) (C1 : Int → va_E), inI v ∧ (fun r C' => (((0 ≤ a ∧ a < kc) ∧ (0 ≤ b ∧ b < kc)) ∧ (3 ≤ least ∧ least ≤ 24)) ∧ ∃ (lx : Int) (pm1 pS1 pN1 pR1 pT1 pA1 aS aN aR aT aA : Int → Int), mAll (ww a) (nn a) (ww b) (nn b) least (nn a + nn b - 1).toNat = (lx, aS, aN, aR, aT, aA) ∧ r = zI lx ∧ RIx k AD C' pn pf kc nn ww ee lx pm1 pS1 pN1 pR1 pT1 pA1 aS aN aR aT aA (tr + (nn a + nn b - 1)) sn sw se q0 q1 q2 q3 q4 mb ak ∧ ∀ j : Int, ¬ (0 ≤ j ∧ j ≤ 81) → C' j = C j) (zI v) C1 ∧ C' 89 = aL (k 2) 1 (zup of 0 v) ∧ ∀ j : Int, j ≠ 89 → C' j = C1 j) ∨ (r = zI 1 ∧ (¬ ((0 ≤ a ∧ a < kc) ∧ (0 ≤ b ∧ b < kc))) ∧ C' = C) ∨ (r = zI 2 ∧ (((0 ≤ a ∧ a < kc) ∧ (0 ≤ b ∧ b < kc)) ∧ ¬ (3 ≤ least ∧ least ≤ 24)) ∧ C' = C)) ∧ ∀ j : Int, 82 ≤ j → j ≠ 89 → C' j = C j) rk Ck) (hb : (fun (C : Int → va_E) => fun r C' => ((((0 ≤ a ∧ a < kc) ∧ (0 ≤ b ∧ b < kc)) ∧ (3 ≤ least ∧ least ≤ 24)) ∧ (∃ (lx n1 r1 a1 : Int) (mS1 mN1 mR1 aS aN aR aT aA : Int → Int), mAll (WM mw a) (mz a) (WM mw b) (mz b) least (mz a + mz b - 1).toNat = (lx, aS, aN, aR, aT, aA) ∧ r = zI lx ∧ C' 82 = .inr (4, [.int (zI 0), .int (zI pn), .ref (AD 83), .int (zI kc), .ref (AD 84), .ref (AD 85), .int (zI (tr + (mz a + mz b - 1))), .int (zI lx), .int (zI a), .int (zI b), .ref (AD 86), .ref (AD 87), .ref (AD 88), .int (zI n1), .int (zI r1), .int (zI a1), .long (zL ab), .long (zL bl)]) ∧ C' 86 = aI (k 0) 48 mS1 ∧ C' 87 = aI (k 0) 48 mN1 ∧ C' 88 = aI (k 0) 48 mR1 ∧ ∀ r : Int, 0 ≤ r → r < lx → mS1 r = aS r ∧ mN1 r = aN r ∧ mR1 r = aR r) ∨ (¬ ((0 ≤ a ∧ a < kc) ∧ (0 ≤ b ∧ b < kc)) ∧ C' 82 = .inr (4, [.int (zI 1), .int (zI pn), .ref (AD 83), .int (zI kc), .ref (AD 84), .ref (AD 85), .int (zI tr), .int (zI lc), .int (zI fa), .int (zI fb), .ref (AD 86), .ref (AD 87), .ref (AD 88), .int (zI mn), .int (zI mr), .int (zI ma), .long (zL ab), .long (zL bl)]) ∧ C' 86 = aI (k 0) 48 mS ∧ C' 87 = aI (k 0) 48 mN ∧ C' 88 = aI (k 0) 48 mR) ∨ ((((0 ≤ a ∧ a < kc) ∧ (0 ≤ b ∧ b < kc)) ∧ ¬ (3 ≤ least ∧ least ≤ 24)) ∧ C' 82 = .inr (4, [.int (zI 2), .int (zI pn), .ref (AD 83), .int (zI kc), .ref (AD 84), .ref (AD 85), .int (zI tr), .int (zI lc), .int (zI fa), .int (zI fb), .ref (AD 86), .ref (AD 87), .ref (AD 88), .int (zI mn), .int (zI mr), .int (zI ma), .long (zL ab), .long (zL bl)]) ∧ C' 86 = aI (k 0) 48 mS ∧ C' 87 = aI (k 0) 48 mN ∧ C' 88 = aI (k 0) 48 mR)) ∧ ∀ j : Int, ¬ (j = 82 ∨ (86 ≤ j ∧ j ≤ 88)) → C' j = C j) Ck rb Cb) : ∃ u : Int, (u = 0 ∨ u = 1 ∨ u = 2) ∧ rk = zI u ∧ INV k AD Cb (t + 47) u ∧ (u = 0 → ∃ v : Int, inI v ∧ rb = zI v ∧ Cb 89 = aL (k 2) 1 (zup of 0 v)) := by
  obtain ⟨hRI, hM, h83, h84, h85, h86, h87, h88, hout, hmz, hrel, hlst, hfab, hra⟩ := hI
  obtain ⟨hk, frk⟩ := hk
  obtain ⟨hb, frM⟩ := hb
  rcases hk with ⟨hr, v, C1, hv, hp, hk89, hk1⟩ | ⟨hr, hn, hCe⟩ | ⟨hr, hn, hCe⟩
  · obtain ⟨hq2, lx, pm1, pS1, pN1, pR1, pT1, pA1, aS, aN, aR, aT, aA, hma, hq1, hR1, hF⟩ := hp
    rcases hb with ⟨hP, lx2, n1, r1, a1, mS1, mN1, mR1, bS, bN, bR, bT, bA, hmb2, hrb, hMb, hb86, hb87, hb88, hEq⟩ | ⟨hP, hMb, hb86, hb87, hb88⟩ | ⟨hP, hMb, hb86, hb87, hb88⟩
    · obtain ⟨z1, _, w1⟩ := hrel a hq2.1.1.1 hq2.1.1.2
      obtain ⟨z2, _, w2⟩ := hrel b hq2.1.2.1 hq2.1.2.2
      rw [z1, z2, mAll_eq w1 w2, hma] at hmb2
      simp only [Prod.mk.injEq] at hmb2
      obtain ⟨e0, e1, e2, e3, e4, e5⟩ := hmb2
      subst e0; subst e1; subst e2; subst e3; subst e4; subst e5
      rw [z1, z2] at hMb
      have hE : ∀ j : Int, 0 ≤ j → j ≤ 81 → Cb j = C1 j := fun j h1 h2 => (frM j (by omega)).trans (hk1 j (by omega))
      have hb1 := (hRI.2.2.2.2.1 a hq2.1.1.1 (by obtain ⟨_, _, _, _, _, _, _, _, _, _, _, _, _, _, _, _, _, _, hkc, _⟩ := hRI; omega)).2.2.2
      have hb2 := (hRI.2.2.2.2.1 b hq2.1.2.1 (by obtain ⟨_, _, _, _, _, _, _, _, _, _, _, _, _, _, _, _, _, _, hkc, _⟩ := hRI; omega)).2.2.2
      exact ⟨0, Or.inl rfl, hr, ⟨pn, pf, kc, nn, ww, ee, lx, pm1, pS1, pN1, pR1, pT1, pA1, aS, aN, aR, aT, aA, (tr + (nn a + nn b - 1)), sn, sw, se, q0, q1, q2, q3, q4, mb, ak, a, b, n1, r1, a1, ab, bl, mz, mw, mS1, mN1, mR1, (zup of 0 v), ⟨(RIx_cg hE hR1), hMb, ((frM 83 (by omega)).trans ((frk 83 (by omega) (by omega)).trans h83)), ((frM 84 (by omega)).trans ((frk 84 (by omega) (by omega)).trans h84)), ((frM 85 (by omega)).trans ((frk 85 (by omega) (by omega)).trans h85)), hb86, hb87, hb88, ((frM 89 (by omega)).trans hk89), hmz, hrel, hEq, (fun _ => hq2.1), (mAll_ra2 hma)⟩, (by omega)⟩, fun _ => ⟨v, hv, by rw [hrb, hq1], (frM 89 (by omega)).trans hk89⟩⟩
    · exact absurd hq2.1 hP
    · exact absurd hq2.2 hP.2
  · subst hCe
    rcases hb with ⟨hP, lx2, n1, r1, a1, mS1, mN1, mR1, bS, bN, bR, bT, bA, hmb2, hrb, hMb, hb86, hb87, hb88, hEq⟩ | ⟨hP, hMb, hb86, hb87, hb88⟩ | ⟨hP, hMb, hb86, hb87, hb88⟩
    · exact absurd hP.1 hn
    · have hE : ∀ j : Int, 0 ≤ j → j ≤ 81 → Cb j = Ck j := fun j h1 h2 => frM j (by omega)
      have hR1 := hRI
      exact ⟨1, Or.inr (Or.inl rfl), hr, ⟨pn, pf, kc, nn, ww, ee, lc, pm, pS, pN, pR, pT, pA, oS, oN, oR, oT, oA, tr, sn, sw, se, q0, q1, q2, q3, q4, mb, ak, fa, fb, mn, mr, ma, ab, bl, mz, mw, mS, mN, mR, of, ⟨(RIx_cg hE hR1), hMb, ((frM 83 (by omega)).trans ((frk 83 (by omega) (by omega)).trans h83)), ((frM 84 (by omega)).trans ((frk 84 (by omega) (by omega)).trans h84)), ((frM 85 (by omega)).trans ((frk 85 (by omega) (by omega)).trans h85)), hb86, hb87, hb88, ((frM 89 (by omega)).trans hout), hmz, hrel, hlst, hfab, hra⟩, (by omega)⟩, fun h => absurd h (by omega)⟩
    · exact absurd hP.1 hn
  · subst hCe
    rcases hb with ⟨hP, lx2, n1, r1, a1, mS1, mN1, mR1, bS, bN, bR, bT, bA, hmb2, hrb, hMb, hb86, hb87, hb88, hEq⟩ | ⟨hP, hMb, hb86, hb87, hb88⟩ | ⟨hP, hMb, hb86, hb87, hb88⟩
    · exact absurd hP.2 hn.2
    · exact absurd hn.1 hP
    · have hE : ∀ j : Int, 0 ≤ j → j ≤ 81 → Cb j = Ck j := fun j h1 h2 => frM j (by omega)
      have hR1 := hRI
      exact ⟨2, Or.inr (Or.inr rfl), hr, ⟨pn, pf, kc, nn, ww, ee, lc, pm, pS, pN, pR, pT, pA, oS, oN, oR, oT, oA, tr, sn, sw, se, q0, q1, q2, q3, q4, mb, ak, fa, fb, mn, mr, ma, ab, bl, mz, mw, mS, mN, mR, of, ⟨(RIx_cg hE hR1), hMb, ((frM 83 (by omega)).trans ((frk 83 (by omega) (by omega)).trans h83)), ((frM 84 (by omega)).trans ((frk 84 (by omega) (by omega)).trans h84)), ((frM 85 (by omega)).trans ((frk 85 (by omega) (by omega)).trans h85)), hb86, hb87, hb88, ((frM 89 (by omega)).trans hout), hmz, hrel, hlst, hfab, hra⟩, (by omega)⟩, fun h => absurd h (by omega)⟩
theorem st_absent {k : Nat → ClassId} {AD : Int → Nat} {C Ck Cb : Int → va_E} {rk : Int32} {rb : Int32} {t th : Int} {pn : Int} {pf : Int → Int} {kc : Int} {nn : Int → Int} {ww : Int → Int → Int} {ee : Int → Int → Int} {lc : Int} {pm : Int → Int} {pS : Int → Int} {pN : Int → Int} {pR : Int → Int} {pT : Int → Int} {pA : Int → Int} {oS : Int → Int} {oN : Int → Int} {oR : Int → Int} {oT : Int → Int} {oA : Int → Int} {tr : Int} {sn : Int} {sw : Int → Int} {se : Int → Int} {q0 : Int} {q1 : Int} {q2 : Int} {q3 : Int} {q4 : Int} {mb : Int → Int} {ak : Int → Int} {fa : Int} {fb : Int} {mn : Int} {mr : Int} {ma : Int} {ab : Int} {bl : Int} {mz : Int → Int} {mw : Int → Int} {mS : Int → Int} {mN : Int → Int} {mR : Int → Int} {of : Int → Int} {a : Int} {b : Int} {s0 : Int} (hI : INVx k AD C th pn pf kc nn ww ee lc pm pS pN pR pT pA oS oN oR oT oA tr sn sw se q0 q1 q2 q3 q4 mb ak fa fb mn mr ma ab bl mz mw mS mN mR of) (ht : tr ≤ t) (hk : (fun r C' => ((r = zI 0 ∧ ∃ (v : Int) (C1 : Int → va_E), inI v ∧ (fun r C' => ((0 ≤ a ∧ a < kc) ∧ (0 ≤ b ∧ b < kc)) ∧ (nn b < 24 ∧ -24 ≤ s0 ∧ s0 ≤ 24) ∧ r = zI (abS (ww a) (nn a) (ww b) (nn b) s0 (nn b + 1).toNat).1 ∧ (∃ (sn1 : Int) (sw1 se1 : Int → Int) (r0 r1 r2 r3 r4 : Int), RIx k AD C' pn pf kc nn ww ee lc pm pS pN pR pT pA oS oN oR oT oA tr sn1 sw1 se1 r0 r1 r2 r3 r4 mb ak) ∧ ∀ j : Int, ¬ (0 ≤ j ∧ j ≤ 81) → C' j = C j) (zI v) C1 ∧ C' 89 = aL (k 2) 1 (zup of 0 v) ∧ ∀ j : Int, j ≠ 89 → C' j = C1 j) ∨ (r = zI 1 ∧ (¬ ((0 ≤ a ∧ a < kc) ∧ (0 ≤ b ∧ b < kc))) ∧ C' = C) ∨ (r = zI 2 ∧ (((0 ≤ a ∧ a < kc) ∧ (0 ≤ b ∧ b < kc)) ∧ ¬ (nn b < 24 ∧ -24 ≤ s0 ∧ s0 ≤ 24)) ∧ C' = C)) ∧ ∀ j : Int, 82 ≤ j → j ≠ 89 → C' j = C j) rk Ck) (hb : (fun (C : Int → va_E) => fun r C' => ((((0 ≤ a ∧ a < kc) ∧ (0 ≤ b ∧ b < kc)) ∧ (mz b < 24 ∧ -24 ≤ s0 ∧ s0 ≤ 24) ∧ r = zI (abS (WM mw a) (mz a) (WM mw b) (mz b) s0 (mz b + 1).toNat).1 ∧ ∃ (n1 r1 a1 : Int) (mz1 m1 : Int → Int), C' 82 = .inr (4, [.int (zI 0), .int (zI pn), .ref (AD 83), .int (zI kc), .ref (AD 84), .ref (AD 85), .int (zI tr), .int (zI lc), .int (zI fa), .int (zI fb), .ref (AD 86), .ref (AD 87), .ref (AD 88), .int (zI n1), .int (zI r1), .int (zI a1), .long (zL ab), .long (zL bl)]) ∧ C' 84 = aI (k 0) 9 mz1 ∧ C' 85 = aI (k 0) 216 m1 ∧ (∀ j : Int, j ≠ 8 → mz1 j = mz j) ∧ (0 ≤ mz1 8 ∧ mz1 8 ≤ 24) ∧ ∀ j : Int, j < 192 → m1 j = mw j) ∨ (¬ ((0 ≤ a ∧ a < kc) ∧ (0 ≤ b ∧ b < kc)) ∧ C' 82 = .inr (4, [.int (zI 1), .int (zI pn), .ref (AD 83), .int (zI kc), .ref (AD 84), .ref (AD 85), .int (zI tr), .int (zI lc), .int (zI fa), .int (zI fb), .ref (AD 86), .ref (AD 87), .ref (AD 88), .int (zI mn), .int (zI mr), .int (zI ma), .long (zL ab), .long (zL bl)]) ∧ C' 84 = aI (k 0) 9 mz ∧ C' 85 = aI (k 0) 216 mw) ∨ (((0 ≤ a ∧ a < kc) ∧ (0 ≤ b ∧ b < kc)) ∧ ¬ (mz b < 24 ∧ -24 ≤ s0 ∧ s0 ≤ 24) ∧ C' 82 = .inr (4, [.int (zI 2), .int (zI pn), .ref (AD 83), .int (zI kc), .ref (AD 84), .ref (AD 85), .int (zI tr), .int (zI lc), .int (zI fa), .int (zI fb), .ref (AD 86), .ref (AD 87), .ref (AD 88), .int (zI mn), .int (zI mr), .int (zI ma), .long (zL ab), .long (zL bl)]) ∧ C' 84 = aI (k 0) 9 mz ∧ C' 85 = aI (k 0) 216 mw)) ∧ ∀ j : Int, ¬ (j = 82 ∨ (84 ≤ j ∧ j ≤ 85)) → C' j = C j) Ck rb Cb) : ∃ u : Int, (u = 0 ∨ u = 1 ∨ u = 2) ∧ rk = zI u ∧ INV k AD Cb (t + 47) u ∧ (u = 0 → ∃ v : Int, inI v ∧ rb = zI v ∧ Cb 89 = aL (k 2) 1 (zup of 0 v)) := by
  obtain ⟨hRI, hM, h83, h84, h85, h86, h87, h88, hout, hmz, hrel, hlst, hfab, hra⟩ := hI
  obtain ⟨hk, frk⟩ := hk
  obtain ⟨hb, frM⟩ := hb
  have hkc9 : 0 ≤ kc ∧ kc ≤ 8 := (by obtain ⟨_, _, _, _, _, _, _, _, _, _, _, _, _, _, _, _, _, _, hkc, _⟩ := hRI; exact hkc)
  rcases hk with ⟨hr, v, C1, hv, hp, hk89, hk1⟩ | ⟨hr, hn, hCe⟩ | ⟨hr, hn, hCe⟩
  · obtain ⟨hq2, hq3, hq1, ⟨sn1, sw1, se1, r0, r1, r2, r3, r4, hR1⟩, hF⟩ := hp
    obtain ⟨z1, _, w1⟩ := hrel a hq2.1.1 hq2.1.2
    obtain ⟨z2, _, w2⟩ := hrel b hq2.2.1 hq2.2.2
    rcases hb with ⟨hP, hP2, hrb, n1, s1, a1, mz1, m1, hMb, hb84, hb85, ezn, ez8, hlo⟩ | ⟨hP, hMb, hb84, hb85⟩ | ⟨hP, hP2, hMb, hb84, hb85⟩
    · have hE : ∀ j : Int, 0 ≤ j → j ≤ 81 → Cb j = C1 j := fun j h1 h2 => (frM j (by omega)).trans (hk1 j (by omega))
      have hrel2 : ∀ i : Int, 0 ≤ i → i < kc → mz1 i = nn i ∧ MOK m1 i (mz1 i) ∧ ∀ j : Int, 0 ≤ j → j < nn i → WM m1 i j = ww i j := by
        intro i h1 h2
        obtain ⟨q1, q2, q3⟩ := hrel i h1 h2
        have q5 := hmz i h1 (by omega)
        have q4 := ezn i (by omega)
        refine ⟨q4.trans q1, fun j a9 b9 => ?_, fun j a9 b9 => ?_⟩
        · rw [hlo _ (by omega)]; exact q2 j a9 (by omega)
        · unfold WM; rw [hlo _ (by omega)]; exact q3 j a9 b9
      have hmz2 : ∀ i : Int, 0 ≤ i → i < 9 → 0 ≤ mz1 i ∧ mz1 i ≤ 24 := fun i h1 h2 => by by_cases e : i = 8; rw [e]; exact ez8; rw [ezn i e]; exact hmz i h1 h2
      have hnn : 0 ≤ nn b := by have := hmz b (by omega) (by omega); omega
      have hve : rb = zI v := by rw [hrb, hq1, z1, z2, abS_eq w1 w2 _ (by omega)]
      exact ⟨0, Or.inl rfl, hr, ⟨pn, pf, kc, nn, ww, ee, lc, pm, pS, pN, pR, pT, pA, oS, oN, oR, oT, oA, tr, sn1, sw1, se1, r0, r1, r2, r3, r4, mb, ak, fa, fb, n1, s1, a1, ab, bl, mz1, m1, mS, mN, mR, (zup of 0 v), ⟨(RIx_cg hE hR1), hMb, ((frM 83 (by omega)).trans ((frk 83 (by omega) (by omega)).trans h83)), hb84, hb85, ((frM 86 (by omega)).trans ((frk 86 (by omega) (by omega)).trans h86)), ((frM 87 (by omega)).trans ((frk 87 (by omega) (by omega)).trans h87)), ((frM 88 (by omega)).trans ((frk 88 (by omega) (by omega)).trans h88)), ((frM 89 (by omega)).trans hk89), hmz2, hrel2, hlst, hfab, hra⟩, (by omega)⟩, fun _ => ⟨v, hv, hve, (frM 89 (by omega)).trans hk89⟩⟩
    · exact absurd hq2 hP
    · exact absurd ⟨by rw [z2]; exact hq3.1, hq3.2⟩ hP2
  · subst hCe
    rcases hb with ⟨hP, hP2, hrb, n1, s1, a1, mz1, m1, hMb, hb84, hb85, ezn, ez8, hlo⟩ | ⟨hP, hMb, hb84, hb85⟩ | ⟨hP, hP2, hMb, hb84, hb85⟩
    · exact absurd hP hn
    · have hE : ∀ j : Int, 0 ≤ j → j ≤ 81 → Cb j = Ck j := fun j h1 h2 => frM j (by omega)
      have hR1 := hRI
      exact ⟨1, Or.inr (Or.inl rfl), hr, ⟨pn, pf, kc, nn, ww, ee, lc, pm, pS, pN, pR, pT, pA, oS, oN, oR, oT, oA, tr, sn, sw, se, q0, q1, q2, q3, q4, mb, ak, fa, fb, mn, mr, ma, ab, bl, mz, mw, mS, mN, mR, of, ⟨(RIx_cg hE hR1), hMb, ((frM 83 (by omega)).trans ((frk 83 (by omega) (by omega)).trans h83)), hb84, hb85, ((frM 86 (by omega)).trans ((frk 86 (by omega) (by omega)).trans h86)), ((frM 87 (by omega)).trans ((frk 87 (by omega) (by omega)).trans h87)), ((frM 88 (by omega)).trans ((frk 88 (by omega) (by omega)).trans h88)), ((frM 89 (by omega)).trans hout), hmz, hrel, hlst, hfab, hra⟩, (by omega)⟩, fun h => absurd h (by omega)⟩
    · exact absurd hP hn
  · subst hCe
    rcases hb with ⟨hP, hP2, hrb, n1, s1, a1, mz1, m1, hMb, hb84, hb85, ezn, ez8, hlo⟩ | ⟨hP, hMb, hb84, hb85⟩ | ⟨hP, hP2, hMb, hb84, hb85⟩
    · have z2 := (hrel b hP.2.1 hP.2.2).1; exact absurd ⟨by rw [← z2]; exact hP2.1, hP2.2⟩ hn.2
    · exact absurd hn.1 hP
    · have hE : ∀ j : Int, 0 ≤ j → j ≤ 81 → Cb j = Ck j := fun j h1 h2 => frM j (by omega)
      have hR1 := hRI
      exact ⟨2, Or.inr (Or.inr rfl), hr, ⟨pn, pf, kc, nn, ww, ee, lc, pm, pS, pN, pR, pT, pA, oS, oN, oR, oT, oA, tr, sn, sw, se, q0, q1, q2, q3, q4, mb, ak, fa, fb, mn, mr, ma, ab, bl, mz, mw, mS, mN, mR, of, ⟨(RIx_cg hE hR1), hMb, ((frM 83 (by omega)).trans ((frk 83 (by omega) (by omega)).trans h83)), hb84, hb85, ((frM 86 (by omega)).trans ((frk 86 (by omega) (by omega)).trans h86)), ((frM 87 (by omega)).trans ((frk 87 (by omega) (by omega)).trans h87)), ((frM 88 (by omega)).trans ((frk 88 (by omega) (by omega)).trans h88)), ((frM 89 (by omega)).trans hout), hmz, hrel, hlst, hfab, hra⟩, (by omega)⟩, fun h => absurd h (by omega)⟩
theorem st_group {k : Nat → ClassId} {AD : Int → Nat} {C Ck Cb : Int → va_E} {rk : Int32} {rb : Int32} {t th : Int} {pn : Int} {pf : Int → Int} {kc : Int} {nn : Int → Int} {ww : Int → Int → Int} {ee : Int → Int → Int} {lc : Int} {pm : Int → Int} {pS : Int → Int} {pN : Int → Int} {pR : Int → Int} {pT : Int → Int} {pA : Int → Int} {oS : Int → Int} {oN : Int → Int} {oR : Int → Int} {oT : Int → Int} {oA : Int → Int} {tr : Int} {sn : Int} {sw : Int → Int} {se : Int → Int} {q0 : Int} {q1 : Int} {q2 : Int} {q3 : Int} {q4 : Int} {mb : Int → Int} {ak : Int → Int} {fa : Int} {fb : Int} {mn : Int} {mr : Int} {ma : Int} {ab : Int} {bl : Int} {mz : Int → Int} {mw : Int → Int} {mS : Int → Int} {mN : Int → Int} {mR : Int → Int} {of : Int → Int} {s0 : Int} {least : Int} {bound : Int} (hI : INVx k AD C th pn pf kc nn ww ee lc pm pS pN pR pT pA oS oN oR oT oA tr sn sw se q0 q1 q2 q3 q4 mb ak fa fb mn mr ma ab bl mz mw mS mN mR of) (ht : tr ≤ t) (hk : (fun r C' => ((r = zI 0 ∧ ∃ (v : Int) (C1 : Int → va_E), inI v ∧ (fun r C' => (0 ≤ s0 ∧ s0 < kc) ∧ (3 ≤ least ∧ least ≤ 24) ∧ (∃ z : Int, r = zI z ∧ isGrp (Jn nn ww least bound) kc s0 z) ∧ (∃ (r0 r1 r2 r3 r4 : Int) (mb2 ak2 : Int → Int), RIx k AD C' pn pf kc nn ww ee lc pm pS pN pR pT pA oS oN oR oT oA tr sn sw se r0 r1 r2 r3 r4 mb2 ak2) ∧ ∀ j : Int, ¬ (0 ≤ j ∧ j ≤ 81) → C' j = C j) (zI v) C1 ∧ C' 89 = aL (k 2) 1 (zup of 0 v) ∧ ∀ j : Int, j ≠ 89 → C' j = C1 j) ∨ (r = zI 1 ∧ (¬ (0 ≤ s0 ∧ s0 < kc)) ∧ C' = C) ∨ (r = zI 2 ∧ ((0 ≤ s0 ∧ s0 < kc) ∧ ¬ (3 ≤ least ∧ least ≤ 24)) ∧ C' = C)) ∧ ∀ j : Int, 82 ≤ j → j ≠ 89 → C' j = C j) rk Ck) (hb : (fun (C : Int → va_E) => fun r C' => (((0 ≤ s0 ∧ s0 < kc) ∧ (3 ≤ least ∧ least ≤ 24) ∧ (∃ z : Int, r = zI z ∧ isGrp (Jn mz (WM mw) least bound) kc s0 z) ∧ ∃ n1 r1 a1 : Int, C' 82 = .inr (4, [.int (zI 0), .int (zI pn), .ref (AD 83), .int (zI kc), .ref (AD 84), .ref (AD 85), .int (zI tr), .int (zI lc), .int (zI fa), .int (zI fb), .ref (AD 86), .ref (AD 87), .ref (AD 88), .int (zI n1), .int (zI r1), .int (zI a1), .long (zL ab), .long (zL bl)])) ∨ (¬ (0 ≤ s0 ∧ s0 < kc) ∧ C' 82 = .inr (4, [.int (zI 1), .int (zI pn), .ref (AD 83), .int (zI kc), .ref (AD 84), .ref (AD 85), .int (zI tr), .int (zI lc), .int (zI fa), .int (zI fb), .ref (AD 86), .ref (AD 87), .ref (AD 88), .int (zI mn), .int (zI mr), .int (zI ma), .long (zL ab), .long (zL bl)])) ∨ ((0 ≤ s0 ∧ s0 < kc) ∧ ¬ (3 ≤ least ∧ least ≤ 24) ∧ C' 82 = .inr (4, [.int (zI 2), .int (zI pn), .ref (AD 83), .int (zI kc), .ref (AD 84), .ref (AD 85), .int (zI tr), .int (zI lc), .int (zI fa), .int (zI fb), .ref (AD 86), .ref (AD 87), .ref (AD 88), .int (zI mn), .int (zI mr), .int (zI ma), .long (zL ab), .long (zL bl)]))) ∧ ∀ j : Int, j ≠ 82 → C' j = C j) Ck rb Cb) : ∃ u : Int, (u = 0 ∨ u = 1 ∨ u = 2) ∧ rk = zI u ∧ INV k AD Cb (t + 47) u ∧ (u = 0 → ∃ v : Int, inI v ∧ rb = zI v ∧ Cb 89 = aL (k 2) 1 (zup of 0 v)) := by
  obtain ⟨hRI, hM, h83, h84, h85, h86, h87, h88, hout, hmz, hrel, hlst, hfab, hra⟩ := hI
  obtain ⟨hk, frk⟩ := hk
  obtain ⟨hb, frM⟩ := hb
  have hcg : ∀ a b : Int, 0 ≤ a → a < kc → 0 ≤ b → b < kc → (Jn nn ww least bound a b ↔ Jn mz (WM mw) least bound a b) := fun a b h1 h2 h3 h4 => by
    obtain ⟨q1, _, q3⟩ := hrel a h1 h2
    obtain ⟨p1, _, p3⟩ := hrel b h3 h4
    exact Jn_cg ⟨q1, q3⟩ ⟨p1, p3⟩
  rcases hk with ⟨hr, v, C1, hv, hp, hk89, hk1⟩ | ⟨hr, hn, hCe⟩ | ⟨hr, hn, hCe⟩
  · obtain ⟨hq2, hq3, ⟨z, hq1, hg1⟩, ⟨r0, r1, r2, r3, r4, mb2, ak2, hR1⟩, hF⟩ := hp
    rcases hb with ⟨hP, hP2, ⟨z2, hrb, hg2⟩, n1, s1, a1, hMb⟩ | ⟨hP, hMb⟩ | ⟨hP, hP2, hMb⟩
    · have hE : ∀ j : Int, 0 ≤ j → j ≤ 81 → Cb j = C1 j := fun j h1 h2 => (frM j (by omega)).trans (hk1 j (by omega))
      have hve : rb = zI v := by rw [hrb, hq1, isGrp_one hg2 (isGrp_cg hcg hg1)]
      exact ⟨0, Or.inl rfl, hr, ⟨pn, pf, kc, nn, ww, ee, lc, pm, pS, pN, pR, pT, pA, oS, oN, oR, oT, oA, tr, sn, sw, se, r0, r1, r2, r3, r4, mb2, ak2, fa, fb, n1, s1, a1, ab, bl, mz, mw, mS, mN, mR, (zup of 0 v), ⟨(RIx_cg hE hR1), hMb, ((frM 83 (by omega)).trans ((frk 83 (by omega) (by omega)).trans h83)), ((frM 84 (by omega)).trans ((frk 84 (by omega) (by omega)).trans h84)), ((frM 85 (by omega)).trans ((frk 85 (by omega) (by omega)).trans h85)), ((frM 86 (by omega)).trans ((frk 86 (by omega) (by omega)).trans h86)), ((frM 87 (by omega)).trans ((frk 87 (by omega) (by omega)).trans h87)), ((frM 88 (by omega)).trans ((frk 88 (by omega) (by omega)).trans h88)), ((frM 89 (by omega)).trans hk89), hmz, hrel, hlst, hfab, hra⟩, (by omega)⟩, fun _ => ⟨v, hv, hve, (frM 89 (by omega)).trans hk89⟩⟩
    · exact absurd hq2 hP
    · exact absurd hq3 hP2
  · subst hCe
    rcases hb with ⟨hP, hP2, ⟨z2, hrb, hg2⟩, n1, s1, a1, hMb⟩ | ⟨hP, hMb⟩ | ⟨hP, hP2, hMb⟩
    · exact absurd hP hn
    · have hE : ∀ j : Int, 0 ≤ j → j ≤ 81 → Cb j = Ck j := fun j h1 h2 => frM j (by omega)
      have hR1 := hRI
      exact ⟨1, Or.inr (Or.inl rfl), hr, ⟨pn, pf, kc, nn, ww, ee, lc, pm, pS, pN, pR, pT, pA, oS, oN, oR, oT, oA, tr, sn, sw, se, q0, q1, q2, q3, q4, mb, ak, fa, fb, mn, mr, ma, ab, bl, mz, mw, mS, mN, mR, of, ⟨(RIx_cg hE hR1), hMb, ((frM 83 (by omega)).trans ((frk 83 (by omega) (by omega)).trans h83)), ((frM 84 (by omega)).trans ((frk 84 (by omega) (by omega)).trans h84)), ((frM 85 (by omega)).trans ((frk 85 (by omega) (by omega)).trans h85)), ((frM 86 (by omega)).trans ((frk 86 (by omega) (by omega)).trans h86)), ((frM 87 (by omega)).trans ((frk 87 (by omega) (by omega)).trans h87)), ((frM 88 (by omega)).trans ((frk 88 (by omega) (by omega)).trans h88)), ((frM 89 (by omega)).trans hout), hmz, hrel, hlst, hfab, hra⟩, (by omega)⟩, fun h => absurd h (by omega)⟩
    · exact absurd hP hn
  · subst hCe
    rcases hb with ⟨hP, hP2, ⟨z2, hrb, hg2⟩, n1, s1, a1, hMb⟩ | ⟨hP, hMb⟩ | ⟨hP, hP2, hMb⟩
    · exact absurd hP2 hn.2
    · exact absurd hn.1 hP
    · have hE : ∀ j : Int, 0 ≤ j → j ≤ 81 → Cb j = Ck j := fun j h1 h2 => frM j (by omega)
      have hR1 := hRI
      exact ⟨2, Or.inr (Or.inr rfl), hr, ⟨pn, pf, kc, nn, ww, ee, lc, pm, pS, pN, pR, pT, pA, oS, oN, oR, oT, oA, tr, sn, sw, se, q0, q1, q2, q3, q4, mb, ak, fa, fb, mn, mr, ma, ab, bl, mz, mw, mS, mN, mR, of, ⟨(RIx_cg hE hR1), hMb, ((frM 83 (by omega)).trans ((frk 83 (by omega) (by omega)).trans h83)), ((frM 84 (by omega)).trans ((frk 84 (by omega) (by omega)).trans h84)), ((frM 85 (by omega)).trans ((frk 85 (by omega) (by omega)).trans h85)), ((frM 86 (by omega)).trans ((frk 86 (by omega) (by omega)).trans h86)), ((frM 87 (by omega)).trans ((frk 87 (by omega) (by omega)).trans h87)), ((frM 88 (by omega)).trans ((frk 88 (by omega) (by omega)).trans h88)), ((frM 89 (by omega)).trans hout), hmz, hrel, hlst, hfab, hra⟩, (by omega)⟩, fun h => absurd h (by omega)⟩
theorem st_core {k : Nat → ClassId} {AD : Int → Nat} {C Ck Cb : Int → va_E} {rk : Int32} {rb : Int32} {t th : Int} {pn : Int} {pf : Int → Int} {kc : Int} {nn : Int → Int} {ww : Int → Int → Int} {ee : Int → Int → Int} {lc : Int} {pm : Int → Int} {pS : Int → Int} {pN : Int → Int} {pR : Int → Int} {pT : Int → Int} {pA : Int → Int} {oS : Int → Int} {oN : Int → Int} {oR : Int → Int} {oT : Int → Int} {oA : Int → Int} {tr : Int} {sn : Int} {sw : Int → Int} {se : Int → Int} {q0 : Int} {q1 : Int} {q2 : Int} {q3 : Int} {q4 : Int} {mb : Int → Int} {ak : Int → Int} {fa : Int} {fb : Int} {mn : Int} {mr : Int} {ma : Int} {ab : Int} {bl : Int} {mz : Int → Int} {mw : Int → Int} {mS : Int → Int} {mN : Int → Int} {mR : Int → Int} {of : Int → Int} {a : Int} {b : Int} {s0 : Int} (hI : INVx k AD C th pn pf kc nn ww ee lc pm pS pN pR pT pA oS oN oR oT oA tr sn sw se q0 q1 q2 q3 q4 mb ak fa fb mn mr ma ab bl mz mw mS mN mR of) (ht : tr ≤ t) (hk : (fun r C' => ((r = zI 0 ∧ ∃ (v : Int) (C1 : Int → va_E), inI v ∧ (fun r C' => ((0 ≤ a ∧ a < kc) ∧ (0 ≤ b ∧ b < kc)) ∧ kc < 8 ∧ ((¬ ((- nn b < s0 ∧ s0 < nn a) ∧ (max (nn a) (nn b + s0) - min 0 s0) ≤ 24) ∧ r = zI (-1) ∧ C' = C) ∨ (((- nn b < s0 ∧ s0 < nn a) ∧ (max (nn a) (nn b + s0) - min 0 s0) ≤ 24) ∧ r = zI kc ∧ ∃ w9 e9 : Int → Int, (∀ j : Int, 0 ≤ j → j < (max (nn a) (nn b + s0) - min 0 s0) → w9 j = corW (ww a) (nn a) (ww b) (nn b) s0 j) ∧ RIx k AD C' pn pf (kc + 1) (zup nn kc (max (nn a) (nn b + s0) - min 0 s0)) (zup ww kc w9) (zup ee kc e9) lc pm pS pN pR pT pA oS oN oR oT oA tr sn sw se q0 q1 q2 q3 q4 mb ak)) ∧ ∀ j : Int, ¬ (0 ≤ j ∧ j ≤ 81) → C' j = C j) (zI v) C1 ∧ C' 89 = aL (k 2) 1 (zup of 0 v) ∧ ∀ j : Int, j ≠ 89 → C' j = C1 j) ∨ (r = zI 1 ∧ (¬ ((0 ≤ a ∧ a < kc) ∧ (0 ≤ b ∧ b < kc))) ∧ C' = C) ∨ (r = zI 2 ∧ (((0 ≤ a ∧ a < kc) ∧ (0 ≤ b ∧ b < kc)) ∧ ¬ kc < 8) ∧ C' = C)) ∧ ∀ j : Int, 82 ≤ j → j ≠ 89 → C' j = C j) rk Ck) (hb : (fun (C : Int → va_E) => fun r C' => ((((0 ≤ a ∧ a < kc) ∧ (0 ≤ b ∧ b < kc)) ∧ kc < 8 ∧ ((¬ ((- mz b < s0 ∧ s0 < mz a) ∧ (max (mz a) (mz b + s0) - min 0 s0) ≤ 24) ∧ r = zI (-1) ∧ C' 82 = .inr (4, [.int (zI 0), .int (zI pn), .ref (AD 83), .int (zI kc), .ref (AD 84), .ref (AD 85), .int (zI tr), .int (zI lc), .int (zI fa), .int (zI fb), .ref (AD 86), .ref (AD 87), .ref (AD 88), .int (zI mn), .int (zI mr), .int (zI ma), .long (zL ab), .long (zL bl)]) ∧ C' 84 = aI (k 0) 9 mz ∧ C' 85 = aI (k 0) 216 mw) ∨ (((- mz b < s0 ∧ s0 < mz a) ∧ (max (mz a) (mz b + s0) - min 0 s0) ≤ 24) ∧ r = zI kc ∧ ∃ m1 : Int → Int, C' 82 = .inr (4, [.int (zI 0), .int (zI pn), .ref (AD 83), .int (zI (kc + 1)), .ref (AD 84), .ref (AD 85), .int (zI tr), .int (zI lc), .int (zI fa), .int (zI fb), .ref (AD 86), .ref (AD 87), .ref (AD 88), .int (zI mn), .int (zI mr), .int (zI ma), .long (zL ab), .long (zL bl)]) ∧ C' 84 = aI (k 0) 9 (zup mz kc (max (mz a) (mz b + s0) - min 0 s0)) ∧ C' 85 = aI (k 0) 216 m1 ∧ (∀ j : Int, 0 ≤ j → j < (max (mz a) (mz b + s0) - min 0 s0) → WM m1 kc j = corW (WM mw a) (mz a) (WM mw b) (mz b) s0 j) ∧ MOK m1 kc (max (mz a) (mz b + s0) - min 0 s0) ∧ ∀ j : Int, j < 24 * kc → m1 j = mw j))) ∨ (¬ ((0 ≤ a ∧ a < kc) ∧ (0 ≤ b ∧ b < kc)) ∧ C' 82 = .inr (4, [.int (zI 1), .int (zI pn), .ref (AD 83), .int (zI kc), .ref (AD 84), .ref (AD 85), .int (zI tr), .int (zI lc), .int (zI fa), .int (zI fb), .ref (AD 86), .ref (AD 87), .ref (AD 88), .int (zI mn), .int (zI mr), .int (zI ma), .long (zL ab), .long (zL bl)]) ∧ C' 84 = aI (k 0) 9 mz ∧ C' 85 = aI (k 0) 216 mw) ∨ (((0 ≤ a ∧ a < kc) ∧ (0 ≤ b ∧ b < kc)) ∧ ¬ kc < 8 ∧ C' 82 = .inr (4, [.int (zI 2), .int (zI pn), .ref (AD 83), .int (zI kc), .ref (AD 84), .ref (AD 85), .int (zI tr), .int (zI lc), .int (zI fa), .int (zI fb), .ref (AD 86), .ref (AD 87), .ref (AD 88), .int (zI mn), .int (zI mr), .int (zI ma), .long (zL ab), .long (zL bl)]) ∧ C' 84 = aI (k 0) 9 mz ∧ C' 85 = aI (k 0) 216 mw)) ∧ ∀ j : Int, ¬ (j = 82 ∨ (84 ≤ j ∧ j ≤ 85)) → C' j = C j) Ck rb Cb) : ∃ u : Int, (u = 0 ∨ u = 1 ∨ u = 2) ∧ rk = zI u ∧ INV k AD Cb (t + 47) u ∧ (u = 0 → ∃ v : Int, inI v ∧ rb = zI v ∧ Cb 89 = aL (k 2) 1 (zup of 0 v)) := by
  obtain ⟨hRI, hM, h83, h84, h85, h86, h87, h88, hout, hmz, hrel, hlst, hfab, hra⟩ := hI
  obtain ⟨hk, frk⟩ := hk
  obtain ⟨hb, frM⟩ := hb
  have hkc9 : 0 ≤ kc ∧ kc ≤ 8 := (by obtain ⟨_, _, _, _, _, _, _, _, _, _, _, _, _, _, _, _, _, _, hkc, _⟩ := hRI; exact hkc)
  rcases hk with ⟨hr, v, C1, hv, hp, hk89, hk1⟩ | ⟨hr, hn, hCe⟩ | ⟨hr, hn, hCe⟩
  · obtain ⟨hq2, hq3, hcs, hF⟩ := hp
    obtain ⟨z1, _, w1⟩ := hrel a hq2.1.1 hq2.1.2
    obtain ⟨z2, _, w2⟩ := hrel b hq2.2.1 hq2.2.2
    rcases hb with ⟨hP, hP2, hbs⟩ | ⟨hP, hMb, hb84, hb85⟩ | ⟨hP, hP2, hMb, hb84, hb85⟩
    · rw [z1, z2] at hbs
      rcases hcs with ⟨hc1, hq1, hC1⟩ | ⟨hc1, hq1, w9, e9, hw9, hR1⟩
      · rcases hbs with ⟨hc2, hrb, hMb, hb84, hb85⟩ | ⟨hc2, hrb, m1, hMb, hb84, hb85, hwc, hmo, hlo⟩
        · have hE : ∀ j : Int, 0 ≤ j → j ≤ 81 → Cb j = C j := fun j h1 h2 => (frM j (by omega)).trans ((hk1 j (by omega)).trans (by rw [hC1]))
          have hR1 := hRI
          exact ⟨0, Or.inl rfl, hr, ⟨pn, pf, kc, nn, ww, ee, lc, pm, pS, pN, pR, pT, pA, oS, oN, oR, oT, oA, tr, sn, sw, se, q0, q1, q2, q3, q4, mb, ak, fa, fb, mn, mr, ma, ab, bl, mz, mw, mS, mN, mR, (zup of 0 v), ⟨(RIx_cg hE hR1), hMb, ((frM 83 (by omega)).trans ((frk 83 (by omega) (by omega)).trans h83)), hb84, hb85, ((frM 86 (by omega)).trans ((frk 86 (by omega) (by omega)).trans h86)), ((frM 87 (by omega)).trans ((frk 87 (by omega) (by omega)).trans h87)), ((frM 88 (by omega)).trans ((frk 88 (by omega) (by omega)).trans h88)), ((frM 89 (by omega)).trans hk89), hmz, hrel, hlst, hfab, hra⟩, (by omega)⟩, fun _ => ⟨v, hv, by rw [hrb, hq1], (frM 89 (by omega)).trans hk89⟩⟩
        · exact absurd hc2 hc1
      · rcases hbs with ⟨hc2, hrb, hMb, hb84, hb85⟩ | ⟨hc2, hrb, m1, hMb, hb84, hb85, hwc, hmo, hlo⟩
        · exact absurd hc1 hc2
        · have hE : ∀ j : Int, 0 ≤ j → j ≤ 81 → Cb j = C1 j := fun j h1 h2 => (frM j (by omega)).trans (hk1 j (by omega))
          have hrel2 : ∀ i : Int, 0 ≤ i → i < kc + 1 → (zup mz kc (max (nn a) (nn b + s0) - min 0 s0)) i = zup nn kc (max (nn a) (nn b + s0) - min 0 s0) i ∧ MOK m1 i ((zup mz kc (max (nn a) (nn b + s0) - min 0 s0)) i) ∧ ∀ j : Int, 0 ≤ j → j < zup nn kc (max (nn a) (nn b + s0) - min 0 s0) i → WM m1 i j = zup ww kc w9 i j := by
            intro i h1 h2
            by_cases e : i = kc
            · rw [e, zup_s, zup_s, zup_s]
              exact ⟨rfl, hmo, fun j a9 b9 => by rw [hwc j a9 b9, hw9 j a9 b9]; exact corW_eq w1 w2 j⟩
            · rw [zup_n e, zup_n e, zup_n e]
              obtain ⟨q1, q2, q3⟩ := hrel i h1 (by omega)
              have q5 := hmz i h1 (by omega)
              refine ⟨q1, fun j a9 b9 => ?_, fun j a9 b9 => ?_⟩
              · rw [hlo _ (by omega)]; exact q2 j a9 b9
              · unfold WM; rw [hlo _ (by omega)]; exact q3 j a9 b9
          have hmz2 : ∀ i : Int, 0 ≤ i → i < 9 → 0 ≤ zup mz kc (max (nn a) (nn b + s0) - min 0 s0) i ∧ zup mz kc (max (nn a) (nn b + s0) - min 0 s0) i ≤ 24 := fun i h1 h2 => by by_cases e : i = kc; rw [e, zup_s]; omega; rw [zup_n e]; exact hmz i h1 h2
          have hra2 : ∀ r : Int, 0 ≤ r → r < lc → oT r = ovR (zup ww kc w9 fa) (zup nn kc (max (nn a) (nn b + s0) - min 0 s0) fa) (zup ww kc w9 fb) (zup nn kc (max (nn a) (nn b + s0) - min 0 s0) fb) (oS r) ∧ oA r = ovA (zup ww kc w9 fa) (zup nn kc (max (nn a) (nn b + s0) - min 0 s0) fa) (zup ww kc w9 fb) (zup nn kc (max (nn a) (nn b + s0) - min 0 s0) fb) (oS r) := fun r h1 h2 => by
            obtain ⟨f1, f2⟩ := hfab (by omega)
            have g1 : fa ≠ kc := by omega
            have g2 : fb ≠ kc := by omega
            rw [zup_n g1, zup_n g1, zup_n g2, zup_n g2]; exact hra r h1 h2
          exact ⟨0, Or.inl rfl, hr, ⟨pn, pf, (kc + 1), (zup nn kc (max (nn a) (nn b + s0) - min 0 s0)), (zup ww kc w9), (zup ee kc e9), lc, pm, pS, pN, pR, pT, pA, oS, oN, oR, oT, oA, tr, sn, sw, se, q0, q1, q2, q3, q4, mb, ak, fa, fb, mn, mr, ma, ab, bl, (zup mz kc (max (nn a) (nn b + s0) - min 0 s0)), m1, mS, mN, mR, (zup of 0 v), ⟨(RIx_cg hE hR1), hMb, ((frM 83 (by omega)).trans ((frk 83 (by omega) (by omega)).trans h83)), hb84, hb85, ((frM 86 (by omega)).trans ((frk 86 (by omega) (by omega)).trans h86)), ((frM 87 (by omega)).trans ((frk 87 (by omega) (by omega)).trans h87)), ((frM 88 (by omega)).trans ((frk 88 (by omega) (by omega)).trans h88)), ((frM 89 (by omega)).trans hk89), hmz2, hrel2, hlst, (fun h => by have := hfab h; omega), hra2⟩, (by omega)⟩, fun _ => ⟨v, hv, by rw [hrb, hq1], (frM 89 (by omega)).trans hk89⟩⟩
    · exact absurd hq2 hP
    · exact absurd hq3 hP2
  · subst hCe
    rcases hb with ⟨hP, hP2, hbs⟩ | ⟨hP, hMb, hb84, hb85⟩ | ⟨hP, hP2, hMb, hb84, hb85⟩
    · exact absurd hP hn
    · have hE : ∀ j : Int, 0 ≤ j → j ≤ 81 → Cb j = Ck j := fun j h1 h2 => frM j (by omega)
      have hR1 := hRI
      exact ⟨1, Or.inr (Or.inl rfl), hr, ⟨pn, pf, kc, nn, ww, ee, lc, pm, pS, pN, pR, pT, pA, oS, oN, oR, oT, oA, tr, sn, sw, se, q0, q1, q2, q3, q4, mb, ak, fa, fb, mn, mr, ma, ab, bl, mz, mw, mS, mN, mR, of, ⟨(RIx_cg hE hR1), hMb, ((frM 83 (by omega)).trans ((frk 83 (by omega) (by omega)).trans h83)), hb84, hb85, ((frM 86 (by omega)).trans ((frk 86 (by omega) (by omega)).trans h86)), ((frM 87 (by omega)).trans ((frk 87 (by omega) (by omega)).trans h87)), ((frM 88 (by omega)).trans ((frk 88 (by omega) (by omega)).trans h88)), ((frM 89 (by omega)).trans hout), hmz, hrel, hlst, hfab, hra⟩, (by omega)⟩, fun h => absurd h (by omega)⟩
    · exact absurd hP hn
  · subst hCe
    rcases hb with ⟨hP, hP2, hbs⟩ | ⟨hP, hMb, hb84, hb85⟩ | ⟨hP, hP2, hMb, hb84, hb85⟩
    · exact absurd hP2 hn.2
    · exact absurd hn.1 hP
    · have hE : ∀ j : Int, 0 ≤ j → j ≤ 81 → Cb j = Ck j := fun j h1 h2 => frM j (by omega)
      have hR1 := hRI
      exact ⟨2, Or.inr (Or.inr rfl), hr, ⟨pn, pf, kc, nn, ww, ee, lc, pm, pS, pN, pR, pT, pA, oS, oN, oR, oT, oA, tr, sn, sw, se, q0, q1, q2, q3, q4, mb, ak, fa, fb, mn, mr, ma, ab, bl, mz, mw, mS, mN, mR, of, ⟨(RIx_cg hE hR1), hMb, ((frM 83 (by omega)).trans ((frk 83 (by omega) (by omega)).trans h83)), hb84, hb85, ((frM 86 (by omega)).trans ((frk 86 (by omega) (by omega)).trans h86)), ((frM 87 (by omega)).trans ((frk 87 (by omega) (by omega)).trans h87)), ((frM 88 (by omega)).trans ((frk 88 (by omega) (by omega)).trans h88)), ((frM 89 (by omega)).trans hout), hmz, hrel, hlst, hfab, hra⟩, (by omega)⟩, fun h => absurd h (by omega)⟩
theorem st_read {k : Nat → ClassId} {AD : Int → Nat} {C Ck Cb : Int → va_E} {rk : Int32} {rb : Int32} {t th : Int} {pn : Int} {pf : Int → Int} {kc : Int} {nn : Int → Int} {ww : Int → Int → Int} {ee : Int → Int → Int} {lc : Int} {pm : Int → Int} {pS : Int → Int} {pN : Int → Int} {pR : Int → Int} {pT : Int → Int} {pA : Int → Int} {oS : Int → Int} {oN : Int → Int} {oR : Int → Int} {oT : Int → Int} {oA : Int → Int} {tr : Int} {sn : Int} {sw : Int → Int} {se : Int → Int} {q0 : Int} {q1 : Int} {q2 : Int} {q3 : Int} {q4 : Int} {mb : Int → Int} {ak : Int → Int} {fa : Int} {fb : Int} {mn : Int} {mr : Int} {ma : Int} {ab : Int} {bl : Int} {mz : Int → Int} {mw : Int → Int} {mS : Int → Int} {mN : Int → Int} {mR : Int → Int} {of : Int → Int} (hI : INVx k AD C th pn pf kc nn ww ee lc pm pS pN pR pT pA oS oN oR oT oA tr sn sw se q0 q1 q2 q3 q4 mb ak fa fb mn mr ma ab bl mz mw mS mN mR of) (ht : tr ≤ t) (hk : (fun r C' => ((r = zI 0 ∧ ∃ (v : Int) (C1 : Int → va_E), inI v ∧ (fun r C' => kc < 8 ∧ ((∃ x : Int, (0 ≤ x ∧ x < pn) ∧ okP pf x ∧ ¬ okS (pf x) (ps pf x.toNat) ∧ r = zI (-1 - x) ∧ ∃ (n9 : Int) (w9 e9 : Int → Int), RIx k AD C' 0 pf kc (zup nn kc n9) (zup ww kc w9) (zup ee kc e9) lc pm pS pN pR pT pA oS oN oR oT oA tr sn sw se q0 q1 q2 q3 q4 mb ak) ∨ (okP pf pn ∧ (ps pf pn.toNat).1 = 0 ∧ r = zI (-1 - pn) ∧ ∃ (n9 : Int) (w9 e9 : Int → Int), RIx k AD C' 0 pf kc (zup nn kc n9) (zup ww kc w9) (zup ee kc e9) lc pm pS pN pR pT pA oS oN oR oT oA tr sn sw se q0 q1 q2 q3 q4 mb ak) ∨ (∃ (rg cn : Int) (sw9 w9 e9 : Int → Int), okP pf pn ∧ ps pf pn.toNat = (rg, cn, sw9) ∧ ¬ rg = 0 ∧ r = zI kc ∧ (∀ j : Int, 0 ≤ j → j < cn + 1 → w9 j = zup sw9 cn rg j) ∧ RIx k AD C' 0 pf (kc + 1) (zup nn kc (cn + 1)) (zup ww kc w9) (zup ee kc e9) lc pm pS pN pR pT pA oS oN oR oT oA tr sn sw se q0 q1 q2 q3 q4 mb ak)) ∧ ∀ j : Int, ¬ (0 ≤ j ∧ j ≤ 81) → C' j = C j) (zI v) C1 ∧ C' 89 = aL (k 2) 1 (zup of 0 v) ∧ ∀ j : Int, j ≠ 89 → C' j = C1 j) ∨ (r = zI 1 ∧ (¬ kc < 8) ∧ C' = C)) ∧ ∀ j : Int, 82 ≤ j → j ≠ 89 → C' j = C j) rk Ck) (hb : (fun (C : Int → va_E) => fun r C' => ((kc < 8 ∧ ∃ mz1 m1 : Int → Int, C' 84 = aI (k 0) 9 mz1 ∧ C' 85 = aI (k 0) 216 m1 ∧ (∀ j : Int, j ≠ kc → mz1 j = mz j) ∧ (0 ≤ mz1 kc ∧ mz1 kc ≤ 24) ∧ (∀ j : Int, j < 24 * kc → m1 j = mw j) ∧ ((∃ x : Int, (0 ≤ x ∧ x < pn) ∧ okP pf x ∧ ¬ okS (pf x) (ps pf x.toNat) ∧ r = zI (-1 - x) ∧ C' 82 = .inr (4, [.int (zI 0), .int (zI 0), .ref (AD 83), .int (zI kc), .ref (AD 84), .ref (AD 85), .int (zI tr), .int (zI lc), .int (zI fa), .int (zI fb), .ref (AD 86), .ref (AD 87), .ref (AD 88), .int (zI mn), .int (zI mr), .int (zI ma), .long (zL ab), .long (zL bl)])) ∨ (okP pf pn ∧ (ps pf pn.toNat).1 = 0 ∧ r = zI (-1 - pn) ∧ C' 82 = .inr (4, [.int (zI 0), .int (zI 0), .ref (AD 83), .int (zI kc), .ref (AD 84), .ref (AD 85), .int (zI tr), .int (zI lc), .int (zI fa), .int (zI fb), .ref (AD 86), .ref (AD 87), .ref (AD 88), .int (zI mn), .int (zI mr), .int (zI ma), .long (zL ab), .long (zL bl)])) ∨ (∃ (q cn : Int) (sw : Int → Int), okP pf pn ∧ ps pf pn.toNat = (q, cn, sw) ∧ ¬ q = 0 ∧ (r = zI kc ∧ C' 82 = .inr (4, [.int (zI 0), .int (zI 0), .ref (AD 83), .int (zI (kc + 1)), .ref (AD 84), .ref (AD 85), .int (zI tr), .int (zI lc), .int (zI fa), .int (zI fb), .ref (AD 86), .ref (AD 87), .ref (AD 88), .int (zI mn), .int (zI mr), .int (zI ma), .long (zL ab), .long (zL bl)])) ∧ mz1 kc = cn + 1 ∧ MOK m1 kc (cn + 1) ∧ ∀ j : Int, 0 ≤ j → j < cn + 1 → WM m1 kc j = zup sw cn q j))) ∨ (¬ kc < 8 ∧ C' 82 = .inr (4, [.int (zI 1), .int (zI pn), .ref (AD 83), .int (zI kc), .ref (AD 84), .ref (AD 85), .int (zI tr), .int (zI lc), .int (zI fa), .int (zI fb), .ref (AD 86), .ref (AD 87), .ref (AD 88), .int (zI mn), .int (zI mr), .int (zI ma), .long (zL ab), .long (zL bl)]) ∧ C' 84 = aI (k 0) 9 mz ∧ C' 85 = aI (k 0) 216 mw)) ∧ ∀ j : Int, ¬ (j = 82 ∨ (84 ≤ j ∧ j ≤ 85)) → C' j = C j) Ck rb Cb) : ∃ u : Int, (u = 0 ∨ u = 1 ∨ u = 2) ∧ rk = zI u ∧ INV k AD Cb (t + 47) u ∧ (u = 0 → ∃ v : Int, inI v ∧ rb = zI v ∧ Cb 89 = aL (k 2) 1 (zup of 0 v)) := by
  obtain ⟨hRI, hM, h83, h84, h85, h86, h87, h88, hout, hmz, hrel, hlst, hfab, hra⟩ := hI
  obtain ⟨hk, frk⟩ := hk
  obtain ⟨hb, frM⟩ := hb
  have hkc9 : 0 ≤ kc ∧ kc ≤ 8 := (by obtain ⟨_, _, _, _, _, _, _, _, _, _, _, _, _, _, _, _, _, _, hkc, _⟩ := hRI; exact hkc)
  have hpn9 : 0 ≤ pn ∧ pn ≤ 100 := (by obtain ⟨_, _, _, _, _, _, _, _, _, _, _, _, _, _, _, _, _, hpn, _⟩ := hRI; exact hpn)
  rcases hk with ⟨hr, v, C1, hv, hp, hk89, hk1⟩ | ⟨hr, hn, hCe⟩
  · obtain ⟨hq2, hcs, hF⟩ := hp
    have hE1 : ∀ j : Int, 0 ≤ j → j ≤ 81 → Cb j = C1 j := fun j h1 h2 => (frM j (by omega)).trans (hk1 j (by omega))
    rcases hb with ⟨hP, mz1, m1, hb84, hb85, ezn, ez8, hlo, hbs⟩ | ⟨hP, hMb, hb84, hb85⟩
    · have hmz2 : ∀ i : Int, 0 ≤ i → i < 9 → 0 ≤ mz1 i ∧ mz1 i ≤ 24 := fun i h1 h2 => by by_cases e : i = kc; rw [e]; exact ez8; rw [ezn i e]; exact hmz i h1 h2
      have hrelk : ∀ i : Int, 0 ≤ i → i < kc → mz1 i = nn i ∧ MOK m1 i (mz1 i) ∧ ∀ j : Int, 0 ≤ j → j < nn i → WM m1 i j = ww i j := by
        intro i h1 h2
        obtain ⟨q1, q2, q3⟩ := hrel i h1 h2
        have q5 := hmz i h1 (by omega)
        have q4 := ezn i (by omega)
        refine ⟨q4.trans q1, fun j a9 b9 => ?_, fun j a9 b9 => ?_⟩
        · rw [hlo _ (by omega)]; exact q2 j a9 (by omega)
        · unfold WM; rw [hlo _ (by omega)]; exact q3 j a9 b9
      have hra3 : ∀ (n9 : Int) (w9 : Int → Int) (r : Int), 0 ≤ r → r < lc → oT r = ovR (zup ww kc w9 fa) (zup nn kc n9 fa) (zup ww kc w9 fb) (zup nn kc n9 fb) (oS r) ∧ oA r = ovA (zup ww kc w9 fa) (zup nn kc n9 fa) (zup ww kc w9 fb) (zup nn kc n9 fb) (oS r) := fun n9 w9 r h1 h2 => by
        obtain ⟨f1, f2⟩ := hfab (by omega)
        have g1 : fa ≠ kc := by omega
        have g2 : fb ≠ kc := by omega
        rw [zup_n g1, zup_n g1, zup_n g2, zup_n g2]; exact hra r h1 h2
      have hrelz : ∀ (n9 : Int) (w9 : Int → Int) (i : Int), 0 ≤ i → i < kc → mz1 i = zup nn kc n9 i ∧ MOK m1 i (mz1 i) ∧ ∀ j : Int, 0 ≤ j → j < zup nn kc n9 i → WM m1 i j = zup ww kc w9 i j := fun n9 w9 i h1 h2 => by
        have e : i ≠ kc := by omega
        rw [zup_n e, zup_n e]; exact hrelk i h1 h2
      rcases hcs with ⟨x, hx, hkx, hbx, hq1, n9, w9, e9, hR1⟩ | ⟨hkx, hbx, hq1, n9, w9, e9, hR1⟩ | ⟨rg, cn, sw9, w9, e9, hkx, hpx, hqx, hq1, hww, hR1⟩
      · rcases hbs with ⟨y, hy, hky, hby, hrb, hMb⟩ | ⟨hky, hby, hrb, hMb⟩ | ⟨rg2, cn2, sw2, hky, hpy, hqy, ⟨hrb, hMb⟩, hmk, hmo, hwc⟩
        · have l1 := okP_one hx.1 hky hbx
          have l2 := okP_one hy.1 hkx hby
          have hve : rb = zI v := by rw [hrb, hq1, show y = x by omega]
          exact ⟨0, Or.inl rfl, hr, ⟨0, pf, kc, (zup nn kc n9), (zup ww kc w9), (zup ee kc e9), lc, pm, pS, pN, pR, pT, pA, oS, oN, oR, oT, oA, tr, sn, sw, se, q0, q1, q2, q3, q4, mb, ak, fa, fb, mn, mr, ma, ab, bl, mz1, m1, mS, mN, mR, (zup of 0 v), ⟨(RIx_cg hE1 hR1), hMb, ((frM 83 (by omega)).trans ((frk 83 (by omega) (by omega)).trans h83)), hb84, hb85, ((frM 86 (by omega)).trans ((frk 86 (by omega) (by omega)).trans h86)), ((frM 87 (by omega)).trans ((frk 87 (by omega) (by omega)).trans h87)), ((frM 88 (by omega)).trans ((frk 88 (by omega) (by omega)).trans h88)), ((frM 89 (by omega)).trans hk89), hmz2, (hrelz n9 w9), hlst, hfab, (hra3 n9 w9)⟩, (by omega)⟩, fun _ => ⟨v, hv, hve, (frM 89 (by omega)).trans hk89⟩⟩
        · exact absurd (okP_one hx.1 hky hbx) (by omega)
        · exact absurd (okP_one hx.1 hky hbx) (by omega)
      · rcases hbs with ⟨y, hy, hky, hby, hrb, hMb⟩ | ⟨hky, hby, hrb, hMb⟩ | ⟨rg2, cn2, sw2, hky, hpy, hqy, ⟨hrb, hMb⟩, hmk, hmo, hwc⟩
        · exact absurd (okP_one hy.1 hkx hby) (by omega)
        · have hve : rb = zI v := by rw [hrb, hq1]
          exact ⟨0, Or.inl rfl, hr, ⟨0, pf, kc, (zup nn kc n9), (zup ww kc w9), (zup ee kc e9), lc, pm, pS, pN, pR, pT, pA, oS, oN, oR, oT, oA, tr, sn, sw, se, q0, q1, q2, q3, q4, mb, ak, fa, fb, mn, mr, ma, ab, bl, mz1, m1, mS, mN, mR, (zup of 0 v), ⟨(RIx_cg hE1 hR1), hMb, ((frM 83 (by omega)).trans ((frk 83 (by omega) (by omega)).trans h83)), hb84, hb85, ((frM 86 (by omega)).trans ((frk 86 (by omega) (by omega)).trans h86)), ((frM 87 (by omega)).trans ((frk 87 (by omega) (by omega)).trans h87)), ((frM 88 (by omega)).trans ((frk 88 (by omega) (by omega)).trans h88)), ((frM 89 (by omega)).trans hk89), hmz2, (hrelz n9 w9), hlst, hfab, (hra3 n9 w9)⟩, (by omega)⟩, fun _ => ⟨v, hv, hve, (frM 89 (by omega)).trans hk89⟩⟩
        · rw [hpy] at hbx; exact absurd hbx hqy
      · rcases hbs with ⟨y, hy, hky, hby, hrb, hMb⟩ | ⟨hky, hby, hrb, hMb⟩ | ⟨rg2, cn2, sw2, hky, hpy, hqy, ⟨hrb, hMb⟩, hmk, hmo, hwc⟩
        · exact absurd (okP_one hy.1 hkx hby) (by omega)
        · rw [hpx] at hby; exact absurd hby hqx
        · rw [hpx] at hpy
          simp only [Prod.mk.injEq] at hpy
          obtain ⟨e1, e2, e3⟩ := hpy
          subst e1; subst e2; subst e3
          have hve : rb = zI v := by rw [hrb, hq1]
          have hrel2 : ∀ i : Int, 0 ≤ i → i < kc + 1 → mz1 i = zup nn kc (cn + 1) i ∧ MOK m1 i (mz1 i) ∧ ∀ j : Int, 0 ≤ j → j < zup nn kc (cn + 1) i → WM m1 i j = zup ww kc w9 i j := by
            intro i h1 h2
            by_cases e : i = kc
            · rw [e, zup_s, zup_s, hmk]
              exact ⟨rfl, hmo, fun j a9 b9 => by rw [hwc j a9 b9, hww j a9 b9]⟩
            · exact hrelz _ _ i h1 (by omega)
          exact ⟨0, Or.inl rfl, hr, ⟨0, pf, (kc + 1), (zup nn kc (cn + 1)), (zup ww kc w9), (zup ee kc e9), lc, pm, pS, pN, pR, pT, pA, oS, oN, oR, oT, oA, tr, sn, sw, se, q0, q1, q2, q3, q4, mb, ak, fa, fb, mn, mr, ma, ab, bl, mz1, m1, mS, mN, mR, (zup of 0 v), ⟨(RIx_cg hE1 hR1), hMb, ((frM 83 (by omega)).trans ((frk 83 (by omega) (by omega)).trans h83)), hb84, hb85, ((frM 86 (by omega)).trans ((frk 86 (by omega) (by omega)).trans h86)), ((frM 87 (by omega)).trans ((frk 87 (by omega) (by omega)).trans h87)), ((frM 88 (by omega)).trans ((frk 88 (by omega) (by omega)).trans h88)), ((frM 89 (by omega)).trans hk89), hmz2, hrel2, hlst, (fun h => by have := hfab h; omega), (hra3 (cn + 1) w9)⟩, (by omega)⟩, fun _ => ⟨v, hv, hve, (frM 89 (by omega)).trans hk89⟩⟩
    · exact absurd hq2 hP
  · subst hCe
    rcases hb with ⟨hP, mz1, m1, hb84, hb85, ezn, ez8, hlo, hbs⟩ | ⟨hP, hMb, hb84, hb85⟩
    · exact absurd hP hn
    · have hE : ∀ j : Int, 0 ≤ j → j ≤ 81 → Cb j = Ck j := fun j h1 h2 => frM j (by omega)
      have hR1 := hRI
      exact ⟨1, Or.inr (Or.inl rfl), hr, ⟨pn, pf, kc, nn, ww, ee, lc, pm, pS, pN, pR, pT, pA, oS, oN, oR, oT, oA, tr, sn, sw, se, q0, q1, q2, q3, q4, mb, ak, fa, fb, mn, mr, ma, ab, bl, mz, mw, mS, mN, mR, of, ⟨(RIx_cg hE hR1), hMb, ((frM 83 (by omega)).trans ((frk 83 (by omega) (by omega)).trans h83)), hb84, hb85, ((frM 86 (by omega)).trans ((frk 86 (by omega) (by omega)).trans h86)), ((frM 87 (by omega)).trans ((frk 87 (by omega) (by omega)).trans h87)), ((frM 88 (by omega)).trans ((frk 88 (by omega) (by omega)).trans h88)), ((frM 89 (by omega)).trans hout), hmz, hrel, hlst, hfab, hra⟩, (by omega)⟩, fun h => absurd h (by omega)⟩
