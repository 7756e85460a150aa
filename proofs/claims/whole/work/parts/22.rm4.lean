theorem zupQ {AD : Int → Nat} {am : Int → Int} {x v : Int} : zup (fun j => some (AD (29 + am j))) x (some (AD (29 + v))) = fun j => some (AD (29 + zup am x v j)) := by
  funext j
  unfold zup
  split <;> rfl
/-- where a new one comes into the list: behind the last that it isn't ahead of -/
def insK (oN oR : Int → Int) (n c : Int) : Nat → Int
  | 0 => 0
  | m + 1 => if oR (m : Int) < c ∨ (c = oR (m : Int) ∧ oN (m : Int) < n) then insK oN oR n c m else (m : Int) + 1
theorem insK_t {oN oR : Int → Int} {n c x : Int} (hx : 0 < x) (h : oR (x - 1) < c ∨ (c = oR (x - 1) ∧ oN (x - 1) < n)) : insK oN oR n c x.toNat = insK oN oR n c (x - 1).toNat := by
  have e1 : x.toNat = (x - 1).toNat + 1 := by omega
  have e2 : (((x - 1).toNat : Nat) : Int) = x - 1 := by omega
  rw [e1]
  show (if oR (((x - 1).toNat : Nat) : Int) < c ∨ (c = oR (((x - 1).toNat : Nat) : Int) ∧ oN (((x - 1).toNat : Nat) : Int) < n) then _ else _) = _
  rw [e2, if_pos h]
theorem insK_f {oN oR : Int → Int} {n c x : Int} (hx : 0 < x) (h : ¬ (oR (x - 1) < c ∨ (c = oR (x - 1) ∧ oN (x - 1) < n))) : insK oN oR n c x.toNat = x := by
  have e1 : x.toNat = (x - 1).toNat + 1 := by omega
  have e2 : (((x - 1).toNat : Nat) : Int) = x - 1 := by omega
  rw [e1]
  show (if oR (((x - 1).toNat : Nat) : Int) < c ∨ (c = oR (((x - 1).toNat : Nat) : Int) ∧ oN (((x - 1).toNat : Nat) : Int) < n) then _ else (((x - 1).toNat : Nat) : Int) + 1) = _
  rw [e2, if_neg h]
  omega
theorem insK_in {oN oR : Int → Int} {n c : Int} : ∀ m : Nat, 0 ≤ insK oN oR n c m ∧ insK oN oR n c m ≤ (m : Int) := by
  intro m
  induction m with
  | zero => exact ⟨Int.le_refl 0, Int.le_refl 0⟩
  | succ m ih =>
    have e : insK oN oR n c (m + 1) = if oR (m : Int) < c ∨ (c = oR (m : Int) ∧ oN (m : Int) < n) then insK oN oR n c m else (m : Int) + 1 := rfl
    by_cases h : oR (m : Int) < c ∨ (c = oR (m : Int) ∧ oN (m : Int) < n)
    · rw [if_pos h] at e; omega
    · rw [if_neg h] at e; omega
theorem insK_eq {oN oR oN' oR' : Int → Int} {n c : Int} : ∀ m : Nat, (∀ r : Int, 0 ≤ r → r < (m : Int) → oN' r = oN r ∧ oR' r = oR r) → insK oN' oR' n c m = insK oN oR n c m := by
  intro m
  induction m with
  | zero => intro _; rfl
  | succ m ih =>
    intro h
    obtain ⟨h1, h2⟩ := h (m : Int) (by omega) (by omega)
    show (if oR' (m : Int) < c ∨ (c = oR' (m : Int) ∧ oN' (m : Int) < n) then insK oN' oR' n c m else (m : Int) + 1) = (if oR (m : Int) < c ∨ (c = oR (m : Int) ∧ oN (m : Int) < n) then insK oN oR n c m else (m : Int) + 1)
    rw [h1, h2, ih (fun r a b => h r a (by omega))]
/-- a row with v put in at place k -/
def insF (f : Int → Int) (k v r : Int) : Int := if r < k then f r else if r = k then v else f (r - 1)
/-- the listed ones' places with the newest put in at place k -/
def insP (pm : Int → Int) (k lc r : Int) : Int := if r < k then pm r else if r = k then pm lc else if r ≤ lc then pm (r - 1) else pm r
abbrev rm_R_rankNewest : Room := { frames := 1, cells := 0, slots := 0, locals := 21 }
set_option maxHeartbeats 4000000 in
set_option maxRecDepth 100000 in
theorem c_R_rankNewest (l : Launch) (D : va_G) (k : Nat → ClassId) (N : Nat) (AD : Int → Nat) (C : Int → va_E) (sz : Nat) (kc : Int) (lc : Int) (tr : Int) (pm : Int → Int) (pS : Int → Int) (pN : Int → Int) (pR : Int → Int) (pT : Int → Int) (pA : Int → Int) (hN : 82 ≤ (N : Int)) (hlc : 0 ≤ lc ∧ lc < 47) (hR : C 0 = .inr (3, [.ref (AD 1), .ref (AD 3), .int (zI kc), .ref (AD 28), .int (zI lc), .int (zI tr), .ref (AD 76), .ref (AD 79), .ref (AD 80), .ref (AD 81)])) (h28 : C 28 = aQ (k 4) 47 (fun j => some (AD (29 + pm j)))) (hov : ∀ j : Int, 0 ≤ j → j < 47 → C (29 + j) = .inr (0, [.int (zI (pS j)), .int (zI (pN j)), .int (zI (pR j)), .int (zI (pT j)), .int (zI (pA j))])) (hpm : ∀ j : Int, 0 ≤ j → j < 47 → 0 ≤ pm j ∧ pm j < 47) (hbd : ∀ r : Int, 0 ≤ r → r ≤ lc → (inI (pN (pm r)) ∧ inI (pR (pm r)))) : MV l y_R_rankNewest (Cond.code y_R_rankNewest b_R_rankNewest 3 (Option.none : Option FieldType) :: WS) rm_R_rankNewest D clW (tyW k) N AD C sz [.ref (AD 0)] (fun C' => C' 0 = .inr (3, [.ref (AD 1), .ref (AD 3), .int (zI kc), .ref (AD 28), .int (zI (lc + 1)), .int (zI tr), .ref (AD 76), .ref (AD 79), .ref (AD 80), .ref (AD 81)]) ∧ C' 28 = aQ (k 4) 47 (fun j => some (AD (29 + insP pm (insK (fun r => pN (pm r)) (fun r => pR (pm r)) (pN (pm lc)) (pR (pm lc)) lc.toNat) lc j))) ∧ ∀ j : Int, j ≠ 0 → j ≠ 28 → C' j = C j) := by
  refine MV.start (cc := b_R_rankNewest) (maxL := 3) (by decide) rfl (Nat.le_of_ble_eq_true rfl) ?_
  intro p e s m args below meth c Q ls hx hb hml hown hts hK hsz hw hl hret
  have hown : s.vm.findClass "RingMatches" = some m.cls := hown
  have hl : lv_has ls 3 [(0, .ref (AD 0))] := hl
  have hA := wA_hi (N := N) (AD := AD) hsz
  obtain ⟨H, hH⟩ : ∃ H, H = s.heap := ⟨_, rfl⟩
  obtain ⟨locs, hlocs⟩ : ∃ z : List Loc, z = [] := ⟨_, rfl⟩
  have hw : WD D clW (wA N AD sz) s.heap H locs N AD C := by rw [hH, hlocs]; exact hw
  rw [← hlocs]
  suffices hgo : W p l e rm_R_rankNewest s m args below meth c H locs 0 0 Q (F0 m 0 ls []) by rw [hH] at hgo; exact hgo
  obtain ⟨C0, hC0⟩ : ∃ z : Int → va_E, z = C := ⟨_, rfl⟩
  rw [← hC0] at hret
  refine lv_aload_n hx hb d_R_rankNewest_0 rfl (lv_at hl 0 rfl) ?_
  refine zr_get (v := .int (zI lc)) hx hb hts iw_R hown hK hw 0 ⟨by omega, by omega⟩ hR rfl 4 (by decide) (hts _ wk_114) (fun _ h => h) rfl d_R_rankNewest_1 ?_
  refine lv_istore_n (lv' := [(1, .int (zI lc)), (0, .ref (AD 0))]) hx hb d_R_rankNewest_4 rfl hl (by decide) rfl (fun ls hl => ?_)
  refine lv_aload_n hx hb d_R_rankNewest_5 rfl (lv_at hl 1 rfl) ?_
  refine zr_get (v := .ref (AD 28)) hx hb hts iw_R hown hK hw 0 ⟨by omega, by omega⟩ hR rfl 3 (by decide) (hts _ wk_113) (fun _ h => h) rfl d_R_rankNewest_6 ?_
  refine lv_iload_n hx hb d_R_rankNewest_9 rfl (lv_at hl 0 rfl) ?_
  refine zr_aldq (v := AD (29 + pm lc)) hx hb hK hw 28 ⟨by omega, by omega⟩ 4 h28 rfl ⟨by omega, by omega⟩ (by decide) rfl d_R_rankNewest_10 ?_
  have hpl := hpm lc (by omega) (by omega)
  have hO := hov (pm lc) hpl.1 hpl.2
  refine lv_astore_n (lv' := [(2, .ref (AD (29 + (pm lc)))), (1, .int (zI lc)), (0, .ref (AD 0))]) hx hb d_R_rankNewest_11 rfl hl (by decide) rfl (fun ls hl => ?_)
  have lp : ∀ (n9 : Nat) (x : Int) (am : Int → Int) (C : Int → va_E) (H : Heap) (locs : List Loc) (ls : Array Slot), (0 ≤ x ∧ x ≤ lc) → (∀ r : Int, am r = if x < r ∧ r ≤ lc then pm (r - 1) else pm r) → (insK (fun r => pN (pm r)) (fun r => pR (pm r)) (pN (pm lc)) (pR (pm lc)) lc.toNat = insK (fun r => pN (pm r)) (fun r => pR (pm r)) (pN (pm lc)) (pR (pm lc)) x.toNat) → (∀ j : Int, j ≠ 0 → j ≠ 28 → C j = C0 j) → (C 0 = .inr (3, [.ref (AD 1), .ref (AD 3), .int (zI kc), .ref (AD 28), .int (zI lc), .int (zI tr), .ref (AD 76), .ref (AD 79), .ref (AD 80), .ref (AD 81)])) → (C 28 = aQ (k 4) 47 (fun j => some (AD (29 + am j)))) → (C (29 + (pm lc)) = .inr (0, [.int (zI (pS (pm lc))), .int (zI (pN (pm lc))), .int (zI (pR (pm lc))), .int (zI (pT (pm lc))), .int (zI (pA (pm lc)))])) → (x).toNat < n9 → WD D clW (wA N AD sz) s.heap H locs N AD C → lv_has ls 3 [(0, .ref (AD 0)), (1, .int (zI x)), (2, .ref (AD (29 + (pm lc))))] → W p l e rm_R_rankNewest s m args below meth c H locs 0 0 Q (F0 m 12 ls []) := by
    intro n9
    induction n9 with
    | zero => intro x am C H locs ls hx1 ham hik hfr hR h28 hO hm hw hl; exact absurd hm (by omega)
    | succ n9 ihlp =>
      intro x am C H locs ls hx1 ham hik hfr hR h28 hO hm hw hl
      refine lv_iload_n hx hb d_R_rankNewest_12 rfl (lv_at hl 1 rfl) ?_
      refine zr_if_le (tgt := 51) hx hb ⟨by omega, by omega⟩ d_R_rankNewest_13 (by decide) (fun c1 => ?_) (fun c1 => ?_)
      · have hK9 : insK (fun r => pN (pm r)) (fun r => pR (pm r)) (pN (pm lc)) (pR (pm lc)) lc.toNat = x := by rw [hik, show x = 0 by omega]; rfl
        refine lv_aload_n hx hb d_R_rankNewest_51 rfl (lv_at hl 0 rfl) ?_
        refine zr_get (v := .ref (AD 28)) hx hb hts iw_R hown hK hw 0 ⟨by omega, by omega⟩ hR rfl 3 (by decide) (hts _ wk_113) (fun _ h => h) rfl d_R_rankNewest_52 ?_
        refine lv_iload_n hx hb d_R_rankNewest_55 rfl (lv_at hl 1 rfl) ?_
        refine lv_aload_n hx hb d_R_rankNewest_56 rfl (lv_at hl 2 rfl) ?_
        refine zr_astq (r := (R_O, T_O, 5)) hx hb hK hw 28 ⟨by omega, by omega⟩ 4 (29 + (pm lc)) ⟨by omega, by omega⟩ 0 h28 rfl hO rfl ⟨by omega, by omega⟩ (by decide) d_R_rankNewest_57 (fun H locs hw => ?_)
        rw [zupQ] at hw
        obtain ⟨C2, hC2⟩ : ∃ z : Int → va_E, z = zup C 28 (aQ (k 4) 47 (fun j => some (AD (29 + (zup am x (pm lc)) j)))) := ⟨_, rfl⟩
        have hw : WD D clW (wA N AD sz) s.heap H locs N AD C2 := by rw [hC2]; exact hw
        have frC2 : ∀ j : Int, j ≠ 28 → C2 j = C j := fun j h => by rw [hC2]; exact zup_n h
        have hR : C2 0 = .inr (3, [.ref (AD 1), .ref (AD 3), .int (zI kc), .ref (AD 28), .int (zI lc), .int (zI tr), .ref (AD 76), .ref (AD 79), .ref (AD 80), .ref (AD 81)]) := (frC2 _ (by omega)).trans hR
        have h28 : C2 28 = aQ (k 4) 47 (fun j => some (AD (29 + (zup am x (pm lc)) j))) := by rw [hC2]; exact zup_s
        have hO : C2 (29 + (pm lc)) = .inr (0, [.int (zI (pS (pm lc))), .int (zI (pN (pm lc))), .int (zI (pR (pm lc))), .int (zI (pT (pm lc))), .int (zI (pA (pm lc)))]) := (frC2 _ (by omega)).trans hO
        have ham3 : (zup am x (pm lc)) = insP pm (insK (fun r => pN (pm r)) (fun r => pR (pm r)) (pN (pm lc)) (pR (pm lc)) lc.toNat) lc := by
          funext r
          unfold insP
          rw [hK9]
          by_cases hr : r = x
          · rw [hr, zup_s, if_neg (by omega), if_pos rfl]
          · rw [zup_n hr, ham, if_neg hr]
            by_cases h1 : x < r ∧ r ≤ lc
            · rw [if_pos h1, if_neg (by omega), if_pos h1.2]
            · rw [if_neg h1]
              by_cases h2 : r < x
              · rw [if_pos h2]
              · rw [if_neg h2, if_neg (by omega)]
        refine lv_aload_n hx hb d_R_rankNewest_58 rfl (lv_at hl 0 rfl) ?_
        refine lv_dup hx hb d_R_rankNewest_59 rfl ?_
        refine zr_get (v := .int (zI lc)) hx hb hts iw_R hown hK hw 0 ⟨by omega, by omega⟩ hR rfl 4 (by decide) (hts _ wk_114) (fun _ h => h) rfl d_R_rankNewest_60 ?_
        refine zr_iconst hx hb d_R_rankNewest_63 ?_
        refine zr_iadd hx hb d_R_rankNewest_64 ?_
        refine zr_put (ty := .int) (v := .int (zI (lc + 1))) hx hb hts iw_R tyR tyR_ok nmR hown hK hw 0 ⟨by omega, by omega⟩ hR rfl 4 (by decide) (hts _ wk_114) (fun _ h => h) rfl (by decide +kernel) rfl rfl (Nat.le_of_ble_eq_true rfl) d_R_rankNewest_65 (fun H locs hw => ?_)
        obtain ⟨C3, hC3⟩ : ∃ z : Int → va_E, z = zup C2 0 (.inr (3, [.ref (AD 1), .ref (AD 3), .int (zI kc), .ref (AD 28), .int (zI (lc + 1)), .int (zI tr), .ref (AD 76), .ref (AD 79), .ref (AD 80), .ref (AD 81)])) := ⟨_, rfl⟩
        have hw : WD D clW (wA N AD sz) s.heap H locs N AD C3 := by rw [hC3]; exact hw
        have frC3 : ∀ j : Int, j ≠ 0 → C3 j = C2 j := fun j h => by rw [hC3]; exact zup_n h
        have hR : C3 0 = .inr (3, [.ref (AD 1), .ref (AD 3), .int (zI kc), .ref (AD 28), .int (zI (lc + 1)), .int (zI tr), .ref (AD 76), .ref (AD 79), .ref (AD 80), .ref (AD 81)]) := by rw [hC3]; exact zup_s
        have h28 : C3 28 = aQ (k 4) 47 (fun j => some (AD (29 + (zup am x (pm lc)) j))) := (frC3 _ (by omega)).trans h28
        have hO : C3 (29 + (pm lc)) = .inr (0, [.int (zI (pS (pm lc))), .int (zI (pN (pm lc))), .int (zI (pR (pm lc))), .int (zI (pT (pm lc))), .int (zI (pA (pm lc)))]) := (frC3 _ (by omega)).trans hO
        exact hret _ _ _ _ _ d_R_rankNewest_68 hw ⟨hR, by rw [h28, ham3], fun j h1 h2 => by rw [frC3 j h1, frC2 j h2]; exact hfr j h1 h2⟩
      · have hx9 : 0 < x := c1
        refine lv_aload_n hx hb d_R_rankNewest_16 rfl (lv_at hl 2 rfl) ?_
        refine lv_aload_n hx hb d_R_rankNewest_17 rfl (lv_at hl 0 rfl) ?_
        refine zr_get (v := .ref (AD 28)) hx hb hts iw_R hown hK hw 0 ⟨by omega, by omega⟩ hR rfl 3 (by decide) (hts _ wk_113) (fun _ h => h) rfl d_R_rankNewest_18 ?_
        refine lv_iload_n hx hb d_R_rankNewest_21 rfl (lv_at hl 1 rfl) ?_
        refine zr_iconst hx hb d_R_rankNewest_22 ?_
        refine zr_isub hx hb d_R_rankNewest_23 ?_
        refine zr_aldq (v := AD (29 + am (x - 1))) hx hb hK hw 28 ⟨by omega, by omega⟩ 4 h28 rfl ⟨by omega, by omega⟩ (by decide) rfl d_R_rankNewest_24 ?_
        have e1 : am (x - 1) = pm (x - 1) := by rw [ham, if_neg (by omega)]
        have hpx := hpm (x - 1) (by omega) (by omega)
        have hQ2 : C (29 + am (x - 1)) = .inr (0, [.int (zI (pS (pm (x - 1)))), .int (zI (pN (pm (x - 1)))), .int (zI (pR (pm (x - 1)))), .int (zI (pT (pm (x - 1)))), .int (zI (pA (pm (x - 1))))]) := by rw [e1, hfr _ (by omega) (by omega), hC0]; exact hov _ hpx.1 hpx.2
        have hbn := hbd lc (by omega) (by omega)
        have hbx := hbd (x - 1) (by omega) (by omega)
        refine zr_callI (va_runV (As := [.ref (AD (29 + am (x - 1)))]) (rest := []) ⟨hx, hb, hml, hown, hts⟩ (c_O_outranks l D k N AD C H.size (29 + (pm lc)) (pS (pm lc)) (pN (pm lc)) (pR (pm lc)) (pT (pm lc)) (pA (pm lc)) (29 + am (x - 1)) (pS (pm (x - 1))) (pN (pm (x - 1))) (pR (pm (x - 1))) (pT (pm (x - 1))) (pA (pm (x - 1))) ⟨by omega, by omega⟩ hO ⟨by omega, by omega⟩ hQ2 ⟨hbn.1, hbn.2, hbx.1, hbx.2⟩) (cwV 1 hts (good_V wk_397 wk_398 wk_399 wk_30 wk_400) rfl rfl rfl (by decide +kernel) ⟨Nat.le_of_ble_eq_true rfl, Nat.le_of_ble_eq_true rfl⟩) (cPre_V hK hw (29 + (pm lc)) ⟨by omega, by omega⟩ hO rfl) rfl rfl hl.1 rfl (lv_room (Nat.le_of_ble_eq_true rfl)) d_R_rankNewest_25 ⟨Nat.le_of_ble_eq_true rfl, Nat.le_of_ble_eq_true rfl⟩) hw hA (fun r9 C5 H locs hq4 hw => ?_)
        obtain ⟨hq4, hCe⟩ := hq4
        rw [hCe] at hw
        rcases hq4 with ⟨hr9, hq4⟩ | ⟨hr9, hq4⟩ <;> subst hr9
        · refine zr_if_eq (tgt := 51) hx hb ⟨by omega, by omega⟩ d_R_rankNewest_28 (by decide) (fun c9 => absurd c9 (by decide)) (fun c6 => ?_)
          refine lv_aload_n hx hb d_R_rankNewest_31 rfl (lv_at hl 0 rfl) ?_
          refine zr_get (v := .ref (AD 28)) hx hb hts iw_R hown hK hw 0 ⟨by omega, by omega⟩ hR rfl 3 (by decide) (hts _ wk_113) (fun _ h => h) rfl d_R_rankNewest_32 ?_
          refine lv_iload_n hx hb d_R_rankNewest_35 rfl (lv_at hl 1 rfl) ?_
          refine lv_aload_n hx hb d_R_rankNewest_36 rfl (lv_at hl 0 rfl) ?_
          refine zr_get (v := .ref (AD 28)) hx hb hts iw_R hown hK hw 0 ⟨by omega, by omega⟩ hR rfl 3 (by decide) (hts _ wk_113) (fun _ h => h) rfl d_R_rankNewest_37 ?_
          refine lv_iload_n hx hb d_R_rankNewest_40 rfl (lv_at hl 1 rfl) ?_
          refine zr_iconst hx hb d_R_rankNewest_41 ?_
          refine zr_isub hx hb d_R_rankNewest_42 ?_
          refine zr_aldq (v := AD (29 + am (x - 1))) hx hb hK hw 28 ⟨by omega, by omega⟩ 4 h28 rfl ⟨by omega, by omega⟩ (by decide) rfl d_R_rankNewest_43 ?_
          refine zr_astq (r := (R_O, T_O, 5)) hx hb hK hw 28 ⟨by omega, by omega⟩ 4 (29 + am (x - 1)) ⟨by omega, by omega⟩ 0 h28 rfl hQ2 rfl ⟨by omega, by omega⟩ (by decide) d_R_rankNewest_44 (fun H locs hw => ?_)
          rw [zupQ] at hw
          obtain ⟨C7, hC7⟩ : ∃ z : Int → va_E, z = zup C 28 (aQ (k 4) 47 (fun j => some (AD (29 + (zup am x (am (x - 1))) j)))) := ⟨_, rfl⟩
          have hw : WD D clW (wA N AD sz) s.heap H locs N AD C7 := by rw [hC7]; exact hw
          have frC7 : ∀ j : Int, j ≠ 28 → C7 j = C j := fun j h => by rw [hC7]; exact zup_n h
          have hR : C7 0 = .inr (3, [.ref (AD 1), .ref (AD 3), .int (zI kc), .ref (AD 28), .int (zI lc), .int (zI tr), .ref (AD 76), .ref (AD 79), .ref (AD 80), .ref (AD 81)]) := (frC7 _ (by omega)).trans hR
          have h28 : C7 28 = aQ (k 4) 47 (fun j => some (AD (29 + (zup am x (am (x - 1))) j))) := by rw [hC7]; exact zup_s
          have hO : C7 (29 + (pm lc)) = .inr (0, [.int (zI (pS (pm lc))), .int (zI (pN (pm lc))), .int (zI (pR (pm lc))), .int (zI (pT (pm lc))), .int (zI (pA (pm lc)))]) := (frC7 _ (by omega)).trans hO
          have hQ2 : C7 (29 + am (x - 1)) = .inr (0, [.int (zI (pS (pm (x - 1)))), .int (zI (pN (pm (x - 1)))), .int (zI (pR (pm (x - 1)))), .int (zI (pT (pm (x - 1)))), .int (zI (pA (pm (x - 1))))]) := (frC7 _ (by omega)).trans hQ2
          have ham2 : ∀ r : Int, (zup am x (am (x - 1))) r = if x + (-1) < r ∧ r ≤ lc then pm (r - 1) else pm r := by
            intro r
            by_cases hr : r = x
            · rw [hr, zup_s, e1, if_pos (by omega)]
            · rw [zup_n hr, ham]
              by_cases h1 : x < r ∧ r ≤ lc
              · rw [if_pos h1, if_pos (by omega)]
              · rw [if_neg h1, if_neg (by omega)]
          refine lv_iinc (v := zI (x + (-1))) (lv' := [(1, .int (zI (x + (-1)))), (0, .ref (AD 0)), (2, .ref (AD (29 + (pm lc))))]) hx hb d_R_rankNewest_45 hl (k := 1) rfl (zI_add _ _) (by decide) rfl (fun ls hl => ?_)
          refine lv_goto (tgt := 12) hx hb d_R_rankNewest_48 (by decide) ?_
          exact ihlp (x + (-1)) (zup am x (am (x - 1))) C7 H locs ls (by omega) ham2 (by rw [hik, insK_t hx9 (by omega), show x + -1 = x - 1 by omega]) (fun j h1 h2 => by rw [frC7 j h2]; exact hfr j h1 h2) hR h28 hO (by omega) hw (lv_sub hl [1, 0, 2] rfl)
        · refine zr_if_eq (tgt := 51) hx hb ⟨by omega, by omega⟩ d_R_rankNewest_28 (by decide) (fun c8 => ?_) (fun c9 => absurd c9 (by decide))
          have hK9 : insK (fun r => pN (pm r)) (fun r => pR (pm r)) (pN (pm lc)) (pR (pm lc)) lc.toNat = x := by rw [hik]; exact insK_f (by omega) (by omega)
          refine lv_aload_n hx hb d_R_rankNewest_51 rfl (lv_at hl 0 rfl) ?_
          refine zr_get (v := .ref (AD 28)) hx hb hts iw_R hown hK hw 0 ⟨by omega, by omega⟩ hR rfl 3 (by decide) (hts _ wk_113) (fun _ h => h) rfl d_R_rankNewest_52 ?_
          refine lv_iload_n hx hb d_R_rankNewest_55 rfl (lv_at hl 1 rfl) ?_
          refine lv_aload_n hx hb d_R_rankNewest_56 rfl (lv_at hl 2 rfl) ?_
          refine zr_astq (r := (R_O, T_O, 5)) hx hb hK hw 28 ⟨by omega, by omega⟩ 4 (29 + (pm lc)) ⟨by omega, by omega⟩ 0 h28 rfl hO rfl ⟨by omega, by omega⟩ (by decide) d_R_rankNewest_57 (fun H locs hw => ?_)
          rw [zupQ] at hw
          obtain ⟨C9, hC9⟩ : ∃ z : Int → va_E, z = zup C 28 (aQ (k 4) 47 (fun j => some (AD (29 + (zup am x (pm lc)) j)))) := ⟨_, rfl⟩
          have hw : WD D clW (wA N AD sz) s.heap H locs N AD C9 := by rw [hC9]; exact hw
          have frC9 : ∀ j : Int, j ≠ 28 → C9 j = C j := fun j h => by rw [hC9]; exact zup_n h
          have hR : C9 0 = .inr (3, [.ref (AD 1), .ref (AD 3), .int (zI kc), .ref (AD 28), .int (zI lc), .int (zI tr), .ref (AD 76), .ref (AD 79), .ref (AD 80), .ref (AD 81)]) := (frC9 _ (by omega)).trans hR
          have h28 : C9 28 = aQ (k 4) 47 (fun j => some (AD (29 + (zup am x (pm lc)) j))) := by rw [hC9]; exact zup_s
          have hO : C9 (29 + (pm lc)) = .inr (0, [.int (zI (pS (pm lc))), .int (zI (pN (pm lc))), .int (zI (pR (pm lc))), .int (zI (pT (pm lc))), .int (zI (pA (pm lc)))]) := (frC9 _ (by omega)).trans hO
          have ham3 : (zup am x (pm lc)) = insP pm (insK (fun r => pN (pm r)) (fun r => pR (pm r)) (pN (pm lc)) (pR (pm lc)) lc.toNat) lc := by
            funext r
            unfold insP
            rw [hK9]
            by_cases hr : r = x
            · rw [hr, zup_s, if_neg (by omega), if_pos rfl]
            · rw [zup_n hr, ham, if_neg hr]
              by_cases h1 : x < r ∧ r ≤ lc
              · rw [if_pos h1, if_neg (by omega), if_pos h1.2]
              · rw [if_neg h1]
                by_cases h2 : r < x
                · rw [if_pos h2]
                · rw [if_neg h2, if_neg (by omega)]
          refine lv_aload_n hx hb d_R_rankNewest_58 rfl (lv_at hl 0 rfl) ?_
          refine lv_dup hx hb d_R_rankNewest_59 rfl ?_
          refine zr_get (v := .int (zI lc)) hx hb hts iw_R hown hK hw 0 ⟨by omega, by omega⟩ hR rfl 4 (by decide) (hts _ wk_114) (fun _ h => h) rfl d_R_rankNewest_60 ?_
          refine zr_iconst hx hb d_R_rankNewest_63 ?_
          refine zr_iadd hx hb d_R_rankNewest_64 ?_
          refine zr_put (ty := .int) (v := .int (zI (lc + 1))) hx hb hts iw_R tyR tyR_ok nmR hown hK hw 0 ⟨by omega, by omega⟩ hR rfl 4 (by decide) (hts _ wk_114) (fun _ h => h) rfl (by decide +kernel) rfl rfl (Nat.le_of_ble_eq_true rfl) d_R_rankNewest_65 (fun H locs hw => ?_)
          obtain ⟨C10, hC10⟩ : ∃ z : Int → va_E, z = zup C9 0 (.inr (3, [.ref (AD 1), .ref (AD 3), .int (zI kc), .ref (AD 28), .int (zI (lc + 1)), .int (zI tr), .ref (AD 76), .ref (AD 79), .ref (AD 80), .ref (AD 81)])) := ⟨_, rfl⟩
          have hw : WD D clW (wA N AD sz) s.heap H locs N AD C10 := by rw [hC10]; exact hw
          have frC10 : ∀ j : Int, j ≠ 0 → C10 j = C9 j := fun j h => by rw [hC10]; exact zup_n h
          have hR : C10 0 = .inr (3, [.ref (AD 1), .ref (AD 3), .int (zI kc), .ref (AD 28), .int (zI (lc + 1)), .int (zI tr), .ref (AD 76), .ref (AD 79), .ref (AD 80), .ref (AD 81)]) := by rw [hC10]; exact zup_s
          have h28 : C10 28 = aQ (k 4) 47 (fun j => some (AD (29 + (zup am x (pm lc)) j))) := (frC10 _ (by omega)).trans h28
          have hO : C10 (29 + (pm lc)) = .inr (0, [.int (zI (pS (pm lc))), .int (zI (pN (pm lc))), .int (zI (pR (pm lc))), .int (zI (pT (pm lc))), .int (zI (pA (pm lc)))]) := (frC10 _ (by omega)).trans hO
          exact hret _ _ _ _ _ d_R_rankNewest_68 hw ⟨hR, by rw [h28, ham3], fun j h1 h2 => by rw [frC10 j h1, frC9 j h2]; exact hfr j h1 h2⟩
  exact lp ((lc : Int).toNat + 1) lc pm C H locs ls (by omega) (fun r => by rw [if_neg (by omega)]) rfl (fun j _ _ => by rw [hC0]) hR h28 hO (by omega) hw (lv_sub hl [2, 1, 0] rfl)
