/-- two series are joined -/
def Jn (nn : Int → Int) (ww : Int → Int → Int) (least bound a b : Int) : Prop := ∃ s : Int, 1 - nn b ≤ s ∧ s < nn a ∧ least ≤ ovN (ww a) (nn a) (ww b) (nn b) s ∧ bound ≤ ovC (ww a) (nn a) (ww b) (nn b) s
/-- reached from s in m steps -/
def rch (J : Int → Int → Prop) (kc s : Int) : Nat → Int → Prop
  | 0, i => i = s
  | m + 1, i => ∃ j : Int, (0 ≤ j ∧ j < kc) ∧ rch J kc s m j ∧ J j i
def Rch (J : Int → Int → Prop) (kc s i : Int) : Prop := ∃ m : Nat, rch J kc s m i
theorem Rch_0 (J : Int → Int → Prop) (kc s : Int) : Rch J kc s s := ⟨0, rfl⟩
theorem Rch_s {J : Int → Int → Prop} {kc s i j : Int} (h : Rch J kc s i) (hi : 0 ≤ i ∧ i < kc) (hj : J i j) : Rch J kc s j := by
  obtain ⟨m, h⟩ := h
  exact ⟨m + 1, i, hi, h, hj⟩
/-- r is the least of the group of s -/
def isGrp (J : Int → Int → Prop) (kc s r : Int) : Prop := ∃ M : Int → Prop, M s ∧ (∀ i : Int, 0 ≤ i → i < kc → M i → Rch J kc s i) ∧ (∀ i j : Int, 0 ≤ i → i < kc → 0 ≤ j → j < kc → M i → J i j → M j) ∧ (0 ≤ r ∧ r < kc) ∧ M r ∧ ∀ j : Int, 0 ≤ j → j < r → ¬ M j
theorem grp_all {J : Int → Int → Prop} {kc s : Int} {M : Int → Prop} (h1 : M s) (h2 : ∀ i j : Int, 0 ≤ i → i < kc → 0 ≤ j → j < kc → M i → J i j → M j) : ∀ (m : Nat) (i : Int), 0 ≤ i → i < kc → rch J kc s m i → M i := by
  intro m
  induction m with
  | zero => intro i _ _ h; have e : i = s := h; rw [e]; exact h1
  | succ m ih =>
    intro i h3 h4 h
    obtain ⟨j, hj, hr, hJ⟩ := h
    exact h2 j i hj.1 hj.2 h3 h4 (ih j hj.1 hj.2 hr) hJ
theorem isGrp_one {J : Int → Int → Prop} {kc s r t : Int} (h : isGrp J kc s r) (g : isGrp J kc s t) : r = t := by
  obtain ⟨M, m1, m2, m3, m4, m5, m6⟩ := h
  obtain ⟨L, l1, l2, l3, l4, l5, l6⟩ := g
  have a1 : M t := by obtain ⟨q, hq⟩ := l2 t l4.1 l4.2 l5; exact grp_all m1 m3 q t l4.1 l4.2 hq
  have a2 : L r := by obtain ⟨q, hq⟩ := m2 r m4.1 m4.2 m5; exact grp_all l1 l3 q r m4.1 m4.2 hq
  rcases Int.lt_trichotomy r t with h | h | h
  · exact absurd a2 (l6 r m4.1 h)
  · exact h
  · exact absurd a1 (m6 t l4.1 h)
theorem sumR_full {f : Int → Int} : ∀ (m : Nat), (∀ x : Int, 0 ≤ x → x < (m : Int) → 0 ≤ f x ∧ f x ≤ 1) → sumR f 0 m ≤ (m : Int) ∧ (sumR f 0 m = (m : Int) → ∀ j : Int, 0 ≤ j → j < (m : Int) → f j = 1) := by
  intro m
  induction m with
  | zero => intro _; exact ⟨Int.le_refl 0, fun _ j h1 h2 => absurd h2 (by omega)⟩
  | succ m ih =>
    intro h
    obtain ⟨i1, i2⟩ := ih (fun x a b => h x a (by omega))
    have e1 : sumR f 0 (m + 1) = sumR f 0 m + f (0 + (m : Int)) := rfl
    have h3 := h (0 + (m : Int)) (by omega) (by omega)
    refine ⟨by omega, fun e j h1 h2 => ?_⟩
    have h5 : sumR f 0 m = (m : Int) := by omega
    by_cases hj : j = (m : Int)
    · rw [hj]; rw [Int.zero_add] at e1 h3; omega
    · exact i2 h5 j h1 (by omega)
theorem sumR_z {f : Int → Int} {x : Int} (hx : 0 ≤ x) (hf : f x = 0) : ∀ m : Nat, sumR (zup f x 1) 0 m = sumR f 0 m + if x < (m : Int) then 1 else 0 := by
  intro m
  induction m with
  | zero => show (0 : Int) = 0 + if x < ((0 : Nat) : Int) then 1 else 0; rw [if_neg (by omega)]; rfl
  | succ m ih =>
    have e1 : sumR f 0 (m + 1) = sumR f 0 m + f (0 + (m : Int)) := rfl
    have e2 : sumR (zup f x 1) 0 (m + 1) = sumR (zup f x 1) 0 m + zup f x 1 (0 + (m : Int)) := rfl
    rw [e1, e2, ih, Int.zero_add]
    by_cases hm : (m : Int) = x
    · rw [hm, zup_s, hf, if_neg (by omega), if_pos (by omega)]; try omega
    · rw [zup_n hm]
      by_cases h : x < (m : Int)
      · rw [if_pos h, if_pos (by omega)]; omega
      · rw [if_neg h, if_neg (by omega)]; omega
abbrev rm_R_memberNotAsked : Room := { frames := 0, cells := 0, slots := 0, locals := 0 }
set_option maxHeartbeats 4000000 in
set_option maxRecDepth 100000 in
theorem c_R_memberNotAsked (l : Launch) (D : va_G) (k : Nat → ClassId) (N : Nat) (AD : Int → Nat) (C : Int → va_E) (sz : Nat) (kc : Int) (lc : Int) (tr : Int) (mb : Int → Int) (ak : Int → Int) (hN : 82 ≤ (N : Int)) (hkc : 0 ≤ kc ∧ kc ≤ 8) (hR : C 0 = .inr (3, [.ref (AD 1), .ref (AD 3), .int (zI kc), .ref (AD 28), .int (zI lc), .int (zI tr), .ref (AD 76), .ref (AD 79), .ref (AD 80), .ref (AD 81)])) (hmb : C 80 = aI (k 1) 8 mb) (hak : C 81 = aI (k 1) 8 ak) (hbb : ∀ j : Int, 0 ≤ j → j < 8 → 0 ≤ mb j ∧ mb j ≤ 1) (hba : ∀ j : Int, 0 ≤ j → j < 8 → 0 ≤ ak j ∧ ak j ≤ 1) : MI l y_R_memberNotAsked (Cond.code y_R_memberNotAsked b_R_memberNotAsked 2 (Option.some Jvm.ClassFile.FieldType.int) :: WS) rm_R_memberNotAsked D clW (tyW k) N AD C sz [.ref (AD 0)] (fun r C' => ((∃ x : Int, r = zI x ∧ (0 ≤ x ∧ x < kc) ∧ mb x = 1 ∧ ak x = 0) ∨ (r = zI (-1) ∧ ∀ j : Int, 0 ≤ j → j < kc → mb j = 0 ∨ ak j = 1)) ∧ C' = C) := by
  refine MI.start (cc := b_R_memberNotAsked) (maxL := 2) (rt := .int) (by decide) rfl (Nat.le_of_ble_eq_true rfl) ?_
  intro p e s m args below meth c Q ls hx hb hml hown hts hK hsz hw hl hret
  have hown : s.vm.findClass "RingMatches" = some m.cls := hown
  have hl : lv_has ls 2 [(0, .ref (AD 0))] := hl
  have hA := wA_hi (N := N) (AD := AD) hsz
  obtain ⟨H, hH⟩ : ∃ H, H = s.heap := ⟨_, rfl⟩
  obtain ⟨locs, hlocs⟩ : ∃ z : List Loc, z = [] := ⟨_, rfl⟩
  have hw : WD D clW (wA N AD sz) s.heap H locs N AD C := by rw [hH, hlocs]; exact hw
  rw [← hlocs]
  suffices hgo : W p l e rm_R_memberNotAsked s m args below meth c H locs 0 0 Q (F0 m 0 ls []) by rw [hH] at hgo; exact hgo
  refine zr_iconst hx hb d_R_memberNotAsked_0 ?_
  refine lv_istore_n (lv' := [(1, .int (zI 0)), (0, .ref (AD 0))]) hx hb d_R_memberNotAsked_1 rfl hl (by decide) rfl (fun ls hl => ?_)
  have lp : ∀ (n9 : Nat) (x : Int) (H : Heap) (locs : List Loc) (ls : Array Slot), (0 ≤ x ∧ x ≤ kc) → (∀ j : Int, 0 ≤ j → j < x → mb j = 0 ∨ ak j = 1) → (kc - x).toNat < n9 → WD D clW (wA N AD sz) s.heap H locs N AD C → lv_has ls 2 [(0, .ref (AD 0)), (1, .int (zI x))] → W p l e rm_R_memberNotAsked s m args below meth c H locs 0 0 Q (F0 m 2 ls []) := by
    intro n9
    induction n9 with
    | zero => intro x H locs ls hx1 hq  hm hw hl; exact absurd hm (by omega)
    | succ n9 ihlp =>
      intro x H locs ls hx1 hq  hm hw hl
      have hbx := hbb x (by omega)
      have hax := hba x (by omega)
      refine lv_iload_n hx hb d_R_memberNotAsked_2 rfl (lv_at hl 1 rfl) ?_
      refine lv_aload_n hx hb d_R_memberNotAsked_3 rfl (lv_at hl 0 rfl) ?_
      refine zr_get (v := .int (zI kc)) hx hb hts iw_R hown hK hw 0 ⟨by omega, by omega⟩ hR rfl 2 (by decide) (hts _ wk_112) (fun _ h => h) rfl d_R_memberNotAsked_4 ?_
      refine zr_icmp_ge (tgt := 36) hx hb ⟨by omega, by omega⟩ ⟨by omega, by omega⟩ d_R_memberNotAsked_7 (by decide) (fun c1 => ?_) (fun c1 => ?_)
      · refine zr_iconst hx hb d_R_memberNotAsked_36 ?_
        exact hret _ _ _ _ _ _ d_R_memberNotAsked_37 hw rfl ⟨Or.inr ⟨rfl, fun j h1 h2 => hq j h1 (by omega)⟩, rfl⟩
      · refine lv_aload_n hx hb d_R_memberNotAsked_10 rfl (lv_at hl 0 rfl) ?_
        refine zr_get (v := .ref (AD 80)) hx hb hts iw_R hown hK hw 0 ⟨by omega, by omega⟩ hR rfl 8 (by decide) (hts _ wk_118) (fun _ h => h) rfl d_R_memberNotAsked_11 ?_
        refine lv_iload_n hx hb d_R_memberNotAsked_14 rfl (lv_at hl 1 rfl) ?_
        refine zr_zald hx hb hK hw 80 ⟨by omega, by omega⟩ 1 hmb rfl ⟨by omega, by omega⟩ (by decide) d_R_memberNotAsked_15 ?_
        refine zr_if_eq (tgt := 30) hx hb ⟨by omega, by omega⟩ d_R_memberNotAsked_16 (by decide) (fun c2 => ?_) (fun c2 => ?_)
        · refine lv_iinc (v := zI (x + 1)) (lv' := [(1, .int (zI (x + 1))), (0, .ref (AD 0))]) hx hb d_R_memberNotAsked_30 hl (k := 1) rfl (zI_add _ _) (by decide) rfl (fun ls hl => ?_)
          refine lv_goto (tgt := 2) hx hb d_R_memberNotAsked_33 (by decide) ?_
          exact ihlp (x + 1) H locs ls (by omega) (fun j h1 h2 => by by_cases hj : j = x; rw [hj]; omega; exact hq j h1 (by omega))  (by omega) hw (lv_sub hl [1, 0] rfl)
        · refine lv_aload_n hx hb d_R_memberNotAsked_19 rfl (lv_at hl 0 rfl) ?_
          refine zr_get (v := .ref (AD 81)) hx hb hts iw_R hown hK hw 0 ⟨by omega, by omega⟩ hR rfl 9 (by decide) (hts _ wk_119) (fun _ h => h) rfl d_R_memberNotAsked_20 ?_
          refine lv_iload_n hx hb d_R_memberNotAsked_23 rfl (lv_at hl 1 rfl) ?_
          refine zr_zald hx hb hK hw 81 ⟨by omega, by omega⟩ 1 hak rfl ⟨by omega, by omega⟩ (by decide) d_R_memberNotAsked_24 ?_
          refine zr_if_ne (tgt := 30) hx hb ⟨by omega, by omega⟩ d_R_memberNotAsked_25 (by decide) (fun c3 => ?_) (fun c3 => ?_)
          · refine lv_iinc (v := zI (x + 1)) (lv' := [(1, .int (zI (x + 1))), (0, .ref (AD 0))]) hx hb d_R_memberNotAsked_30 hl (k := 1) rfl (zI_add _ _) (by decide) rfl (fun ls hl => ?_)
            refine lv_goto (tgt := 2) hx hb d_R_memberNotAsked_33 (by decide) ?_
            exact ihlp (x + 1) H locs ls (by omega) (fun j h1 h2 => by by_cases hj : j = x; rw [hj]; omega; exact hq j h1 (by omega))  (by omega) hw (lv_sub hl [1, 0] rfl)
          · refine lv_iload_n hx hb d_R_memberNotAsked_28 rfl (lv_at hl 1 rfl) ?_
            exact hret _ _ _ _ _ _ d_R_memberNotAsked_29 hw rfl ⟨Or.inl ⟨x, rfl, by omega, by omega, by omega⟩, rfl⟩
  exact lp ((kc - 0 : Int).toNat + 1) 0 H locs ls (by omega) (fun j h1 h2 => absurd h2 (by omega))  (by omega) hw (lv_sub hl [1, 0] rfl)
abbrev rm_R_leastMember : Room := { frames := 0, cells := 0, slots := 0, locals := 0 }
set_option maxHeartbeats 4000000 in
set_option maxRecDepth 100000 in
theorem c_R_leastMember (l : Launch) (D : va_G) (k : Nat → ClassId) (N : Nat) (AD : Int → Nat) (C : Int → va_E) (sz : Nat) (kc : Int) (lc : Int) (tr : Int) (mb : Int → Int) (hN : 82 ≤ (N : Int)) (hkc : 0 ≤ kc ∧ kc ≤ 8) (hR : C 0 = .inr (3, [.ref (AD 1), .ref (AD 3), .int (zI kc), .ref (AD 28), .int (zI lc), .int (zI tr), .ref (AD 76), .ref (AD 79), .ref (AD 80), .ref (AD 81)])) (hmb : C 80 = aI (k 1) 8 mb) (hbb : ∀ j : Int, 0 ≤ j → j < 8 → 0 ≤ mb j ∧ mb j ≤ 1) (hex : ∃ y : Int, 0 ≤ y ∧ y < kc ∧ mb y = 1) : MI l y_R_leastMember (Cond.code y_R_leastMember b_R_leastMember 2 (Option.some Jvm.ClassFile.FieldType.int) :: WS) rm_R_leastMember D clW (tyW k) N AD C sz [.ref (AD 0)] (fun r C' => ∃ x : Int, r = zI x ∧ (0 ≤ x ∧ x < kc) ∧ mb x = 1 ∧ (∀ j : Int, 0 ≤ j → j < x → mb j = 0) ∧ C' = C) := by
  refine MI.start (cc := b_R_leastMember) (maxL := 2) (rt := .int) (by decide) rfl (Nat.le_of_ble_eq_true rfl) ?_
  intro p e s m args below meth c Q ls hx hb hml hown hts hK hsz hw hl hret
  have hown : s.vm.findClass "RingMatches" = some m.cls := hown
  have hl : lv_has ls 2 [(0, .ref (AD 0))] := hl
  have hA := wA_hi (N := N) (AD := AD) hsz
  obtain ⟨H, hH⟩ : ∃ H, H = s.heap := ⟨_, rfl⟩
  obtain ⟨locs, hlocs⟩ : ∃ z : List Loc, z = [] := ⟨_, rfl⟩
  have hw : WD D clW (wA N AD sz) s.heap H locs N AD C := by rw [hH, hlocs]; exact hw
  rw [← hlocs]
  suffices hgo : W p l e rm_R_leastMember s m args below meth c H locs 0 0 Q (F0 m 0 ls []) by rw [hH] at hgo; exact hgo
  refine zr_iconst hx hb d_R_leastMember_0 ?_
  refine lv_istore_n (lv' := [(1, .int (zI 0)), (0, .ref (AD 0))]) hx hb d_R_leastMember_1 rfl hl (by decide) rfl (fun ls hl => ?_)
  have lp : ∀ (n9 : Nat) (x : Int) (H : Heap) (locs : List Loc) (ls : Array Slot), (0 ≤ x ∧ x ≤ kc) → (∀ j : Int, 0 ≤ j → j < x → mb j = 0) → (kc - x).toNat < n9 → WD D clW (wA N AD sz) s.heap H locs N AD C → lv_has ls 2 [(0, .ref (AD 0)), (1, .int (zI x))] → W p l e rm_R_leastMember s m args below meth c H locs 0 0 Q (F0 m 2 ls []) := by
    intro n9
    induction n9 with
    | zero => intro x H locs ls hx1 hq  hm hw hl; exact absurd hm (by omega)
    | succ n9 ihlp =>
      intro x H locs ls hx1 hq  hm hw hl
      have hbx := hbb x (by omega)
      refine lv_iload_n hx hb d_R_leastMember_2 rfl (lv_at hl 1 rfl) ?_
      refine lv_aload_n hx hb d_R_leastMember_3 rfl (lv_at hl 0 rfl) ?_
      refine zr_get (v := .int (zI kc)) hx hb hts iw_R hown hK hw 0 ⟨by omega, by omega⟩ hR rfl 2 (by decide) (hts _ wk_112) (fun _ h => h) rfl d_R_leastMember_4 ?_
      refine zr_icmp_ge (tgt := 27) hx hb ⟨by omega, by omega⟩ ⟨by omega, by omega⟩ d_R_leastMember_7 (by decide) (fun c1 => ?_) (fun c1 => ?_)
      · obtain ⟨y, hy1, hy2, hy3⟩ := hex
        exact absurd (hq y hy1 (by omega)) (by omega)
      · refine lv_aload_n hx hb d_R_leastMember_10 rfl (lv_at hl 0 rfl) ?_
        refine zr_get (v := .ref (AD 80)) hx hb hts iw_R hown hK hw 0 ⟨by omega, by omega⟩ hR rfl 8 (by decide) (hts _ wk_118) (fun _ h => h) rfl d_R_leastMember_11 ?_
        refine lv_iload_n hx hb d_R_leastMember_14 rfl (lv_at hl 1 rfl) ?_
        refine zr_zald hx hb hK hw 80 ⟨by omega, by omega⟩ 1 hmb rfl ⟨by omega, by omega⟩ (by decide) d_R_leastMember_15 ?_
        refine zr_if_eq (tgt := 21) hx hb ⟨by omega, by omega⟩ d_R_leastMember_16 (by decide) (fun c2 => ?_) (fun c2 => ?_)
        · refine lv_iinc (v := zI (x + 1)) (lv' := [(1, .int (zI (x + 1))), (0, .ref (AD 0))]) hx hb d_R_leastMember_21 hl (k := 1) rfl (zI_add _ _) (by decide) rfl (fun ls hl => ?_)
          refine lv_goto (tgt := 2) hx hb d_R_leastMember_24 (by decide) ?_
          exact ihlp (x + 1) H locs ls (by omega) (fun j h1 h2 => by by_cases hj : j = x; rw [hj]; omega; exact hq j h1 (by omega))  (by omega) hw (lv_sub hl [1, 0] rfl)
        · refine lv_iload_n hx hb d_R_leastMember_19 rfl (lv_at hl 1 rfl) ?_
          exact hret _ _ _ _ _ _ d_R_leastMember_20 hw rfl ⟨x, rfl, by omega, by omega, hq, rfl⟩
  exact lp ((kc - 0 : Int).toNat + 1) 0 H locs ls (by omega) (fun j h1 h2 => absurd h2 (by omega))  (by omega) hw (lv_sub hl [1, 0] rfl)
abbrev rm_R_areJoined : Room := { frames := 3, cells := 0, slots := 0, locals := 80 }
set_option maxHeartbeats 4000000 in
set_option maxRecDepth 100000 in
theorem c_R_areJoined (l : Launch) (D : va_G) (k : Nat → ClassId) (N : Nat) (AD : Int → Nat) (C : Int → va_E) (sz : Nat) (kc : Int) (lc : Int) (tr : Int) (q0 : Int) (q1 : Int) (q2 : Int) (q3 : Int) (q4 : Int) (b1 : Int) (n1 : Int) (w1 : Int → Int) (e1 : Int → Int) (b2 : Int) (n2 : Int) (w2 : Int → Int) (e2 : Int → Int) (least : Int) (bound : Int) (hN : 82 ≤ (N : Int)) (hkc : 0 ≤ kc ∧ kc ≤ 8) (hR : C 0 = .inr (3, [.ref (AD 1), .ref (AD 3), .int (zI kc), .ref (AD 28), .int (zI lc), .int (zI tr), .ref (AD 76), .ref (AD 79), .ref (AD 80), .ref (AD 81)])) (hpr : C 79 = .inr (0, [.int (zI q0), .int (zI q1), .int (zI q2), .int (zI q3), .int (zI q4)])) (hb1 : 0 ≤ b1 ∧ b1 + 2 < (N : Int)) (hn1 : 0 ≤ n1 ∧ n1 ≤ 24) (hS : C b1 = .inr (2, [.ref (AD (b1 + 1)), .ref (AD (b1 + 2)), .int (zI n1)])) (hSw : C (b1 + 1) = aI (k 0) 24 w1) (hSe : C (b1 + 2) = aI (k 0) 24 e1) (hb2 : 0 ≤ b2 ∧ b2 + 2 < (N : Int)) (hn2 : 0 ≤ n2 ∧ n2 ≤ 24) (hT : C b2 = .inr (2, [.ref (AD (b2 + 1)), .ref (AD (b2 + 2)), .int (zI n2)])) (hTw : C (b2 + 1) = aI (k 0) 24 w2) (hTe : C (b2 + 2) = aI (k 0) 24 e2) (hok1 : WOK w1 n1) (hok2 : WOK w2 n2) (hev1 : EvOK w1 e1 n1) (hev2 : EvOK w2 e2 n2) (hn11 : 1 ≤ n1 ∧ 1 ≤ n2) (hd1 : b1 + 2 < 79) (hd2 : b2 + 2 < 79) (hl9 : inI least) (hb9 : inI bound) : MI l y_R_areJoined (Cond.code y_R_areJoined b_R_areJoined 6 (Option.some Jvm.ClassFile.FieldType.boolean) :: WS) rm_R_areJoined D clW (tyW k) N AD C sz [.ref (AD 0), .ref (AD b1), .ref (AD b2), .int (zI least), .int (zI bound)] (fun r C' => (r = zI 1 ∧ (∃ s : Int, 1 - n2 ≤ s ∧ s < n1 ∧ least ≤ ovN w1 n1 w2 n2 s ∧ bound ≤ ovC w1 n1 w2 n2 s) ∨ r = zI 0 ∧ ¬ (∃ s : Int, 1 - n2 ≤ s ∧ s < n1 ∧ least ≤ ovN w1 n1 w2 n2 s ∧ bound ≤ ovC w1 n1 w2 n2 s)) ∧ (∃ r0 r1 r2 r3 r4 : Int, C' 79 = .inr (0, [.int (zI r0), .int (zI r1), .int (zI r2), .int (zI r3), .int (zI r4)])) ∧ ∀ j : Int, j ≠ 79 → C' j = C j) := by
  refine MI.start (cc := b_R_areJoined) (maxL := 6) (rt := .boolean) (by decide) rfl (Nat.le_of_ble_eq_true rfl) ?_
  intro p e s m args below meth c Q ls hx hb hml hown hts hK hsz hw hl hret
  have hown : s.vm.findClass "RingMatches" = some m.cls := hown
  have hl : lv_has ls 6 [(0, .ref (AD 0)), (1, .ref (AD b1)), (2, .ref (AD b2)), (3, .int (zI least)), (4, .int (zI bound))] := hl
  have hA := wA_hi (N := N) (AD := AD) hsz
  obtain ⟨H, hH⟩ : ∃ H, H = s.heap := ⟨_, rfl⟩
  obtain ⟨locs, hlocs⟩ : ∃ z : List Loc, z = [] := ⟨_, rfl⟩
  have hw : WD D clW (wA N AD sz) s.heap H locs N AD C := by rw [hH, hlocs]; exact hw
  rw [← hlocs]
  suffices hgo : W p l e rm_R_areJoined s m args below meth c H locs 0 0 Q (F0 m 0 ls []) by rw [hH] at hgo; exact hgo
  obtain ⟨C0, hC0⟩ : ∃ z : Int → va_E, z = C := ⟨_, rfl⟩
  rw [← hC0] at hret
  refine zr_iconst hx hb d_R_areJoined_0 ?_
  refine lv_aload_n hx hb d_R_areJoined_1 rfl (lv_at hl 2 rfl) ?_
  refine zr_get (v := .int (zI n2)) hx hb hts iw_S hown hK hw b2 ⟨by omega, by omega⟩ hT rfl 2 (by decide) (hts _ wk_73) (fun _ h => h) rfl d_R_areJoined_2 ?_
  refine zr_isub hx hb d_R_areJoined_5 ?_
  refine lv_istore (lv' := [(5, .int (zI (1 - n2))), (0, .ref (AD 0)), (1, .ref (AD b1)), (2, .ref (AD b2)), (3, .int (zI least)), (4, .int (zI bound))]) hx hb d_R_areJoined_6 hl (by decide) rfl (fun ls hl => ?_)
  have lp : ∀ (n9 : Nat) (x : Int) (r0 : Int) (r1 : Int) (r2 : Int) (r3 : Int) (r4 : Int) (C : Int → va_E) (H : Heap) (locs : List Loc) (ls : Array Slot), (1 - n2 ≤ x ∧ x ≤ n1) → (∀ s : Int, 1 - n2 ≤ s → s < x → ¬ (least ≤ ovN w1 n1 w2 n2 s ∧ bound ≤ ovC w1 n1 w2 n2 s)) → (∀ j : Int, j ≠ 79 → C j = C0 j) → (C 0 = .inr (3, [.ref (AD 1), .ref (AD 3), .int (zI kc), .ref (AD 28), .int (zI lc), .int (zI tr), .ref (AD 76), .ref (AD 79), .ref (AD 80), .ref (AD 81)])) → (C b1 = .inr (2, [.ref (AD (b1 + 1)), .ref (AD (b1 + 2)), .int (zI n1)])) → (C (b1 + 1) = aI (k 0) 24 w1) → (C (b1 + 2) = aI (k 0) 24 e1) → (C b2 = .inr (2, [.ref (AD (b2 + 1)), .ref (AD (b2 + 2)), .int (zI n2)])) → (C (b2 + 1) = aI (k 0) 24 w2) → (C (b2 + 2) = aI (k 0) 24 e2) → (C 79 = .inr (0, [.int (zI r0), .int (zI r1), .int (zI r2), .int (zI r3), .int (zI r4)])) → (n1 - x).toNat < n9 → WD D clW (wA N AD sz) s.heap H locs N AD C → lv_has ls 6 [(0, .ref (AD 0)), (1, .ref (AD b1)), (2, .ref (AD b2)), (3, .int (zI least)), (4, .int (zI bound)), (5, .int (zI x))] → W p l e rm_R_areJoined s m args below meth c H locs 0 0 Q (F0 m 8 ls []) := by
    intro n9
    induction n9 with
    | zero => intro x r0 r1 r2 r3 r4 C H locs ls hx1 hno hfr hR hS hSw hSe hT hTw hTe hpr hm hw hl; exact absurd hm (by omega)
    | succ n9 ihlp =>
      intro x r0 r1 r2 r3 r4 C H locs ls hx1 hno hfr hR hS hSw hSe hT hTw hTe hpr hm hw hl
      refine lv_iload hx hb d_R_areJoined_8 (lv_at hl 5 rfl) ?_
      refine lv_aload_n hx hb d_R_areJoined_10 rfl (lv_at hl 1 rfl) ?_
      refine zr_get (v := .int (zI n1)) hx hb hts iw_S hown hK hw b1 ⟨by omega, by omega⟩ hS rfl 2 (by decide) (hts _ wk_73) (fun _ h => h) rfl d_R_areJoined_11 ?_
      refine zr_icmp_ge (tgt := 59) hx hb ⟨by omega, by omega⟩ ⟨by omega, by omega⟩ d_R_areJoined_14 (by decide) (fun c1 => ?_) (fun c1 => ?_)
      · refine zr_iconst hx hb d_R_areJoined_59 ?_
        exact hret _ _ _ _ _ _ d_R_areJoined_60 hw (by decide +kernel) ⟨Or.inr ⟨rfl, fun ⟨s, h1, h2, h3, h4⟩ => hno s h1 (by omega) ⟨h3, h4⟩⟩, ⟨_, _, _, _, _, hpr⟩, hfr⟩
      · refine lv_aload_n hx hb d_R_areJoined_17 rfl (lv_at hl 0 rfl) ?_
        refine zr_get (v := .ref (AD 79)) hx hb hts iw_R hown hK hw 0 ⟨by omega, by omega⟩ hR rfl 7 (by decide) (hts _ wk_117) (fun _ h => h) rfl d_R_areJoined_18 ?_
        refine lv_aload_n hx hb d_R_areJoined_21 rfl (lv_at hl 1 rfl) ?_
        refine lv_aload_n hx hb d_R_areJoined_22 rfl (lv_at hl 2 rfl) ?_
        refine lv_iload hx hb d_R_areJoined_23 (lv_at hl 5 rfl) ?_
        refine zr_callV (va_runV (As := [.ref (AD b1), .ref (AD b2), .int (zI x)]) (rest := []) ⟨hx, hb, hml, hown, hts⟩ (c_O_lay l D k N AD C H.size 79 r0 r1 r2 r3 r4 b1 n1 w1 e1 b2 n2 w2 e2 x ⟨by omega, by omega⟩ hpr ⟨by omega, by omega⟩ ⟨by omega, by omega⟩ hS hSw hSe ⟨by omega, by omega⟩ ⟨by omega, by omega⟩ hT hTw hTe hok1 hok2 hev1 hev2 (by omega) (by omega) (by omega)) (cwV 3 hts (good_V wk_365 wk_366 wk_367 wk_30 wk_368) rfl rfl rfl (by decide +kernel) ⟨Nat.le_of_ble_eq_true rfl, Nat.le_of_ble_eq_true rfl⟩) (cPre_V hK hw 79 ⟨by omega, by omega⟩ hpr rfl) rfl rfl hl.1 rfl (lv_room (Nat.le_of_ble_eq_true rfl)) d_R_areJoined_25 ⟨Nat.le_of_ble_eq_true rfl, Nat.le_of_ble_eq_true rfl⟩) hw hA (fun C2 H locs hq3 hw => ?_)
        obtain ⟨hq3a, frC2⟩ := hq3
        have hR : C2 0 = .inr (3, [.ref (AD 1), .ref (AD 3), .int (zI kc), .ref (AD 28), .int (zI lc), .int (zI tr), .ref (AD 76), .ref (AD 79), .ref (AD 80), .ref (AD 81)]) := (frC2 _ (by omega)).trans hR
        have hS : C2 b1 = .inr (2, [.ref (AD (b1 + 1)), .ref (AD (b1 + 2)), .int (zI n1)]) := (frC2 _ (by omega)).trans hS
        have hSw : C2 (b1 + 1) = aI (k 0) 24 w1 := (frC2 _ (by omega)).trans hSw
        have hSe : C2 (b1 + 2) = aI (k 0) 24 e1 := (frC2 _ (by omega)).trans hSe
        have hT : C2 b2 = .inr (2, [.ref (AD (b2 + 1)), .ref (AD (b2 + 2)), .int (zI n2)]) := (frC2 _ (by omega)).trans hT
        have hTw : C2 (b2 + 1) = aI (k 0) 24 w2 := (frC2 _ (by omega)).trans hTw
        have hTe : C2 (b2 + 2) = aI (k 0) 24 e2 := (frC2 _ (by omega)).trans hTe
        have hpr : C2 79 = .inr (0, [.int (zI x), .int (zI (ovN w1 n1 w2 n2 x)), .int (zI (ovC w1 n1 w2 n2 x)), .int (zI r3), .int (zI r4)]) := hq3a
        have hNi := ovN_in (w1 := w1) (w2 := w2) (a := x) hn1 hn2
        have hCi : -100 ≤ ovC w1 n1 w2 n2 x ∧ ovC w1 n1 w2 n2 x ≤ 100 := corrF_in _ _ _
        refine lv_aload_n hx hb d_R_areJoined_28 rfl (lv_at hl 0 rfl) ?_
        refine zr_get (v := .ref (AD 79)) hx hb hts iw_R hown hK hw 0 ⟨by omega, by omega⟩ hR rfl 7 (by decide) (hts _ wk_117) (fun _ h => h) rfl d_R_areJoined_29 ?_
        refine zr_get (v := .int (zI (ovN w1 n1 w2 n2 x))) hx hb hts iw_O hown hK hw 79 ⟨by omega, by omega⟩ hpr rfl 1 (by decide) (hts _ wk_92) (fun _ h => h) rfl d_R_areJoined_32 ?_
        refine lv_iload_n hx hb d_R_areJoined_35 rfl (lv_at hl 3 rfl) ?_
        refine zr_icmp_lt (tgt := 53) hx hb ⟨by omega, by omega⟩ ⟨by omega, by omega⟩ d_R_areJoined_36 (by decide) (fun c4 => ?_) (fun c4 => ?_)
        · refine lv_iinc (v := zI (x + 1)) (lv' := [(5, .int (zI (x + 1))), (0, .ref (AD 0)), (1, .ref (AD b1)), (2, .ref (AD b2)), (3, .int (zI least)), (4, .int (zI bound))]) hx hb d_R_areJoined_53 hl (k := 5) rfl (zI_add _ _) (by decide) rfl (fun ls hl => ?_)
          refine lv_goto (tgt := 8) hx hb d_R_areJoined_56 (by decide) ?_
          exact ihlp (x + 1) x (ovN w1 n1 w2 n2 x) (ovC w1 n1 w2 n2 x) r3 r4 C2 H locs ls (by omega) (fun s h1 h2 => by by_cases hs : s = x; rw [hs]; omega; exact hno s h1 (by omega)) (fun j hj => by rw [frC2 _ (by omega)]; exact hfr j hj) hR hS hSw hSe hT hTw hTe hpr (by omega) hw (lv_sub hl [1, 2, 3, 4, 5, 0] rfl)
        · refine lv_aload_n hx hb d_R_areJoined_39 rfl (lv_at hl 0 rfl) ?_
          refine zr_get (v := .ref (AD 79)) hx hb hts iw_R hown hK hw 0 ⟨by omega, by omega⟩ hR rfl 7 (by decide) (hts _ wk_117) (fun _ h => h) rfl d_R_areJoined_40 ?_
          refine zr_get (v := .int (zI (ovC w1 n1 w2 n2 x))) hx hb hts iw_O hown hK hw 79 ⟨by omega, by omega⟩ hpr rfl 2 (by decide) (hts _ wk_94) (fun _ h => h) rfl d_R_areJoined_43 ?_
          refine lv_iload hx hb d_R_areJoined_46 (lv_at hl 4 rfl) ?_
          refine zr_icmp_lt (tgt := 53) hx hb ⟨by omega, by omega⟩ ⟨by omega, by omega⟩ d_R_areJoined_48 (by decide) (fun c5 => ?_) (fun c5 => ?_)
          · refine lv_iinc (v := zI (x + 1)) (lv' := [(5, .int (zI (x + 1))), (0, .ref (AD 0)), (1, .ref (AD b1)), (2, .ref (AD b2)), (3, .int (zI least)), (4, .int (zI bound))]) hx hb d_R_areJoined_53 hl (k := 5) rfl (zI_add _ _) (by decide) rfl (fun ls hl => ?_)
            refine lv_goto (tgt := 8) hx hb d_R_areJoined_56 (by decide) ?_
            exact ihlp (x + 1) x (ovN w1 n1 w2 n2 x) (ovC w1 n1 w2 n2 x) r3 r4 C2 H locs ls (by omega) (fun s h1 h2 => by by_cases hs : s = x; rw [hs]; omega; exact hno s h1 (by omega)) (fun j hj => by rw [frC2 _ (by omega)]; exact hfr j hj) hR hS hSw hSe hT hTw hTe hpr (by omega) hw (lv_sub hl [1, 2, 3, 4, 5, 0] rfl)
          · refine zr_iconst hx hb d_R_areJoined_51 ?_
            exact hret _ _ _ _ _ _ d_R_areJoined_52 hw (by decide +kernel) ⟨Or.inl ⟨rfl, x, by omega, by omega, by omega, by omega⟩, ⟨_, _, _, _, _, hpr⟩, fun j hj => by rw [frC2 _ (by omega)]; exact hfr j hj⟩
  exact lp ((n1 - (1 - n2) : Int).toNat + 1) (1 - n2) q0 q1 q2 q3 q4 C H locs ls (by omega) (fun s h1 h2 => absurd h2 (by omega)) (fun j _ => by rw [hC0]) hR hS hSw hSe hT hTw hTe hpr (by omega) hw (lv_sub hl [1, 2, 3, 4, 5, 0] rfl)
abbrev rm_R_addJoinedTo : Room := { frames := 4, cells := 0, slots := 0, locals := 105 }
set_option maxHeartbeats 4000000 in
set_option maxRecDepth 100000 in
theorem c_R_addJoinedTo (l : Launch) (D : va_G) (k : Nat → ClassId) (N : Nat) (AD : Int → Nat) (C : Int → va_E) (sz : Nat) (kc : Int) (lc : Int) (tr : Int) (q0 : Int) (q1 : Int) (q2 : Int) (q3 : Int) (q4 : Int) (nn : Int → Int) (ww : Int → Int → Int) (ee : Int → Int → Int) (mb : Int → Int) (a : Int) (least : Int) (bound : Int) (hN : 82 ≤ (N : Int)) (hkc : 0 ≤ kc ∧ kc ≤ 8) (hR : C 0 = .inr (3, [.ref (AD 1), .ref (AD 3), .int (zI kc), .ref (AD 28), .int (zI lc), .int (zI tr), .ref (AD 76), .ref (AD 79), .ref (AD 80), .ref (AD 81)])) (h3 : C 3 = aQ (k 3) 8 (fun i => some (AD (4 + 3 * i)))) (hpr : C 79 = .inr (0, [.int (zI q0), .int (zI q1), .int (zI q2), .int (zI q3), .int (zI q4)])) (hser : ∀ i : Int, 0 ≤ i → i < 8 → C (4 + 3 * i) = .inr (2, [.ref (AD ((4 + 3 * i) + 1)), .ref (AD ((4 + 3 * i) + 2)), .int (zI (nn i))]) ∧ C ((4 + 3 * i) + 1) = aI (k 0) 24 (ww i) ∧ C ((4 + 3 * i) + 2) = aI (k 0) 24 (ee i) ∧ (0 ≤ nn i ∧ nn i ≤ 24)) (hok : ∀ i : Int, 0 ≤ i → i < kc → 1 ≤ nn i ∧ WOK (ww i) (nn i) ∧ EvOK (ww i) (ee i) (nn i)) (hmb : C 80 = aI (k 1) 8 mb) (hbb : ∀ j : Int, 0 ≤ j → j < 8 → 0 ≤ mb j ∧ mb j ≤ 1) (ha : 0 ≤ a ∧ a < kc) (hl9 : inI least) (hb9 : inI bound) : MV l y_R_addJoinedTo (Cond.code y_R_addJoinedTo b_R_addJoinedTo 5 (Option.none : Option FieldType) :: WS) rm_R_addJoinedTo D clW (tyW k) N AD C sz [.ref (AD 0), .int (zI a), .int (zI least), .int (zI bound)] (fun C' => ∃ mb1 : Int → Int, C' 80 = aI (k 1) 8 mb1 ∧ (∀ j : Int, 0 ≤ j → j < 8 → 0 ≤ mb1 j ∧ mb1 j ≤ 1) ∧ (∀ j : Int, mb j = 1 → mb1 j = 1) ∧ (∀ j : Int, mb1 j = 1 → mb j = 1 ∨ (0 ≤ j ∧ j < kc ∧ Jn nn ww least bound a j)) ∧ (∀ j : Int, 0 ≤ j → j < kc → Jn nn ww least bound a j → mb1 j = 1) ∧ (∃ r0 r1 r2 r3 r4 : Int, C' 79 = .inr (0, [.int (zI r0), .int (zI r1), .int (zI r2), .int (zI r3), .int (zI r4)])) ∧ ∀ j : Int, j ≠ 79 → j ≠ 80 → C' j = C j) := by
  refine MV.start (cc := b_R_addJoinedTo) (maxL := 5) (by decide) rfl (Nat.le_of_ble_eq_true rfl) ?_
  intro p e s m args below meth c Q ls hx hb hml hown hts hK hsz hw hl hret
  have hown : s.vm.findClass "RingMatches" = some m.cls := hown
  have hl : lv_has ls 5 [(0, .ref (AD 0)), (1, .int (zI a)), (2, .int (zI least)), (3, .int (zI bound))] := hl
  have hA := wA_hi (N := N) (AD := AD) hsz
  obtain ⟨H, hH⟩ : ∃ H, H = s.heap := ⟨_, rfl⟩
  obtain ⟨locs, hlocs⟩ : ∃ z : List Loc, z = [] := ⟨_, rfl⟩
  have hw : WD D clW (wA N AD sz) s.heap H locs N AD C := by rw [hH, hlocs]; exact hw
  rw [← hlocs]
  suffices hgo : W p l e rm_R_addJoinedTo s m args below meth c H locs 0 0 Q (F0 m 0 ls []) by rw [hH] at hgo; exact hgo
  obtain ⟨C0, hC0⟩ : ∃ z : Int → va_E, z = C := ⟨_, rfl⟩
  rw [← hC0] at hret
  refine zr_iconst hx hb d_R_addJoinedTo_0 ?_
  refine lv_istore (lv' := [(4, .int (zI 0)), (0, .ref (AD 0)), (1, .int (zI a)), (2, .int (zI least)), (3, .int (zI bound))]) hx hb d_R_addJoinedTo_1 hl (by decide) rfl (fun ls hl => ?_)
  have lp : ∀ (n9 : Nat) (x : Int) (mb1 : Int → Int) (r0 : Int) (r1 : Int) (r2 : Int) (r3 : Int) (r4 : Int) (C : Int → va_E) (H : Heap) (locs : List Loc) (ls : Array Slot), (0 ≤ x ∧ x ≤ kc) → (∀ j : Int, 0 ≤ j → j < x → Jn nn ww least bound a j → mb1 j = 1) → (∀ j : Int, mb j = 1 → mb1 j = 1) → (∀ j : Int, mb1 j = 1 → mb j = 1 ∨ (0 ≤ j ∧ j < kc ∧ Jn nn ww least bound a j)) → (∀ j : Int, 0 ≤ j → j < 8 → 0 ≤ mb1 j ∧ mb1 j ≤ 1) → (∀ j : Int, j ≠ 79 → j ≠ 80 → C j = C0 j) → (C 0 = .inr (3, [.ref (AD 1), .ref (AD 3), .int (zI kc), .ref (AD 28), .int (zI lc), .int (zI tr), .ref (AD 76), .ref (AD 79), .ref (AD 80), .ref (AD 81)])) → (C 3 = aQ (k 3) 8 (fun i => some (AD (4 + 3 * i)))) → (C 80 = aI (k 1) 8 mb1) → (C 79 = .inr (0, [.int (zI r0), .int (zI r1), .int (zI r2), .int (zI r3), .int (zI r4)])) → (kc - x).toNat < n9 → WD D clW (wA N AD sz) s.heap H locs N AD C → lv_has ls 5 [(0, .ref (AD 0)), (1, .int (zI a)), (2, .int (zI least)), (3, .int (zI bound)), (4, .int (zI x))] → W p l e rm_R_addJoinedTo s m args below meth c H locs 0 0 Q (F0 m 3 ls []) := by
    intro n9
    induction n9 with
    | zero => intro x mb1 r0 r1 r2 r3 r4 C H locs ls hx1 hm1 hm2 hm3 hm4 hfr hR h3 hmb hpr hm hw hl; exact absurd hm (by omega)
    | succ n9 ihlp =>
      intro x mb1 r0 r1 r2 r3 r4 C H locs ls hx1 hm1 hm2 hm3 hm4 hfr hR h3 hmb hpr hm hw hl
      have hbx := hm4 x (by omega)
      refine lv_iload hx hb d_R_addJoinedTo_3 (lv_at hl 4 rfl) ?_
      refine lv_aload_n hx hb d_R_addJoinedTo_5 rfl (lv_at hl 0 rfl) ?_
      refine zr_get (v := .int (zI kc)) hx hb hts iw_R hown hK hw 0 ⟨by omega, by omega⟩ hR rfl 2 (by decide) (hts _ wk_112) (fun _ h => h) rfl d_R_addJoinedTo_6 ?_
      refine zr_icmp_ge (tgt := 58) hx hb ⟨by omega, by omega⟩ ⟨by omega, by omega⟩ d_R_addJoinedTo_9 (by decide) (fun c1 => ?_) (fun c1 => ?_)
      · exact hret _ _ _ _ _ d_R_addJoinedTo_58 hw ⟨mb1, hmb, hm4, hm2, hm3, fun j h1 h2 hj => hm1 j h1 (by omega) hj, ⟨_, _, _, _, _, hpr⟩, hfr⟩
      · refine lv_aload_n hx hb d_R_addJoinedTo_12 rfl (lv_at hl 0 rfl) ?_
        refine zr_get (v := .ref (AD 80)) hx hb hts iw_R hown hK hw 0 ⟨by omega, by omega⟩ hR rfl 8 (by decide) (hts _ wk_118) (fun _ h => h) rfl d_R_addJoinedTo_13 ?_
        refine lv_iload hx hb d_R_addJoinedTo_16 (lv_at hl 4 rfl) ?_
        refine zr_zald hx hb hK hw 80 ⟨by omega, by omega⟩ 1 hmb rfl ⟨by omega, by omega⟩ (by decide) d_R_addJoinedTo_18 ?_
        refine zr_if_ne (tgt := 52) hx hb ⟨by omega, by omega⟩ d_R_addJoinedTo_19 (by decide) (fun c2 => ?_) (fun c2 => ?_)
        · refine lv_iinc (v := zI (x + 1)) (lv' := [(4, .int (zI (x + 1))), (0, .ref (AD 0)), (1, .int (zI a)), (2, .int (zI least)), (3, .int (zI bound))]) hx hb d_R_addJoinedTo_52 hl (k := 4) rfl (zI_add _ _) (by decide) rfl (fun ls hl => ?_)
          refine lv_goto (tgt := 3) hx hb d_R_addJoinedTo_55 (by decide) ?_
          exact ihlp (x + 1) mb1 r0 r1 r2 r3 r4 C H locs ls (by omega) (fun j h1 h2 hj => by by_cases e : j = x; rw [e]; omega; exact hm1 j h1 (by omega) hj) hm2 hm3 hm4 hfr hR h3 hmb hpr (by omega) hw (lv_sub hl [1, 2, 3, 4, 0] rfl)
        · refine lv_aload_n hx hb d_R_addJoinedTo_22 rfl (lv_at hl 0 rfl) ?_
          refine lv_aload_n hx hb d_R_addJoinedTo_23 rfl (lv_at hl 0 rfl) ?_
          refine zr_get (v := .ref (AD 3)) hx hb hts iw_R hown hK hw 0 ⟨by omega, by omega⟩ hR rfl 1 (by decide) (hts _ wk_111) (fun _ h => h) rfl d_R_addJoinedTo_24 ?_
          refine lv_iload_n hx hb d_R_addJoinedTo_27 rfl (lv_at hl 1 rfl) ?_
          refine zr_aldq (v := AD (4 + 3 * a)) hx hb hK hw 3 ⟨by omega, by omega⟩ 3 h3 rfl ⟨by omega, by omega⟩ (by decide) rfl d_R_addJoinedTo_28 ?_
          refine lv_aload_n hx hb d_R_addJoinedTo_29 rfl (lv_at hl 0 rfl) ?_
          refine zr_get (v := .ref (AD 3)) hx hb hts iw_R hown hK hw 0 ⟨by omega, by omega⟩ hR rfl 1 (by decide) (hts _ wk_111) (fun _ h => h) rfl d_R_addJoinedTo_30 ?_
          refine lv_iload hx hb d_R_addJoinedTo_33 (lv_at hl 4 rfl) ?_
          refine zr_aldq (v := AD (4 + 3 * x)) hx hb hK hw 3 ⟨by omega, by omega⟩ 3 h3 rfl ⟨by omega, by omega⟩ (by decide) rfl d_R_addJoinedTo_35 ?_
          refine lv_iload_n hx hb d_R_addJoinedTo_36 rfl (lv_at hl 2 rfl) ?_
          refine lv_iload_n hx hb d_R_addJoinedTo_37 rfl (lv_at hl 3 rfl) ?_
          obtain ⟨hS, hSw, hSe, hSn⟩ := hser a (by omega) (by omega)
          rw [← hC0, ← hfr _ (by omega) (by omega)] at hS hSw hSe
          have hokhS := hok a (by omega) (by omega)
          obtain ⟨hT, hTw, hTe, hTn⟩ := hser x (by omega) (by omega)
          rw [← hC0, ← hfr _ (by omega) (by omega)] at hT hTw hTe
          have hokhT := hok x (by omega) (by omega)
          refine zr_callI (va_runV (As := [.ref (AD (4 + 3 * a)), .ref (AD (4 + 3 * x)), .int (zI least), .int (zI bound)]) (rest := []) ⟨hx, hb, hml, hown, hts⟩ (c_R_areJoined l D k N AD C H.size kc lc tr r0 r1 r2 r3 r4 (4 + 3 * a) (nn a) (ww a) (ee a) (4 + 3 * x) (nn x) (ww x) (ee x) least bound hN hkc hR hpr ⟨by omega, by omega⟩ hSn hS hSw hSe ⟨by omega, by omega⟩ hTn hT hTw hTe hokhS.2.1 hokhT.2.1 hokhS.2.2 hokhT.2.2 ⟨hokhS.1, hokhT.1⟩ (by omega) (by omega) hl9 hb9) (cwV 4 hts (good_V wk_485 wk_487 wk_9 wk_27 wk_488) rfl rfl rfl (by decide +kernel) ⟨Nat.le_of_ble_eq_true rfl, Nat.le_of_ble_eq_true rfl⟩) (cPre_V hK hw 0 ⟨by omega, by omega⟩ hR rfl) rfl rfl hl.1 rfl (lv_room (Nat.le_of_ble_eq_true rfl)) d_R_addJoinedTo_38 ⟨Nat.le_of_ble_eq_true rfl, Nat.le_of_ble_eq_true rfl⟩) hw hA (fun r9 C3 H locs hq4 hw => ?_)
          obtain ⟨hq4, ⟨s0, s1, s2, s3, s4, hq4p⟩, frC3⟩ := hq4
          have hR : C3 0 = .inr (3, [.ref (AD 1), .ref (AD 3), .int (zI kc), .ref (AD 28), .int (zI lc), .int (zI tr), .ref (AD 76), .ref (AD 79), .ref (AD 80), .ref (AD 81)]) := (frC3 _ (by omega)).trans hR
          have h3 : C3 3 = aQ (k 3) 8 (fun i => some (AD (4 + 3 * i))) := (frC3 _ (by omega)).trans h3
          have hmb : C3 80 = aI (k 1) 8 mb1 := (frC3 _ (by omega)).trans hmb
          have hpr : C3 79 = .inr (0, [.int (zI s0), .int (zI s1), .int (zI s2), .int (zI s3), .int (zI s4)]) := hq4p
          rcases hq4 with ⟨hr9, hq4⟩ | ⟨hr9, hq4⟩ <;> subst hr9
          · refine zr_if_eq (tgt := 52) hx hb ⟨by omega, by omega⟩ d_R_addJoinedTo_41 (by decide) (fun c9 => absurd c9 (by decide)) (fun c5 => ?_)
            refine lv_aload_n hx hb d_R_addJoinedTo_44 rfl (lv_at hl 0 rfl) ?_
            refine zr_get (v := .ref (AD 80)) hx hb hts iw_R hown hK hw 0 ⟨by omega, by omega⟩ hR rfl 8 (by decide) (hts _ wk_118) (fun _ h => h) rfl d_R_addJoinedTo_45 ?_
            refine lv_iload hx hb d_R_addJoinedTo_48 (lv_at hl 4 rfl) ?_
            refine zr_iconst hx hb d_R_addJoinedTo_50 ?_
            refine zr_zast hx hb hK hw 80 ⟨by omega, by omega⟩ 1 hmb rfl ⟨by omega, by omega⟩ (by decide) (by omega) d_R_addJoinedTo_51 (fun H locs hw => ?_)
            obtain ⟨C6, hC6⟩ : ∃ z : Int → va_E, z = zup C3 80 (aI (k 1) 8 (zup mb1 x 1)) := ⟨_, rfl⟩
            have hw : WD D clW (wA N AD sz) s.heap H locs N AD C6 := by rw [hC6]; exact hw
            have frC6 : ∀ j : Int, j ≠ 80 → C6 j = C3 j := fun j h => by rw [hC6]; exact zup_n h
            have hR : C6 0 = .inr (3, [.ref (AD 1), .ref (AD 3), .int (zI kc), .ref (AD 28), .int (zI lc), .int (zI tr), .ref (AD 76), .ref (AD 79), .ref (AD 80), .ref (AD 81)]) := (frC6 _ (by omega)).trans hR
            have h3 : C6 3 = aQ (k 3) 8 (fun i => some (AD (4 + 3 * i))) := (frC6 _ (by omega)).trans h3
            have hmb : C6 80 = aI (k 1) 8 (zup mb1 x 1) := by rw [hC6]; exact zup_s
            have hpr : C6 79 = .inr (0, [.int (zI s0), .int (zI s1), .int (zI s2), .int (zI s3), .int (zI s4)]) := (frC6 _ (by omega)).trans hpr
            refine lv_iinc (v := zI (x + 1)) (lv' := [(4, .int (zI (x + 1))), (0, .ref (AD 0)), (1, .int (zI a)), (2, .int (zI least)), (3, .int (zI bound))]) hx hb d_R_addJoinedTo_52 hl (k := 4) rfl (zI_add _ _) (by decide) rfl (fun ls hl => ?_)
            refine lv_goto (tgt := 3) hx hb d_R_addJoinedTo_55 (by decide) ?_
            exact ihlp (x + 1) (zup mb1 x 1) s0 s1 s2 s3 s4 C6 H locs ls (by omega) (fun j h1 h2 hj => by by_cases e : j = x; rw [e, zup_s]; rw [zup_n e]; exact hm1 j h1 (by omega) hj) (fun j hj => by by_cases e : j = x; rw [e, zup_s]; rw [zup_n e]; exact hm2 j hj) (fun j hj => by by_cases e : j = x; rw [e]; exact Or.inr ⟨by omega, by omega, hq4⟩; rw [zup_n e] at hj; exact hm3 j hj) (fun j g1 g2 => by by_cases e : j = x; rw [e, zup_s]; omega; rw [zup_n e]; exact hm4 j g1 g2) (fun j h1 h2 => by rw [frC6 _ (by omega), frC3 _ (by omega)]; exact hfr j h1 h2) hR h3 hmb hpr (by omega) hw (lv_sub hl [1, 2, 3, 4, 0] rfl)
          · refine zr_if_eq (tgt := 52) hx hb ⟨by omega, by omega⟩ d_R_addJoinedTo_41 (by decide) (fun c7 => ?_) (fun c9 => absurd c9 (by decide))
            refine lv_iinc (v := zI (x + 1)) (lv' := [(4, .int (zI (x + 1))), (0, .ref (AD 0)), (1, .int (zI a)), (2, .int (zI least)), (3, .int (zI bound))]) hx hb d_R_addJoinedTo_52 hl (k := 4) rfl (zI_add _ _) (by decide) rfl (fun ls hl => ?_)
            refine lv_goto (tgt := 3) hx hb d_R_addJoinedTo_55 (by decide) ?_
            exact ihlp (x + 1) mb1 s0 s1 s2 s3 s4 C3 H locs ls (by omega) (fun j h1 h2 hj => by by_cases e : j = x; rw [e] at hj; exact absurd hj hq4; exact hm1 j h1 (by omega) hj) hm2 hm3 hm4 (fun j h1 h2 => by rw [frC3 _ (by omega)]; exact hfr j h1 h2) hR h3 hmb hpr (by omega) hw (lv_sub hl [1, 2, 3, 4, 0] rfl)
  exact lp ((kc - 0 : Int).toNat + 1) 0 mb q0 q1 q2 q3 q4 C H locs ls (by omega) (fun j h1 h2 => absurd h2 (by omega)) (fun j h => h) (fun j h => Or.inl h) hbb (fun j _ _ => by rw [hC0]) hR h3 hmb hpr (by omega) hw (lv_sub hl [1, 2, 3, 4, 0] rfl)
theorem sumR_zero {f : Int → Int} {n : Int} (h : ∀ j : Int, 0 ≤ j → j < n → f j = 0) : sumR f 0 n.toNat = 0 := by
  have key : ∀ m : Nat, (m : Int) ≤ n → sumR f 0 m = 0 := by
    intro m
    induction m with
    | zero => intro _; rfl
    | succ m ih =>
      intro hm
      have e : sumR f 0 (m + 1) = sumR f 0 m + f (0 + (m : Int)) := rfl
      rw [e, ih (by omega), h _ (by omega) (by omega)]
      rfl
  by_cases hn : 0 ≤ n
  · exact key n.toNat (by omega)
  · rw [show n.toNat = 0 by omega]; rfl
abbrev rm_R_group : Room := { frames := 7, cells := 2, slots := 12, locals := 129 }
set_option maxHeartbeats 4000000 in
set_option maxRecDepth 100000 in
theorem c_R_group (l : Launch) (D : va_G) (k : Nat → ClassId) (N : Nat) (AD : Int → Nat) (C : Int → va_E) (sz : Nat) (hlt : l.stackTraces = false) (pn : Int) (pf : Int → Int) (kc : Int) (nn : Int → Int) (ww : Int → Int → Int) (ee : Int → Int → Int) (lc : Int) (pm : Int → Int) (pS : Int → Int) (pN : Int → Int) (pR : Int → Int) (pT : Int → Int) (pA : Int → Int) (oS : Int → Int) (oN : Int → Int) (oR : Int → Int) (oT : Int → Int) (oA : Int → Int) (tr : Int) (sn : Int) (sw : Int → Int) (se : Int → Int) (q0 : Int) (q1 : Int) (q2 : Int) (q3 : Int) (q4 : Int) (mb : Int → Int) (ak : Int → Int) (s0 : Int) (least : Int) (bound : Int) (hN : 82 ≤ (N : Int)) (hRI : RIx k AD C pn pf kc nn ww ee lc pm pS pN pR pT pA oS oN oR oT oA tr sn sw se q0 q1 q2 q3 q4 mb ak) (ha : inI s0) (hle : inI least) (hbo : inI bound) : XI l y_R_group (Cond.code y_R_group b_R_group 6 (Option.some Jvm.ClassFile.FieldType.int) :: WS) rm_R_group 2 12 D clW (tyW k) N AD C sz [.ref (AD 0), .int (zI s0), .int (zI least), .int (zI bound)] (fun r C' => (0 ≤ s0 ∧ s0 < kc) ∧ (3 ≤ least ∧ least ≤ 24) ∧ (∃ z : Int, r = zI z ∧ isGrp (Jn nn ww least bound) kc s0 z) ∧ (∃ (r0 r1 r2 r3 r4 : Int) (mb2 ak2 : Int → Int), RIx k AD C' pn pf kc nn ww ee lc pm pS pN pR pT pA oS oN oR oT oA tr sn sw se r0 r1 r2 r3 r4 mb2 ak2) ∧ ∀ j : Int, ¬ (0 ≤ j ∧ j ≤ 81) → C' j = C j) (fun E => (E = "java/lang/IndexOutOfBoundsException" ∧ ¬ (0 ≤ s0 ∧ s0 < kc)) ∨ (E = "java/lang/IllegalArgumentException" ∧ (0 ≤ s0 ∧ s0 < kc) ∧ ¬ (3 ≤ least ∧ least ≤ 24))) := by
  refine XI.start (cc := b_R_group) (maxL := 6) (rt := .int) (by decide) rfl (Nat.le_of_ble_eq_true rfl) ?_
  intro p e s m args below meth c Q ls hx hb hml hown hts hK hsz hw hl htb hlk hxc hQ hret
  obtain ⟨Qc9, hQ⟩ := hQ
  have hown : s.vm.findClass "RingMatches" = some m.cls := hown
  have hl : lv_has ls 6 [(0, .ref (AD 0)), (1, .int (zI s0)), (2, .int (zI least)), (3, .int (zI bound))] := hl
  have hA := wA_hi (N := N) (AD := AD) hsz
  obtain ⟨H, hH⟩ : ∃ H, H = s.heap := ⟨_, rfl⟩
  obtain ⟨locs, hlocs⟩ : ∃ z : List Loc, z = [] := ⟨_, rfl⟩
  have hw : WD D clW (wA N AD sz) s.heap H locs N AD C := by rw [hH, hlocs]; exact hw
  rw [← hlocs]
  suffices hgo : W p l e rm_R_group s m args below meth c H locs 0 0 Q (F0 m 0 ls []) by rw [hH] at hgo; exact hgo
  obtain ⟨C0, hC0⟩ : ∃ z : Int → va_E, z = C := ⟨_, rfl⟩
  obtain ⟨hR, hP, hPs, h3, hser, h28, hov, hpm, hpi, hls, hst, hstw, hste, hsn, hpr, hmb, hak, hpn, hkc, hlc, htr, hpf, hok, hlb⟩ := hRI
  refine lv_aload_n hx hb d_R_group_0 rfl (lv_at hl 0 rfl) ?_
  refine lv_iload_n hx hb d_R_group_1 rfl (lv_at hl 1 rfl) ?_
  refine zr_xcallR (vx_runV (As := [.int (zI s0)]) (rest := []) ⟨hx, hb, hml, hown, hts⟩ (c_R_seriesAt l D k N AD C H.size hlt kc lc tr s0 hN (by omega) ⟨by omega, by omega⟩ hR h3) (cwV 1 hts (good_V wk_298 wk_300 wk_3 wk_27 wk_301) rfl rfl rfl (by decide +kernel) ⟨Nat.le_of_ble_eq_true rfl, Nat.le_of_ble_eq_true rfl⟩) (xPre_V hK hw hA hxc 0 ⟨by omega, by omega⟩ hR rfl) rfl rfl hl.1 rfl (lv_room (Nat.le_of_ble_eq_true rfl)) d_R_group_2 ⟨Nat.le_of_ble_eq_true rfl, Nat.le_of_ble_eq_true rfl⟩) hw hA (fun E9 ce9 q9 H locs hxp hw h91 h92 h93 => ?_) (fun H locs hrp1 hw => ?_)
  · rw [hQ]; exact xout hK htb hlk hw (Or.inl ⟨hxp.1, hxp.2⟩) h91 h92 h93 (Nat.le_of_ble_eq_true rfl) (Nat.le_of_ble_eq_true rfl)
  obtain ⟨hokhS1, hokhS2, hokhS3⟩ := hok s0 hrp1.1 hrp1.2
  obtain ⟨hS, hSw, hSe, hSn⟩ := hser s0 hrp1.1 (by omega)
  refine lv_pop hx hb d_R_group_5 rfl ?_
  refine lv_iload_n hx hb d_R_group_6 rfl (lv_at hl 2 rfl) ?_
  refine zr_xcallV (vx_runS (As := [.int (zI least)]) (rest := []) ⟨hx, hb, hml, hown, hts⟩ (c_R_requireLeast l D k N AD C H.size hlt least ⟨by omega, by omega⟩) (va_cwS 1 hts (good_S wk_361 wk_362 wk_27 wk_363) rfl rfl rfl (by decide +kernel) ⟨Nat.le_of_ble_eq_true rfl, Nat.le_of_ble_eq_true rfl⟩) (xPre_S hK hw hA hxc) rfl rfl hl.1 rfl (lv_room (Nat.le_of_ble_eq_true rfl)) d_R_group_7 ⟨Nat.le_of_ble_eq_true rfl, Nat.le_of_ble_eq_true rfl⟩) hw hA (fun E9 ce9 q9 H locs hxp hw h91 h92 h93 => ?_) (fun C2 H locs hq3 hw => ?_)
  · rw [hQ]; exact xout hK htb hlk hw (Or.inr ⟨hxp.1, by omega, hxp.2⟩) h91 h92 h93 (Nat.le_of_ble_eq_true rfl) (Nat.le_of_ble_eq_true rfl)
  obtain ⟨hrq, hCe⟩ := hq3
  rw [hCe] at hw
  refine zr_iconst hx hb d_R_group_10 ?_
  refine lv_istore (lv' := [(4, .int (zI 0)), (0, .ref (AD 0)), (1, .int (zI s0)), (2, .int (zI least)), (3, .int (zI bound))]) hx hb d_R_group_11 hl (by decide) rfl (fun ls hl => ?_)
  have lp : ∀ (n9 : Nat) (x : Int) (mb1 : Int → Int) (ak1 : Int → Int) (C : Int → va_E) (H : Heap) (locs : List Loc) (ls : Array Slot), (0 ≤ x ∧ x ≤ 8) → (∀ j : Int, 0 ≤ j → j < x → (mb1 j = if j = s0 then 1 else 0) ∧ ak1 j = 0) → (∀ j : Int, ¬ (80 ≤ j ∧ j ≤ 81) → C j = C0 j) → (C 0 = .inr (3, [.ref (AD 1), .ref (AD 3), .int (zI kc), .ref (AD 28), .int (zI lc), .int (zI tr), .ref (AD 76), .ref (AD 79), .ref (AD 80), .ref (AD 81)])) → (C 80 = aI (k 1) 8 mb1) → (C 81 = aI (k 1) 8 ak1) → (C 79 = .inr (0, [.int (zI q0), .int (zI q1), .int (zI q2), .int (zI q3), .int (zI q4)])) → (C 3 = aQ (k 3) 8 (fun i => some (AD (4 + 3 * i)))) → (8 - x).toNat < n9 → WD D clW (wA N AD sz) s.heap H locs N AD C → lv_has ls 6 [(0, .ref (AD 0)), (1, .int (zI s0)), (2, .int (zI least)), (3, .int (zI bound)), (4, .int (zI x))] → W p l e rm_R_group s m args below meth c H locs 2 12 Q (F0 m 13 ls []) := by
    intro n9
    induction n9 with
    | zero => intro x mb1 ak1 C H locs ls hx1 hi1 hfr0 hR hmb hak hpr h3 hm hw hl; exact absurd hm (by omega)
    | succ n9 ihlp =>
      intro x mb1 ak1 C H locs ls hx1 hi1 hfr0 hR hmb hak hpr h3 hm hw hl
      refine lv_iload hx hb d_R_group_13 (lv_at hl 4 rfl) ?_
      refine zr_bipush hx hb d_R_group_15 (by decide) ?_
      refine zr_icmp_ge (tgt := 52) hx hb ⟨by omega, by omega⟩ ⟨by omega, by omega⟩ d_R_group_17 (by decide) (fun c4 => ?_) (fun c4 => ?_)
      · refine zr_iconst hx hb d_R_group_52 ?_
        refine lv_istore (lv' := [(4, .int (zI 0)), (0, .ref (AD 0)), (1, .int (zI s0)), (2, .int (zI least)), (3, .int (zI bound))]) hx hb d_R_group_53 hl (by decide) rfl (fun ls hl => ?_)
        have lq : ∀ (n9 : Nat) (x2 : Int) (mb2 : Int → Int) (ak2 : Int → Int) (r0 : Int) (r1 : Int) (r2 : Int) (r3 : Int) (r4 : Int) (C : Int → va_E) (H : Heap) (locs : List Loc) (ls : Array Slot), (0 ≤ x2 ∧ x2 ≤ kc) → (mb2 s0 = 1) → (∀ i : Int, 0 ≤ i → i < kc → mb2 i = 1 → Rch (Jn nn ww least bound) kc s0 i) → (∀ i : Int, 0 ≤ i → i < kc → ak2 i = 1 → ∀ j : Int, 0 ≤ j → j < kc → (Jn nn ww least bound) i j → mb2 j = 1) → (sumR ak2 0 kc.toNat = x2) → (∀ j : Int, 0 ≤ j → j < 8 → 0 ≤ mb2 j ∧ mb2 j ≤ 1) → (∀ j : Int, 0 ≤ j → j < 8 → 0 ≤ ak2 j ∧ ak2 j ≤ 1) → (∀ j : Int, ¬ (79 ≤ j ∧ j ≤ 81) → C j = C0 j) → (C 0 = .inr (3, [.ref (AD 1), .ref (AD 3), .int (zI kc), .ref (AD 28), .int (zI lc), .int (zI tr), .ref (AD 76), .ref (AD 79), .ref (AD 80), .ref (AD 81)])) → (C 80 = aI (k 1) 8 mb2) → (C 81 = aI (k 1) 8 ak2) → (C 79 = .inr (0, [.int (zI r0), .int (zI r1), .int (zI r2), .int (zI r3), .int (zI r4)])) → (C 3 = aQ (k 3) 8 (fun i => some (AD (4 + 3 * i)))) → (kc - x2).toNat < n9 → WD D clW (wA N AD sz) s.heap H locs N AD C → lv_has ls 6 [(0, .ref (AD 0)), (1, .int (zI s0)), (2, .int (zI least)), (3, .int (zI bound)), (4, .int (zI x2))] → W p l e rm_R_group s m args below meth c H locs 2 12 Q (F0 m 55 ls []) := by
          intro n9
          induction n9 with
          | zero => intro x2 mb2 ak2 r0 r1 r2 r3 r4 C H locs ls hx2 hM1 hM2 hAk hcn hbb2 hba2 hfr hR hmb hak hpr h3 hm hw hl; exact absurd hm (by omega)
          | succ n9 ihlq =>
            intro x2 mb2 ak2 r0 r1 r2 r3 r4 C H locs ls hx2 hM1 hM2 hAk hcn hbb2 hba2 hfr hR hmb hak hpr h3 hm hw hl
            refine lv_iload hx hb d_R_group_55 (lv_at hl 4 rfl) ?_
            refine lv_aload_n hx hb d_R_group_57 rfl (lv_at hl 0 rfl) ?_
            refine zr_get (v := .int (zI kc)) hx hb hts iw_R hown hK hw 0 ⟨by omega, by omega⟩ hR rfl 2 (by decide) (hts _ wk_112) (fun _ h => h) rfl d_R_group_58 ?_
            refine zr_icmp_ge (tgt := 101) hx hb ⟨by omega, by omega⟩ ⟨by omega, by omega⟩ d_R_group_61 (by decide) (fun c5 => ?_) (fun c5 => ?_)
            · have hfl := (sumR_full (f := ak2) kc.toNat (fun z h1 h2 => hba2 z h1 (by omega))).2 (by rw [hcn]; omega)
              have hcl : ∀ i : Int, 0 ≤ i → i < kc → mb2 i = 1 → ak2 i = 1 := fun i h1 h2 _ => hfl i h1 (by omega)
              refine lv_aload_n hx hb d_R_group_101 rfl (lv_at hl 0 rfl) ?_
              refine zr_callI (va_runV (As := []) (rest := []) ⟨hx, hb, hml, hown, hts⟩ (c_R_leastMember l D k N AD C H.size kc lc tr mb2 hN hkc hR hmb hbb2 ⟨s0, by omega, by omega, hM1⟩) (cwV 0 hts (good_V wk_489 wk_491 wk_10 wk_27 wk_492) rfl rfl rfl (by decide +kernel) ⟨Nat.le_of_ble_eq_true rfl, Nat.le_of_ble_eq_true rfl⟩) (cPre_V hK hw 0 ⟨by omega, by omega⟩ hR rfl) rfl rfl hl.1 rfl (lv_room (Nat.le_of_ble_eq_true rfl)) d_R_group_102 ⟨Nat.le_of_ble_eq_true rfl, Nat.le_of_ble_eq_true rfl⟩) hw hA (fun r9 C6 H locs hq7 hw => ?_)
              obtain ⟨z, hr9, hz2, hz3, hz4, hCe⟩ := hq7
              rw [hCe] at hw; subst hr9
              exact hret _ _ _ _ _ _ 2 12 (by decide) (by decide) d_R_group_105 hw rfl ⟨by omega, by omega, ⟨z, rfl, (fun i => mb2 i = 1), hM1, hM2, fun i j h1 h2 h3 h4 h5 h6 => hAk i h1 h2 (hcl i h1 h2 h5) j h3 h4 h6, hz2, hz3, fun j h1 h2 h9 => by have h9' : mb2 j = 1 := h9; have := hz4 j h1 h2; omega⟩, ⟨r0, r1, r2, r3, r4, mb2, ak2, ⟨hR, ((hfr _ (by omega)).trans (by rw [hC0]; exact hP)), ((hfr _ (by omega)).trans (by rw [hC0]; exact hPs)), h3, (fun i h1 h2 => by obtain ⟨a1, a2, a3, a4⟩ := hser i h1 h2; rw [← hC0] at a1 a2 a3; exact ⟨(hfr _ (by omega)).trans a1, (hfr _ (by omega)).trans a2, (hfr _ (by omega)).trans a3, a4⟩), ((hfr _ (by omega)).trans (by rw [hC0]; exact h28)), (fun j h1 h2 => (hfr _ (by omega)).trans (by rw [hC0]; exact hov j h1 h2)), hpm, hpi, hls, ((hfr _ (by omega)).trans (by rw [hC0]; exact hst)), ((hfr _ (by omega)).trans (by rw [hC0]; exact hstw)), ((hfr _ (by omega)).trans (by rw [hC0]; exact hste)), hsn, hpr, hmb, hak, hpn, hkc, hlc, htr, hpf, hok, hlb⟩⟩, fun j hj => (hfr j (by omega)).trans (by rw [hC0])⟩
            · refine lv_aload_n hx hb d_R_group_64 rfl (lv_at hl 0 rfl) ?_
              refine zr_callI (va_runV (As := []) (rest := []) ⟨hx, hb, hml, hown, hts⟩ (c_R_memberNotAsked l D k N AD C H.size kc lc tr mb2 ak2 hN hkc hR hmb hak hbb2 hba2) (cwV 0 hts (good_V wk_477 wk_479 wk_7 wk_27 wk_480) rfl rfl rfl (by decide +kernel) ⟨Nat.le_of_ble_eq_true rfl, Nat.le_of_ble_eq_true rfl⟩) (cPre_V hK hw 0 ⟨by omega, by omega⟩ hR rfl) rfl rfl hl.1 rfl (lv_room (Nat.le_of_ble_eq_true rfl)) d_R_group_65 ⟨Nat.le_of_ble_eq_true rfl, Nat.le_of_ble_eq_true rfl⟩) hw hA (fun r9 C8 H locs hq9 hw => ?_)
              obtain ⟨hq9, hCe⟩ := hq9
              rw [hCe] at hw
              rcases hq9 with ⟨y, hr9, hy2, hy3, hy4⟩ | ⟨hr9, hnone⟩ <;> subst hr9
              · refine lv_istore (lv' := [(5, .int (zI y)), (0, .ref (AD 0)), (1, .int (zI s0)), (2, .int (zI least)), (3, .int (zI bound)), (4, .int (zI x2))]) hx hb d_R_group_68 hl (by decide) rfl (fun ls hl => ?_)
                refine lv_iload hx hb d_R_group_70 (lv_at hl 0 rfl) ?_
                refine zr_iconst hx hb d_R_group_72 ?_
                refine zr_icmp_ne (tgt := 79) hx hb ⟨by omega, by omega⟩ ⟨by omega, by omega⟩ d_R_group_73 (by decide) (fun c10 => ?_) (fun c10 => ?_)
                · refine lv_aload_n hx hb d_R_group_79 rfl (lv_at hl 1 rfl) ?_
                  refine zr_get (v := .ref (AD 81)) hx hb hts iw_R hown hK hw 0 ⟨by omega, by omega⟩ hR rfl 9 (by decide) (hts _ wk_119) (fun _ h => h) rfl d_R_group_80 ?_
                  refine lv_iload hx hb d_R_group_83 (lv_at hl 0 rfl) ?_
                  refine zr_iconst hx hb d_R_group_85 ?_
                  refine zr_zast hx hb hK hw 81 ⟨by omega, by omega⟩ 1 hak rfl ⟨by omega, by omega⟩ (by decide) (by omega) d_R_group_86 (fun H locs hw => ?_)
                  obtain ⟨C11, hC11⟩ : ∃ z : Int → va_E, z = zup C 81 (aI (k 1) 8 (zup ak2 y 1)) := ⟨_, rfl⟩
                  have hw : WD D clW (wA N AD sz) s.heap H locs N AD C11 := by rw [hC11]; exact hw
                  have frC11 : ∀ j : Int, j ≠ 81 → C11 j = C j := fun j h => by rw [hC11]; exact zup_n h
                  have hR : C11 0 = .inr (3, [.ref (AD 1), .ref (AD 3), .int (zI kc), .ref (AD 28), .int (zI lc), .int (zI tr), .ref (AD 76), .ref (AD 79), .ref (AD 80), .ref (AD 81)]) := (frC11 _ (by omega)).trans hR
                  have hmb : C11 80 = aI (k 1) 8 mb2 := (frC11 _ (by omega)).trans hmb
                  have hak : C11 81 = aI (k 1) 8 (zup ak2 y 1) := by rw [hC11]; exact zup_s
                  have hpr : C11 79 = .inr (0, [.int (zI r0), .int (zI r1), .int (zI r2), .int (zI r3), .int (zI r4)]) := (frC11 _ (by omega)).trans hpr
                  have h3 : C11 3 = aQ (k 3) 8 (fun i => some (AD (4 + 3 * i))) := (frC11 _ (by omega)).trans h3
                  refine lv_aload_n hx hb d_R_group_87 rfl (lv_at hl 1 rfl) ?_
                  refine lv_iload hx hb d_R_group_88 (lv_at hl 0 rfl) ?_
                  refine lv_iload_n hx hb d_R_group_90 rfl (lv_at hl 3 rfl) ?_
                  refine lv_iload_n hx hb d_R_group_91 rfl (lv_at hl 4 rfl) ?_
                  have hser8 : ∀ i : Int, 0 ≤ i → i < 8 → C11 (4 + 3 * i) = .inr (2, [.ref (AD ((4 + 3 * i) + 1)), .ref (AD ((4 + 3 * i) + 2)), .int (zI (nn i))]) ∧ C11 ((4 + 3 * i) + 1) = aI (k 0) 24 (ww i) ∧ C11 ((4 + 3 * i) + 2) = aI (k 0) 24 (ee i) ∧ (0 ≤ nn i ∧ nn i ≤ 24) := fun i h1 h2 => by obtain ⟨a1, a2, a3, a4⟩ := hser i h1 h2; rw [← hC0] at a1 a2 a3; exact ⟨by rw [frC11 _ (by omega)]; exact (hfr _ (by omega)).trans a1, by rw [frC11 _ (by omega)]; exact (hfr _ (by omega)).trans a2, by rw [frC11 _ (by omega)]; exact (hfr _ (by omega)).trans a3, a4⟩
                  refine zr_callV (va_runV (As := [.int (zI y), .int (zI least), .int (zI bound)]) (rest := []) ⟨hx, hb, hml, hown, hts⟩ (c_R_addJoinedTo l D k N AD C11 H.size kc lc tr r0 r1 r2 r3 r4 nn ww ee mb2 y least bound hN hkc hR h3 hpr hser8 hok hmb hbb2 (by omega) hle hbo) (cwV 3 hts (good_V wk_481 wk_483 wk_8 wk_27 wk_484) rfl rfl rfl (by decide +kernel) ⟨Nat.le_of_ble_eq_true rfl, Nat.le_of_ble_eq_true rfl⟩) (cPre_V hK hw 0 ⟨by omega, by omega⟩ hR rfl) rfl rfl hl.1 rfl (lv_room (Nat.le_of_ble_eq_true rfl)) d_R_group_92 ⟨Nat.le_of_ble_eq_true rfl, Nat.le_of_ble_eq_true rfl⟩) hw hA (fun C12 H locs hq13 hw => ?_)
                  obtain ⟨mb3, hq13m, hg2, hg3, hg4, hg5, ⟨s1, s2, s3, s4, s5, hq13p⟩, frC120⟩ := hq13
                  have frC12 : ∀ j : Int, ¬ (79 ≤ j ∧ j ≤ 80) → C12 j = C11 j := fun j hj => frC120 j (by omega) (by omega)
                  have hR : C12 0 = .inr (3, [.ref (AD 1), .ref (AD 3), .int (zI kc), .ref (AD 28), .int (zI lc), .int (zI tr), .ref (AD 76), .ref (AD 79), .ref (AD 80), .ref (AD 81)]) := (frC12 _ (by omega)).trans hR
                  have hmb : C12 80 = aI (k 1) 8 mb3 := hq13m
                  have hak : C12 81 = aI (k 1) 8 (zup ak2 y 1) := (frC12 _ (by omega)).trans hak
                  have hpr : C12 79 = .inr (0, [.int (zI s1), .int (zI s2), .int (zI s3), .int (zI s4), .int (zI s5)]) := hq13p
                  have h3 : C12 3 = aQ (k 3) 8 (fun i => some (AD (4 + 3 * i))) := (frC12 _ (by omega)).trans h3
                  refine lv_iinc (v := zI (x2 + 1)) (lv' := [(4, .int (zI (x2 + 1))), (5, .int (zI y)), (0, .ref (AD 0)), (1, .int (zI s0)), (2, .int (zI least)), (3, .int (zI bound))]) hx hb d_R_group_95 hl (k := 5) rfl (zI_add _ _) (by decide) rfl (fun ls hl => ?_)
                  refine lv_goto (tgt := 55) hx hb d_R_group_98 (by decide) ?_
                  exact ihlq (x2 + 1) mb3 (zup ak2 y 1) s1 s2 s3 s4 s5 C12 H locs ls (by omega) (hg3 _ hM1) (fun i h1 h2 h3 => by rcases hg4 i h3 with h | h; exact hM2 i h1 h2 h; exact Rch_s (hM2 y (by omega) (by omega) hy3) (by omega) h.2.2) (fun i h1 h2 h3 j h4 h5 h6 => by by_cases e : i = y; rw [e] at h6; exact hg5 j h4 h5 h6; rw [zup_n e] at h3; exact hg3 _ (hAk i h1 h2 h3 j h4 h5 h6)) (by rw [sumR_z (by omega) hy4, if_pos (by omega), hcn]) hg2 (fun j h1 h2 => by by_cases e : j = y; rw [e, zup_s]; omega; rw [zup_n e]; exact hba2 j h1 h2) (fun j hj => by rw [frC12 _ (by omega), frC11 _ (by omega)]; exact hfr j hj) hR hmb hak hpr h3 (by omega) hw (lv_sub hl [2, 3, 4, 5, 0] rfl)
                · exact absurd c10 (by omega)
              · refine lv_istore (lv' := [(5, .int (zI (-1))), (0, .ref (AD 0)), (1, .int (zI s0)), (2, .int (zI least)), (3, .int (zI bound)), (4, .int (zI x2))]) hx hb d_R_group_68 hl (by decide) rfl (fun ls hl => ?_)
                refine lv_iload hx hb d_R_group_70 (lv_at hl 0 rfl) ?_
                refine zr_iconst hx hb d_R_group_72 ?_
                refine zr_icmp_ne (tgt := 79) hx hb ⟨by omega, by omega⟩ ⟨by omega, by omega⟩ d_R_group_73 (by decide) (fun c14 => ?_) (fun c14 => ?_)
                · exact absurd c14 (by omega)
                · refine lv_goto (tgt := 101) hx hb d_R_group_76 (by decide) ?_
                  have hcl : ∀ i : Int, 0 ≤ i → i < kc → mb2 i = 1 → ak2 i = 1 := fun i h1 h2 h3 => by have := hnone i h1 h2; omega
                  refine lv_aload_n hx hb d_R_group_101 rfl (lv_at hl 1 rfl) ?_
                  refine zr_callI (va_runV (As := []) (rest := []) ⟨hx, hb, hml, hown, hts⟩ (c_R_leastMember l D k N AD C H.size kc lc tr mb2 hN hkc hR hmb hbb2 ⟨s0, by omega, by omega, hM1⟩) (cwV 0 hts (good_V wk_489 wk_491 wk_10 wk_27 wk_492) rfl rfl rfl (by decide +kernel) ⟨Nat.le_of_ble_eq_true rfl, Nat.le_of_ble_eq_true rfl⟩) (cPre_V hK hw 0 ⟨by omega, by omega⟩ hR rfl) rfl rfl hl.1 rfl (lv_room (Nat.le_of_ble_eq_true rfl)) d_R_group_102 ⟨Nat.le_of_ble_eq_true rfl, Nat.le_of_ble_eq_true rfl⟩) hw hA (fun r9 C15 H locs hq16 hw => ?_)
                  obtain ⟨z, hr9, hz2, hz3, hz4, hCe⟩ := hq16
                  rw [hCe] at hw; subst hr9
                  exact hret _ _ _ _ _ _ 2 12 (by decide) (by decide) d_R_group_105 hw rfl ⟨by omega, by omega, ⟨z, rfl, (fun i => mb2 i = 1), hM1, hM2, fun i j h1 h2 h3 h4 h5 h6 => hAk i h1 h2 (hcl i h1 h2 h5) j h3 h4 h6, hz2, hz3, fun j h1 h2 h9 => by have h9' : mb2 j = 1 := h9; have := hz4 j h1 h2; omega⟩, ⟨r0, r1, r2, r3, r4, mb2, ak2, ⟨hR, ((hfr _ (by omega)).trans (by rw [hC0]; exact hP)), ((hfr _ (by omega)).trans (by rw [hC0]; exact hPs)), h3, (fun i h1 h2 => by obtain ⟨a1, a2, a3, a4⟩ := hser i h1 h2; rw [← hC0] at a1 a2 a3; exact ⟨(hfr _ (by omega)).trans a1, (hfr _ (by omega)).trans a2, (hfr _ (by omega)).trans a3, a4⟩), ((hfr _ (by omega)).trans (by rw [hC0]; exact h28)), (fun j h1 h2 => (hfr _ (by omega)).trans (by rw [hC0]; exact hov j h1 h2)), hpm, hpi, hls, ((hfr _ (by omega)).trans (by rw [hC0]; exact hst)), ((hfr _ (by omega)).trans (by rw [hC0]; exact hstw)), ((hfr _ (by omega)).trans (by rw [hC0]; exact hste)), hsn, hpr, hmb, hak, hpn, hkc, hlc, htr, hpf, hok, hlb⟩⟩, fun j hj => (hfr j (by omega)).trans (by rw [hC0])⟩
        exact lq ((kc - 0 : Int).toNat + 1) 0 mb1 ak1 q0 q1 q2 q3 q4 C H locs ls (by omega) (by rw [(hi1 s0 (by omega) (by omega)).1, if_pos rfl]) (fun i h1 h2 h3 => by rw [(hi1 i h1 (by omega)).1] at h3; by_cases e : i = s0; rw [e]; exact Rch_0 _ _ _; rw [if_neg e] at h3; omega) (fun i h1 h2 h3 => by rw [(hi1 i h1 (by omega)).2] at h3; omega) (sumR_zero (fun j h1 h2 => (hi1 j h1 (by omega)).2)) (fun j h1 h2 => by rw [(hi1 j h1 (by omega)).1]; split <;> omega) (fun j h1 h2 => by rw [(hi1 j h1 (by omega)).2]; omega) (fun j hj => hfr0 j (by omega)) hR hmb hak hpr h3 (by omega) hw (lv_sub hl [1, 2, 3, 4, 0] rfl)
      · refine lv_aload_n hx hb d_R_group_20 rfl (lv_at hl 0 rfl) ?_
        refine zr_get (v := .ref (AD 80)) hx hb hts iw_R hown hK hw 0 ⟨by omega, by omega⟩ hR rfl 8 (by decide) (hts _ wk_118) (fun _ h => h) rfl d_R_group_21 ?_
        refine lv_iload hx hb d_R_group_24 (lv_at hl 4 rfl) ?_
        refine lv_iload hx hb d_R_group_26 (lv_at hl 4 rfl) ?_
        refine lv_iload_n hx hb d_R_group_28 rfl (lv_at hl 1 rfl) ?_
        refine zr_icmp_ne (tgt := 36) hx hb ⟨by omega, by omega⟩ ⟨by omega, by omega⟩ d_R_group_29 (by decide) (fun c17 => ?_) (fun c17 => ?_)
        · refine zr_iconst hx hb d_R_group_36 ?_
          refine zr_zast hx hb hK hw 80 ⟨by omega, by omega⟩ 1 hmb rfl ⟨by omega, by omega⟩ (by decide) (by omega) d_R_group_37 (fun H locs hw => ?_)
          obtain ⟨C18, hC18⟩ : ∃ z : Int → va_E, z = zup C 80 (aI (k 1) 8 (zup mb1 x 0)) := ⟨_, rfl⟩
          have hw : WD D clW (wA N AD sz) s.heap H locs N AD C18 := by rw [hC18]; exact hw
          have frC18 : ∀ j : Int, j ≠ 80 → C18 j = C j := fun j h => by rw [hC18]; exact zup_n h
          have hR : C18 0 = .inr (3, [.ref (AD 1), .ref (AD 3), .int (zI kc), .ref (AD 28), .int (zI lc), .int (zI tr), .ref (AD 76), .ref (AD 79), .ref (AD 80), .ref (AD 81)]) := (frC18 _ (by omega)).trans hR
          have hmb : C18 80 = aI (k 1) 8 (zup mb1 x 0) := by rw [hC18]; exact zup_s
          have hak : C18 81 = aI (k 1) 8 ak1 := (frC18 _ (by omega)).trans hak
          have hpr : C18 79 = .inr (0, [.int (zI q0), .int (zI q1), .int (zI q2), .int (zI q3), .int (zI q4)]) := (frC18 _ (by omega)).trans hpr
          have h3 : C18 3 = aQ (k 3) 8 (fun i => some (AD (4 + 3 * i))) := (frC18 _ (by omega)).trans h3
          refine lv_aload_n hx hb d_R_group_38 rfl (lv_at hl 0 rfl) ?_
          refine zr_get (v := .ref (AD 81)) hx hb hts iw_R hown hK hw 0 ⟨by omega, by omega⟩ hR rfl 9 (by decide) (hts _ wk_119) (fun _ h => h) rfl d_R_group_39 ?_
          refine lv_iload hx hb d_R_group_42 (lv_at hl 4 rfl) ?_
          refine zr_iconst hx hb d_R_group_44 ?_
          refine zr_zast hx hb hK hw 81 ⟨by omega, by omega⟩ 1 hak rfl ⟨by omega, by omega⟩ (by decide) (by omega) d_R_group_45 (fun H locs hw => ?_)
          obtain ⟨C19, hC19⟩ : ∃ z : Int → va_E, z = zup C18 81 (aI (k 1) 8 (zup ak1 x 0)) := ⟨_, rfl⟩
          have hw : WD D clW (wA N AD sz) s.heap H locs N AD C19 := by rw [hC19]; exact hw
          have frC19 : ∀ j : Int, j ≠ 81 → C19 j = C18 j := fun j h => by rw [hC19]; exact zup_n h
          have hR : C19 0 = .inr (3, [.ref (AD 1), .ref (AD 3), .int (zI kc), .ref (AD 28), .int (zI lc), .int (zI tr), .ref (AD 76), .ref (AD 79), .ref (AD 80), .ref (AD 81)]) := (frC19 _ (by omega)).trans hR
          have hmb : C19 80 = aI (k 1) 8 (zup mb1 x 0) := (frC19 _ (by omega)).trans hmb
          have hak : C19 81 = aI (k 1) 8 (zup ak1 x 0) := by rw [hC19]; exact zup_s
          have hpr : C19 79 = .inr (0, [.int (zI q0), .int (zI q1), .int (zI q2), .int (zI q3), .int (zI q4)]) := (frC19 _ (by omega)).trans hpr
          have h3 : C19 3 = aQ (k 3) 8 (fun i => some (AD (4 + 3 * i))) := (frC19 _ (by omega)).trans h3
          refine lv_iinc (v := zI (x + 1)) (lv' := [(4, .int (zI (x + 1))), (0, .ref (AD 0)), (1, .int (zI s0)), (2, .int (zI least)), (3, .int (zI bound))]) hx hb d_R_group_46 hl (k := 4) rfl (zI_add _ _) (by decide) rfl (fun ls hl => ?_)
          refine lv_goto (tgt := 13) hx hb d_R_group_49 (by decide) ?_
          exact ihlp (x + 1) (zup mb1 x 0) (zup ak1 x 0) C19 H locs ls (by omega) (fun j h1 h2 => by by_cases e : j = x; rw [e, zup_s, zup_s, if_neg (by omega)]; exact ⟨rfl, rfl⟩; rw [zup_n e, zup_n e]; exact hi1 j h1 (by omega)) (fun j hj => by rw [frC19 _ (by omega), frC18 _ (by omega)]; exact hfr0 j hj) hR hmb hak hpr h3 (by omega) hw (lv_sub hl [1, 2, 3, 4, 0] rfl)
        · refine zr_iconst hx hb d_R_group_32 ?_
          refine lv_goto (tgt := 37) hx hb d_R_group_33 (by decide) ?_
          refine zr_zast hx hb hK hw 80 ⟨by omega, by omega⟩ 1 hmb rfl ⟨by omega, by omega⟩ (by decide) (by omega) d_R_group_37 (fun H locs hw => ?_)
          obtain ⟨C20, hC20⟩ : ∃ z : Int → va_E, z = zup C 80 (aI (k 1) 8 (zup mb1 x 1)) := ⟨_, rfl⟩
          have hw : WD D clW (wA N AD sz) s.heap H locs N AD C20 := by rw [hC20]; exact hw
          have frC20 : ∀ j : Int, j ≠ 80 → C20 j = C j := fun j h => by rw [hC20]; exact zup_n h
          have hR : C20 0 = .inr (3, [.ref (AD 1), .ref (AD 3), .int (zI kc), .ref (AD 28), .int (zI lc), .int (zI tr), .ref (AD 76), .ref (AD 79), .ref (AD 80), .ref (AD 81)]) := (frC20 _ (by omega)).trans hR
          have hmb : C20 80 = aI (k 1) 8 (zup mb1 x 1) := by rw [hC20]; exact zup_s
          have hak : C20 81 = aI (k 1) 8 ak1 := (frC20 _ (by omega)).trans hak
          have hpr : C20 79 = .inr (0, [.int (zI q0), .int (zI q1), .int (zI q2), .int (zI q3), .int (zI q4)]) := (frC20 _ (by omega)).trans hpr
          have h3 : C20 3 = aQ (k 3) 8 (fun i => some (AD (4 + 3 * i))) := (frC20 _ (by omega)).trans h3
          refine lv_aload_n hx hb d_R_group_38 rfl (lv_at hl 0 rfl) ?_
          refine zr_get (v := .ref (AD 81)) hx hb hts iw_R hown hK hw 0 ⟨by omega, by omega⟩ hR rfl 9 (by decide) (hts _ wk_119) (fun _ h => h) rfl d_R_group_39 ?_
          refine lv_iload hx hb d_R_group_42 (lv_at hl 4 rfl) ?_
          refine zr_iconst hx hb d_R_group_44 ?_
          refine zr_zast hx hb hK hw 81 ⟨by omega, by omega⟩ 1 hak rfl ⟨by omega, by omega⟩ (by decide) (by omega) d_R_group_45 (fun H locs hw => ?_)
          obtain ⟨C21, hC21⟩ : ∃ z : Int → va_E, z = zup C20 81 (aI (k 1) 8 (zup ak1 x 0)) := ⟨_, rfl⟩
          have hw : WD D clW (wA N AD sz) s.heap H locs N AD C21 := by rw [hC21]; exact hw
          have frC21 : ∀ j : Int, j ≠ 81 → C21 j = C20 j := fun j h => by rw [hC21]; exact zup_n h
          have hR : C21 0 = .inr (3, [.ref (AD 1), .ref (AD 3), .int (zI kc), .ref (AD 28), .int (zI lc), .int (zI tr), .ref (AD 76), .ref (AD 79), .ref (AD 80), .ref (AD 81)]) := (frC21 _ (by omega)).trans hR
          have hmb : C21 80 = aI (k 1) 8 (zup mb1 x 1) := (frC21 _ (by omega)).trans hmb
          have hak : C21 81 = aI (k 1) 8 (zup ak1 x 0) := by rw [hC21]; exact zup_s
          have hpr : C21 79 = .inr (0, [.int (zI q0), .int (zI q1), .int (zI q2), .int (zI q3), .int (zI q4)]) := (frC21 _ (by omega)).trans hpr
          have h3 : C21 3 = aQ (k 3) 8 (fun i => some (AD (4 + 3 * i))) := (frC21 _ (by omega)).trans h3
          refine lv_iinc (v := zI (x + 1)) (lv' := [(4, .int (zI (x + 1))), (0, .ref (AD 0)), (1, .int (zI s0)), (2, .int (zI least)), (3, .int (zI bound))]) hx hb d_R_group_46 hl (k := 4) rfl (zI_add _ _) (by decide) rfl (fun ls hl => ?_)
          refine lv_goto (tgt := 13) hx hb d_R_group_49 (by decide) ?_
          exact ihlp (x + 1) (zup mb1 x 1) (zup ak1 x 0) C21 H locs ls (by omega) (fun j h1 h2 => by by_cases e : j = x; rw [e, zup_s, zup_s, if_pos (by omega)]; exact ⟨rfl, rfl⟩; rw [zup_n e, zup_n e]; exact hi1 j h1 (by omega)) (fun j hj => by rw [frC21 _ (by omega), frC20 _ (by omega)]; exact hfr0 j hj) hR hmb hak hpr h3 (by omega) hw (lv_sub hl [1, 2, 3, 4, 0] rfl)
  exact lp ((8 - 0 : Int).toNat + 1) 0 mb ak C H locs ls (by omega) (fun j h1 h2 => absurd h2 (by omega)) (fun j _ => by rw [hC0]) hR hmb hak hpr h3 (by omega) hw (lv_sub hl [1, 2, 3, 4, 0] rfl)
