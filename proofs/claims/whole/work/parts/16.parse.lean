/-- a ring that has come so far (0 nothing yet, -1 missing, else its width), with one sign more: -2 if it can't be -/
def grw (r s : Int) : Int := if s = 45 then (if r = 0 then -1 else -2) else if s < 48 ∨ 57 < s ∨ r = -1 then -2 else if 1 ≤ 10 * r + s - 48 ∧ 10 * r + s - 48 ≤ 500 then 10 * r + s - 48 else -2
/-- a ring so far, how many ahead of it, their widths -/
def stp (s : Int) (q : Int × Int × (Int → Int)) : Int × Int × (Int → Int) := if s = 32 ∧ ¬ q.1 = 0 ∧ q.2.1 < 23 then (0, q.2.1 + 1, zup q.2.2 q.2.1 q.1) else (grw q.1 s, q.2.1, q.2.2)
def okS (s : Int) (q : Int × Int × (Int → Int)) : Prop := (s = 32 ∧ ¬ q.1 = 0 ∧ q.2.1 < 23) ∨ ¬ grw q.1 s = -2
def ps (f : Int → Int) : Nat → Int × Int × (Int → Int)
  | 0 => (0, 0, fun _ => -1)
  | m + 1 => stp (f (m : Int)) (ps f m)
/-- the first m signs may stand there -/
def okP (f : Int → Int) (m : Int) : Prop := ∀ j : Int, 0 ≤ j → j < m → okS (f j) (ps f j.toNat)
theorem ps_step (f : Int → Int) {x : Int} (h : 0 ≤ x) : ps f (x + 1).toNat = stp (f x) (ps f x.toNat) := by
  have e1 : (x + 1).toNat = x.toNat + 1 := by omega
  have e2 : ((x.toNat : Nat) : Int) = x := by omega
  rw [e1]
  show stp (f ((x.toNat : Nat) : Int)) (ps f x.toNat) = _
  rw [e2]
theorem okP_step {f : Int → Int} {x : Int} (h : okP f x) (hs : okS (f x) (ps f x.toNat)) : okP f (x + 1) := fun j h1 h2 =>
  (Int.lt_or_eq_of_le (Int.lt_add_one_iff.mp h2)).elim (h j h1) (fun e => by rw [e]; exact hs)
theorem grw_in (r s : Int) : grw r s = -2 ∨ grw r s = -1 ∨ (1 ≤ grw r s ∧ grw r s ≤ 500) := by
  unfold grw
  split
  · split <;> omega
  · split
    · omega
    · split
      · rename_i h; exact Or.inr (Or.inr h)
      · omega
theorem ps_in {f : Int → Int} : ∀ (m : Nat), okP f (m : Int) → ((ps f m).1 = 0 ∨ (ps f m).1 = -1 ∨ (1 ≤ (ps f m).1 ∧ (ps f m).1 ≤ 500)) ∧ 0 ≤ (ps f m).2.1 ∧ (ps f m).2.1 ≤ 23 ∧ WOK (ps f m).2.2 (ps f m).2.1 := by
  intro m
  induction m with
  | zero => intro _; exact ⟨Or.inl rfl, Int.le_refl 0, (by decide : (0 : Int) ≤ 23), fun j h1 h2 => absurd h2 (by show ¬ j < 0; omega)⟩
  | succ m ih =>
    intro h
    obtain ⟨h1, h2, h3, h4⟩ := ih (fun j a b => h j a (by omega))
    have h5 := h (m : Int) (by omega) (by omega)
    rw [show ((m : Int)).toNat = m by omega] at h5
    have e : ps f (m + 1) = stp (f (m : Int)) (ps f m) := rfl
    rw [e]
    by_cases hc : f (m : Int) = 32 ∧ ¬ (ps f m).1 = 0 ∧ (ps f m).2.1 < 23
    · have e2 : stp (f (m : Int)) (ps f m) = (0, (ps f m).2.1 + 1, zup (ps f m).2.2 (ps f m).2.1 (ps f m).1) := if_pos hc
      rw [e2]
      refine ⟨Or.inl rfl, by show 0 ≤ (ps f m).2.1 + 1; omega, by show (ps f m).2.1 + 1 ≤ 23; omega, fun j a b => ?_⟩
      show zup (ps f m).2.2 (ps f m).2.1 (ps f m).1 j = -1 ∨ (1 ≤ zup (ps f m).2.2 (ps f m).2.1 (ps f m).1 j ∧ zup (ps f m).2.2 (ps f m).2.1 (ps f m).1 j ≤ 500)
      by_cases hj : j = (ps f m).2.1
      · rw [hj, zup_s]; omega
      · rw [zup_n hj]; exact h4 j a (by have b' : j < (ps f m).2.1 + 1 := b; omega)
    · have e2 : stp (f (m : Int)) (ps f m) = (grw (ps f m).1 (f (m : Int)), (ps f m).2.1, (ps f m).2.2) := if_neg hc
      rw [e2]
      have h6 : ¬ grw (ps f m).1 (f (m : Int)) = -2 := by
        rcases h5 with h | h
        · exact absurd h hc
        · exact h
      have h7 := grw_in (ps f m).1 (f (m : Int))
      exact ⟨by show grw _ _ = 0 ∨ _; omega, h2, h3, h4⟩
theorem ps_inI {f : Int → Int} {x : Int} (h0 : 0 ≤ x) (h : okP f x) {r c : Int} {w : Int → Int} (e : ps f x.toNat = (r, c, w)) : (r = 0 ∨ r = -1 ∨ (1 ≤ r ∧ r ≤ 500)) ∧ 0 ≤ c ∧ c ≤ 23 ∧ WOK w c := by
  have h1 := ps_in (f := f) x.toNat (by rw [show ((x.toNat : Nat) : Int) = x by omega]; exact h)
  rw [e] at h1
  exact h1
abbrev rm_P_grown : Room := { frames := 0, cells := 0, slots := 0, locals := 0 }
set_option maxHeartbeats 4000000 in
set_option maxRecDepth 100000 in
theorem c_P_grown (l : Launch) (D : va_G) (k : Nat → ClassId) (N : Nat) (AD : Int → Nat) (C : Int → va_E) (sz : Nat) (r0 : Int) (s0 : Int) (hr : r0 = 0 ∨ r0 = -1 ∨ (1 ≤ r0 ∧ r0 ≤ 500)) (hs : 0 ≤ s0 ∧ s0 < 256) : MI l y_P_grown (Cond.code y_P_grown b_P_grown 3 (Option.some Jvm.ClassFile.FieldType.int) :: WS) rm_P_grown D clW (tyW k) N AD C sz [.int (zI r0), .int (zI s0)] (fun r C' => r = zI (grw r0 s0) ∧ C' = C) := by
  refine MI.start (cc := b_P_grown) (maxL := 3) (rt := .int) (by decide) rfl (Nat.le_of_ble_eq_true rfl) ?_
  intro p e s m args below meth c Q ls hx hb hml hown hts hK hsz hw hl hret
  have hown : s.vm.findClass "RingMatches$Pad" = some m.cls := hown
  have hl : lv_has ls 3 [(0, .int (zI r0)), (1, .int (zI s0))] := hl
  have hA := wA_hi (N := N) (AD := AD) hsz
  obtain ⟨H, hH⟩ : ∃ H, H = s.heap := ⟨_, rfl⟩
  obtain ⟨locs, hlocs⟩ : ∃ z : List Loc, z = [] := ⟨_, rfl⟩
  have hw : WD D clW (wA N AD sz) s.heap H locs N AD C := by rw [hH, hlocs]; exact hw
  rw [← hlocs]
  suffices hgo : W p l e rm_P_grown s m args below meth c H locs 0 0 Q (F0 m 0 ls []) by rw [hH] at hgo; exact hgo
  refine lv_iload_n hx hb d_P_grown_0 rfl (lv_at hl 1 rfl) ?_
  refine zr_bipush hx hb d_P_grown_1 (by decide) ?_
  refine zr_icmp_ne (tgt := 17) hx hb ⟨by omega, by omega⟩ ⟨by omega, by omega⟩ d_P_grown_3 (by decide) (fun c1 => ?_) (fun c1 => ?_)
  · refine lv_iload_n hx hb d_P_grown_17 rfl (lv_at hl 1 rfl) ?_
    refine zr_bipush hx hb d_P_grown_18 (by decide) ?_
    refine zr_icmp_lt (tgt := 34) hx hb ⟨by omega, by omega⟩ ⟨by omega, by omega⟩ d_P_grown_20 (by decide) (fun c2 => ?_) (fun c2 => ?_)
    · refine zr_bipush hx hb d_P_grown_34 (by decide) ?_
      exact hret _ _ _ _ _ _ d_P_grown_36 hw rfl ⟨by unfold grw; rw [if_neg (by omega), if_pos (by omega)], rfl⟩
    · refine lv_iload_n hx hb d_P_grown_23 rfl (lv_at hl 1 rfl) ?_
      refine zr_bipush hx hb d_P_grown_24 (by decide) ?_
      refine zr_icmp_gt (tgt := 34) hx hb ⟨by omega, by omega⟩ ⟨by omega, by omega⟩ d_P_grown_26 (by decide) (fun c3 => ?_) (fun c3 => ?_)
      · refine zr_bipush hx hb d_P_grown_34 (by decide) ?_
        exact hret _ _ _ _ _ _ d_P_grown_36 hw rfl ⟨by unfold grw; rw [if_neg (by omega), if_pos (by omega)], rfl⟩
      · refine lv_iload_n hx hb d_P_grown_29 rfl (lv_at hl 0 rfl) ?_
        refine zr_iconst hx hb d_P_grown_30 ?_
        refine zr_icmp_ne (tgt := 37) hx hb ⟨by omega, by omega⟩ ⟨by omega, by omega⟩ d_P_grown_31 (by decide) (fun c4 => ?_) (fun c4 => ?_)
        · refine zr_bipush hx hb d_P_grown_37 (by decide) ?_
          refine lv_iload_n hx hb d_P_grown_39 rfl (lv_at hl 0 rfl) ?_
          refine zr_imul hx hb d_P_grown_40 ?_
          refine lv_iload_n hx hb d_P_grown_41 rfl (lv_at hl 1 rfl) ?_
          refine zr_iadd hx hb d_P_grown_42 ?_
          refine zr_bipush hx hb d_P_grown_43 (by decide) ?_
          refine zr_isub hx hb d_P_grown_45 ?_
          refine lv_istore_n (lv' := [(2, .int (zI (((10 * r0) + s0) - 48))), (0, .int (zI r0)), (1, .int (zI s0))]) hx hb d_P_grown_46 rfl hl (by decide) rfl (fun ls hl => ?_)
          refine lv_iload_n hx hb d_P_grown_47 rfl (lv_at hl 0 rfl) ?_
          refine zr_iconst hx hb d_P_grown_48 ?_
          refine zr_icmp_lt (tgt := 63) hx hb ⟨by omega, by omega⟩ ⟨by omega, by omega⟩ d_P_grown_49 (by decide) (fun c5 => ?_) (fun c5 => ?_)
          · refine zr_bipush hx hb d_P_grown_63 (by decide) ?_
            exact hret _ _ _ _ _ _ d_P_grown_65 hw rfl ⟨by unfold grw; rw [if_neg (by omega), if_neg (by omega), if_neg (by omega)], rfl⟩
          · refine lv_iload_n hx hb d_P_grown_52 rfl (lv_at hl 0 rfl) ?_
            refine zr_sipush hx hb d_P_grown_53 (by decide) ?_
            refine zr_icmp_gt (tgt := 63) hx hb ⟨by omega, by omega⟩ ⟨by omega, by omega⟩ d_P_grown_56 (by decide) (fun c6 => ?_) (fun c6 => ?_)
            · refine zr_bipush hx hb d_P_grown_63 (by decide) ?_
              exact hret _ _ _ _ _ _ d_P_grown_65 hw rfl ⟨by unfold grw; rw [if_neg (by omega), if_neg (by omega), if_neg (by omega)], rfl⟩
            · refine lv_iload_n hx hb d_P_grown_59 rfl (lv_at hl 0 rfl) ?_
              refine lv_goto (tgt := 65) hx hb d_P_grown_60 (by decide) ?_
              exact hret _ _ _ _ _ _ d_P_grown_65 hw rfl ⟨by unfold grw; rw [if_neg (by omega), if_neg (by omega), if_pos (by omega)], rfl⟩
        · refine zr_bipush hx hb d_P_grown_34 (by decide) ?_
          exact hret _ _ _ _ _ _ d_P_grown_36 hw rfl ⟨by unfold grw; rw [if_neg (by omega), if_pos (by omega)], rfl⟩
  · refine lv_iload_n hx hb d_P_grown_6 rfl (lv_at hl 0 rfl) ?_
    refine zr_if_ne (tgt := 14) hx hb ⟨by omega, by omega⟩ d_P_grown_7 (by decide) (fun c7 => ?_) (fun c7 => ?_)
    · refine zr_bipush hx hb d_P_grown_14 (by decide) ?_
      exact hret _ _ _ _ _ _ d_P_grown_16 hw rfl ⟨by unfold grw; rw [if_pos (by omega), if_neg (by omega)], rfl⟩
    · refine zr_iconst hx hb d_P_grown_10 ?_
      refine lv_goto (tgt := 16) hx hb d_P_grown_11 (by decide) ?_
      exact hret _ _ _ _ _ _ d_P_grown_16 hw rfl ⟨by unfold grw; rw [if_pos (by omega), if_pos (by omega)], rfl⟩
abbrev rm_P_parseInto : Room := { frames := 4, cells := 0, slots := 0, locals := 88 }
set_option maxHeartbeats 4000000 in
set_option maxRecDepth 100000 in
theorem c_P_parseInto (l : Launch) (D : va_G) (k : Nat → ClassId) (N : Nat) (AD : Int → Nat) (C : Int → va_E) (sz : Nat) (b : Int) (n : Int) (f : Int → Int) (b2 : Int) (n0 : Int) (w0 : Int → Int) (e0 : Int → Int) (hb0 : 0 ≤ b ∧ b + 1 < (N : Int)) (hn : 0 ≤ n ∧ n ≤ 100) (hS : C b = .inr (1, [.ref (AD (b + 1)), .int (zI n)])) (hSw : C (b + 1) = aI (k 0) 100 f) (hb2 : 0 ≤ b2 ∧ b2 + 2 < (N : Int)) (hbb : b + 1 < b2 ∨ b2 + 2 < b) (hn0 : 0 ≤ n0 ∧ n0 ≤ 24) (hT : C b2 = .inr (2, [.ref (AD (b2 + 1)), .ref (AD (b2 + 2)), .int (zI n0)])) (hTw : C (b2 + 1) = aI (k 0) 24 w0) (hTe : C (b2 + 2) = aI (k 0) 24 e0) (hfs : ∀ j : Int, 0 ≤ j → j < n → 0 ≤ f j ∧ f j < 256) : MI l y_P_parseInto (Cond.code y_P_parseInto b_P_parseInto 4 (Option.some Jvm.ClassFile.FieldType.int) :: WS) rm_P_parseInto D clW (tyW k) N AD C sz [.ref (AD b), .ref (AD b2)] (fun r C' => ((∃ x : Int, (0 ≤ x ∧ x < n) ∧ okP f x ∧ ¬ okS (f x) (ps f x.toNat) ∧ r = zI x ∧ ∃ (n' : Int) (w' e' : Int → Int), (0 ≤ n' ∧ n' ≤ 24) ∧ C' b2 = .inr (2, [.ref (AD (b2 + 1)), .ref (AD (b2 + 2)), .int (zI n')]) ∧ C' (b2 + 1) = aI (k 0) 24 w' ∧ C' (b2 + 2) = aI (k 0) 24 e') ∨ (okP f n ∧ (ps f n.toNat).1 = 0 ∧ r = zI n ∧ ∃ (n' : Int) (w' e' : Int → Int), (0 ≤ n' ∧ n' ≤ 24) ∧ C' b2 = .inr (2, [.ref (AD (b2 + 1)), .ref (AD (b2 + 2)), .int (zI n')]) ∧ C' (b2 + 1) = aI (k 0) 24 w' ∧ C' (b2 + 2) = aI (k 0) 24 e') ∨ (∃ (rg cn : Int) (sw : Int → Int), okP f n ∧ ps f n.toNat = (rg, cn, sw) ∧ ¬ rg = 0 ∧ r = zI (-1) ∧ ∃ w' e' : Int → Int, C' b2 = .inr (2, [.ref (AD (b2 + 1)), .ref (AD (b2 + 2)), .int (zI (cn + 1))]) ∧ C' (b2 + 1) = aI (k 0) 24 w' ∧ C' (b2 + 2) = aI (k 0) 24 e' ∧ (∀ j : Int, 0 ≤ j → j < cn + 1 → w' j = zup sw cn rg j) ∧ EvOK w' e' (cn + 1))) ∧ ∀ j : Int, ¬ (b2 ≤ j ∧ j ≤ b2 + 2) → C' j = C j) := by
  refine MI.start (cc := b_P_parseInto) (maxL := 4) (rt := .int) (by decide) rfl (Nat.le_of_ble_eq_true rfl) ?_
  intro p e s m args below meth c Q ls hx hb hml hown hts hK hsz hw hl hret
  have hown : s.vm.findClass "RingMatches$Pad" = some m.cls := hown
  have hl : lv_has ls 4 [(0, .ref (AD b)), (1, .ref (AD b2))] := hl
  have hA := wA_hi (N := N) (AD := AD) hsz
  obtain ⟨H, hH⟩ : ∃ H, H = s.heap := ⟨_, rfl⟩
  obtain ⟨locs, hlocs⟩ : ∃ z : List Loc, z = [] := ⟨_, rfl⟩
  have hw : WD D clW (wA N AD sz) s.heap H locs N AD C := by rw [hH, hlocs]; exact hw
  rw [← hlocs]
  suffices hgo : W p l e rm_P_parseInto s m args below meth c H locs 0 0 Q (F0 m 0 ls []) by rw [hH] at hgo; exact hgo
  obtain ⟨C0, hC0⟩ : ∃ z : Int → va_E, z = C := ⟨_, rfl⟩
  rw [← hC0] at hret
  refine lv_aload_n hx hb d_P_parseInto_0 rfl (lv_at hl 1 rfl) ?_
  refine zr_iconst hx hb d_P_parseInto_1 ?_
  refine zr_put (ty := .int) (v := .int (zI 0)) hx hb hts iw_S tyS tyS_ok nmS hown hK hw b2 ⟨by omega, by omega⟩ hT rfl 2 (by decide) (hts _ wk_74) (fun _ h => h) rfl (by decide +kernel) rfl rfl (Nat.le_of_ble_eq_true rfl) d_P_parseInto_2 (fun H locs hw => ?_)
  obtain ⟨C1, hC1⟩ : ∃ z : Int → va_E, z = zup C b2 (.inr (2, [.ref (AD (b2 + 1)), .ref (AD (b2 + 2)), .int (zI 0)])) := ⟨_, rfl⟩
  have hw : WD D clW (wA N AD sz) s.heap H locs N AD C1 := by rw [hC1]; exact hw
  have frC1 : ∀ j : Int, j ≠ b2 → C1 j = C j := fun j h => by rw [hC1]; exact zup_n h
  have hS : C1 b = .inr (1, [.ref (AD (b + 1)), .int (zI n)]) := (frC1 _ (by omega)).trans hS
  have hSw : C1 (b + 1) = aI (k 0) 100 f := (frC1 _ (by omega)).trans hSw
  have hT : C1 b2 = .inr (2, [.ref (AD (b2 + 1)), .ref (AD (b2 + 2)), .int (zI 0)]) := by rw [hC1]; exact zup_s
  have hTw : C1 (b2 + 1) = aI (k 0) 24 w0 := (frC1 _ (by omega)).trans hTw
  have hTe : C1 (b2 + 2) = aI (k 0) 24 e0 := (frC1 _ (by omega)).trans hTe
  refine zr_iconst hx hb d_P_parseInto_5 ?_
  refine lv_istore_n (lv' := [(2, .int (zI 0)), (0, .ref (AD b)), (1, .ref (AD b2))]) hx hb d_P_parseInto_6 rfl hl (by decide) rfl (fun ls hl => ?_)
  refine zr_iconst hx hb d_P_parseInto_7 ?_
  refine lv_istore_n (lv' := [(3, .int (zI 0)), (2, .int (zI 0)), (0, .ref (AD b)), (1, .ref (AD b2))]) hx hb d_P_parseInto_8 rfl hl (by decide) rfl (fun ls hl => ?_)
  have lp : ∀ (n9 : Nat) (x : Int) (rg : Int) (cn : Int) (ww : Int → Int) (sw : Int → Int) (C : Int → va_E) (H : Heap) (locs : List Loc) (ls : Array Slot), (0 ≤ x ∧ x ≤ n) → (okP f x) → (ps f x.toNat = (rg, cn, sw)) → (∀ j : Int, 0 ≤ j → j < cn → ww j = sw j) → (∀ j : Int, ¬ (b2 ≤ j ∧ j ≤ b2 + 2) → C j = C0 j) → (C b = .inr (1, [.ref (AD (b + 1)), .int (zI n)])) → (C (b + 1) = aI (k 0) 100 f) → (C b2 = .inr (2, [.ref (AD (b2 + 1)), .ref (AD (b2 + 2)), .int (zI cn)])) → (C (b2 + 1) = aI (k 0) 24 ww) → (C (b2 + 2) = aI (k 0) 24 e0) → (n - x).toNat < n9 → WD D clW (wA N AD sz) s.heap H locs N AD C → lv_has ls 4 [(0, .ref (AD b)), (1, .ref (AD b2)), (2, .int (zI rg)), (3, .int (zI x))] → W p l e rm_P_parseInto s m args below meth c H locs 0 0 Q (F0 m 9 ls []) := by
    intro n9
    induction n9 with
    | zero => intro x rg cn ww sw C H locs ls hx1 hok hps hww hfr hS hSw hT hTw hTe hm hw hl; exact absurd hm (by omega)
    | succ n9 ihlp =>
      intro x rg cn ww sw C H locs ls hx1 hok hps hww hfr hS hSw hT hTw hTe hm hw hl
      have hin := ps_inI hx1.1 hok hps
      obtain ⟨hin1, hin2, hin3, hin4⟩ := hin
      refine lv_iload_n hx hb d_P_parseInto_9 rfl (lv_at hl 3 rfl) ?_
      refine lv_aload_n hx hb d_P_parseInto_10 rfl (lv_at hl 0 rfl) ?_
      refine zr_get (v := .int (zI n)) hx hb hts iw_P hown hK hw b ⟨by omega, by omega⟩ hS rfl 1 (by decide) (hts _ wk_55) (fun _ h => h) rfl d_P_parseInto_11 ?_
      refine zr_icmp_ge (tgt := 76) hx hb ⟨by omega, by omega⟩ ⟨by omega, by omega⟩ d_P_parseInto_14 (by decide) (fun c2 => ?_) (fun c2 => ?_)
      · have hxn : x = n := by omega
        refine lv_iload_n hx hb d_P_parseInto_76 rfl (lv_at hl 2 rfl) ?_
        refine zr_if_ne (tgt := 85) hx hb ⟨by omega, by omega⟩ d_P_parseInto_77 (by decide) (fun c3 => ?_) (fun c3 => ?_)
        · have hne := c3
          refine lv_aload_n hx hb d_P_parseInto_85 rfl (lv_at hl 1 rfl) ?_
          refine lv_iload_n hx hb d_P_parseInto_86 rfl (lv_at hl 2 rfl) ?_
          refine zr_callV (va_runV (As := [.int (zI rg)]) (rest := []) ⟨hx, hb, hml, hown, hts⟩ (c_S_add l D k N AD C H.size b2 cn ww e0 rg ⟨by omega, by omega⟩ ⟨by omega, by omega⟩ hT hTw hTe (by omega)) (cwV 1 hts (good_V wk_260 wk_261 wk_262 wk_29 wk_263) rfl rfl rfl (by decide +kernel) ⟨Nat.le_of_ble_eq_true rfl, Nat.le_of_ble_eq_true rfl⟩) (cPre_V hK hw b2 ⟨by omega, by omega⟩ hT rfl) rfl rfl hl.1 rfl (lv_room (Nat.le_of_ble_eq_true rfl)) d_P_parseInto_87 ⟨Nat.le_of_ble_eq_true rfl, Nat.le_of_ble_eq_true rfl⟩) hw hA (fun C4 H locs hq5 hw => ?_)
          obtain ⟨hq5a, hq5b, hq5c, frC4⟩ := hq5
          have hS : C4 b = .inr (1, [.ref (AD (b + 1)), .int (zI n)]) := (frC4 _ (by omega)).trans hS
          have hSw : C4 (b + 1) = aI (k 0) 100 f := (frC4 _ (by omega)).trans hSw
          have hT : C4 b2 = .inr (2, [.ref (AD (b2 + 1)), .ref (AD (b2 + 2)), .int (zI (cn + 1))]) := hq5a
          have hTw : C4 (b2 + 1) = aI (k 0) 24 (zup ww cn rg) := hq5b
          have hTe : C4 (b2 + 2) = aI (k 0) 24 e0 := hq5c.trans hTe
          have hw3 : ∀ j : Int, 0 ≤ j → j < cn + 1 → (zup ww cn rg) j = zup sw cn rg j := zup_ok (g := zup sw cn rg) (fun j h1 h2 => by rw [zup_n (by omega)]; exact hww j h1 h2) (by rw [zup_s])
          have hok2 : WOK (zup sw cn rg) (cn + 1) := by
            intro j h1 h2
            by_cases hj : j = cn
            · rw [hj, zup_s]; omega
            · rw [zup_n hj]; exact hin4 j h1 (by omega)
          have hok3 : WOK (zup ww cn rg) (cn + 1) := WOK.to hok2 hw3
          refine lv_aload_n hx hb d_P_parseInto_90 rfl (lv_at hl 1 rfl) ?_
          refine zr_callV (va_runV (As := []) (rest := []) ⟨hx, hb, hml, hown, hts⟩ (c_S_makeEven l D k N AD C4 H.size b2 (cn + 1) (zup ww cn rg) e0 ⟨by omega, by omega⟩ ⟨by omega, by omega⟩ hT hTw hTe hok3) (cwV 0 hts (good_V wk_267 wk_268 wk_269 wk_29 wk_270) rfl rfl rfl (by decide +kernel) ⟨Nat.le_of_ble_eq_true rfl, Nat.le_of_ble_eq_true rfl⟩) (cPre_V hK hw b2 ⟨by omega, by omega⟩ hT rfl) rfl rfl hl.1 rfl (lv_room (Nat.le_of_ble_eq_true rfl)) d_P_parseInto_91 ⟨Nat.le_of_ble_eq_true rfl, Nat.le_of_ble_eq_true rfl⟩) hw hA (fun C6 H locs hq7 hw => ?_)
          obtain ⟨ev8, hq7a, hEv, frC6⟩ := hq7
          have hS : C6 b = .inr (1, [.ref (AD (b + 1)), .int (zI n)]) := (frC6 _ (by omega)).trans hS
          have hSw : C6 (b + 1) = aI (k 0) 100 f := (frC6 _ (by omega)).trans hSw
          have hT : C6 b2 = .inr (2, [.ref (AD (b2 + 1)), .ref (AD (b2 + 2)), .int (zI (cn + 1))]) := (frC6 _ (by omega)).trans hT
          have hTw : C6 (b2 + 1) = aI (k 0) 24 (zup ww cn rg) := (frC6 _ (by omega)).trans hTw
          have hTe : C6 (b2 + 2) = aI (k 0) 24 ev8 := hq7a
          refine zr_iconst hx hb d_P_parseInto_94 ?_
          exact hret _ _ _ _ _ _ d_P_parseInto_95 hw rfl ⟨Or.inr (Or.inr ⟨rg, cn, sw, by rw [← hxn]; exact hok, by rw [← hxn]; exact hps, hne, rfl, ⟨_, _, hT, hTw, hTe, hw3, hEv⟩⟩), fun j hj => by rw [frC6 j (by omega), frC4 j (by omega)]; exact hfr j hj⟩
        · refine lv_aload_n hx hb d_P_parseInto_80 rfl (lv_at hl 0 rfl) ?_
          refine zr_get (v := .int (zI n)) hx hb hts iw_P hown hK hw b ⟨by omega, by omega⟩ hS rfl 1 (by decide) (hts _ wk_55) (fun _ h => h) rfl d_P_parseInto_81 ?_
          exact hret _ _ _ _ _ _ d_P_parseInto_84 hw rfl ⟨Or.inr (Or.inl ⟨by rw [← hxn]; exact hok, by rw [← hxn, hps]; exact c3, rfl, ⟨_, _, _, by omega, hT, hTw, hTe⟩⟩), hfr⟩
      · refine lv_aload_n hx hb d_P_parseInto_17 rfl (lv_at hl 0 rfl) ?_
        refine zr_get (v := .ref (AD (b + 1))) hx hb hts iw_P hown hK hw b ⟨by omega, by omega⟩ hS rfl 0 (by decide) (hts _ wk_53) (fun _ h => h) rfl d_P_parseInto_18 ?_
        refine lv_iload_n hx hb d_P_parseInto_21 rfl (lv_at hl 3 rfl) ?_
        have hfx := hfs x (by omega) (by omega)
        refine zr_iald hx hb hK hw (b + 1) ⟨by omega, by omega⟩ 0 hSw rfl ⟨by omega, by omega⟩ (by decide) d_P_parseInto_22 ?_
        refine zr_bipush hx hb d_P_parseInto_23 (by decide) ?_
        refine zr_icmp_ne (tgt := 51) hx hb ⟨by omega, by omega⟩ ⟨by omega, by omega⟩ d_P_parseInto_25 (by decide) (fun c9 => ?_) (fun c9 => ?_)
        · have hc9 : ¬ (f x = 32 ∧ ¬ rg = 0 ∧ cn < 23) := by omega
          have hgi := grw_in rg (f x)
          refine lv_iload_n hx hb d_P_parseInto_51 rfl (lv_at hl 2 rfl) ?_
          refine lv_aload_n hx hb d_P_parseInto_52 rfl (lv_at hl 0 rfl) ?_
          refine zr_get (v := .ref (AD (b + 1))) hx hb hts iw_P hown hK hw b ⟨by omega, by omega⟩ hS rfl 0 (by decide) (hts _ wk_53) (fun _ h => h) rfl d_P_parseInto_53 ?_
          refine lv_iload_n hx hb d_P_parseInto_56 rfl (lv_at hl 3 rfl) ?_
          have hfx := hfs x (by omega) (by omega)
          refine zr_iald hx hb hK hw (b + 1) ⟨by omega, by omega⟩ 0 hSw rfl ⟨by omega, by omega⟩ (by decide) d_P_parseInto_57 ?_
          refine zr_callI (va_runS (As := [.int (zI rg), .int (zI (f x))]) (rest := []) ⟨hx, hb, hml, hown, hts⟩ (c_P_grown l D k N AD C H.size rg (f x) (by omega) (by omega)) (va_cwS 2 hts (good_S wk_264 wk_265 wk_28 wk_266) rfl rfl rfl (by decide +kernel) ⟨Nat.le_of_ble_eq_true rfl, Nat.le_of_ble_eq_true rfl⟩) (cPre_S hK hw) rfl rfl hl.1 rfl (lv_room (Nat.le_of_ble_eq_true rfl)) d_P_parseInto_58 ⟨Nat.le_of_ble_eq_true rfl, Nat.le_of_ble_eq_true rfl⟩) hw hA (fun r9 C11 H locs hq10 hw => ?_)
          obtain ⟨hr9, hCe⟩ := hq10
          rw [hCe] at hw; subst hr9
          refine lv_istore_n (lv' := [(2, .int (zI (grw rg (f x)))), (0, .ref (AD b)), (1, .ref (AD b2)), (3, .int (zI x))]) hx hb d_P_parseInto_61 rfl hl (by decide) rfl (fun ls hl => ?_)
          refine lv_iload_n hx hb d_P_parseInto_62 rfl (lv_at hl 0 rfl) ?_
          refine zr_bipush hx hb d_P_parseInto_63 (by decide) ?_
          refine zr_icmp_ne (tgt := 70) hx hb ⟨by omega, by omega⟩ ⟨by omega, by omega⟩ d_P_parseInto_65 (by decide) (fun c12 => ?_) (fun c12 => ?_)
          · have hs9 : okS (f x) (ps f x.toNat) := by rw [hps]; exact Or.inr c12
            refine lv_iinc (v := zI (x + 1)) (lv' := [(3, .int (zI (x + 1))), (2, .int (zI (grw rg (f x)))), (0, .ref (AD b)), (1, .ref (AD b2))]) hx hb d_P_parseInto_70 hl (k := 3) rfl (zI_add _ _) (by decide) rfl (fun ls hl => ?_)
            refine lv_goto (tgt := 9) hx hb d_P_parseInto_73 (by decide) ?_
            exact ihlp (x + 1) (grw rg (f x)) cn ww sw C H locs ls (by omega) (okP_step hok hs9) (by rw [ps_step f hx1.1, hps]; exact if_neg hc9) hww hfr hS hSw hT hTw hTe (by omega) hw (lv_sub hl [2, 3, 1, 0] rfl)
          · have hbad : ¬ okS (f x) (ps f x.toNat) := by rw [hps]; intro h; rcases h with h | h; exact hc9 h; exact h c12
            refine lv_iload_n hx hb d_P_parseInto_68 rfl (lv_at hl 3 rfl) ?_
            exact hret _ _ _ _ _ _ d_P_parseInto_69 hw rfl ⟨Or.inl ⟨x, by omega, hok, hbad, rfl, ⟨_, _, _, by omega, hT, hTw, hTe⟩⟩, hfr⟩
        · refine lv_iload_n hx hb d_P_parseInto_28 rfl (lv_at hl 2 rfl) ?_
          refine zr_if_eq (tgt := 51) hx hb ⟨by omega, by omega⟩ d_P_parseInto_29 (by decide) (fun c13 => ?_) (fun c13 => ?_)
          · have hc9 : ¬ (f x = 32 ∧ ¬ rg = 0 ∧ cn < 23) := by omega
            have hgi := grw_in rg (f x)
            refine lv_iload_n hx hb d_P_parseInto_51 rfl (lv_at hl 2 rfl) ?_
            refine lv_aload_n hx hb d_P_parseInto_52 rfl (lv_at hl 0 rfl) ?_
            refine zr_get (v := .ref (AD (b + 1))) hx hb hts iw_P hown hK hw b ⟨by omega, by omega⟩ hS rfl 0 (by decide) (hts _ wk_53) (fun _ h => h) rfl d_P_parseInto_53 ?_
            refine lv_iload_n hx hb d_P_parseInto_56 rfl (lv_at hl 3 rfl) ?_
            have hfx := hfs x (by omega) (by omega)
            refine zr_iald hx hb hK hw (b + 1) ⟨by omega, by omega⟩ 0 hSw rfl ⟨by omega, by omega⟩ (by decide) d_P_parseInto_57 ?_
            refine zr_callI (va_runS (As := [.int (zI rg), .int (zI (f x))]) (rest := []) ⟨hx, hb, hml, hown, hts⟩ (c_P_grown l D k N AD C H.size rg (f x) (by omega) (by omega)) (va_cwS 2 hts (good_S wk_264 wk_265 wk_28 wk_266) rfl rfl rfl (by decide +kernel) ⟨Nat.le_of_ble_eq_true rfl, Nat.le_of_ble_eq_true rfl⟩) (cPre_S hK hw) rfl rfl hl.1 rfl (lv_room (Nat.le_of_ble_eq_true rfl)) d_P_parseInto_58 ⟨Nat.le_of_ble_eq_true rfl, Nat.le_of_ble_eq_true rfl⟩) hw hA (fun r9 C15 H locs hq14 hw => ?_)
            obtain ⟨hr9, hCe⟩ := hq14
            rw [hCe] at hw; subst hr9
            refine lv_istore_n (lv' := [(2, .int (zI (grw rg (f x)))), (0, .ref (AD b)), (1, .ref (AD b2)), (3, .int (zI x))]) hx hb d_P_parseInto_61 rfl hl (by decide) rfl (fun ls hl => ?_)
            refine lv_iload_n hx hb d_P_parseInto_62 rfl (lv_at hl 0 rfl) ?_
            refine zr_bipush hx hb d_P_parseInto_63 (by decide) ?_
            refine zr_icmp_ne (tgt := 70) hx hb ⟨by omega, by omega⟩ ⟨by omega, by omega⟩ d_P_parseInto_65 (by decide) (fun c16 => ?_) (fun c16 => ?_)
            · have hs9 : okS (f x) (ps f x.toNat) := by rw [hps]; exact Or.inr c16
              refine lv_iinc (v := zI (x + 1)) (lv' := [(3, .int (zI (x + 1))), (2, .int (zI (grw rg (f x)))), (0, .ref (AD b)), (1, .ref (AD b2))]) hx hb d_P_parseInto_70 hl (k := 3) rfl (zI_add _ _) (by decide) rfl (fun ls hl => ?_)
              refine lv_goto (tgt := 9) hx hb d_P_parseInto_73 (by decide) ?_
              exact ihlp (x + 1) (grw rg (f x)) cn ww sw C H locs ls (by omega) (okP_step hok hs9) (by rw [ps_step f hx1.1, hps]; exact if_neg hc9) hww hfr hS hSw hT hTw hTe (by omega) hw (lv_sub hl [2, 3, 1, 0] rfl)
            · have hbad : ¬ okS (f x) (ps f x.toNat) := by rw [hps]; intro h; rcases h with h | h; exact hc9 h; exact h c16
              refine lv_iload_n hx hb d_P_parseInto_68 rfl (lv_at hl 3 rfl) ?_
              exact hret _ _ _ _ _ _ d_P_parseInto_69 hw rfl ⟨Or.inl ⟨x, by omega, hok, hbad, rfl, ⟨_, _, _, by omega, hT, hTw, hTe⟩⟩, hfr⟩
          · refine lv_aload_n hx hb d_P_parseInto_32 rfl (lv_at hl 1 rfl) ?_
            refine zr_get (v := .int (zI cn)) hx hb hts iw_S hown hK hw b2 ⟨by omega, by omega⟩ hT rfl 2 (by decide) (hts _ wk_74) (fun _ h => h) rfl d_P_parseInto_33 ?_
            refine zr_bipush hx hb d_P_parseInto_36 (by decide) ?_
            refine zr_icmp_ge (tgt := 51) hx hb ⟨by omega, by omega⟩ ⟨by omega, by omega⟩ d_P_parseInto_38 (by decide) (fun c17 => ?_) (fun c17 => ?_)
            · have hc9 : ¬ (f x = 32 ∧ ¬ rg = 0 ∧ cn < 23) := by omega
              have hgi := grw_in rg (f x)
              refine lv_iload_n hx hb d_P_parseInto_51 rfl (lv_at hl 2 rfl) ?_
              refine lv_aload_n hx hb d_P_parseInto_52 rfl (lv_at hl 0 rfl) ?_
              refine zr_get (v := .ref (AD (b + 1))) hx hb hts iw_P hown hK hw b ⟨by omega, by omega⟩ hS rfl 0 (by decide) (hts _ wk_53) (fun _ h => h) rfl d_P_parseInto_53 ?_
              refine lv_iload_n hx hb d_P_parseInto_56 rfl (lv_at hl 3 rfl) ?_
              have hfx := hfs x (by omega) (by omega)
              refine zr_iald hx hb hK hw (b + 1) ⟨by omega, by omega⟩ 0 hSw rfl ⟨by omega, by omega⟩ (by decide) d_P_parseInto_57 ?_
              refine zr_callI (va_runS (As := [.int (zI rg), .int (zI (f x))]) (rest := []) ⟨hx, hb, hml, hown, hts⟩ (c_P_grown l D k N AD C H.size rg (f x) (by omega) (by omega)) (va_cwS 2 hts (good_S wk_264 wk_265 wk_28 wk_266) rfl rfl rfl (by decide +kernel) ⟨Nat.le_of_ble_eq_true rfl, Nat.le_of_ble_eq_true rfl⟩) (cPre_S hK hw) rfl rfl hl.1 rfl (lv_room (Nat.le_of_ble_eq_true rfl)) d_P_parseInto_58 ⟨Nat.le_of_ble_eq_true rfl, Nat.le_of_ble_eq_true rfl⟩) hw hA (fun r9 C19 H locs hq18 hw => ?_)
              obtain ⟨hr9, hCe⟩ := hq18
              rw [hCe] at hw; subst hr9
              refine lv_istore_n (lv' := [(2, .int (zI (grw rg (f x)))), (0, .ref (AD b)), (1, .ref (AD b2)), (3, .int (zI x))]) hx hb d_P_parseInto_61 rfl hl (by decide) rfl (fun ls hl => ?_)
              refine lv_iload_n hx hb d_P_parseInto_62 rfl (lv_at hl 0 rfl) ?_
              refine zr_bipush hx hb d_P_parseInto_63 (by decide) ?_
              refine zr_icmp_ne (tgt := 70) hx hb ⟨by omega, by omega⟩ ⟨by omega, by omega⟩ d_P_parseInto_65 (by decide) (fun c20 => ?_) (fun c20 => ?_)
              · have hs9 : okS (f x) (ps f x.toNat) := by rw [hps]; exact Or.inr c20
                refine lv_iinc (v := zI (x + 1)) (lv' := [(3, .int (zI (x + 1))), (2, .int (zI (grw rg (f x)))), (0, .ref (AD b)), (1, .ref (AD b2))]) hx hb d_P_parseInto_70 hl (k := 3) rfl (zI_add _ _) (by decide) rfl (fun ls hl => ?_)
                refine lv_goto (tgt := 9) hx hb d_P_parseInto_73 (by decide) ?_
                exact ihlp (x + 1) (grw rg (f x)) cn ww sw C H locs ls (by omega) (okP_step hok hs9) (by rw [ps_step f hx1.1, hps]; exact if_neg hc9) hww hfr hS hSw hT hTw hTe (by omega) hw (lv_sub hl [2, 3, 1, 0] rfl)
              · have hbad : ¬ okS (f x) (ps f x.toNat) := by rw [hps]; intro h; rcases h with h | h; exact hc9 h; exact h c20
                refine lv_iload_n hx hb d_P_parseInto_68 rfl (lv_at hl 3 rfl) ?_
                exact hret _ _ _ _ _ _ d_P_parseInto_69 hw rfl ⟨Or.inl ⟨x, by omega, hok, hbad, rfl, ⟨_, _, _, by omega, hT, hTw, hTe⟩⟩, hfr⟩
            · have hc9 : f x = 32 ∧ ¬ rg = 0 ∧ cn < 23 := by omega
              have hs9 : okS (f x) (ps f x.toNat) := by rw [hps]; exact Or.inl hc9
              refine lv_aload_n hx hb d_P_parseInto_41 rfl (lv_at hl 1 rfl) ?_
              refine lv_iload_n hx hb d_P_parseInto_42 rfl (lv_at hl 2 rfl) ?_
              refine zr_callV (va_runV (As := [.int (zI rg)]) (rest := []) ⟨hx, hb, hml, hown, hts⟩ (c_S_add l D k N AD C H.size b2 cn ww e0 rg ⟨by omega, by omega⟩ ⟨by omega, by omega⟩ hT hTw hTe (by omega)) (cwV 1 hts (good_V wk_260 wk_261 wk_262 wk_29 wk_263) rfl rfl rfl (by decide +kernel) ⟨Nat.le_of_ble_eq_true rfl, Nat.le_of_ble_eq_true rfl⟩) (cPre_V hK hw b2 ⟨by omega, by omega⟩ hT rfl) rfl rfl hl.1 rfl (lv_room (Nat.le_of_ble_eq_true rfl)) d_P_parseInto_43 ⟨Nat.le_of_ble_eq_true rfl, Nat.le_of_ble_eq_true rfl⟩) hw hA (fun C21 H locs hq22 hw => ?_)
              obtain ⟨hq22a, hq22b, hq22c, frC21⟩ := hq22
              have hS : C21 b = .inr (1, [.ref (AD (b + 1)), .int (zI n)]) := (frC21 _ (by omega)).trans hS
              have hSw : C21 (b + 1) = aI (k 0) 100 f := (frC21 _ (by omega)).trans hSw
              have hT : C21 b2 = .inr (2, [.ref (AD (b2 + 1)), .ref (AD (b2 + 2)), .int (zI (cn + 1))]) := hq22a
              have hTw : C21 (b2 + 1) = aI (k 0) 24 (zup ww cn rg) := hq22b
              have hTe : C21 (b2 + 2) = aI (k 0) 24 e0 := hq22c.trans hTe
              refine zr_iconst hx hb d_P_parseInto_46 ?_
              refine lv_istore_n (lv' := [(2, .int (zI 0)), (0, .ref (AD b)), (1, .ref (AD b2)), (3, .int (zI x))]) hx hb d_P_parseInto_47 rfl hl (by decide) rfl (fun ls hl => ?_)
              refine lv_goto (tgt := 70) hx hb d_P_parseInto_48 (by decide) ?_
              refine lv_iinc (v := zI (x + 1)) (lv' := [(3, .int (zI (x + 1))), (2, .int (zI 0)), (0, .ref (AD b)), (1, .ref (AD b2))]) hx hb d_P_parseInto_70 hl (k := 3) rfl (zI_add _ _) (by decide) rfl (fun ls hl => ?_)
              refine lv_goto (tgt := 9) hx hb d_P_parseInto_73 (by decide) ?_
              exact ihlp (x + 1) 0 (cn + 1) (zup ww cn rg) (zup sw cn rg) C21 H locs ls (by omega) (okP_step hok hs9) (by rw [ps_step f hx1.1, hps]; exact if_pos hc9) (zup_ok (g := zup sw cn rg) (fun j h1 h2 => by rw [zup_n (by omega)]; exact hww j h1 h2) (by rw [zup_s])) (fun j hj => by rw [frC21 j hj]; exact hfr j hj) hS hSw hT hTw hTe (by omega) hw (lv_sub hl [2, 3, 1, 0] rfl)
  exact lp ((n - 0 : Int).toNat + 1) 0 0 0 w0 (fun _ => -1) C1 H locs ls (by omega) (fun j h1 h2 => absurd h2 (by omega)) rfl (fun j h1 h2 => absurd h2 (by omega)) (fun j hj => by rw [frC1 j (by omega), hC0]) hS hSw hT hTw hTe (by omega) hw (lv_sub hl [2, 3, 1, 0] rfl)
