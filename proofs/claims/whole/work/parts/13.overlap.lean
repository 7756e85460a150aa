section ZD
variable {p : Program} {l : Launch} {e : Env} {R : Room} {s : State} {m : MethodId} {args : Array Value} {below : List Frame} {meth : Method} {c : Code} {H : Heap} {locs : List Loc} {cells slots : Nat} {Q : State → Prop} {cc : ByteArray} {pc : Nat} {ls : Array Slot} {rest : List Value}
theorem zr_ldc2 (a : Int) (hx : p.tables.exec = Jvm.exec) (hb : c.code = cc) {own : String} {index : Nat} {v : Int64} (hown : s.vm.findClass own = some m.cls) (hconst : (Jvm.Cond.constantLong own index v).before args s = true) (hv : v = zL a) (hdg : decode cc pc = .ok (.ldc2_w index, 3)) (k : W p l e R s m args below meth c H locs cells slots Q (F0 m (pc + 3) ls (.long (zL a) :: rest))) : W p l e R s m args below meth c H locs cells slots Q (F0 m pc ls rest) := by
  subst hv
  exact lv_ldc2 hx hb hown hconst hdg k
end ZD
/-- 2: alike, 1: just one stays, else 0 -/
def lik (x y : Int) : Int := if x = y then 2 else if x = 0 ∨ y = 0 then 1 else 0
theorem lik_in (x y : Int) : 0 ≤ lik x y ∧ lik x y ≤ 2 := by
  unfold lik
  split
  · omega
  · split <;> omega
/-- the sign of the step from ring k - 1 to ring k -/
def ris (w : Int → Int) (n k : Int) : Int := if wAt w n (k - 1) < wAt w n k then 1 else if wAt w n k < wAt w n (k - 1) then -1 else 0
theorem ris_in (w : Int → Int) (n k : Int) : -1 ≤ ris w n k ∧ ris w n k ≤ 1 := by
  unfold ris
  split
  · omega
  · split <;> omega
abbrev rm_O_likeness : Room := { frames := 0, cells := 0, slots := 0, locals := 0 }
set_option maxHeartbeats 4000000 in
set_option maxRecDepth 100000 in
theorem c_O_likeness (l : Launch) (D : va_G) (k : Nat → ClassId) (N : Nat) (AD : Int → Nat) (C : Int → va_E) (sz : Nat) (x : Int) (y : Int) (hx0 : inI x) (hy0 : inI y) : MI l y_O_likeness (Cond.code y_O_likeness b_O_likeness 2 (Option.some Jvm.ClassFile.FieldType.int) :: WS) rm_O_likeness D clW (tyW k) N AD C sz [.int (zI x), .int (zI y)] (fun r C' => r = zI (lik x y) ∧ C' = C) := by
  refine MI.start (cc := b_O_likeness) (maxL := 2) (rt := .int) (by decide) rfl (Nat.le_of_ble_eq_true rfl) ?_
  intro p e s m args below meth c Q ls hx hb hml hown hts hK hsz hw hl hret
  have hown : s.vm.findClass "RingMatches$Overlap" = some m.cls := hown
  have hl : lv_has ls 2 [(0, .int (zI x)), (1, .int (zI y))] := hl
  have hA := wA_hi (N := N) (AD := AD) hsz
  obtain ⟨H, hH⟩ : ∃ H, H = s.heap := ⟨_, rfl⟩
  obtain ⟨locs, hlocs⟩ : ∃ z : List Loc, z = [] := ⟨_, rfl⟩
  have hw : WD D clW (wA N AD sz) s.heap H locs N AD C := by rw [hH, hlocs]; exact hw
  rw [← hlocs]
  suffices hgo : W p l e rm_O_likeness s m args below meth c H locs 0 0 Q (F0 m 0 ls []) by rw [hH] at hgo; exact hgo
  refine lv_iload_n hx hb d_O_likeness_0 rfl (lv_at hl 0 rfl) ?_
  refine lv_iload_n hx hb d_O_likeness_1 rfl (lv_at hl 1 rfl) ?_
  refine zr_icmp_ne (tgt := 7) hx hb ⟨by omega, by omega⟩ ⟨by omega, by omega⟩ d_O_likeness_2 (by decide) (fun c1 => ?_) (fun c1 => ?_)
  · refine lv_iload_n hx hb d_O_likeness_7 rfl (lv_at hl 0 rfl) ?_
    refine zr_if_eq (tgt := 15) hx hb ⟨by omega, by omega⟩ d_O_likeness_8 (by decide) (fun c2 => ?_) (fun c2 => ?_)
    · refine zr_iconst hx hb d_O_likeness_15 ?_
      refine lv_goto (tgt := 20) hx hb d_O_likeness_16 (by decide) ?_
      exact hret _ _ _ _ _ _ d_O_likeness_20 hw rfl ⟨by unfold lik; rw [if_neg (by omega), if_pos (by omega)], rfl⟩
    · refine lv_iload_n hx hb d_O_likeness_11 rfl (lv_at hl 1 rfl) ?_
      refine zr_if_ne (tgt := 19) hx hb ⟨by omega, by omega⟩ d_O_likeness_12 (by decide) (fun c3 => ?_) (fun c3 => ?_)
      · refine zr_iconst hx hb d_O_likeness_19 ?_
        exact hret _ _ _ _ _ _ d_O_likeness_20 hw rfl ⟨by unfold lik; rw [if_neg (by omega), if_neg (by omega)], rfl⟩
      · refine zr_iconst hx hb d_O_likeness_15 ?_
        refine lv_goto (tgt := 20) hx hb d_O_likeness_16 (by decide) ?_
        exact hret _ _ _ _ _ _ d_O_likeness_20 hw rfl ⟨by unfold lik; rw [if_neg (by omega), if_pos (by omega)], rfl⟩
  · refine zr_iconst hx hb d_O_likeness_5 ?_
    exact hret _ _ _ _ _ _ d_O_likeness_6 hw rfl ⟨by unfold lik; rw [if_pos (by omega)], rfl⟩
abbrev rm_O_rise : Room := { frames := 2, cells := 0, slots := 0, locals := 42 }
set_option maxHeartbeats 4000000 in
set_option maxRecDepth 100000 in
theorem c_O_rise (l : Launch) (D : va_G) (k : Nat → ClassId) (N : Nat) (AD : Int → Nat) (C : Int → va_E) (sz : Nat) (b : Int) (n : Int) (w : Int → Int) (e9 : Int → Int) (i : Int) (hb0 : 0 ≤ b ∧ b + 2 < (N : Int)) (hn : 0 ≤ n ∧ n ≤ 24) (hS : C b = .inr (2, [.ref (AD (b + 1)), .ref (AD (b + 2)), .int (zI n)])) (hSw : C (b + 1) = aI (k 0) 24 w) (hSe : C (b + 2) = aI (k 0) 24 e9) (hok : WOK w n) (hi : -100 ≤ i ∧ i ≤ 100) : MI l y_O_rise (Cond.code y_O_rise b_O_rise 4 (Option.some Jvm.ClassFile.FieldType.int) :: WS) rm_O_rise D clW (tyW k) N AD C sz [.ref (AD b), .int (zI i)] (fun r C' => r = zI (ris w n i) ∧ C' = C) := by
  refine MI.start (cc := b_O_rise) (maxL := 4) (rt := .int) (by decide) rfl (Nat.le_of_ble_eq_true rfl) ?_
  intro p e s m args below meth c Q ls hx hb hml hown hts hK hsz hw hl hret
  have hown : s.vm.findClass "RingMatches$Overlap" = some m.cls := hown
  have hl : lv_has ls 4 [(0, .ref (AD b)), (1, .int (zI i))] := hl
  have hA := wA_hi (N := N) (AD := AD) hsz
  obtain ⟨H, hH⟩ : ∃ H, H = s.heap := ⟨_, rfl⟩
  obtain ⟨locs, hlocs⟩ : ∃ z : List Loc, z = [] := ⟨_, rfl⟩
  have hw : WD D clW (wA N AD sz) s.heap H locs N AD C := by rw [hH, hlocs]; exact hw
  rw [← hlocs]
  suffices hgo : W p l e rm_O_rise s m args below meth c H locs 0 0 Q (F0 m 0 ls []) by rw [hH] at hgo; exact hgo
  refine lv_aload_n hx hb d_O_rise_0 rfl (lv_at hl 0 rfl) ?_
  refine lv_iload_n hx hb d_O_rise_1 rfl (lv_at hl 1 rfl) ?_
  refine zr_iconst hx hb d_O_rise_2 ?_
  refine zr_isub hx hb d_O_rise_3 ?_
  refine zr_callI (va_runV (As := [.int (zI (i - 1))]) (rest := []) ⟨hx, hb, hml, hown, hts⟩ (c_S_widthAt l D k N AD C H.size b n w e9 (i - 1) ⟨by omega, by omega⟩ ⟨by omega, by omega⟩ hS hSw hSe ⟨by omega, by omega⟩) (cwV 1 hts (good_V wk_386 wk_276 wk_277 wk_29 wk_278) rfl rfl rfl (by decide +kernel) ⟨Nat.le_of_ble_eq_true rfl, Nat.le_of_ble_eq_true rfl⟩) (cPre_V hK hw b ⟨by omega, by omega⟩ hS rfl) rfl rfl hl.1 rfl (lv_room (Nat.le_of_ble_eq_true rfl)) d_O_rise_4 ⟨Nat.le_of_ble_eq_true rfl, Nat.le_of_ble_eq_true rfl⟩) hw hA (fun r9 C2 H locs hq1 hw => ?_)
  obtain ⟨hr9, hCe⟩ := hq1
  rw [hCe] at hw; subst hr9
  refine lv_istore_n (lv' := [(2, .int (zI (wAt w n (i - 1)))), (0, .ref (AD b)), (1, .int (zI i))]) hx hb d_O_rise_7 rfl hl (by decide) rfl (fun ls hl => ?_)
  refine lv_aload_n hx hb d_O_rise_8 rfl (lv_at hl 1 rfl) ?_
  refine lv_iload_n hx hb d_O_rise_9 rfl (lv_at hl 2 rfl) ?_
  refine zr_callI (va_runV (As := [.int (zI i)]) (rest := []) ⟨hx, hb, hml, hown, hts⟩ (c_S_widthAt l D k N AD C H.size b n w e9 i ⟨by omega, by omega⟩ ⟨by omega, by omega⟩ hS hSw hSe ⟨by omega, by omega⟩) (cwV 1 hts (good_V wk_386 wk_276 wk_277 wk_29 wk_278) rfl rfl rfl (by decide +kernel) ⟨Nat.le_of_ble_eq_true rfl, Nat.le_of_ble_eq_true rfl⟩) (cPre_V hK hw b ⟨by omega, by omega⟩ hS rfl) rfl rfl hl.1 rfl (lv_room (Nat.le_of_ble_eq_true rfl)) d_O_rise_10 ⟨Nat.le_of_ble_eq_true rfl, Nat.le_of_ble_eq_true rfl⟩) hw hA (fun r9 C4 H locs hq3 hw => ?_)
  obtain ⟨hr9, hCe⟩ := hq3
  rw [hCe] at hw; subst hr9
  refine lv_istore_n (lv' := [(3, .int (zI (wAt w n i))), (2, .int (zI (wAt w n (i - 1)))), (0, .ref (AD b)), (1, .int (zI i))]) hx hb d_O_rise_13 rfl hl (by decide) rfl (fun ls hl => ?_)
  have hc1 := wAt_cases hok i
  have hc2 := wAt_cases hok (i - 1)
  refine lv_iload_n hx hb d_O_rise_14 rfl (lv_at hl 0 rfl) ?_
  refine lv_iload_n hx hb d_O_rise_15 rfl (lv_at hl 1 rfl) ?_
  refine zr_icmp_le (tgt := 21) hx hb ⟨by omega, by omega⟩ ⟨by omega, by omega⟩ d_O_rise_16 (by decide) (fun c5 => ?_) (fun c5 => ?_)
  · refine lv_iload_n hx hb d_O_rise_21 rfl (lv_at hl 0 rfl) ?_
    refine lv_iload_n hx hb d_O_rise_22 rfl (lv_at hl 1 rfl) ?_
    refine zr_icmp_ge (tgt := 30) hx hb ⟨by omega, by omega⟩ ⟨by omega, by omega⟩ d_O_rise_23 (by decide) (fun c6 => ?_) (fun c6 => ?_)
    · refine zr_iconst hx hb d_O_rise_30 ?_
      exact hret _ _ _ _ _ _ d_O_rise_31 hw rfl ⟨by unfold ris; rw [if_neg (by omega), if_neg (by omega)], rfl⟩
    · refine zr_iconst hx hb d_O_rise_26 ?_
      refine lv_goto (tgt := 31) hx hb d_O_rise_27 (by decide) ?_
      exact hret _ _ _ _ _ _ d_O_rise_31 hw rfl ⟨by unfold ris; rw [if_neg (by omega), if_pos (by omega)], rfl⟩
  · refine zr_iconst hx hb d_O_rise_19 ?_
    exact hret _ _ _ _ _ _ d_O_rise_20 hw rfl ⟨by unfold ris; rw [if_pos (by omega)], rfl⟩
abbrev rm_O_isPair : Room := { frames := 2, cells := 0, slots := 0, locals := 42 }
set_option maxHeartbeats 4000000 in
set_option maxRecDepth 100000 in
theorem c_O_isPair (l : Launch) (D : va_G) (k : Nat → ClassId) (N : Nat) (AD : Int → Nat) (C : Int → va_E) (sz : Nat) (o : Int) (s0 : Int) (p0 : Int) (r0 : Int) (t0 : Int) (a0 : Int) (b1 : Int) (n1 : Int) (w1 : Int → Int) (e1 : Int → Int) (b2 : Int) (n2 : Int) (w2 : Int → Int) (e2 : Int → Int) (i : Int) (ho : 0 ≤ o ∧ o < (N : Int)) (hO : C o = .inr (0, [.int (zI s0), .int (zI p0), .int (zI r0), .int (zI t0), .int (zI a0)])) (hb1 : 0 ≤ b1 ∧ b1 + 2 < (N : Int)) (hn1 : 0 ≤ n1 ∧ n1 ≤ 24) (hS : C b1 = .inr (2, [.ref (AD (b1 + 1)), .ref (AD (b1 + 2)), .int (zI n1)])) (hSw : C (b1 + 1) = aI (k 0) 24 w1) (hSe : C (b1 + 2) = aI (k 0) 24 e1) (hb2 : 0 ≤ b2 ∧ b2 + 2 < (N : Int)) (hn2 : 0 ≤ n2 ∧ n2 ≤ 24) (hT : C b2 = .inr (2, [.ref (AD (b2 + 1)), .ref (AD (b2 + 2)), .int (zI n2)])) (hTw : C (b2 + 1) = aI (k 0) 24 w2) (hTe : C (b2 + 2) = aI (k 0) 24 e2) (hok1 : WOK w1 n1) (hok2 : WOK w2 n2) (hi : -100 ≤ i ∧ i ≤ 100) (hs : -100 ≤ s0 ∧ s0 ≤ 100) : MI l y_O_isPair (Cond.code y_O_isPair b_O_isPair 4 (Option.some Jvm.ClassFile.FieldType.boolean) :: WS) rm_O_isPair D clW (tyW k) N AD C sz [.ref (AD o), .ref (AD b1), .ref (AD b2), .int (zI i)] (fun r C' => (r = zI 1 ∧ (¬ wAt w1 n1 i = -1 ∧ ¬ wAt w2 n2 (i - s0) = -1) ∨ r = zI 0 ∧ (wAt w1 n1 i = -1 ∨ wAt w2 n2 (i - s0) = -1)) ∧ C' = C) := by
  refine MI.start (cc := b_O_isPair) (maxL := 4) (rt := .boolean) (by decide) rfl (Nat.le_of_ble_eq_true rfl) ?_
  intro p e s m args below meth c Q ls hx hb hml hown hts hK hsz hw hl hret
  have hown : s.vm.findClass "RingMatches$Overlap" = some m.cls := hown
  have hl : lv_has ls 4 [(0, .ref (AD o)), (1, .ref (AD b1)), (2, .ref (AD b2)), (3, .int (zI i))] := hl
  have hA := wA_hi (N := N) (AD := AD) hsz
  obtain ⟨H, hH⟩ : ∃ H, H = s.heap := ⟨_, rfl⟩
  obtain ⟨locs, hlocs⟩ : ∃ z : List Loc, z = [] := ⟨_, rfl⟩
  have hw : WD D clW (wA N AD sz) s.heap H locs N AD C := by rw [hH, hlocs]; exact hw
  rw [← hlocs]
  suffices hgo : W p l e rm_O_isPair s m args below meth c H locs 0 0 Q (F0 m 0 ls []) by rw [hH] at hgo; exact hgo
  have hc1 := wAt_cases hok1 i
  refine lv_aload_n hx hb d_O_isPair_0 rfl (lv_at hl 1 rfl) ?_
  refine lv_iload_n hx hb d_O_isPair_1 rfl (lv_at hl 3 rfl) ?_
  refine zr_callI (va_runV (As := [.int (zI i)]) (rest := []) ⟨hx, hb, hml, hown, hts⟩ (c_S_widthAt l D k N AD C H.size b1 n1 w1 e1 i ⟨by omega, by omega⟩ ⟨by omega, by omega⟩ hS hSw hSe ⟨by omega, by omega⟩) (cwV 1 hts (good_V wk_386 wk_276 wk_277 wk_29 wk_278) rfl rfl rfl (by decide +kernel) ⟨Nat.le_of_ble_eq_true rfl, Nat.le_of_ble_eq_true rfl⟩) (cPre_V hK hw b1 ⟨by omega, by omega⟩ hS rfl) rfl rfl hl.1 rfl (lv_room (Nat.le_of_ble_eq_true rfl)) d_O_isPair_2 ⟨Nat.le_of_ble_eq_true rfl, Nat.le_of_ble_eq_true rfl⟩) hw hA (fun r9 C2 H locs hq1 hw => ?_)
  obtain ⟨hr9, hCe⟩ := hq1
  rw [hCe] at hw; subst hr9
  refine zr_iconst hx hb d_O_isPair_5 ?_
  refine zr_icmp_eq (tgt := 27) hx hb ⟨by omega, by omega⟩ ⟨by omega, by omega⟩ d_O_isPair_6 (by decide) (fun c3 => ?_) (fun c3 => ?_)
  · refine zr_iconst hx hb d_O_isPair_27 ?_
    exact hret _ _ _ _ _ _ d_O_isPair_28 hw (by decide +kernel) ⟨Or.inr ⟨rfl, by omega⟩, rfl⟩
  · refine lv_aload_n hx hb d_O_isPair_9 rfl (lv_at hl 2 rfl) ?_
    refine lv_iload_n hx hb d_O_isPair_10 rfl (lv_at hl 3 rfl) ?_
    refine lv_aload_n hx hb d_O_isPair_11 rfl (lv_at hl 0 rfl) ?_
    refine zr_get (v := .int (zI s0)) hx hb hts iw_O hown hK hw o ⟨by omega, by omega⟩ hO rfl 0 (by decide) (hts _ wk_89) (fun _ h => h) rfl d_O_isPair_12 ?_
    refine zr_isub hx hb d_O_isPair_15 ?_
    have hc2 := wAt_cases hok2 (i - s0)
    refine zr_callI (va_runV (As := [.int (zI (i - s0))]) (rest := []) ⟨hx, hb, hml, hown, hts⟩ (c_S_widthAt l D k N AD C H.size b2 n2 w2 e2 (i - s0) ⟨by omega, by omega⟩ ⟨by omega, by omega⟩ hT hTw hTe ⟨by omega, by omega⟩) (cwV 1 hts (good_V wk_386 wk_276 wk_277 wk_29 wk_278) rfl rfl rfl (by decide +kernel) ⟨Nat.le_of_ble_eq_true rfl, Nat.le_of_ble_eq_true rfl⟩) (cPre_V hK hw b2 ⟨by omega, by omega⟩ hT rfl) rfl rfl hl.1 rfl (lv_room (Nat.le_of_ble_eq_true rfl)) d_O_isPair_16 ⟨Nat.le_of_ble_eq_true rfl, Nat.le_of_ble_eq_true rfl⟩) hw hA (fun r9 C5 H locs hq4 hw => ?_)
    obtain ⟨hr9, hCe⟩ := hq4
    rw [hCe] at hw; subst hr9
    refine zr_iconst hx hb d_O_isPair_19 ?_
    refine zr_icmp_eq (tgt := 27) hx hb ⟨by omega, by omega⟩ ⟨by omega, by omega⟩ d_O_isPair_20 (by decide) (fun c6 => ?_) (fun c6 => ?_)
    · refine zr_iconst hx hb d_O_isPair_27 ?_
      exact hret _ _ _ _ _ _ d_O_isPair_28 hw (by decide +kernel) ⟨Or.inr ⟨rfl, by omega⟩, rfl⟩
    · refine zr_iconst hx hb d_O_isPair_23 ?_
      refine lv_goto (tgt := 28) hx hb d_O_isPair_24 (by decide) ?_
      exact hret _ _ _ _ _ _ d_O_isPair_28 hw (by decide +kernel) ⟨Or.inl ⟨rfl, by omega⟩, rfl⟩
abbrev rm_O_outranks : Room := { frames := 0, cells := 0, slots := 0, locals := 0 }
set_option maxHeartbeats 4000000 in
set_option maxRecDepth 100000 in
theorem c_O_outranks (l : Launch) (D : va_G) (k : Nat → ClassId) (N : Nat) (AD : Int → Nat) (C : Int → va_E) (sz : Nat) (o : Int) (s0 : Int) (p0 : Int) (r0 : Int) (t0 : Int) (a0 : Int) (o2 : Int) (s1 : Int) (p1 : Int) (r1 : Int) (t1 : Int) (a1 : Int) (ho : 0 ≤ o ∧ o < (N : Int)) (hO : C o = .inr (0, [.int (zI s0), .int (zI p0), .int (zI r0), .int (zI t0), .int (zI a0)])) (ho2 : 0 ≤ o2 ∧ o2 < (N : Int)) (hP : C o2 = .inr (0, [.int (zI s1), .int (zI p1), .int (zI r1), .int (zI t1), .int (zI a1)])) (hb9 : inI p0 ∧ inI r0 ∧ inI p1 ∧ inI r1) : MI l y_O_outranks (Cond.code y_O_outranks b_O_outranks 2 (Option.some Jvm.ClassFile.FieldType.boolean) :: WS) rm_O_outranks D clW (tyW k) N AD C sz [.ref (AD o), .ref (AD o2)] (fun r C' => (r = zI 1 ∧ (r1 < r0 ∨ (r0 = r1 ∧ p1 < p0)) ∨ r = zI 0 ∧ ¬ (r1 < r0 ∨ (r0 = r1 ∧ p1 < p0))) ∧ C' = C) := by
  refine MI.start (cc := b_O_outranks) (maxL := 2) (rt := .boolean) (by decide) rfl (Nat.le_of_ble_eq_true rfl) ?_
  intro p e s m args below meth c Q ls hx hb hml hown hts hK hsz hw hl hret
  have hown : s.vm.findClass "RingMatches$Overlap" = some m.cls := hown
  have hl : lv_has ls 2 [(0, .ref (AD o)), (1, .ref (AD o2))] := hl
  have hA := wA_hi (N := N) (AD := AD) hsz
  obtain ⟨H, hH⟩ : ∃ H, H = s.heap := ⟨_, rfl⟩
  obtain ⟨locs, hlocs⟩ : ∃ z : List Loc, z = [] := ⟨_, rfl⟩
  have hw : WD D clW (wA N AD sz) s.heap H locs N AD C := by rw [hH, hlocs]; exact hw
  rw [← hlocs]
  suffices hgo : W p l e rm_O_outranks s m args below meth c H locs 0 0 Q (F0 m 0 ls []) by rw [hH] at hgo; exact hgo
  refine lv_aload_n hx hb d_O_outranks_0 rfl (lv_at hl 0 rfl) ?_
  refine zr_get (v := .int (zI r0)) hx hb hts iw_O hown hK hw o ⟨by omega, by omega⟩ hO rfl 2 (by decide) (hts _ wk_93) (fun _ h => h) rfl d_O_outranks_1 ?_
  refine lv_aload_n hx hb d_O_outranks_4 rfl (lv_at hl 1 rfl) ?_
  refine zr_get (v := .int (zI r1)) hx hb hts iw_O hown hK hw o2 ⟨by omega, by omega⟩ hP rfl 2 (by decide) (hts _ wk_93) (fun _ h => h) rfl d_O_outranks_5 ?_
  refine zr_icmp_eq (tgt := 28) hx hb ⟨by omega, by omega⟩ ⟨by omega, by omega⟩ d_O_outranks_8 (by decide) (fun c1 => ?_) (fun c1 => ?_)
  · refine lv_aload_n hx hb d_O_outranks_28 rfl (lv_at hl 0 rfl) ?_
    refine zr_get (v := .int (zI p0)) hx hb hts iw_O hown hK hw o ⟨by omega, by omega⟩ hO rfl 1 (by decide) (hts _ wk_91) (fun _ h => h) rfl d_O_outranks_29 ?_
    refine lv_aload_n hx hb d_O_outranks_32 rfl (lv_at hl 1 rfl) ?_
    refine zr_get (v := .int (zI p1)) hx hb hts iw_O hown hK hw o2 ⟨by omega, by omega⟩ hP rfl 1 (by decide) (hts _ wk_91) (fun _ h => h) rfl d_O_outranks_33 ?_
    refine zr_icmp_le (tgt := 43) hx hb ⟨by omega, by omega⟩ ⟨by omega, by omega⟩ d_O_outranks_36 (by decide) (fun c2 => ?_) (fun c2 => ?_)
    · refine zr_iconst hx hb d_O_outranks_43 ?_
      exact hret _ _ _ _ _ _ d_O_outranks_44 hw (by decide +kernel) ⟨Or.inr ⟨rfl, by omega⟩, rfl⟩
    · refine zr_iconst hx hb d_O_outranks_39 ?_
      refine lv_goto (tgt := 44) hx hb d_O_outranks_40 (by decide) ?_
      exact hret _ _ _ _ _ _ d_O_outranks_44 hw (by decide +kernel) ⟨Or.inl ⟨rfl, by omega⟩, rfl⟩
  · refine lv_aload_n hx hb d_O_outranks_11 rfl (lv_at hl 0 rfl) ?_
    refine zr_get (v := .int (zI r0)) hx hb hts iw_O hown hK hw o ⟨by omega, by omega⟩ hO rfl 2 (by decide) (hts _ wk_93) (fun _ h => h) rfl d_O_outranks_12 ?_
    refine lv_aload_n hx hb d_O_outranks_15 rfl (lv_at hl 1 rfl) ?_
    refine zr_get (v := .int (zI r1)) hx hb hts iw_O hown hK hw o2 ⟨by omega, by omega⟩ hP rfl 2 (by decide) (hts _ wk_93) (fun _ h => h) rfl d_O_outranks_16 ?_
    refine zr_icmp_le (tgt := 26) hx hb ⟨by omega, by omega⟩ ⟨by omega, by omega⟩ d_O_outranks_19 (by decide) (fun c3 => ?_) (fun c3 => ?_)
    · refine zr_iconst hx hb d_O_outranks_26 ?_
      exact hret _ _ _ _ _ _ d_O_outranks_27 hw (by decide +kernel) ⟨Or.inr ⟨rfl, by omega⟩, rfl⟩
    · refine zr_iconst hx hb d_O_outranks_22 ?_
      refine lv_goto (tgt := 27) hx hb d_O_outranks_23 (by decide) ?_
      exact hret _ _ _ _ _ _ d_O_outranks_27 hw (by decide +kernel) ⟨Or.inl ⟨rfl, by omega⟩, rfl⟩
theorem mul_b {a b A B : Int} (h1 : 0 ≤ a) (h2 : a ≤ A) (h3 : 0 ≤ b) (h4 : b ≤ B) : 0 ≤ a * b ∧ a * b ≤ A * B := ⟨Int.mul_nonneg h1 h3, Int.mul_le_mul h2 h4 h3 (by omega)⟩
theorem sq_nn (a : Int) : 0 ≤ a * a := by
  rcases Int.le_total 0 a with h | h
  · exact Int.mul_nonneg h h
  · exact Int.mul_nonneg_of_nonpos_of_nonpos h h
theorem hund1 {P : Int → Prop} {t bt : Int} (hbt : bt = 64 ∨ bt = 32 ∨ bt = 16 ∨ bt = 8 ∨ bt = 4 ∨ bt = 2 ∨ bt = 1 ∨ bt = 0) (h0 : 0 < bt) (h : ¬ P (t + bt)) : (1 ≤ bt / 2 ∧ (¬ P (t + 2 * (bt / 2)) ∨ 128 ≤ t + 2 * (bt / 2))) ∨ (bt / 2 = 0 ∧ (¬ P (t + 1) ∨ 128 ≤ t + 1)) := by
  by_cases h1 : bt = 1
  · subst h1; exact Or.inr ⟨by omega, Or.inl h⟩
  · have e : 2 * (bt / 2) = bt := by omega
    rw [e]; exact Or.inl ⟨by omega, Or.inl h⟩
theorem hund2 {P : Int → Prop} {t bt : Int} (hbt : bt = 64 ∨ bt = 32 ∨ bt = 16 ∨ bt = 8 ∨ bt = 4 ∨ bt = 2 ∨ bt = 1 ∨ bt = 0) (h0 : 0 < bt) (h : (1 ≤ bt ∧ (¬ P (t + 2 * bt) ∨ 128 ≤ t + 2 * bt)) ∨ (bt = 0 ∧ (¬ P (t + 1) ∨ 128 ≤ t + 1))) : (1 ≤ bt / 2 ∧ (¬ P (t + bt + 2 * (bt / 2)) ∨ 128 ≤ t + bt + 2 * (bt / 2))) ∨ (bt / 2 = 0 ∧ (¬ P (t + bt + 1) ∨ 128 ≤ t + bt + 1)) := by
  have h2 : ¬ P (t + 2 * bt) ∨ 128 ≤ t + 2 * bt := by rcases h with h | h; exact h.2; omega
  by_cases h1 : bt = 1
  · subst h1
    rw [show t + 2 * 1 = t + 1 + 1 by omega] at h2
    exact Or.inr ⟨by omega, h2⟩
  · have e : t + bt + 2 * (bt / 2) = t + 2 * bt := by omega
    rw [e]; exact Or.inl ⟨by omega, h2⟩
abbrev rm_O_hundredths : Room := { frames := 0, cells := 0, slots := 0, locals := 0 }
set_option maxHeartbeats 4000000 in
set_option maxRecDepth 100000 in
theorem c_O_hundredths (l : Launch) (D : va_G) (k : Nat → ClassId) (N : Nat) (AD : Int → Nat) (C : Int → va_E) (sz : Nat) (c0 : Int) (u : Int) (v : Int) (hc0 : -23040000 ≤ c0 ∧ c0 ≤ 23040000) (hu0 : 0 ≤ u ∧ u ≤ 23040000) (hv0 : 0 ≤ v ∧ v ≤ 23040000) (hcs : c0 * c0 ≤ u * v) : MI l y_O_hundredths (Cond.code y_O_hundredths b_O_hundredths 13 (Option.some Jvm.ClassFile.FieldType.int) :: WS) rm_O_hundredths D clW (tyW k) N AD C sz [.long (zL c0), .long (zL u), .long (zL v)] (fun r C' => r = zI (corrF c0 u v) ∧ C' = C) := by
  refine MI.start (cc := b_O_hundredths) (maxL := 13) (rt := .int) (by decide) rfl (Nat.le_of_ble_eq_true rfl) ?_
  intro p e s m args below meth c Q ls hx hb hml hown hts hK hsz hw hl hret
  have hown : s.vm.findClass "RingMatches$Overlap" = some m.cls := hown
  have hl : lv_has ls 13 [(0, .long (zL c0)), (2, .long (zL u)), (4, .long (zL v))] := hl
  have hA := wA_hi (N := N) (AD := AD) hsz
  obtain ⟨H, hH⟩ : ∃ H, H = s.heap := ⟨_, rfl⟩
  obtain ⟨locs, hlocs⟩ : ∃ z : List Loc, z = [] := ⟨_, rfl⟩
  have hw : WD D clW (wA N AD sz) s.heap H locs N AD C := by rw [hH, hlocs]; exact hw
  rw [← hlocs]
  suffices hgo : W p l e rm_O_hundredths s m args below meth c H locs 0 0 Q (F0 m 0 ls []) by rw [hH] at hgo; exact hgo
  have hsq := sq_nn c0
  have hsq2 : c0 * c0 ≤ 530841600000000 := by have := mul_b (a := u) (b := v) hu0.1 hu0.2 hv0.1 hv0.2; omega
  have hlim : 10000 * c0 * c0 = 10000 * (c0 * c0) := Int.mul_assoc _ _ _
  refine lv_lload_n hx hb d_O_hundredths_0 rfl (lv_at hl 1 rfl) ?_
  refine zr_lconst0 hx hb d_O_hundredths_1 ?_
  refine zr_lcmp_eq (tgt := 13) hx hb ⟨by omega, by omega⟩ inL0 d_O_hundredths_2 d_O_hundredths_3 (by decide) (fun c1 => ?_) (fun c1 => ?_)
  · refine zr_iconst hx hb d_O_hundredths_13 ?_
    exact hret _ _ _ _ _ _ d_O_hundredths_14 hw rfl ⟨by unfold corrF; rw [if_pos (by omega)], rfl⟩
  · refine lv_lload hx hb d_O_hundredths_6 (lv_at hl 2 rfl) ?_
    refine zr_lconst0 hx hb d_O_hundredths_8 ?_
    refine zr_lcmp_ne (tgt := 15) hx hb ⟨by omega, by omega⟩ inL0 d_O_hundredths_9 d_O_hundredths_10 (by decide) (fun c2 => ?_) (fun c2 => ?_)
    · have hP0 : Pd c0 u v 0 := by unfold Pd; rw [Int.mul_assoc 10000]; simp; omega
      refine zr_ldc2 10000 hx hb hown (hts _ wk_377) (by decide +kernel) d_O_hundredths_15 ?_
      refine lv_lload_n hx hb d_O_hundredths_18 rfl (lv_at hl 0 rfl) ?_
      refine zr_lmul hx hb d_O_hundredths_19 ?_
      refine lv_lload_n hx hb d_O_hundredths_20 rfl (lv_at hl 0 rfl) ?_
      refine zr_lmul hx hb d_O_hundredths_21 ?_
      refine lv_lstore (lv' := [(6, .long (zL ((10000 * c0) * c0))), (0, .long (zL c0)), (2, .long (zL u)), (4, .long (zL v))]) hx hb d_O_hundredths_22 hl (by decide) rfl (fun ls hl => ?_)
      refine zr_lconst0 hx hb d_O_hundredths_24 ?_
      refine lv_lstore (lv' := [(8, .long (zL 0)), (6, .long (zL ((10000 * c0) * c0))), (0, .long (zL c0)), (2, .long (zL u)), (4, .long (zL v))]) hx hb d_O_hundredths_25 hl (by decide) rfl (fun ls hl => ?_)
      refine zr_bipush hx hb d_O_hundredths_27 (by decide) ?_
      refine lv_istore (lv' := [(10, .int (zI 64)), (8, .long (zL 0)), (6, .long (zL ((10000 * c0) * c0))), (0, .long (zL c0)), (2, .long (zL u)), (4, .long (zL v))]) hx hb d_O_hundredths_29 hl (by decide) rfl (fun ls hl => ?_)
      have lp : ∀ (n9 : Nat) (t : Int) (bt : Int) (H : Heap) (locs : List Loc) (ls : Array Slot), (0 ≤ t ∧ t + 2 * bt ≤ 128 ∧ (bt = 0 → t ≤ 127)) → (bt = 64 ∨ bt = 32 ∨ bt = 16 ∨ bt = 8 ∨ bt = 4 ∨ bt = 2 ∨ bt = 1 ∨ bt = 0) → (Pd c0 u v t) → ((1 ≤ bt ∧ (¬ Pd c0 u v (t + 2 * bt) ∨ 128 ≤ t + 2 * bt)) ∨ (bt = 0 ∧ (¬ Pd c0 u v (t + 1) ∨ 128 ≤ t + 1))) → (bt).toNat < n9 → WD D clW (wA N AD sz) s.heap H locs N AD C → lv_has ls 13 [(0, .long (zL c0)), (2, .long (zL u)), (4, .long (zL v)), (6, .long (zL ((10000 * c0) * c0))), (8, .long (zL t)), (10, .int (zI bt))] → W p l e rm_O_hundredths s m args below meth c H locs 0 0 Q (F0 m 31 ls []) := by
        intro n9
        induction n9 with
        | zero => intro t bt H locs ls ht1 hbt hP1 hP2  hm hw hl; exact absurd hm (by omega)
        | succ n9 ihlp =>
          intro t bt H locs ls ht1 hbt hP1 hP2  hm hw hl
          refine lv_iload hx hb d_O_hundredths_31 (lv_at hl 5 rfl) ?_
          refine zr_if_le (tgt := 73) hx hb ⟨by omega, by omega⟩ d_O_hundredths_33 (by decide) (fun c3 => ?_) (fun c3 => ?_)
          · have hb0 : bt = 0 := by omega
            have hP3 : ¬ Pd c0 u v (t + 1) ∨ 128 ≤ t + 1 := by rcases hP2 with h | h; omega; exact h.2
            have hT := corrT_is (by omega) (by omega) hcs ht1.1 hP1 hP3
            refine lv_lload_n hx hb d_O_hundredths_73 rfl (lv_at hl 0 rfl) ?_
            refine zr_lconst0 hx hb d_O_hundredths_74 ?_
            refine zr_lcmp_ge (tgt := 85) hx hb ⟨by omega, by omega⟩ inL0 d_O_hundredths_75 d_O_hundredths_76 (by decide) (fun c4 => ?_) (fun c4 => ?_)
            · refine lv_lload hx hb d_O_hundredths_85 (lv_at hl 4 rfl) ?_
              refine zr_l2i hx hb d_O_hundredths_87 ?_
              exact hret _ _ _ _ _ _ d_O_hundredths_88 hw rfl ⟨by unfold corrF; rw [if_neg (by omega), if_neg (by omega), hT], rfl⟩
            · refine lv_lload hx hb d_O_hundredths_79 (lv_at hl 4 rfl) ?_
              refine zr_lneg hx hb d_O_hundredths_81 ?_
              refine lv_goto (tgt := 87) hx hb d_O_hundredths_82 (by decide) ?_
              refine zr_l2i hx hb d_O_hundredths_87 ?_
              exact hret _ _ _ _ _ _ d_O_hundredths_88 hw rfl ⟨by unfold corrF; rw [if_neg (by omega), if_pos (by omega), hT], rfl⟩
          · refine lv_lload hx hb d_O_hundredths_36 (lv_at hl 4 rfl) ?_
            refine lv_iload hx hb d_O_hundredths_38 (lv_at hl 5 rfl) ?_
            refine zr_i2l hx hb d_O_hundredths_40 ⟨by omega, by omega⟩ ?_
            refine zr_ladd hx hb d_O_hundredths_41 ?_
            refine lv_lstore (lv' := [(11, .long (zL (t + bt))), (0, .long (zL c0)), (2, .long (zL u)), (4, .long (zL v)), (6, .long (zL ((10000 * c0) * c0))), (8, .long (zL t)), (10, .int (zI bt))]) hx hb d_O_hundredths_42 hl (by decide) rfl (fun ls hl => ?_)
            have hm0 := mul_b (a := t + bt) (b := t + bt) (A := 127) (B := 127) (by omega) (by omega) (by omega) (by omega)
            have hm1 := mul_b (a := (t + bt) * (t + bt)) (b := u) (A := 16129) (B := 23040000) (by omega) (by omega) (by omega) (by omega)
            have hm2 := mul_b (a := (t + bt) * (t + bt) * u) (b := v) (A := 371612160000) (B := 23040000) (by omega) (by omega) (by omega) (by omega)
            refine lv_lload hx hb d_O_hundredths_44 (lv_at hl 0 rfl) ?_
            refine lv_lload hx hb d_O_hundredths_46 (lv_at hl 0 rfl) ?_
            refine zr_lmul hx hb d_O_hundredths_48 ?_
            refine lv_lload_n hx hb d_O_hundredths_49 rfl (lv_at hl 2 rfl) ?_
            refine zr_lmul hx hb d_O_hundredths_50 ?_
            refine lv_lload hx hb d_O_hundredths_51 (lv_at hl 3 rfl) ?_
            refine zr_lmul hx hb d_O_hundredths_53 ?_
            refine lv_lload hx hb d_O_hundredths_54 (lv_at hl 4 rfl) ?_
            refine zr_lcmp_gt (tgt := 64) hx hb ⟨by omega, by omega⟩ ⟨by omega, by omega⟩ d_O_hundredths_56 d_O_hundredths_57 (by decide) (fun c5 => ?_) (fun c5 => ?_)
            · have hq1 : ¬ Pd c0 u v (t + bt) := by unfold Pd; omega
              have hq2 : (1 ≤ bt / 2 ∧ (¬ Pd c0 u v (t + 2 * (bt / 2)) ∨ 128 ≤ t + 2 * (bt / 2))) ∨ (bt / 2 = 0 ∧ (¬ Pd c0 u v (t + 1) ∨ 128 ≤ t + 1)) := hund1 hbt (by omega) hq1
              refine lv_iload hx hb d_O_hundredths_64 (lv_at hl 6 rfl) ?_
              refine zr_iconst hx hb d_O_hundredths_66 ?_
              refine zr_idiv hx hb d_O_hundredths_67 ⟨by omega, by omega⟩ ⟨by omega, by omega⟩ (by omega) (by omega) ?_
              refine lv_istore (lv' := [(10, .int (zI (bt / 2))), (11, .long (zL (t + bt))), (0, .long (zL c0)), (2, .long (zL u)), (4, .long (zL v)), (6, .long (zL ((10000 * c0) * c0))), (8, .long (zL t))]) hx hb d_O_hundredths_68 hl (by decide) rfl (fun ls hl => ?_)
              refine lv_goto (tgt := 31) hx hb d_O_hundredths_70 (by decide) ?_
              exact ihlp t (bt / 2) H locs ls (by omega) (by omega) hP1 hq2  (by omega) hw (lv_sub hl [2, 3, 4, 5, 6, 0] rfl)
            · have hq1 : Pd c0 u v (t + bt) := by unfold Pd; omega
              have hq2 : (1 ≤ bt / 2 ∧ (¬ Pd c0 u v (t + bt + 2 * (bt / 2)) ∨ 128 ≤ t + bt + 2 * (bt / 2))) ∨ (bt / 2 = 0 ∧ (¬ Pd c0 u v (t + bt + 1) ∨ 128 ≤ t + bt + 1)) := hund2 hbt (by omega) hP2
              refine lv_lload hx hb d_O_hundredths_60 (lv_at hl 0 rfl) ?_
              refine lv_lstore (lv' := [(8, .long (zL (t + bt))), (11, .long (zL (t + bt))), (0, .long (zL c0)), (2, .long (zL u)), (4, .long (zL v)), (6, .long (zL ((10000 * c0) * c0))), (10, .int (zI bt))]) hx hb d_O_hundredths_62 hl (by decide) rfl (fun ls hl => ?_)
              refine lv_iload hx hb d_O_hundredths_64 (lv_at hl 6 rfl) ?_
              refine zr_iconst hx hb d_O_hundredths_66 ?_
              refine zr_idiv hx hb d_O_hundredths_67 ⟨by omega, by omega⟩ ⟨by omega, by omega⟩ (by omega) (by omega) ?_
              refine lv_istore (lv' := [(10, .int (zI (bt / 2))), (8, .long (zL (t + bt))), (11, .long (zL (t + bt))), (0, .long (zL c0)), (2, .long (zL u)), (4, .long (zL v)), (6, .long (zL ((10000 * c0) * c0)))]) hx hb d_O_hundredths_68 hl (by decide) rfl (fun ls hl => ?_)
              refine lv_goto (tgt := 31) hx hb d_O_hundredths_70 (by decide) ?_
              exact ihlp (t + bt) (bt / 2) H locs ls (by omega) (by omega) hq1 hq2  (by omega) hw (lv_sub hl [3, 4, 5, 6, 1, 0] rfl)
      exact lp ((64 : Int).toNat + 1) 0 64 H locs ls (by omega) (by omega) hP0 (by omega)  (by omega) hw (lv_sub hl [3, 4, 5, 2, 1, 0] rfl)
    · refine zr_iconst hx hb d_O_hundredths_13 ?_
      exact hret _ _ _ _ _ _ d_O_hundredths_14 hw rfl ⟨by unfold corrF; rw [if_pos (by omega)], rfl⟩
