abbrev rm_R_seriesAt : Room := { frames := 6, cells := 1, slots := 6, locals := 82 }
set_option maxHeartbeats 4000000 in
set_option maxRecDepth 100000 in
theorem c_R_seriesAt (l : Launch) (D : va_G) (k : Nat → ClassId) (N : Nat) (AD : Int → Nat) (C : Int → va_E) (sz : Nat) (hlt : l.stackTraces = false) (kc : Int) (lc : Int) (tr : Int) (i : Int) (hN : 82 ≤ (N : Int)) (hkc : 0 ≤ kc ∧ kc ≤ 8) (hi : inI i) (hR : C 0 = .inr (3, [.ref (AD 1), .ref (AD 3), .int (zI kc), .ref (AD 28), .int (zI lc), .int (zI tr), .ref (AD 76), .ref (AD 79), .ref (AD 80), .ref (AD 81)])) (h3 : C 3 = aQ (k 3) 8 (fun i => some (AD (4 + 3 * i)))) : XR l y_R_seriesAt (Cond.code y_R_seriesAt b_R_seriesAt 2 (Option.some (Jvm.ClassFile.FieldType.object "RingMatches$Series")) :: WS) rm_R_seriesAt 1 6 D clW (tyW k) N AD C sz [.ref (AD 0), .int (zI i)] (AD (4 + 3 * i)) (0 ≤ i ∧ i < kc) (fun E => E = "java/lang/IndexOutOfBoundsException" ∧ ¬ (0 ≤ i ∧ i < kc)) := by
  refine XR.start (cc := b_R_seriesAt) (maxL := 2) (rn := "RingMatches$Series") (by decide) rfl (Nat.le_of_ble_eq_true rfl) ?_
  intro p e s m args below meth c Q ls hx hb hml hown hts hK hsz hw hl htb hlk hxc hQ hret
  obtain ⟨Qc9, hQ⟩ := hQ
  have hown : s.vm.findClass "RingMatches" = some m.cls := hown
  have hl : lv_has ls 2 [(0, .ref (AD 0)), (1, .int (zI i))] := hl
  have hA := wA_hi (N := N) (AD := AD) hsz
  obtain ⟨H, hH⟩ : ∃ H, H = s.heap := ⟨_, rfl⟩
  obtain ⟨locs, hlocs⟩ : ∃ z : List Loc, z = [] := ⟨_, rfl⟩
  have hw : WD D clW (wA N AD sz) s.heap H locs N AD C := by rw [hH, hlocs]; exact hw
  rw [← hlocs]
  suffices hgo : W p l e rm_R_seriesAt s m args below meth c H locs 0 0 Q (F0 m 0 ls []) by rw [hH] at hgo; exact hgo
  refine lv_iload_n hx hb d_R_seriesAt_0 rfl (lv_at hl 1 rfl) ?_
  refine zr_if_lt (tgt := 12) hx hb ⟨by omega, by omega⟩ d_R_seriesAt_1 (by decide) (fun c1 => ?_) (fun c1 => ?_)
  · rw [hQ]
    exact xthrow (text := "no such series") hx hb hlt hown hts hK hxc htb hlk xc_IOB (by decide +kernel) hw ⟨rfl, by omega⟩ (hl.1.trans hml.symm) d_R_seriesAt_12 d_R_seriesAt_15 d_R_seriesAt_16 d_R_seriesAt_18 d_R_seriesAt_21 (Nat.le_of_ble_eq_true rfl) (Nat.le_of_ble_eq_true rfl) (Nat.le_of_ble_eq_true rfl) (Nat.le_of_ble_eq_true rfl) (Nat.le_of_ble_eq_true rfl) (Nat.le_of_ble_eq_true rfl)
  · refine lv_iload_n hx hb d_R_seriesAt_4 rfl (lv_at hl 1 rfl) ?_
    refine lv_aload_n hx hb d_R_seriesAt_5 rfl (lv_at hl 0 rfl) ?_
    refine zr_get (v := .int (zI kc)) hx hb hts iw_R hown hK hw 0 ⟨by omega, by omega⟩ hR rfl 2 (by decide) (hts _ wk_112) (fun _ h => h) rfl d_R_seriesAt_6 ?_
    refine zr_icmp_lt (tgt := 22) hx hb ⟨by omega, by omega⟩ ⟨by omega, by omega⟩ d_R_seriesAt_9 (by decide) (fun c2 => ?_) (fun c2 => ?_)
    · refine lv_aload_n hx hb d_R_seriesAt_22 rfl (lv_at hl 0 rfl) ?_
      refine zr_get (v := .ref (AD 3)) hx hb hts iw_R hown hK hw 0 ⟨by omega, by omega⟩ hR rfl 1 (by decide) (hts _ wk_111) (fun _ h => h) rfl d_R_seriesAt_23 ?_
      refine lv_iload_n hx hb d_R_seriesAt_26 rfl (lv_at hl 1 rfl) ?_
      refine zr_aldq (v := AD (4 + 3 * i)) hx hb hK hw 3 ⟨by omega, by omega⟩ 3 h3 rfl ⟨by omega, by omega⟩ (by decide) rfl d_R_seriesAt_27 ?_
      exact hret _ _ _ _ 0 0 (by decide) (by decide) d_R_seriesAt_28 hw (by omega)
    · rw [hQ]
      exact xthrow (text := "no such series") hx hb hlt hown hts hK hxc htb hlk xc_IOB (by decide +kernel) hw ⟨rfl, by omega⟩ (hl.1.trans hml.symm) d_R_seriesAt_12 d_R_seriesAt_15 d_R_seriesAt_16 d_R_seriesAt_18 d_R_seriesAt_21 (Nat.le_of_ble_eq_true rfl) (Nat.le_of_ble_eq_true rfl) (Nat.le_of_ble_eq_true rfl) (Nat.le_of_ble_eq_true rfl) (Nat.le_of_ble_eq_true rfl) (Nat.le_of_ble_eq_true rfl)
abbrev rm_R_overlapAt : Room := { frames := 6, cells := 1, slots := 6, locals := 82 }
set_option maxHeartbeats 4000000 in
set_option maxRecDepth 100000 in
theorem c_R_overlapAt (l : Launch) (D : va_G) (k : Nat → ClassId) (N : Nat) (AD : Int → Nat) (C : Int → va_E) (sz : Nat) (hlt : l.stackTraces = false) (kc : Int) (lc : Int) (tr : Int) (pm : Int → Int) (i : Int) (hN : 82 ≤ (N : Int)) (hlc : 0 ≤ lc ∧ lc ≤ 47) (hi : inI i) (hR : C 0 = .inr (3, [.ref (AD 1), .ref (AD 3), .int (zI kc), .ref (AD 28), .int (zI lc), .int (zI tr), .ref (AD 76), .ref (AD 79), .ref (AD 80), .ref (AD 81)])) (h28 : C 28 = aQ (k 4) 47 (fun j => some (AD (29 + pm j)))) : XR l y_R_overlapAt (Cond.code y_R_overlapAt b_R_overlapAt 2 (Option.some (Jvm.ClassFile.FieldType.object "RingMatches$Overlap")) :: WS) rm_R_overlapAt 1 6 D clW (tyW k) N AD C sz [.ref (AD 0), .int (zI i)] (AD (29 + pm i)) (0 ≤ i ∧ i < lc) (fun E => E = "java/lang/IndexOutOfBoundsException" ∧ ¬ (0 ≤ i ∧ i < lc)) := by
  refine XR.start (cc := b_R_overlapAt) (maxL := 2) (rn := "RingMatches$Overlap") (by decide) rfl (Nat.le_of_ble_eq_true rfl) ?_
  intro p e s m args below meth c Q ls hx hb hml hown hts hK hsz hw hl htb hlk hxc hQ hret
  obtain ⟨Qc9, hQ⟩ := hQ
  have hown : s.vm.findClass "RingMatches" = some m.cls := hown
  have hl : lv_has ls 2 [(0, .ref (AD 0)), (1, .int (zI i))] := hl
  have hA := wA_hi (N := N) (AD := AD) hsz
  obtain ⟨H, hH⟩ : ∃ H, H = s.heap := ⟨_, rfl⟩
  obtain ⟨locs, hlocs⟩ : ∃ z : List Loc, z = [] := ⟨_, rfl⟩
  have hw : WD D clW (wA N AD sz) s.heap H locs N AD C := by rw [hH, hlocs]; exact hw
  rw [← hlocs]
  suffices hgo : W p l e rm_R_overlapAt s m args below meth c H locs 0 0 Q (F0 m 0 ls []) by rw [hH] at hgo; exact hgo
  refine lv_iload_n hx hb d_R_overlapAt_0 rfl (lv_at hl 1 rfl) ?_
  refine zr_if_lt (tgt := 12) hx hb ⟨by omega, by omega⟩ d_R_overlapAt_1 (by decide) (fun c1 => ?_) (fun c1 => ?_)
  · rw [hQ]
    exact xthrow (text := "no such overlap") hx hb hlt hown hts hK hxc htb hlk xc_IOB (by decide +kernel) hw ⟨rfl, by omega⟩ (hl.1.trans hml.symm) d_R_overlapAt_12 d_R_overlapAt_15 d_R_overlapAt_16 d_R_overlapAt_18 d_R_overlapAt_21 (Nat.le_of_ble_eq_true rfl) (Nat.le_of_ble_eq_true rfl) (Nat.le_of_ble_eq_true rfl) (Nat.le_of_ble_eq_true rfl) (Nat.le_of_ble_eq_true rfl) (Nat.le_of_ble_eq_true rfl)
  · refine lv_iload_n hx hb d_R_overlapAt_4 rfl (lv_at hl 1 rfl) ?_
    refine lv_aload_n hx hb d_R_overlapAt_5 rfl (lv_at hl 0 rfl) ?_
    refine zr_get (v := .int (zI lc)) hx hb hts iw_R hown hK hw 0 ⟨by omega, by omega⟩ hR rfl 4 (by decide) (hts _ wk_114) (fun _ h => h) rfl d_R_overlapAt_6 ?_
    refine zr_icmp_lt (tgt := 22) hx hb ⟨by omega, by omega⟩ ⟨by omega, by omega⟩ d_R_overlapAt_9 (by decide) (fun c2 => ?_) (fun c2 => ?_)
    · refine lv_aload_n hx hb d_R_overlapAt_22 rfl (lv_at hl 0 rfl) ?_
      refine zr_get (v := .ref (AD 28)) hx hb hts iw_R hown hK hw 0 ⟨by omega, by omega⟩ hR rfl 3 (by decide) (hts _ wk_113) (fun _ h => h) rfl d_R_overlapAt_23 ?_
      refine lv_iload_n hx hb d_R_overlapAt_26 rfl (lv_at hl 1 rfl) ?_
      refine zr_aldq (v := AD (29 + pm i)) hx hb hK hw 28 ⟨by omega, by omega⟩ 4 h28 rfl ⟨by omega, by omega⟩ (by decide) rfl d_R_overlapAt_27 ?_
      exact hret _ _ _ _ 0 0 (by decide) (by decide) d_R_overlapAt_28 hw (by omega)
    · rw [hQ]
      exact xthrow (text := "no such overlap") hx hb hlt hown hts hK hxc htb hlk xc_IOB (by decide +kernel) hw ⟨rfl, by omega⟩ (hl.1.trans hml.symm) d_R_overlapAt_12 d_R_overlapAt_15 d_R_overlapAt_16 d_R_overlapAt_18 d_R_overlapAt_21 (Nat.le_of_ble_eq_true rfl) (Nat.le_of_ble_eq_true rfl) (Nat.le_of_ble_eq_true rfl) (Nat.le_of_ble_eq_true rfl) (Nat.le_of_ble_eq_true rfl) (Nat.le_of_ble_eq_true rfl)
abbrev rm_R_requireLeast : Room := { frames := 6, cells := 1, slots := 6, locals := 82 }
set_option maxHeartbeats 4000000 in
set_option maxRecDepth 100000 in
theorem c_R_requireLeast (l : Launch) (D : va_G) (k : Nat → ClassId) (N : Nat) (AD : Int → Nat) (C : Int → va_E) (sz : Nat) (hlt : l.stackTraces = false) (v : Int) (hv : inI v) : XV l y_R_requireLeast (Cond.code y_R_requireLeast b_R_requireLeast 1 (Option.none : Option FieldType) :: WS) rm_R_requireLeast 1 6 D clW (tyW k) N AD C sz [.int (zI v)] (fun C' => (3 ≤ v ∧ v ≤ 24) ∧ C' = C) (fun E => E = "java/lang/IllegalArgumentException" ∧ ¬ (3 ≤ v ∧ v ≤ 24)) := by
  refine XV.start (cc := b_R_requireLeast) (maxL := 1) (by decide) rfl (Nat.le_of_ble_eq_true rfl) ?_
  intro p e s m args below meth c Q ls hx hb hml hown hts hK hsz hw hl htb hlk hxc hQ hret
  obtain ⟨Qc9, hQ⟩ := hQ
  have hown : s.vm.findClass "RingMatches" = some m.cls := hown
  have hl : lv_has ls 1 [(0, .int (zI v))] := hl
  have hA := wA_hi (N := N) (AD := AD) hsz
  obtain ⟨H, hH⟩ : ∃ H, H = s.heap := ⟨_, rfl⟩
  obtain ⟨locs, hlocs⟩ : ∃ z : List Loc, z = [] := ⟨_, rfl⟩
  have hw : WD D clW (wA N AD sz) s.heap H locs N AD C := by rw [hH, hlocs]; exact hw
  rw [← hlocs]
  suffices hgo : W p l e rm_R_requireLeast s m args below meth c H locs 0 0 Q (F0 m 0 ls []) by rw [hH] at hgo; exact hgo
  refine lv_iload_n hx hb d_R_requireLeast_0 rfl (lv_at hl 0 rfl) ?_
  refine zr_iconst hx hb d_R_requireLeast_1 ?_
  refine zr_icmp_lt (tgt := 11) hx hb ⟨by omega, by omega⟩ ⟨by omega, by omega⟩ d_R_requireLeast_2 (by decide) (fun c1 => ?_) (fun c1 => ?_)
  · rw [hQ]
    exact xthrow (text := "least is not 3 .. 24") hx hb hlt hown hts hK hxc htb hlk xc_IAE (by decide +kernel) hw ⟨rfl, by omega⟩ (hl.1.trans hml.symm) d_R_requireLeast_11 d_R_requireLeast_14 d_R_requireLeast_15 d_R_requireLeast_17 d_R_requireLeast_20 (Nat.le_of_ble_eq_true rfl) (Nat.le_of_ble_eq_true rfl) (Nat.le_of_ble_eq_true rfl) (Nat.le_of_ble_eq_true rfl) (Nat.le_of_ble_eq_true rfl) (Nat.le_of_ble_eq_true rfl)
  · refine lv_iload_n hx hb d_R_requireLeast_5 rfl (lv_at hl 0 rfl) ?_
    refine zr_bipush hx hb d_R_requireLeast_6 (by decide) ?_
    refine zr_icmp_le (tgt := 21) hx hb ⟨by omega, by omega⟩ ⟨by omega, by omega⟩ d_R_requireLeast_8 (by decide) (fun c2 => ?_) (fun c2 => ?_)
    · exact hret _ _ _ _ _ 0 0 (by decide) (by decide) d_R_requireLeast_21 hw ⟨by omega, rfl⟩
    · rw [hQ]
      exact xthrow (text := "least is not 3 .. 24") hx hb hlt hown hts hK hxc htb hlk xc_IAE (by decide +kernel) hw ⟨rfl, by omega⟩ (hl.1.trans hml.symm) d_R_requireLeast_11 d_R_requireLeast_14 d_R_requireLeast_15 d_R_requireLeast_17 d_R_requireLeast_20 (Nat.le_of_ble_eq_true rfl) (Nat.le_of_ble_eq_true rfl) (Nat.le_of_ble_eq_true rfl) (Nat.le_of_ble_eq_true rfl) (Nat.le_of_ble_eq_true rfl) (Nat.le_of_ble_eq_true rfl)
abbrev rm_R_requirePart : Room := { frames := 6, cells := 1, slots := 6, locals := 82 }
set_option maxHeartbeats 4000000 in
set_option maxRecDepth 100000 in
theorem c_R_requirePart (l : Launch) (D : va_G) (k : Nat → ClassId) (N : Nat) (AD : Int → Nat) (C : Int → va_E) (sz : Nat) (hlt : l.stackTraces = false) (v : Int) (hv : inI v) : XV l y_R_requirePart (Cond.code y_R_requirePart b_R_requirePart 1 (Option.none : Option FieldType) :: WS) rm_R_requirePart 1 6 D clW (tyW k) N AD C sz [.int (zI v)] (fun C' => (v = 0 ∨ v = 1) ∧ C' = C) (fun E => E = "java/lang/IndexOutOfBoundsException" ∧ ¬ (v = 0 ∨ v = 1)) := by
  refine XV.start (cc := b_R_requirePart) (maxL := 1) (by decide) rfl (Nat.le_of_ble_eq_true rfl) ?_
  intro p e s m args below meth c Q ls hx hb hml hown hts hK hsz hw hl htb hlk hxc hQ hret
  obtain ⟨Qc9, hQ⟩ := hQ
  have hown : s.vm.findClass "RingMatches" = some m.cls := hown
  have hl : lv_has ls 1 [(0, .int (zI v))] := hl
  have hA := wA_hi (N := N) (AD := AD) hsz
  obtain ⟨H, hH⟩ : ∃ H, H = s.heap := ⟨_, rfl⟩
  obtain ⟨locs, hlocs⟩ : ∃ z : List Loc, z = [] := ⟨_, rfl⟩
  have hw : WD D clW (wA N AD sz) s.heap H locs N AD C := by rw [hH, hlocs]; exact hw
  rw [← hlocs]
  suffices hgo : W p l e rm_R_requirePart s m args below meth c H locs 0 0 Q (F0 m 0 ls []) by rw [hH] at hgo; exact hgo
  refine lv_iload_n hx hb d_R_requirePart_0 rfl (lv_at hl 0 rfl) ?_
  refine zr_if_eq (tgt := 19) hx hb ⟨by omega, by omega⟩ d_R_requirePart_1 (by decide) (fun c1 => ?_) (fun c1 => ?_)
  · exact hret _ _ _ _ _ 0 0 (by decide) (by decide) d_R_requirePart_19 hw ⟨by omega, rfl⟩
  · refine lv_iload_n hx hb d_R_requirePart_4 rfl (lv_at hl 0 rfl) ?_
    refine zr_iconst hx hb d_R_requirePart_5 ?_
    refine zr_icmp_eq (tgt := 19) hx hb ⟨by omega, by omega⟩ ⟨by omega, by omega⟩ d_R_requirePart_6 (by decide) (fun c2 => ?_) (fun c2 => ?_)
    · exact hret _ _ _ _ _ 0 0 (by decide) (by decide) d_R_requirePart_19 hw ⟨by omega, rfl⟩
    · rw [hQ]
      exact xthrow (text := "no such part") hx hb hlt hown hts hK hxc htb hlk xc_IOB (by decide +kernel) hw ⟨rfl, by omega⟩ (hl.1.trans hml.symm) d_R_requirePart_9 d_R_requirePart_12 d_R_requirePart_13 d_R_requirePart_15 d_R_requirePart_18 (Nat.le_of_ble_eq_true rfl) (Nat.le_of_ble_eq_true rfl) (Nat.le_of_ble_eq_true rfl) (Nat.le_of_ble_eq_true rfl) (Nat.le_of_ble_eq_true rfl) (Nat.le_of_ble_eq_true rfl)
abbrev rm_R_keepNext : Room := { frames := 0, cells := 0, slots := 0, locals := 0 }
set_option maxHeartbeats 4000000 in
set_option maxRecDepth 100000 in
theorem c_R_keepNext (l : Launch) (D : va_G) (k : Nat → ClassId) (N : Nat) (AD : Int → Nat) (C : Int → va_E) (sz : Nat) (kc : Int) (lc : Int) (tr : Int) (hN : 82 ≤ (N : Int)) (hR : C 0 = .inr (3, [.ref (AD 1), .ref (AD 3), .int (zI kc), .ref (AD 28), .int (zI lc), .int (zI tr), .ref (AD 76), .ref (AD 79), .ref (AD 80), .ref (AD 81)])) : MI l y_R_keepNext (Cond.code y_R_keepNext b_R_keepNext 2 (Option.some Jvm.ClassFile.FieldType.int) :: WS) rm_R_keepNext D clW (tyW k) N AD C sz [.ref (AD 0)] (fun r C' => r = zI kc ∧ C' 0 = .inr (3, [.ref (AD 1), .ref (AD 3), .int (zI (kc + 1)), .ref (AD 28), .int (zI lc), .int (zI tr), .ref (AD 76), .ref (AD 79), .ref (AD 80), .ref (AD 81)]) ∧ ∀ j : Int, j ≠ 0 → C' j = C j) := by
  refine MI.start (cc := b_R_keepNext) (maxL := 2) (rt := .int) (by decide) rfl (Nat.le_of_ble_eq_true rfl) ?_
  intro p e s m args below meth c Q ls hx hb hml hown hts hK hsz hw hl hret
  have hown : s.vm.findClass "RingMatches" = some m.cls := hown
  have hl : lv_has ls 2 [(0, .ref (AD 0))] := hl
  have hA := wA_hi (N := N) (AD := AD) hsz
  obtain ⟨H, hH⟩ : ∃ H, H = s.heap := ⟨_, rfl⟩
  obtain ⟨locs, hlocs⟩ : ∃ z : List Loc, z = [] := ⟨_, rfl⟩
  have hw : WD D clW (wA N AD sz) s.heap H locs N AD C := by rw [hH, hlocs]; exact hw
  rw [← hlocs]
  suffices hgo : W p l e rm_R_keepNext s m args below meth c H locs 0 0 Q (F0 m 0 ls []) by rw [hH] at hgo; exact hgo
  refine lv_aload_n hx hb d_R_keepNext_0 rfl (lv_at hl 0 rfl) ?_
  refine zr_get (v := .int (zI kc)) hx hb hts iw_R hown hK hw 0 ⟨by omega, by omega⟩ hR rfl 2 (by decide) (hts _ wk_112) (fun _ h => h) rfl d_R_keepNext_1 ?_
  refine lv_istore_n (lv' := [(1, .int (zI kc)), (0, .ref (AD 0))]) hx hb d_R_keepNext_4 rfl hl (by decide) rfl (fun ls hl => ?_)
  refine lv_aload_n hx hb d_R_keepNext_5 rfl (lv_at hl 1 rfl) ?_
  refine lv_dup hx hb d_R_keepNext_6 rfl ?_
  refine zr_get (v := .int (zI kc)) hx hb hts iw_R hown hK hw 0 ⟨by omega, by omega⟩ hR rfl 2 (by decide) (hts _ wk_112) (fun _ h => h) rfl d_R_keepNext_7 ?_
  refine zr_iconst hx hb d_R_keepNext_10 ?_
  refine zr_iadd hx hb d_R_keepNext_11 ?_
  refine zr_put (ty := .int) (v := .int (zI (kc + 1))) hx hb hts iw_R tyR tyR_ok nmR hown hK hw 0 ⟨by omega, by omega⟩ hR rfl 2 (by decide) (hts _ wk_112) (fun _ h => h) rfl (by decide +kernel) rfl rfl (Nat.le_of_ble_eq_true rfl) d_R_keepNext_12 (fun H locs hw => ?_)
  obtain ⟨C1, hC1⟩ : ∃ z : Int → va_E, z = zup C 0 (.inr (3, [.ref (AD 1), .ref (AD 3), .int (zI (kc + 1)), .ref (AD 28), .int (zI lc), .int (zI tr), .ref (AD 76), .ref (AD 79), .ref (AD 80), .ref (AD 81)])) := ⟨_, rfl⟩
  have hw : WD D clW (wA N AD sz) s.heap H locs N AD C1 := by rw [hC1]; exact hw
  have frC1 : ∀ j : Int, j ≠ 0 → C1 j = C j := fun j h => by rw [hC1]; exact zup_n h
  have hR : C1 0 = .inr (3, [.ref (AD 1), .ref (AD 3), .int (zI (kc + 1)), .ref (AD 28), .int (zI lc), .int (zI tr), .ref (AD 76), .ref (AD 79), .ref (AD 80), .ref (AD 81)]) := by rw [hC1]; exact zup_s
  refine lv_iload_n hx hb d_R_keepNext_15 rfl (lv_at hl 0 rfl) ?_
  exact hret _ _ _ _ _ _ d_R_keepNext_16 hw rfl ⟨rfl, hR, frC1⟩
