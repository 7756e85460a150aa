abbrev rm_R_init : Room := { frames := 2, cells := 81, slots := 872, locals := 32 }
set_option maxHeartbeats 4000000 in
set_option maxRecDepth 100000 in
theorem c_R_init (l : Launch) (D : va_G) (k : Nat → ClassId) (N : Nat) (AD : Int → Nat) (C : Int → va_E) (sz : Nat) (b : Int) (hb0 : b = 0) (hNb : ((N : Nat) : Int) = b + 1) (hsz0 : sz = AD (N : Int)) (hAD : ∀ j : Int, 0 ≤ j → AD (j + 1) = AD j + 1) (hR : C b = .inr (3, [.null, .null, .int (zI 0), .null, .int (zI 0), .int (zI 0), .null, .null, .null, .null])) : MC l y_R_init (Cond.code y_R_init b_R_init 2 (Option.none : Option FieldType) :: WS) rm_R_init 81 872 D clW (tyW k) N (N + 81) AD C sz [.ref (AD b)] (fun C' => RIx k AD C' 0 (fun _ => 0) 0 (fun _ => 0) (fun _ _ => 0) (fun _ _ => 0) 0 (fun j => j) (fun _ => 0) (fun _ => 0) (fun _ => 0) (fun _ => 0) (fun _ => 0) (fun _ => 0) (fun _ => 0) (fun _ => 0) (fun _ => 0) (fun _ => 0) 0 0 (fun _ => 0) (fun _ => 0) 0 0 0 0 0 (fun _ => 0) (fun _ => 0)) := by
  refine MC.start (cc := b_R_init) (maxL := 2) (by decide) rfl (Nat.le_of_ble_eq_true rfl) ?_
  intro p e s m args below meth c Q ls hx hb hml hown hin hts hK hao1 hao2 hsz hw hl hret
  subst hb0
  have hown : s.vm.findClass "RingMatches" = some m.cls := hown
  have hin : meth.name = "<init>" := hin
  have hl : lv_has ls 2 [(0, .ref (AD 0))] := hl
  have hA := wA_hi (N := N) (AD := AD) hsz
  obtain ⟨H, hH⟩ : ∃ H, H = s.heap := ⟨_, rfl⟩
  obtain ⟨locs, hlocs⟩ : ∃ z : List Loc, z = [] := ⟨_, rfl⟩
  have hw : WD D clW (wA N AD sz) s.heap H locs N AD C := by rw [hH, hlocs]; exact hw
  rw [← hlocs]
  suffices hgo : W p l e rm_R_init s m args below meth c H locs 0 0 Q (F0 m 0 ls []) by rw [hH] at hgo; exact hgo
  have eN : ((N : Nat) : Int) = 1 := by omega
  refine lv_aload_n hx hb d_R_init_0 rfl (lv_at hl 0 rfl) ?_
  refine W.objInit hx hb hown (hts _ wk_44) (hts _ wk_45) (hts _ wk_46) rfl (hl.1.trans hml.symm) rfl d_R_init_1 (Nat.le_of_ble_eq_true rfl) (Nat.le_of_ble_eq_true rfl) ?_
  refine W.eq (g2 := F0 m 4 ls []) rfl ?_
  refine lv_aload_n hx hb d_R_init_4 rfl (lv_at hl 0 rfl) ?_
  refine W_size hw (by omega) hAD (by rw [eN]; exact AD_sz (b := 1) (d := 0) hAD (by omega) (by rw [hsz, hsz0, hNb]; rfl) (by omega)) (fun hsz9 => ?_)
  refine zr_new (ci := 1) (fs := [.null, .int (zI 0)]) hx hb hts iw_P tyP tyP_ok hown (hts _ wk_47) (hts _ wk_48) (hts _ wk_28) hK hw hA rfl df_P (Nat.le_of_ble_eq_true rfl) (Nat.le_of_ble_eq_true rfl) hsz9 d_R_init_5 (fun H hsz8 hw => ?_)
  rw [eN] at hw hsz8 ⊢
  obtain ⟨C1, hC1⟩ : ∃ z : Int → va_E, z = zup C 1 (.inr (1, [.null, .int (zI 0)])) := ⟨_, rfl⟩
  rw [← hC1] at hw
  have frC1 : ∀ j : Int, j ≠ 1 → C1 j = C j := fun j h => by rw [hC1]; exact zup_n h
  have hR : C1 0 = .inr (3, [.null, .null, .int (zI 0), .null, .int (zI 0), .int (zI 0), .null, .null, .null, .null]) := (frC1 _ (by omega)).trans hR
  have hP : C1 1 = .inr (1, [.null, .int (zI 0)]) := by rw [hC1]; exact zup_s
  obtain ⟨N2, hN2⟩ : ∃ z : Nat, z = N + 1 := ⟨_, rfl⟩
  rw [← hN2] at hw
  have eN2 : ((N2 : Nat) : Int) = 2 := by omega
  refine lv_dup hx hb d_R_init_8 rfl ?_
  refine W_size hw (by omega) hAD (by rw [eN2]; exact AD_sz (b := 1) (d := (0 + 1)) hAD (by omega) (by rw [hsz, hsz0, hNb]; rfl) (by omega)) (fun hsz9 => ?_)
  refine zr_callC (va_runI (As := []) (rest := [.ref (AD 1), .ref (AD 0)]) ⟨hx, hb, hml, hown, hts⟩ (c_P_init l D k N2 AD C1 H.size 1 (by omega) (by omega) hsz9 hAD hP) (cwI 0 hts (WS_c wk_51) rfl rfl rfl (hts _ wk_28) (hts _ wk_49) (hts _ wk_50) rfl (by decide +kernel) ⟨Nat.le_of_ble_eq_true rfl, Nat.le_of_ble_eq_true rfl⟩) (oPre_S hK hw hao1 hao2) rfl rfl hl.1 rfl (lv_room (Nat.le_of_ble_eq_true rfl)) d_R_init_9 ⟨(Nat.le_of_ble_eq_true rfl), (Nat.le_of_ble_eq_true rfl)⟩) hw hA (fun C3 H locs hq3 hw => ?_)
  obtain ⟨hq3a, hq3b, frC3⟩ := hq3
  have hR : C3 0 = .inr (3, [.null, .null, .int (zI 0), .null, .int (zI 0), .int (zI 0), .null, .null, .null, .null]) := (frC3 _ (by omega)).trans hR
  have hP : C3 1 = .inr (1, [.ref (AD (1 + 1)), .int (zI 0)]) := hq3a
  have hPs : C3 (1 + 1) = aI (k 0) 100 (fun _ => 0) := hq3b
  obtain ⟨N4, hN4⟩ : ∃ z : Nat, z = N2 + 1 := ⟨_, rfl⟩
  rw [← hN4] at hw
  have eN4 : ((N4 : Nat) : Int) = 3 := by omega
  refine zr_putF (ty := .object "RingMatches$Pad") (v := .ref (AD 1)) hx hb hts iw_R tyR tyR_ok nmR hown hK hw 0 ⟨by omega, by omega⟩ hR rfl 0 (by decide) (hts _ wk_110) (fun _ h => h) rfl hin rfl (by decide +kernel) rfl rfl (Nat.le_of_ble_eq_true rfl) d_R_init_12 (fun H locs hw => ?_)
  obtain ⟨C5, hC5⟩ : ∃ z : Int → va_E, z = zup C3 0 (.inr (3, [.ref (AD 1), .null, .int (zI 0), .null, .int (zI 0), .int (zI 0), .null, .null, .null, .null])) := ⟨_, rfl⟩
  have hw : WD D clW (wA N AD sz) s.heap H locs N4 AD C5 := by rw [hC5]; exact hw
  have frC5 : ∀ j : Int, j ≠ 0 → C5 j = C3 j := fun j h => by rw [hC5]; exact zup_n h
  have hR : C5 0 = .inr (3, [.ref (AD 1), .null, .int (zI 0), .null, .int (zI 0), .int (zI 0), .null, .null, .null, .null]) := by rw [hC5]; exact zup_s
  have hP : C5 1 = .inr (1, [.ref (AD (1 + 1)), .int (zI 0)]) := (frC5 _ (by omega)).trans hP
  have hPs : C5 (1 + 1) = aI (k 0) 100 (fun _ => 0) := (frC5 _ (by omega)).trans hPs
  refine lv_aload_n hx hb d_R_init_15 rfl (lv_at hl 0 rfl) ?_
  refine zr_bipush hx hb d_R_init_16 (by decide) ?_
  refine W_size hw (by omega) hAD (by rw [eN4]; exact AD_sz (b := 1) (d := ((0 + 1) + 1)) hAD (by omega) (by rw [hsz, hsz0, hNb]; rfl) (by omega)) (fun hsz9 => ?_)
  refine zr_newQ (n := 8) hx hb hown (hts _ wk_62) hao1.use hK 3 rfl hw hA (by decide) (Nat.le_of_ble_eq_true rfl) (Nat.le_of_ble_eq_true rfl) hsz9 d_R_init_18 (fun H hsz8 hw => ?_)
  rw [eN4] at hw hsz8 ⊢
  obtain ⟨C6, hC6⟩ : ∃ z : Int → va_E, z = zup C5 3 (aQ (k 3) 8 (fun _ => none)) := ⟨_, rfl⟩
  rw [← hC6] at hw
  have frC6 : ∀ j : Int, j ≠ 3 → C6 j = C5 j := fun j h => by rw [hC6]; exact zup_n h
  have hR : C6 0 = .inr (3, [.ref (AD 1), .null, .int (zI 0), .null, .int (zI 0), .int (zI 0), .null, .null, .null, .null]) := (frC6 _ (by omega)).trans hR
  have hP : C6 1 = .inr (1, [.ref (AD (1 + 1)), .int (zI 0)]) := (frC6 _ (by omega)).trans hP
  have hPs : C6 (1 + 1) = aI (k 0) 100 (fun _ => 0) := (frC6 _ (by omega)).trans hPs
  have h3 : C6 3 = aQ (k 3) 8 (fun _ => none) := by rw [hC6]; exact zup_s
  obtain ⟨N7, hN7⟩ : ∃ z : Nat, z = N4 + 1 := ⟨_, rfl⟩
  rw [← hN7] at hw
  have eN7 : ((N7 : Nat) : Int) = 4 := by omega
  refine zr_putF (ty := .array (.object "RingMatches$Series")) (v := .ref (AD 3)) hx hb hts iw_R tyR tyR_ok nmR hown hK hw 0 ⟨by omega, by omega⟩ hR rfl 1 (by decide) (hts _ wk_111) (fun _ h => h) rfl hin rfl (by decide +kernel) rfl rfl (Nat.le_of_ble_eq_true rfl) d_R_init_21 (fun H locs hw => ?_)
  obtain ⟨C8, hC8⟩ : ∃ z : Int → va_E, z = zup C6 0 (.inr (3, [.ref (AD 1), .ref (AD 3), .int (zI 0), .null, .int (zI 0), .int (zI 0), .null, .null, .null, .null])) := ⟨_, rfl⟩
  have hw : WD D clW (wA N AD sz) s.heap H locs N7 AD C8 := by rw [hC8]; exact hw
  have frC8 : ∀ j : Int, j ≠ 0 → C8 j = C6 j := fun j h => by rw [hC8]; exact zup_n h
  have hR : C8 0 = .inr (3, [.ref (AD 1), .ref (AD 3), .int (zI 0), .null, .int (zI 0), .int (zI 0), .null, .null, .null, .null]) := by rw [hC8]; exact zup_s
  have hP : C8 1 = .inr (1, [.ref (AD (1 + 1)), .int (zI 0)]) := (frC8 _ (by omega)).trans hP
  have hPs : C8 (1 + 1) = aI (k 0) 100 (fun _ => 0) := (frC8 _ (by omega)).trans hPs
  have h3 : C8 3 = aQ (k 3) 8 (fun _ => none) := (frC8 _ (by omega)).trans h3
  refine zr_iconst hx hb d_R_init_24 ?_
  refine W.widen (k := 3 + 3 * (0 : Int).toNat) (n := 110 + 51 * (0 : Int).toNat) (by decide) (by decide) ?_
  have hser : (∀ i : Int, 0 ≤ i → i < 0 → C8 (4 + 3 * i) = .inr (2, [.ref (AD ((4 + 3 * i) + 1)), .ref (AD ((4 + 3 * i) + 2)), .int (zI 0)]) ∧ C8 ((4 + 3 * i) + 1) = aI (k 0) 24 (fun _ => 0) ∧ C8 ((4 + 3 * i) + 2) = aI (k 0) 24 (fun _ => 0)) := fun i h1 h2 => absurd h2 (by omega)
  refine lv_istore_n (lv' := [(1, .int (zI 0)), (0, .ref (AD 0))]) hx hb d_R_init_25 rfl hl (by decide) rfl (fun ls hl => ?_)
  have lp : ∀ (n9 : Nat) (x : Int) (N1 : Nat) (f1 : Int → Option Nat) (C : Int → va_E) (H : Heap) (locs : List Loc) (ls : Array Slot), (0 ≤ x ∧ x ≤ 8) → (((N1 : Nat) : Int) = (4 + 3 * x)) → (∀ j : Int, 0 ≤ j → j < x → f1 j = some (AD (4 + 3 * j))) → (C 0 = .inr (3, [.ref (AD 1), .ref (AD 3), .int (zI 0), .null, .int (zI 0), .int (zI 0), .null, .null, .null, .null])) → (C 1 = .inr (1, [.ref (AD (1 + 1)), .int (zI 0)])) → (C (1 + 1) = aI (k 0) 100 (fun _ => 0)) → (C 3 = aQ (k 3) 8 f1) → (∀ i : Int, 0 ≤ i → i < x → C (4 + 3 * i) = .inr (2, [.ref (AD ((4 + 3 * i) + 1)), .ref (AD ((4 + 3 * i) + 2)), .int (zI 0)]) ∧ C ((4 + 3 * i) + 1) = aI (k 0) 24 (fun _ => 0) ∧ C ((4 + 3 * i) + 2) = aI (k 0) 24 (fun _ => 0)) → (8 - x).toNat < n9 → WD D clW (wA N AD sz) s.heap H locs N1 AD C → lv_has ls 2 [(0, .ref (AD 0)), (1, .int (zI x))] → W p l e rm_R_init s m args below meth c H locs (3 + 3 * x.toNat) (110 + 51 * x.toNat) Q (F0 m 26 ls []) := by
    intro n9
    induction n9 with
    | zero => intro x N1 f1 C H locs ls hx1 eN1 hf1 hR hP hPs h3 hser hm hw hl; exact absurd hm (by omega)
    | succ n9 ihlp =>
      intro x N1 f1 C H locs ls hx1 eN1 hf1 hR hP hPs h3 hser hm hw hl
      refine lv_iload_n hx hb d_R_init_26 rfl (lv_at hl 1 rfl) ?_
      refine lv_aload_n hx hb d_R_init_27 rfl (lv_at hl 0 rfl) ?_
      refine zr_get (v := .ref (AD 3)) hx hb hts iw_R hown hK hw 0 ⟨by omega, by omega⟩ hR rfl 1 (by decide) (hts _ wk_111) (fun _ h => h) rfl d_R_init_28 ?_
      refine zr_alen hx hb hK hw 3 ⟨by omega, by omega⟩ 3 h3 rfl d_R_init_31 ?_
      refine zr_icmp_ge (tgt := 54) hx hb ⟨by omega, by omega⟩ ⟨by omega, by omega⟩ d_R_init_32 (by decide) (fun c9 => ?_) (fun c9 => ?_)
      · have hw := WD_swapQ (g := fun i => some (AD (4 + 3 * i))) hw 3 ⟨by omega, by omega⟩ h3 (fun j h1 h2 => hf1 j h1 (by omega))
        obtain ⟨C10, hC10⟩ : ∃ z : Int → va_E, z = zup C 3 (aQ (k 3) 8 (fun i => some (AD (4 + 3 * i)))) := ⟨_, rfl⟩
        have hw : WD D clW (wA N AD sz) s.heap H locs N1 AD C10 := by rw [hC10]; exact hw
        have frC10 : ∀ j : Int, j ≠ 3 → C10 j = C j := fun j h => by rw [hC10]; exact zup_n h
        have hR : C10 0 = .inr (3, [.ref (AD 1), .ref (AD 3), .int (zI 0), .null, .int (zI 0), .int (zI 0), .null, .null, .null, .null]) := (frC10 _ (by omega)).trans hR
        have hP : C10 1 = .inr (1, [.ref (AD (1 + 1)), .int (zI 0)]) := (frC10 _ (by omega)).trans hP
        have hPs : C10 (1 + 1) = aI (k 0) 100 (fun _ => 0) := (frC10 _ (by omega)).trans hPs
        have h3 : C10 3 = aQ (k 3) 8 (fun i => some (AD (4 + 3 * i))) := by rw [hC10]; exact zup_s
        have hser : (∀ i : Int, 0 ≤ i → i < x → C10 (4 + 3 * i) = .inr (2, [.ref (AD ((4 + 3 * i) + 1)), .ref (AD ((4 + 3 * i) + 2)), .int (zI 0)]) ∧ C10 ((4 + 3 * i) + 1) = aI (k 0) 24 (fun _ => 0) ∧ C10 ((4 + 3 * i) + 2) = aI (k 0) 24 (fun _ => 0)) := fun i h1 h2 => by obtain ⟨a1, a2, a3⟩ := hser i h1 h2; exact ⟨(frC10 _ (by omega)).trans a1, (frC10 _ (by omega)).trans a2, (frC10 _ (by omega)).trans a3⟩
        have hser : (∀ i : Int, 0 ≤ i → i < 8 → C10 (4 + 3 * i) = .inr (2, [.ref (AD ((4 + 3 * i) + 1)), .ref (AD ((4 + 3 * i) + 2)), .int (zI 0)]) ∧ C10 ((4 + 3 * i) + 1) = aI (k 0) 24 (fun _ => 0) ∧ C10 ((4 + 3 * i) + 2) = aI (k 0) 24 (fun _ => 0)) := by rw [show x = 8 by omega] at hser; exact hser
        have eN1 : ((N1 : Nat) : Int) = 28 := by omega
        refine W.widen (k := 27) (n := 518) (by omega) (by omega) ?_
        refine lv_aload_n hx hb d_R_init_54 rfl (lv_at hl 0 rfl) ?_
        refine zr_bipush hx hb d_R_init_55 (by decide) ?_
        refine W_size hw (by omega) hAD (by rw [eN1]; exact AD_sz (b := 1) (d := 27) hAD (by omega) (by rw [hsz, hsz0, hNb]; rfl) (by omega)) (fun hsz9 => ?_)
        refine zr_newQ (n := 47) hx hb hown (hts _ wk_82) hao2.use hK 4 rfl hw hA (by decide) (Nat.le_of_ble_eq_true rfl) (Nat.le_of_ble_eq_true rfl) hsz9 d_R_init_57 (fun H hsz8 hw => ?_)
        rw [eN1] at hw hsz8 ⊢
        obtain ⟨C11, hC11⟩ : ∃ z : Int → va_E, z = zup C10 28 (aQ (k 4) 47 (fun _ => none)) := ⟨_, rfl⟩
        rw [← hC11] at hw
        have frC11 : ∀ j : Int, j ≠ 28 → C11 j = C10 j := fun j h => by rw [hC11]; exact zup_n h
        have hR : C11 0 = .inr (3, [.ref (AD 1), .ref (AD 3), .int (zI 0), .null, .int (zI 0), .int (zI 0), .null, .null, .null, .null]) := (frC11 _ (by omega)).trans hR
        have hP : C11 1 = .inr (1, [.ref (AD (1 + 1)), .int (zI 0)]) := (frC11 _ (by omega)).trans hP
        have hPs : C11 (1 + 1) = aI (k 0) 100 (fun _ => 0) := (frC11 _ (by omega)).trans hPs
        have h3 : C11 3 = aQ (k 3) 8 (fun i => some (AD (4 + 3 * i))) := (frC11 _ (by omega)).trans h3
        have hser : (∀ i : Int, 0 ≤ i → i < 8 → C11 (4 + 3 * i) = .inr (2, [.ref (AD ((4 + 3 * i) + 1)), .ref (AD ((4 + 3 * i) + 2)), .int (zI 0)]) ∧ C11 ((4 + 3 * i) + 1) = aI (k 0) 24 (fun _ => 0) ∧ C11 ((4 + 3 * i) + 2) = aI (k 0) 24 (fun _ => 0)) := fun i h1 h2 => by obtain ⟨a1, a2, a3⟩ := hser i h1 h2; exact ⟨(frC11 _ (by omega)).trans a1, (frC11 _ (by omega)).trans a2, (frC11 _ (by omega)).trans a3⟩
        have h28 : C11 28 = aQ (k 4) 47 (fun _ => none) := by rw [hC11]; exact zup_s
        obtain ⟨N12, hN12⟩ : ∃ z : Nat, z = N1 + 1 := ⟨_, rfl⟩
        rw [← hN12] at hw
        have eN12 : ((N12 : Nat) : Int) = 29 := by omega
        refine zr_putF (ty := .array (.object "RingMatches$Overlap")) (v := .ref (AD 28)) hx hb hts iw_R tyR tyR_ok nmR hown hK hw 0 ⟨by omega, by omega⟩ hR rfl 3 (by decide) (hts _ wk_113) (fun _ h => h) rfl hin rfl (by decide +kernel) rfl rfl (Nat.le_of_ble_eq_true rfl) d_R_init_60 (fun H locs hw => ?_)
        obtain ⟨C13, hC13⟩ : ∃ z : Int → va_E, z = zup C11 0 (.inr (3, [.ref (AD 1), .ref (AD 3), .int (zI 0), .ref (AD 28), .int (zI 0), .int (zI 0), .null, .null, .null, .null])) := ⟨_, rfl⟩
        have hw : WD D clW (wA N AD sz) s.heap H locs N12 AD C13 := by rw [hC13]; exact hw
        have frC13 : ∀ j : Int, j ≠ 0 → C13 j = C11 j := fun j h => by rw [hC13]; exact zup_n h
        have hR : C13 0 = .inr (3, [.ref (AD 1), .ref (AD 3), .int (zI 0), .ref (AD 28), .int (zI 0), .int (zI 0), .null, .null, .null, .null]) := by rw [hC13]; exact zup_s
        have hP : C13 1 = .inr (1, [.ref (AD (1 + 1)), .int (zI 0)]) := (frC13 _ (by omega)).trans hP
        have hPs : C13 (1 + 1) = aI (k 0) 100 (fun _ => 0) := (frC13 _ (by omega)).trans hPs
        have h3 : C13 3 = aQ (k 3) 8 (fun i => some (AD (4 + 3 * i))) := (frC13 _ (by omega)).trans h3
        have hser : (∀ i : Int, 0 ≤ i → i < 8 → C13 (4 + 3 * i) = .inr (2, [.ref (AD ((4 + 3 * i) + 1)), .ref (AD ((4 + 3 * i) + 2)), .int (zI 0)]) ∧ C13 ((4 + 3 * i) + 1) = aI (k 0) 24 (fun _ => 0) ∧ C13 ((4 + 3 * i) + 2) = aI (k 0) 24 (fun _ => 0)) := fun i h1 h2 => by obtain ⟨a1, a2, a3⟩ := hser i h1 h2; exact ⟨(frC13 _ (by omega)).trans a1, (frC13 _ (by omega)).trans a2, (frC13 _ (by omega)).trans a3⟩
        have h28 : C13 28 = aQ (k 4) 47 (fun _ => none) := (frC13 _ (by omega)).trans h28
        refine zr_iconst hx hb d_R_init_63 ?_
        refine W.widen (k := 28 + (0 : Int).toNat) (n := 565 + 5 * (0 : Int).toNat) (by decide) (by decide) ?_
        have hov : (∀ j : Int, 0 ≤ j → j < 0 → C13 (29 + j) = .inr (0, [.int (zI 0), .int (zI 0), .int (zI 0), .int (zI 0), .int (zI 0)])) := fun i h1 h2 => absurd h2 (by omega)
        refine lv_istore_n (lv' := [(1, .int (zI 0)), (0, .ref (AD 0))]) hx hb d_R_init_64 rfl hl (by decide) rfl (fun ls hl => ?_)
        have lq : ∀ (n9 : Nat) (y : Int) (N2 : Nat) (f2 : Int → Option Nat) (C : Int → va_E) (H : Heap) (locs : List Loc) (ls : Array Slot), (0 ≤ y ∧ y ≤ 47) → (((N2 : Nat) : Int) = (29 + y)) → (∀ j : Int, 0 ≤ j → j < y → f2 j = some (AD (29 + j))) → (C 0 = .inr (3, [.ref (AD 1), .ref (AD 3), .int (zI 0), .ref (AD 28), .int (zI 0), .int (zI 0), .null, .null, .null, .null])) → (C 1 = .inr (1, [.ref (AD (1 + 1)), .int (zI 0)])) → (C (1 + 1) = aI (k 0) 100 (fun _ => 0)) → (C 3 = aQ (k 3) 8 (fun i => some (AD (4 + 3 * i)))) → (∀ i : Int, 0 ≤ i → i < 8 → C (4 + 3 * i) = .inr (2, [.ref (AD ((4 + 3 * i) + 1)), .ref (AD ((4 + 3 * i) + 2)), .int (zI 0)]) ∧ C ((4 + 3 * i) + 1) = aI (k 0) 24 (fun _ => 0) ∧ C ((4 + 3 * i) + 2) = aI (k 0) 24 (fun _ => 0)) → (C 28 = aQ (k 4) 47 f2) → (∀ j : Int, 0 ≤ j → j < y → C (29 + j) = .inr (0, [.int (zI 0), .int (zI 0), .int (zI 0), .int (zI 0), .int (zI 0)])) → (47 - y).toNat < n9 → WD D clW (wA N AD sz) s.heap H locs N2 AD C → lv_has ls 2 [(0, .ref (AD 0)), (1, .int (zI y))] → W p l e rm_R_init s m args below meth c H locs (28 + y.toNat) (565 + 5 * y.toNat) Q (F0 m 65 ls []) := by
          intro n9
          induction n9 with
          | zero => intro y N2 f2 C H locs ls hy1 eN2 hf3 hR hP hPs h3 hser h28 hov hm hw hl; exact absurd hm (by omega)
          | succ n9 ihlq =>
            intro y N2 f2 C H locs ls hy1 eN2 hf3 hR hP hPs h3 hser h28 hov hm hw hl
            refine lv_iload_n hx hb d_R_init_65 rfl (lv_at hl 1 rfl) ?_
            refine lv_aload_n hx hb d_R_init_66 rfl (lv_at hl 0 rfl) ?_
            refine zr_get (v := .ref (AD 28)) hx hb hts iw_R hown hK hw 0 ⟨by omega, by omega⟩ hR rfl 3 (by decide) (hts _ wk_113) (fun _ h => h) rfl d_R_init_67 ?_
            refine zr_alen hx hb hK hw 28 ⟨by omega, by omega⟩ 4 h28 rfl d_R_init_70 ?_
            refine zr_icmp_ge (tgt := 93) hx hb ⟨by omega, by omega⟩ ⟨by omega, by omega⟩ d_R_init_71 (by decide) (fun c14 => ?_) (fun c14 => ?_)
            · have hw := WD_swapQ (g := fun j => some (AD (29 + j))) hw 28 ⟨by omega, by omega⟩ h28 (fun j h1 h2 => hf3 j h1 (by omega))
              obtain ⟨C15, hC15⟩ : ∃ z : Int → va_E, z = zup C 28 (aQ (k 4) 47 (fun j => some (AD (29 + j)))) := ⟨_, rfl⟩
              have hw : WD D clW (wA N AD sz) s.heap H locs N2 AD C15 := by rw [hC15]; exact hw
              have frC15 : ∀ j : Int, j ≠ 28 → C15 j = C j := fun j h => by rw [hC15]; exact zup_n h
              have hR : C15 0 = .inr (3, [.ref (AD 1), .ref (AD 3), .int (zI 0), .ref (AD 28), .int (zI 0), .int (zI 0), .null, .null, .null, .null]) := (frC15 _ (by omega)).trans hR
              have hP : C15 1 = .inr (1, [.ref (AD (1 + 1)), .int (zI 0)]) := (frC15 _ (by omega)).trans hP
              have hPs : C15 (1 + 1) = aI (k 0) 100 (fun _ => 0) := (frC15 _ (by omega)).trans hPs
              have h3 : C15 3 = aQ (k 3) 8 (fun i => some (AD (4 + 3 * i))) := (frC15 _ (by omega)).trans h3
              have hser : (∀ i : Int, 0 ≤ i → i < 8 → C15 (4 + 3 * i) = .inr (2, [.ref (AD ((4 + 3 * i) + 1)), .ref (AD ((4 + 3 * i) + 2)), .int (zI 0)]) ∧ C15 ((4 + 3 * i) + 1) = aI (k 0) 24 (fun _ => 0) ∧ C15 ((4 + 3 * i) + 2) = aI (k 0) 24 (fun _ => 0)) := fun i h1 h2 => by obtain ⟨a1, a2, a3⟩ := hser i h1 h2; exact ⟨(frC15 _ (by omega)).trans a1, (frC15 _ (by omega)).trans a2, (frC15 _ (by omega)).trans a3⟩
              have h28 : C15 28 = aQ (k 4) 47 (fun j => some (AD (29 + j))) := by rw [hC15]; exact zup_s
              have hov : (∀ j : Int, 0 ≤ j → j < y → C15 (29 + j) = .inr (0, [.int (zI 0), .int (zI 0), .int (zI 0), .int (zI 0), .int (zI 0)])) := fun j h1 h2 => (frC15 _ (by omega)).trans (hov j h1 h2)
              have hov : (∀ j : Int, 0 ≤ j → j < 47 → C15 (29 + j) = .inr (0, [.int (zI 0), .int (zI 0), .int (zI 0), .int (zI 0), .int (zI 0)])) := by rw [show y = 47 by omega] at hov; exact hov
              have eN2 : ((N2 : Nat) : Int) = 76 := by omega
              refine W.widen (k := 75) (n := 800) (by omega) (by omega) ?_
              refine lv_aload_n hx hb d_R_init_93 rfl (lv_at hl 0 rfl) ?_
              refine W_size hw (by omega) hAD (by rw [eN2]; exact AD_sz (b := 1) (d := 75) hAD (by omega) (by rw [hsz, hsz0, hNb]; rfl) (by omega)) (fun hsz9 => ?_)
              refine zr_new (ci := 2) (fs := [.null, .null, .int (zI 0)]) hx hb hts iw_S tyS tyS_ok hown (hts _ wk_62) (hts _ wk_64) (hts _ wk_29) hK hw hA rfl df_S (Nat.le_of_ble_eq_true rfl) (Nat.le_of_ble_eq_true rfl) hsz9 d_R_init_94 (fun H hsz8 hw => ?_)
              rw [eN2] at hw hsz8 ⊢
              obtain ⟨C16, hC16⟩ : ∃ z : Int → va_E, z = zup C15 76 (.inr (2, [.null, .null, .int (zI 0)])) := ⟨_, rfl⟩
              rw [← hC16] at hw
              have frC16 : ∀ j : Int, j ≠ 76 → C16 j = C15 j := fun j h => by rw [hC16]; exact zup_n h
              have hR : C16 0 = .inr (3, [.ref (AD 1), .ref (AD 3), .int (zI 0), .ref (AD 28), .int (zI 0), .int (zI 0), .null, .null, .null, .null]) := (frC16 _ (by omega)).trans hR
              have hP : C16 1 = .inr (1, [.ref (AD (1 + 1)), .int (zI 0)]) := (frC16 _ (by omega)).trans hP
              have hPs : C16 (1 + 1) = aI (k 0) 100 (fun _ => 0) := (frC16 _ (by omega)).trans hPs
              have h3 : C16 3 = aQ (k 3) 8 (fun i => some (AD (4 + 3 * i))) := (frC16 _ (by omega)).trans h3
              have hser : (∀ i : Int, 0 ≤ i → i < 8 → C16 (4 + 3 * i) = .inr (2, [.ref (AD ((4 + 3 * i) + 1)), .ref (AD ((4 + 3 * i) + 2)), .int (zI 0)]) ∧ C16 ((4 + 3 * i) + 1) = aI (k 0) 24 (fun _ => 0) ∧ C16 ((4 + 3 * i) + 2) = aI (k 0) 24 (fun _ => 0)) := fun i h1 h2 => by obtain ⟨a1, a2, a3⟩ := hser i h1 h2; exact ⟨(frC16 _ (by omega)).trans a1, (frC16 _ (by omega)).trans a2, (frC16 _ (by omega)).trans a3⟩
              have h28 : C16 28 = aQ (k 4) 47 (fun j => some (AD (29 + j))) := (frC16 _ (by omega)).trans h28
              have hov : (∀ j : Int, 0 ≤ j → j < 47 → C16 (29 + j) = .inr (0, [.int (zI 0), .int (zI 0), .int (zI 0), .int (zI 0), .int (zI 0)])) := fun j h1 h2 => (frC16 _ (by omega)).trans (hov j h1 h2)
              have hst : C16 76 = .inr (2, [.null, .null, .int (zI 0)]) := by rw [hC16]; exact zup_s
              obtain ⟨N17, hN17⟩ : ∃ z : Nat, z = N2 + 1 := ⟨_, rfl⟩
              rw [← hN17] at hw
              have eN17 : ((N17 : Nat) : Int) = 77 := by omega
              refine lv_dup hx hb d_R_init_97 rfl ?_
              refine W_size hw (by omega) hAD (by rw [eN17]; exact AD_sz (b := 1) (d := (75 + 1)) hAD (by omega) (by rw [hsz, hsz0, hNb]; rfl) (by omega)) (fun hsz9 => ?_)
              refine zr_callC (va_runI (As := []) (rest := [.ref (AD 76), .ref (AD 0)]) ⟨hx, hb, hml, hown, hts⟩ (c_S_init l D k N17 AD C16 H.size 76 (by omega) (by omega) hsz9 hAD hst) (cwI 0 hts (WS_c wk_67) rfl rfl rfl (hts _ wk_29) (hts _ wk_65) (hts _ wk_66) rfl (by decide +kernel) ⟨Nat.le_of_ble_eq_true rfl, Nat.le_of_ble_eq_true rfl⟩) (oPre_S hK hw hao1 hao2) rfl rfl hl.1 rfl (lv_room (Nat.le_of_ble_eq_true rfl)) d_R_init_98 ⟨(Nat.le_of_ble_eq_true rfl), (Nat.le_of_ble_eq_true rfl)⟩) hw hA (fun C18 H locs hq18 hw => ?_)
              obtain ⟨hq18a, hq18b, hq18c, frC18⟩ := hq18
              have hR : C18 0 = .inr (3, [.ref (AD 1), .ref (AD 3), .int (zI 0), .ref (AD 28), .int (zI 0), .int (zI 0), .null, .null, .null, .null]) := (frC18 _ (by omega)).trans hR
              have hP : C18 1 = .inr (1, [.ref (AD (1 + 1)), .int (zI 0)]) := (frC18 _ (by omega)).trans hP
              have hPs : C18 (1 + 1) = aI (k 0) 100 (fun _ => 0) := (frC18 _ (by omega)).trans hPs
              have h3 : C18 3 = aQ (k 3) 8 (fun i => some (AD (4 + 3 * i))) := (frC18 _ (by omega)).trans h3
              have hser : (∀ i : Int, 0 ≤ i → i < 8 → C18 (4 + 3 * i) = .inr (2, [.ref (AD ((4 + 3 * i) + 1)), .ref (AD ((4 + 3 * i) + 2)), .int (zI 0)]) ∧ C18 ((4 + 3 * i) + 1) = aI (k 0) 24 (fun _ => 0) ∧ C18 ((4 + 3 * i) + 2) = aI (k 0) 24 (fun _ => 0)) := fun i h1 h2 => by obtain ⟨a1, a2, a3⟩ := hser i h1 h2; exact ⟨(frC18 _ (by omega)).trans a1, (frC18 _ (by omega)).trans a2, (frC18 _ (by omega)).trans a3⟩
              have h28 : C18 28 = aQ (k 4) 47 (fun j => some (AD (29 + j))) := (frC18 _ (by omega)).trans h28
              have hov : (∀ j : Int, 0 ≤ j → j < 47 → C18 (29 + j) = .inr (0, [.int (zI 0), .int (zI 0), .int (zI 0), .int (zI 0), .int (zI 0)])) := fun j h1 h2 => (frC18 _ (by omega)).trans (hov j h1 h2)
              have hst : C18 76 = .inr (2, [.ref (AD (76 + 1)), .ref (AD (76 + 2)), .int (zI 0)]) := hq18a
              have hstw : C18 (76 + 1) = aI (k 0) 24 (fun _ => 0) := hq18b
              have hste : C18 (76 + 2) = aI (k 0) 24 (fun _ => 0) := hq18c
              obtain ⟨N19, hN19⟩ : ∃ z : Nat, z = N17 + 2 := ⟨_, rfl⟩
              rw [← hN19] at hw
              have eN19 : ((N19 : Nat) : Int) = 79 := by omega
              refine zr_putF (ty := .object "RingMatches$Series") (v := .ref (AD 76)) hx hb hts iw_R tyR tyR_ok nmR hown hK hw 0 ⟨by omega, by omega⟩ hR rfl 6 (by decide) (hts _ wk_116) (fun _ h => h) rfl hin rfl (by decide +kernel) rfl rfl (Nat.le_of_ble_eq_true rfl) d_R_init_101 (fun H locs hw => ?_)
              obtain ⟨C20, hC20⟩ : ∃ z : Int → va_E, z = zup C18 0 (.inr (3, [.ref (AD 1), .ref (AD 3), .int (zI 0), .ref (AD 28), .int (zI 0), .int (zI 0), .ref (AD 76), .null, .null, .null])) := ⟨_, rfl⟩
              have hw : WD D clW (wA N AD sz) s.heap H locs N19 AD C20 := by rw [hC20]; exact hw
              have frC20 : ∀ j : Int, j ≠ 0 → C20 j = C18 j := fun j h => by rw [hC20]; exact zup_n h
              have hR : C20 0 = .inr (3, [.ref (AD 1), .ref (AD 3), .int (zI 0), .ref (AD 28), .int (zI 0), .int (zI 0), .ref (AD 76), .null, .null, .null]) := by rw [hC20]; exact zup_s
              have hP : C20 1 = .inr (1, [.ref (AD (1 + 1)), .int (zI 0)]) := (frC20 _ (by omega)).trans hP
              have hPs : C20 (1 + 1) = aI (k 0) 100 (fun _ => 0) := (frC20 _ (by omega)).trans hPs
              have h3 : C20 3 = aQ (k 3) 8 (fun i => some (AD (4 + 3 * i))) := (frC20 _ (by omega)).trans h3
              have hser : (∀ i : Int, 0 ≤ i → i < 8 → C20 (4 + 3 * i) = .inr (2, [.ref (AD ((4 + 3 * i) + 1)), .ref (AD ((4 + 3 * i) + 2)), .int (zI 0)]) ∧ C20 ((4 + 3 * i) + 1) = aI (k 0) 24 (fun _ => 0) ∧ C20 ((4 + 3 * i) + 2) = aI (k 0) 24 (fun _ => 0)) := fun i h1 h2 => by obtain ⟨a1, a2, a3⟩ := hser i h1 h2; exact ⟨(frC20 _ (by omega)).trans a1, (frC20 _ (by omega)).trans a2, (frC20 _ (by omega)).trans a3⟩
              have h28 : C20 28 = aQ (k 4) 47 (fun j => some (AD (29 + j))) := (frC20 _ (by omega)).trans h28
              have hov : (∀ j : Int, 0 ≤ j → j < 47 → C20 (29 + j) = .inr (0, [.int (zI 0), .int (zI 0), .int (zI 0), .int (zI 0), .int (zI 0)])) := fun j h1 h2 => (frC20 _ (by omega)).trans (hov j h1 h2)
              have hst : C20 76 = .inr (2, [.ref (AD (76 + 1)), .ref (AD (76 + 2)), .int (zI 0)]) := (frC20 _ (by omega)).trans hst
              have hstw : C20 (76 + 1) = aI (k 0) 24 (fun _ => 0) := (frC20 _ (by omega)).trans hstw
              have hste : C20 (76 + 2) = aI (k 0) 24 (fun _ => 0) := (frC20 _ (by omega)).trans hste
              refine lv_aload_n hx hb d_R_init_104 rfl (lv_at hl 0 rfl) ?_
              refine W_size hw (by omega) hAD (by rw [eN19]; exact AD_sz (b := 1) (d := ((75 + 1) + 2)) hAD (by omega) (by rw [hsz, hsz0, hNb]; rfl) (by omega)) (fun hsz9 => ?_)
              refine zr_new (ci := 0) (fs := [.int (zI 0), .int (zI 0), .int (zI 0), .int (zI 0), .int (zI 0)]) hx hb hts iw_O tyO tyO_ok hown (hts _ wk_82) (hts _ wk_84) (hts _ wk_30) hK hw hA rfl df_O (Nat.le_of_ble_eq_true rfl) (Nat.le_of_ble_eq_true rfl) hsz9 d_R_init_105 (fun H hsz8 hw => ?_)
              rw [eN19] at hw hsz8 ⊢
              obtain ⟨C21, hC21⟩ : ∃ z : Int → va_E, z = zup C20 79 (.inr (0, [.int (zI 0), .int (zI 0), .int (zI 0), .int (zI 0), .int (zI 0)])) := ⟨_, rfl⟩
              rw [← hC21] at hw
              have frC21 : ∀ j : Int, j ≠ 79 → C21 j = C20 j := fun j h => by rw [hC21]; exact zup_n h
              have hR : C21 0 = .inr (3, [.ref (AD 1), .ref (AD 3), .int (zI 0), .ref (AD 28), .int (zI 0), .int (zI 0), .ref (AD 76), .null, .null, .null]) := (frC21 _ (by omega)).trans hR
              have hP : C21 1 = .inr (1, [.ref (AD (1 + 1)), .int (zI 0)]) := (frC21 _ (by omega)).trans hP
              have hPs : C21 (1 + 1) = aI (k 0) 100 (fun _ => 0) := (frC21 _ (by omega)).trans hPs
              have h3 : C21 3 = aQ (k 3) 8 (fun i => some (AD (4 + 3 * i))) := (frC21 _ (by omega)).trans h3
              have hser : (∀ i : Int, 0 ≤ i → i < 8 → C21 (4 + 3 * i) = .inr (2, [.ref (AD ((4 + 3 * i) + 1)), .ref (AD ((4 + 3 * i) + 2)), .int (zI 0)]) ∧ C21 ((4 + 3 * i) + 1) = aI (k 0) 24 (fun _ => 0) ∧ C21 ((4 + 3 * i) + 2) = aI (k 0) 24 (fun _ => 0)) := fun i h1 h2 => by obtain ⟨a1, a2, a3⟩ := hser i h1 h2; exact ⟨(frC21 _ (by omega)).trans a1, (frC21 _ (by omega)).trans a2, (frC21 _ (by omega)).trans a3⟩
              have h28 : C21 28 = aQ (k 4) 47 (fun j => some (AD (29 + j))) := (frC21 _ (by omega)).trans h28
              have hov : (∀ j : Int, 0 ≤ j → j < 47 → C21 (29 + j) = .inr (0, [.int (zI 0), .int (zI 0), .int (zI 0), .int (zI 0), .int (zI 0)])) := fun j h1 h2 => (frC21 _ (by omega)).trans (hov j h1 h2)
              have hst : C21 76 = .inr (2, [.ref (AD (76 + 1)), .ref (AD (76 + 2)), .int (zI 0)]) := (frC21 _ (by omega)).trans hst
              have hstw : C21 (76 + 1) = aI (k 0) 24 (fun _ => 0) := (frC21 _ (by omega)).trans hstw
              have hste : C21 (76 + 2) = aI (k 0) 24 (fun _ => 0) := (frC21 _ (by omega)).trans hste
              have hpr : C21 79 = .inr (0, [.int (zI 0), .int (zI 0), .int (zI 0), .int (zI 0), .int (zI 0)]) := by rw [hC21]; exact zup_s
              obtain ⟨N22, hN22⟩ : ∃ z : Nat, z = N19 + 1 := ⟨_, rfl⟩
              rw [← hN22] at hw
              have eN22 : ((N22 : Nat) : Int) = 80 := by omega
              refine lv_dup hx hb d_R_init_108 rfl ?_
              refine zr_callC (va_runI (As := []) (rest := [.ref (AD 79), .ref (AD 0)]) ⟨hx, hb, hml, hown, hts⟩ (c_O_init l D k N22 AD C21 H.size (AD 79)) (cwI 0 hts (WS_c wk_87) rfl rfl rfl (hts _ wk_30) (hts _ wk_85) (hts _ wk_86) rfl (by decide +kernel) ⟨Nat.le_of_ble_eq_true rfl, Nat.le_of_ble_eq_true rfl⟩) (oPre_S hK hw hao1 hao2) rfl rfl hl.1 rfl (lv_room (Nat.le_of_ble_eq_true rfl)) d_R_init_109 ⟨(Nat.le_of_ble_eq_true rfl), (Nat.le_of_ble_eq_true rfl)⟩) hw hA (fun C23 H locs hq23 hw => ?_)
              rw [hq23] at hw
              refine zr_putF (ty := .object "RingMatches$Overlap") (v := .ref (AD 79)) hx hb hts iw_R tyR tyR_ok nmR hown hK hw 0 ⟨by omega, by omega⟩ hR rfl 7 (by decide) (hts _ wk_117) (fun _ h => h) rfl hin rfl (by decide +kernel) rfl rfl (Nat.le_of_ble_eq_true rfl) d_R_init_112 (fun H locs hw => ?_)
              obtain ⟨C24, hC24⟩ : ∃ z : Int → va_E, z = zup C21 0 (.inr (3, [.ref (AD 1), .ref (AD 3), .int (zI 0), .ref (AD 28), .int (zI 0), .int (zI 0), .ref (AD 76), .ref (AD 79), .null, .null])) := ⟨_, rfl⟩
              have hw : WD D clW (wA N AD sz) s.heap H locs N22 AD C24 := by rw [hC24]; exact hw
              have frC24 : ∀ j : Int, j ≠ 0 → C24 j = C21 j := fun j h => by rw [hC24]; exact zup_n h
              have hR : C24 0 = .inr (3, [.ref (AD 1), .ref (AD 3), .int (zI 0), .ref (AD 28), .int (zI 0), .int (zI 0), .ref (AD 76), .ref (AD 79), .null, .null]) := by rw [hC24]; exact zup_s
              have hP : C24 1 = .inr (1, [.ref (AD (1 + 1)), .int (zI 0)]) := (frC24 _ (by omega)).trans hP
              have hPs : C24 (1 + 1) = aI (k 0) 100 (fun _ => 0) := (frC24 _ (by omega)).trans hPs
              have h3 : C24 3 = aQ (k 3) 8 (fun i => some (AD (4 + 3 * i))) := (frC24 _ (by omega)).trans h3
              have hser : (∀ i : Int, 0 ≤ i → i < 8 → C24 (4 + 3 * i) = .inr (2, [.ref (AD ((4 + 3 * i) + 1)), .ref (AD ((4 + 3 * i) + 2)), .int (zI 0)]) ∧ C24 ((4 + 3 * i) + 1) = aI (k 0) 24 (fun _ => 0) ∧ C24 ((4 + 3 * i) + 2) = aI (k 0) 24 (fun _ => 0)) := fun i h1 h2 => by obtain ⟨a1, a2, a3⟩ := hser i h1 h2; exact ⟨(frC24 _ (by omega)).trans a1, (frC24 _ (by omega)).trans a2, (frC24 _ (by omega)).trans a3⟩
              have h28 : C24 28 = aQ (k 4) 47 (fun j => some (AD (29 + j))) := (frC24 _ (by omega)).trans h28
              have hov : (∀ j : Int, 0 ≤ j → j < 47 → C24 (29 + j) = .inr (0, [.int (zI 0), .int (zI 0), .int (zI 0), .int (zI 0), .int (zI 0)])) := fun j h1 h2 => (frC24 _ (by omega)).trans (hov j h1 h2)
              have hst : C24 76 = .inr (2, [.ref (AD (76 + 1)), .ref (AD (76 + 2)), .int (zI 0)]) := (frC24 _ (by omega)).trans hst
              have hstw : C24 (76 + 1) = aI (k 0) 24 (fun _ => 0) := (frC24 _ (by omega)).trans hstw
              have hste : C24 (76 + 2) = aI (k 0) 24 (fun _ => 0) := (frC24 _ (by omega)).trans hste
              have hpr : C24 79 = .inr (0, [.int (zI 0), .int (zI 0), .int (zI 0), .int (zI 0), .int (zI 0)]) := (frC24 _ (by omega)).trans hpr
              refine lv_aload_n hx hb d_R_init_115 rfl (lv_at hl 0 rfl) ?_
              refine zr_bipush hx hb d_R_init_116 (by decide) ?_
              refine W_size hw (by omega) hAD (by rw [eN22]; exact AD_sz (b := 1) (d := ((((75 + 1) + 2) + 1) + 0)) hAD (by omega) (by rw [hsz, hsz0, hNb]; rfl) (by omega)) (fun hsz9 => ?_)
              refine zr_newZ (n := 8) hx hb (hts _ wk_141) hK 1 rfl hw hA (by decide) (Nat.le_of_ble_eq_true rfl) (Nat.le_of_ble_eq_true rfl) hsz9 d_R_init_118 (fun H hsz8 hw => ?_)
              rw [eN22] at hw hsz8 ⊢
              obtain ⟨C25, hC25⟩ : ∃ z : Int → va_E, z = zup C24 80 (aI (k 1) 8 (fun _ => 0)) := ⟨_, rfl⟩
              rw [← hC25] at hw
              have frC25 : ∀ j : Int, j ≠ 80 → C25 j = C24 j := fun j h => by rw [hC25]; exact zup_n h
              have hR : C25 0 = .inr (3, [.ref (AD 1), .ref (AD 3), .int (zI 0), .ref (AD 28), .int (zI 0), .int (zI 0), .ref (AD 76), .ref (AD 79), .null, .null]) := (frC25 _ (by omega)).trans hR
              have hP : C25 1 = .inr (1, [.ref (AD (1 + 1)), .int (zI 0)]) := (frC25 _ (by omega)).trans hP
              have hPs : C25 (1 + 1) = aI (k 0) 100 (fun _ => 0) := (frC25 _ (by omega)).trans hPs
              have h3 : C25 3 = aQ (k 3) 8 (fun i => some (AD (4 + 3 * i))) := (frC25 _ (by omega)).trans h3
              have hser : (∀ i : Int, 0 ≤ i → i < 8 → C25 (4 + 3 * i) = .inr (2, [.ref (AD ((4 + 3 * i) + 1)), .ref (AD ((4 + 3 * i) + 2)), .int (zI 0)]) ∧ C25 ((4 + 3 * i) + 1) = aI (k 0) 24 (fun _ => 0) ∧ C25 ((4 + 3 * i) + 2) = aI (k 0) 24 (fun _ => 0)) := fun i h1 h2 => by obtain ⟨a1, a2, a3⟩ := hser i h1 h2; exact ⟨(frC25 _ (by omega)).trans a1, (frC25 _ (by omega)).trans a2, (frC25 _ (by omega)).trans a3⟩
              have h28 : C25 28 = aQ (k 4) 47 (fun j => some (AD (29 + j))) := (frC25 _ (by omega)).trans h28
              have hov : (∀ j : Int, 0 ≤ j → j < 47 → C25 (29 + j) = .inr (0, [.int (zI 0), .int (zI 0), .int (zI 0), .int (zI 0), .int (zI 0)])) := fun j h1 h2 => (frC25 _ (by omega)).trans (hov j h1 h2)
              have hst : C25 76 = .inr (2, [.ref (AD (76 + 1)), .ref (AD (76 + 2)), .int (zI 0)]) := (frC25 _ (by omega)).trans hst
              have hstw : C25 (76 + 1) = aI (k 0) 24 (fun _ => 0) := (frC25 _ (by omega)).trans hstw
              have hste : C25 (76 + 2) = aI (k 0) 24 (fun _ => 0) := (frC25 _ (by omega)).trans hste
              have hpr : C25 79 = .inr (0, [.int (zI 0), .int (zI 0), .int (zI 0), .int (zI 0), .int (zI 0)]) := (frC25 _ (by omega)).trans hpr
              have hmb : C25 80 = aI (k 1) 8 (fun _ => 0) := by rw [hC25]; exact zup_s
              obtain ⟨N26, hN26⟩ : ∃ z : Nat, z = N22 + 1 := ⟨_, rfl⟩
              rw [← hN26] at hw
              have eN26 : ((N26 : Nat) : Int) = 81 := by omega
              refine zr_putF (ty := .array .boolean) (v := .ref (AD 80)) hx hb hts iw_R tyR tyR_ok nmR hown hK hw 0 ⟨by omega, by omega⟩ hR rfl 8 (by decide) (hts _ wk_118) (fun _ h => h) rfl hin rfl (by decide +kernel) rfl rfl (Nat.le_of_ble_eq_true rfl) d_R_init_120 (fun H locs hw => ?_)
              obtain ⟨C27, hC27⟩ : ∃ z : Int → va_E, z = zup C25 0 (.inr (3, [.ref (AD 1), .ref (AD 3), .int (zI 0), .ref (AD 28), .int (zI 0), .int (zI 0), .ref (AD 76), .ref (AD 79), .ref (AD 80), .null])) := ⟨_, rfl⟩
              have hw : WD D clW (wA N AD sz) s.heap H locs N26 AD C27 := by rw [hC27]; exact hw
              have frC27 : ∀ j : Int, j ≠ 0 → C27 j = C25 j := fun j h => by rw [hC27]; exact zup_n h
              have hR : C27 0 = .inr (3, [.ref (AD 1), .ref (AD 3), .int (zI 0), .ref (AD 28), .int (zI 0), .int (zI 0), .ref (AD 76), .ref (AD 79), .ref (AD 80), .null]) := by rw [hC27]; exact zup_s
              have hP : C27 1 = .inr (1, [.ref (AD (1 + 1)), .int (zI 0)]) := (frC27 _ (by omega)).trans hP
              have hPs : C27 (1 + 1) = aI (k 0) 100 (fun _ => 0) := (frC27 _ (by omega)).trans hPs
              have h3 : C27 3 = aQ (k 3) 8 (fun i => some (AD (4 + 3 * i))) := (frC27 _ (by omega)).trans h3
              have hser : (∀ i : Int, 0 ≤ i → i < 8 → C27 (4 + 3 * i) = .inr (2, [.ref (AD ((4 + 3 * i) + 1)), .ref (AD ((4 + 3 * i) + 2)), .int (zI 0)]) ∧ C27 ((4 + 3 * i) + 1) = aI (k 0) 24 (fun _ => 0) ∧ C27 ((4 + 3 * i) + 2) = aI (k 0) 24 (fun _ => 0)) := fun i h1 h2 => by obtain ⟨a1, a2, a3⟩ := hser i h1 h2; exact ⟨(frC27 _ (by omega)).trans a1, (frC27 _ (by omega)).trans a2, (frC27 _ (by omega)).trans a3⟩
              have h28 : C27 28 = aQ (k 4) 47 (fun j => some (AD (29 + j))) := (frC27 _ (by omega)).trans h28
              have hov : (∀ j : Int, 0 ≤ j → j < 47 → C27 (29 + j) = .inr (0, [.int (zI 0), .int (zI 0), .int (zI 0), .int (zI 0), .int (zI 0)])) := fun j h1 h2 => (frC27 _ (by omega)).trans (hov j h1 h2)
              have hst : C27 76 = .inr (2, [.ref (AD (76 + 1)), .ref (AD (76 + 2)), .int (zI 0)]) := (frC27 _ (by omega)).trans hst
              have hstw : C27 (76 + 1) = aI (k 0) 24 (fun _ => 0) := (frC27 _ (by omega)).trans hstw
              have hste : C27 (76 + 2) = aI (k 0) 24 (fun _ => 0) := (frC27 _ (by omega)).trans hste
              have hpr : C27 79 = .inr (0, [.int (zI 0), .int (zI 0), .int (zI 0), .int (zI 0), .int (zI 0)]) := (frC27 _ (by omega)).trans hpr
              have hmb : C27 80 = aI (k 1) 8 (fun _ => 0) := (frC27 _ (by omega)).trans hmb
              refine lv_aload_n hx hb d_R_init_123 rfl (lv_at hl 0 rfl) ?_
              refine zr_bipush hx hb d_R_init_124 (by decide) ?_
              refine W_size hw (by omega) hAD (by rw [eN26]; exact AD_sz (b := 1) (d := (((((75 + 1) + 2) + 1) + 0) + 1)) hAD (by omega) (by rw [hsz, hsz0, hNb]; rfl) (by omega)) (fun hsz9 => ?_)
              refine zr_newZ (n := 8) hx hb (hts _ wk_141) hK 1 rfl hw hA (by decide) (Nat.le_of_ble_eq_true rfl) (Nat.le_of_ble_eq_true rfl) hsz9 d_R_init_126 (fun H hsz8 hw => ?_)
              rw [eN26] at hw hsz8 ⊢
              obtain ⟨C28, hC28⟩ : ∃ z : Int → va_E, z = zup C27 81 (aI (k 1) 8 (fun _ => 0)) := ⟨_, rfl⟩
              rw [← hC28] at hw
              have frC28 : ∀ j : Int, j ≠ 81 → C28 j = C27 j := fun j h => by rw [hC28]; exact zup_n h
              have hR : C28 0 = .inr (3, [.ref (AD 1), .ref (AD 3), .int (zI 0), .ref (AD 28), .int (zI 0), .int (zI 0), .ref (AD 76), .ref (AD 79), .ref (AD 80), .null]) := (frC28 _ (by omega)).trans hR
              have hP : C28 1 = .inr (1, [.ref (AD (1 + 1)), .int (zI 0)]) := (frC28 _ (by omega)).trans hP
              have hPs : C28 (1 + 1) = aI (k 0) 100 (fun _ => 0) := (frC28 _ (by omega)).trans hPs
              have h3 : C28 3 = aQ (k 3) 8 (fun i => some (AD (4 + 3 * i))) := (frC28 _ (by omega)).trans h3
              have hser : (∀ i : Int, 0 ≤ i → i < 8 → C28 (4 + 3 * i) = .inr (2, [.ref (AD ((4 + 3 * i) + 1)), .ref (AD ((4 + 3 * i) + 2)), .int (zI 0)]) ∧ C28 ((4 + 3 * i) + 1) = aI (k 0) 24 (fun _ => 0) ∧ C28 ((4 + 3 * i) + 2) = aI (k 0) 24 (fun _ => 0)) := fun i h1 h2 => by obtain ⟨a1, a2, a3⟩ := hser i h1 h2; exact ⟨(frC28 _ (by omega)).trans a1, (frC28 _ (by omega)).trans a2, (frC28 _ (by omega)).trans a3⟩
              have h28 : C28 28 = aQ (k 4) 47 (fun j => some (AD (29 + j))) := (frC28 _ (by omega)).trans h28
              have hov : (∀ j : Int, 0 ≤ j → j < 47 → C28 (29 + j) = .inr (0, [.int (zI 0), .int (zI 0), .int (zI 0), .int (zI 0), .int (zI 0)])) := fun j h1 h2 => (frC28 _ (by omega)).trans (hov j h1 h2)
              have hst : C28 76 = .inr (2, [.ref (AD (76 + 1)), .ref (AD (76 + 2)), .int (zI 0)]) := (frC28 _ (by omega)).trans hst
              have hstw : C28 (76 + 1) = aI (k 0) 24 (fun _ => 0) := (frC28 _ (by omega)).trans hstw
              have hste : C28 (76 + 2) = aI (k 0) 24 (fun _ => 0) := (frC28 _ (by omega)).trans hste
              have hpr : C28 79 = .inr (0, [.int (zI 0), .int (zI 0), .int (zI 0), .int (zI 0), .int (zI 0)]) := (frC28 _ (by omega)).trans hpr
              have hmb : C28 80 = aI (k 1) 8 (fun _ => 0) := (frC28 _ (by omega)).trans hmb
              have hak : C28 81 = aI (k 1) 8 (fun _ => 0) := by rw [hC28]; exact zup_s
              obtain ⟨N29, hN29⟩ : ∃ z : Nat, z = N26 + 1 := ⟨_, rfl⟩
              rw [← hN29] at hw
              have eN29 : ((N29 : Nat) : Int) = 82 := by omega
              refine zr_putF (ty := .array .boolean) (v := .ref (AD 81)) hx hb hts iw_R tyR tyR_ok nmR hown hK hw 0 ⟨by omega, by omega⟩ hR rfl 9 (by decide) (hts _ wk_119) (fun _ h => h) rfl hin rfl (by decide +kernel) rfl rfl (Nat.le_of_ble_eq_true rfl) d_R_init_128 (fun H locs hw => ?_)
              obtain ⟨C30, hC30⟩ : ∃ z : Int → va_E, z = zup C28 0 (.inr (3, [.ref (AD 1), .ref (AD 3), .int (zI 0), .ref (AD 28), .int (zI 0), .int (zI 0), .ref (AD 76), .ref (AD 79), .ref (AD 80), .ref (AD 81)])) := ⟨_, rfl⟩
              have hw : WD D clW (wA N AD sz) s.heap H locs N29 AD C30 := by rw [hC30]; exact hw
              have frC30 : ∀ j : Int, j ≠ 0 → C30 j = C28 j := fun j h => by rw [hC30]; exact zup_n h
              have hR : C30 0 = .inr (3, [.ref (AD 1), .ref (AD 3), .int (zI 0), .ref (AD 28), .int (zI 0), .int (zI 0), .ref (AD 76), .ref (AD 79), .ref (AD 80), .ref (AD 81)]) := by rw [hC30]; exact zup_s
              have hP : C30 1 = .inr (1, [.ref (AD (1 + 1)), .int (zI 0)]) := (frC30 _ (by omega)).trans hP
              have hPs : C30 (1 + 1) = aI (k 0) 100 (fun _ => 0) := (frC30 _ (by omega)).trans hPs
              have h3 : C30 3 = aQ (k 3) 8 (fun i => some (AD (4 + 3 * i))) := (frC30 _ (by omega)).trans h3
              have hser : (∀ i : Int, 0 ≤ i → i < 8 → C30 (4 + 3 * i) = .inr (2, [.ref (AD ((4 + 3 * i) + 1)), .ref (AD ((4 + 3 * i) + 2)), .int (zI 0)]) ∧ C30 ((4 + 3 * i) + 1) = aI (k 0) 24 (fun _ => 0) ∧ C30 ((4 + 3 * i) + 2) = aI (k 0) 24 (fun _ => 0)) := fun i h1 h2 => by obtain ⟨a1, a2, a3⟩ := hser i h1 h2; exact ⟨(frC30 _ (by omega)).trans a1, (frC30 _ (by omega)).trans a2, (frC30 _ (by omega)).trans a3⟩
              have h28 : C30 28 = aQ (k 4) 47 (fun j => some (AD (29 + j))) := (frC30 _ (by omega)).trans h28
              have hov : (∀ j : Int, 0 ≤ j → j < 47 → C30 (29 + j) = .inr (0, [.int (zI 0), .int (zI 0), .int (zI 0), .int (zI 0), .int (zI 0)])) := fun j h1 h2 => (frC30 _ (by omega)).trans (hov j h1 h2)
              have hst : C30 76 = .inr (2, [.ref (AD (76 + 1)), .ref (AD (76 + 2)), .int (zI 0)]) := (frC30 _ (by omega)).trans hst
              have hstw : C30 (76 + 1) = aI (k 0) 24 (fun _ => 0) := (frC30 _ (by omega)).trans hstw
              have hste : C30 (76 + 2) = aI (k 0) 24 (fun _ => 0) := (frC30 _ (by omega)).trans hste
              have hpr : C30 79 = .inr (0, [.int (zI 0), .int (zI 0), .int (zI 0), .int (zI 0), .int (zI 0)]) := (frC30 _ (by omega)).trans hpr
              have hmb : C30 80 = aI (k 1) 8 (fun _ => 0) := (frC30 _ (by omega)).trans hmb
              have hak : C30 81 = aI (k 1) 8 (fun _ => 0) := (frC30 _ (by omega)).trans hak
              have eNN : N29 = (N + 81) := by omega
              rw [eNN] at hw
              exact hret _ _ _ _ _ ((((((75 + 1) + 2) + 1) + 0) + 1) + 1) ((((((800 + 3) + 48) + 5) + 0) + 8) + 8) (by decide) (by decide) d_R_init_131 hw ⟨hR, hP, hPs, h3, (fun i h1 h2 => by obtain ⟨a1, a2, a3⟩ := hser i h1 h2; exact ⟨a1, a2, a3, (by decide : (0 : Int) ≤ 0 ∧ (0 : Int) ≤ 24)⟩), h28, hov, (fun j h1 h2 => ⟨h1, h2⟩), (fun i j _ _ _ _ h => h), (fun r h1 h2 => absurd h2 (by omega)), hst, hstw, hste, ⟨by decide, by decide⟩, hpr, hmb, hak, ⟨by decide, by decide⟩, ⟨by decide, by decide⟩, ⟨by decide, by decide⟩, (Int.le_refl 0), (fun j h1 h2 => absurd h2 (by omega)), (fun i h1 h2 => absurd h2 (by omega)), (fun r h1 h2 => absurd h2 (by omega))⟩
            · refine lv_aload_n hx hb d_R_init_74 rfl (lv_at hl 0 rfl) ?_
              refine zr_get (v := .ref (AD 28)) hx hb hts iw_R hown hK hw 0 ⟨by omega, by omega⟩ hR rfl 3 (by decide) (hts _ wk_113) (fun _ h => h) rfl d_R_init_75 ?_
              refine lv_iload_n hx hb d_R_init_78 rfl (lv_at hl 1 rfl) ?_
              refine W_size hw (by omega) hAD (by rw [eN2]; exact AD_sz (b := 1) (d := (28 + y.toNat)) hAD (by omega) (by rw [hsz, hsz0, hNb]; rfl) (by omega)) (fun hsz9 => ?_)
              refine zr_new (ci := 0) (fs := [.int (zI 0), .int (zI 0), .int (zI 0), .int (zI 0), .int (zI 0)]) hx hb hts iw_O tyO tyO_ok hown (hts _ wk_82) (hts _ wk_84) (hts _ wk_30) hK hw hA rfl df_O (by show (28 + y.toNat) + 1 ≤ 81; omega) (by show (565 + 5 * y.toNat) + 5 ≤ 872; omega) hsz9 d_R_init_79 (fun H hsz8 hw => ?_)
              rw [eN2] at hw hsz8 ⊢
              obtain ⟨C31, hC31⟩ : ∃ z : Int → va_E, z = zup C (29 + y) (.inr (0, [.int (zI 0), .int (zI 0), .int (zI 0), .int (zI 0), .int (zI 0)])) := ⟨_, rfl⟩
              rw [← hC31] at hw
              have frC31 : ∀ j : Int, j ≠ (29 + y) → C31 j = C j := fun j h => by rw [hC31]; exact zup_n h
              have hR : C31 0 = .inr (3, [.ref (AD 1), .ref (AD 3), .int (zI 0), .ref (AD 28), .int (zI 0), .int (zI 0), .null, .null, .null, .null]) := (frC31 _ (by omega)).trans hR
              have hP : C31 1 = .inr (1, [.ref (AD (1 + 1)), .int (zI 0)]) := (frC31 _ (by omega)).trans hP
              have hPs : C31 (1 + 1) = aI (k 0) 100 (fun _ => 0) := (frC31 _ (by omega)).trans hPs
              have h3 : C31 3 = aQ (k 3) 8 (fun i => some (AD (4 + 3 * i))) := (frC31 _ (by omega)).trans h3
              have hser : (∀ i : Int, 0 ≤ i → i < 8 → C31 (4 + 3 * i) = .inr (2, [.ref (AD ((4 + 3 * i) + 1)), .ref (AD ((4 + 3 * i) + 2)), .int (zI 0)]) ∧ C31 ((4 + 3 * i) + 1) = aI (k 0) 24 (fun _ => 0) ∧ C31 ((4 + 3 * i) + 2) = aI (k 0) 24 (fun _ => 0)) := fun i h1 h2 => by obtain ⟨a1, a2, a3⟩ := hser i h1 h2; exact ⟨(frC31 _ (by omega)).trans a1, (frC31 _ (by omega)).trans a2, (frC31 _ (by omega)).trans a3⟩
              have h28 : C31 28 = aQ (k 4) 47 f2 := (frC31 _ (by omega)).trans h28
              have hov : (∀ j : Int, 0 ≤ j → j < y → C31 (29 + j) = .inr (0, [.int (zI 0), .int (zI 0), .int (zI 0), .int (zI 0), .int (zI 0)])) := fun j h1 h2 => (frC31 _ (by omega)).trans (hov j h1 h2)
              have hO : C31 (29 + y) = .inr (0, [.int (zI 0), .int (zI 0), .int (zI 0), .int (zI 0), .int (zI 0)]) := by rw [hC31]; exact zup_s
              obtain ⟨N32, hN32⟩ : ∃ z : Nat, z = N2 + 1 := ⟨_, rfl⟩
              rw [← hN32] at hw
              have eN32 : ((N32 : Nat) : Int) = (30 + y) := by omega
              refine lv_dup hx hb d_R_init_82 rfl ?_
              refine zr_callC (va_runI (As := []) (rest := [.ref (AD (29 + y)), .int (zI y), .ref (AD 28)]) ⟨hx, hb, hml, hown, hts⟩ (c_O_init l D k N32 AD C31 H.size (AD (29 + y))) (cwI 0 hts (WS_c wk_87) rfl rfl rfl (hts _ wk_30) (hts _ wk_85) (hts _ wk_86) rfl (by decide +kernel) ⟨Nat.le_of_ble_eq_true rfl, Nat.le_of_ble_eq_true rfl⟩) (oPre_S hK hw hao1 hao2) rfl rfl hl.1 rfl (lv_room (Nat.le_of_ble_eq_true rfl)) d_R_init_83 ⟨(by show ((28 + y.toNat) + 1) + 0 ≤ 81; omega), (by show ((565 + 5 * y.toNat) + 5) + 0 ≤ 872; omega)⟩) hw hA (fun C33 H locs hq33 hw => ?_)
              rw [hq33] at hw
              refine zr_astq (r := (R_O, T_O, 5)) hx hb hK hw 28 ⟨by omega, by omega⟩ 4 (29 + y) ⟨by omega, by omega⟩ 0 h28 rfl hO rfl ⟨by omega, by omega⟩ (by decide) d_R_init_86 (fun H locs hw => ?_)
              obtain ⟨C34, hC34⟩ : ∃ z : Int → va_E, z = zup C31 28 (aQ (k 4) 47 (zup f2 y (some (AD (29 + y))))) := ⟨_, rfl⟩
              have hw : WD D clW (wA N AD sz) s.heap H locs N32 AD C34 := by rw [hC34]; exact hw
              have frC34 : ∀ j : Int, j ≠ 28 → C34 j = C31 j := fun j h => by rw [hC34]; exact zup_n h
              have hR : C34 0 = .inr (3, [.ref (AD 1), .ref (AD 3), .int (zI 0), .ref (AD 28), .int (zI 0), .int (zI 0), .null, .null, .null, .null]) := (frC34 _ (by omega)).trans hR
              have hP : C34 1 = .inr (1, [.ref (AD (1 + 1)), .int (zI 0)]) := (frC34 _ (by omega)).trans hP
              have hPs : C34 (1 + 1) = aI (k 0) 100 (fun _ => 0) := (frC34 _ (by omega)).trans hPs
              have h3 : C34 3 = aQ (k 3) 8 (fun i => some (AD (4 + 3 * i))) := (frC34 _ (by omega)).trans h3
              have hser : (∀ i : Int, 0 ≤ i → i < 8 → C34 (4 + 3 * i) = .inr (2, [.ref (AD ((4 + 3 * i) + 1)), .ref (AD ((4 + 3 * i) + 2)), .int (zI 0)]) ∧ C34 ((4 + 3 * i) + 1) = aI (k 0) 24 (fun _ => 0) ∧ C34 ((4 + 3 * i) + 2) = aI (k 0) 24 (fun _ => 0)) := fun i h1 h2 => by obtain ⟨a1, a2, a3⟩ := hser i h1 h2; exact ⟨(frC34 _ (by omega)).trans a1, (frC34 _ (by omega)).trans a2, (frC34 _ (by omega)).trans a3⟩
              have h28 : C34 28 = aQ (k 4) 47 (zup f2 y (some (AD (29 + y)))) := by rw [hC34]; exact zup_s
              have hov : (∀ j : Int, 0 ≤ j → j < y → C34 (29 + j) = .inr (0, [.int (zI 0), .int (zI 0), .int (zI 0), .int (zI 0), .int (zI 0)])) := fun j h1 h2 => (frC34 _ (by omega)).trans (hov j h1 h2)
              have hO : C34 (29 + y) = .inr (0, [.int (zI 0), .int (zI 0), .int (zI 0), .int (zI 0), .int (zI 0)]) := (frC34 _ (by omega)).trans hO
              have hf4 : ∀ j : Int, 0 ≤ j → j < y + 1 → (zup f2 y (some (AD (29 + y)))) j = some (AD (29 + j)) := by
                intro j h1 h2
                by_cases e : j = y
                · rw [e, zup_s]
                · rw [zup_n e]; exact hf3 j h1 (by omega)
              have hov : (∀ j : Int, 0 ≤ j → j < (y + 1) → C34 (29 + j) = .inr (0, [.int (zI 0), .int (zI 0), .int (zI 0), .int (zI 0), .int (zI 0)])) := fun j h1 h2 => by by_cases e : j = y; rw [e]; exact hO; exact hov j h1 (by omega)
              refine W.widen (k := 28 + (y + 1).toNat) (n := 565 + 5 * (y + 1).toNat) (by omega) (by omega) ?_
              refine lv_iinc (v := zI (y + 1)) (lv' := [(1, .int (zI (y + 1))), (0, .ref (AD 0))]) hx hb d_R_init_87 hl (k := 1) rfl (zI_add _ _) (by decide) rfl (fun ls hl => ?_)
              refine lv_goto (tgt := 65) hx hb d_R_init_90 (by decide) ?_
              exact ihlq (y + 1) N32 (zup f2 y (some (AD (29 + y)))) C34 H locs ls (by omega) (by omega) hf4 hR hP hPs h3 hser h28 hov (by omega) hw (lv_sub hl [1, 0] rfl)
        exact lq ((47 - 0 : Int).toNat + 1) 0 N12 (fun _ => none) C13 H locs ls (by omega) (by omega) (fun j h1 h2 => absurd h2 (by omega)) hR hP hPs h3 hser h28 hov (by omega) hw (lv_sub hl [1, 0] rfl)
      · refine lv_aload_n hx hb d_R_init_35 rfl (lv_at hl 0 rfl) ?_
        refine zr_get (v := .ref (AD 3)) hx hb hts iw_R hown hK hw 0 ⟨by omega, by omega⟩ hR rfl 1 (by decide) (hts _ wk_111) (fun _ h => h) rfl d_R_init_36 ?_
        refine lv_iload_n hx hb d_R_init_39 rfl (lv_at hl 1 rfl) ?_
        refine W_size hw (by omega) hAD (by rw [eN1]; exact AD_sz (b := 1) (d := (3 + 3 * x.toNat)) hAD (by omega) (by rw [hsz, hsz0, hNb]; rfl) (by omega)) (fun hsz9 => ?_)
        refine zr_new (ci := 2) (fs := [.null, .null, .int (zI 0)]) hx hb hts iw_S tyS tyS_ok hown (hts _ wk_62) (hts _ wk_64) (hts _ wk_29) hK hw hA rfl df_S (by show (3 + 3 * x.toNat) + 1 ≤ 81; omega) (by show (110 + 51 * x.toNat) + 3 ≤ 872; omega) hsz9 d_R_init_40 (fun H hsz8 hw => ?_)
        rw [eN1] at hw hsz8 ⊢
        obtain ⟨C35, hC35⟩ : ∃ z : Int → va_E, z = zup C (4 + 3 * x) (.inr (2, [.null, .null, .int (zI 0)])) := ⟨_, rfl⟩
        rw [← hC35] at hw
        have frC35 : ∀ j : Int, j ≠ (4 + 3 * x) → C35 j = C j := fun j h => by rw [hC35]; exact zup_n h
        have hR : C35 0 = .inr (3, [.ref (AD 1), .ref (AD 3), .int (zI 0), .null, .int (zI 0), .int (zI 0), .null, .null, .null, .null]) := (frC35 _ (by omega)).trans hR
        have hP : C35 1 = .inr (1, [.ref (AD (1 + 1)), .int (zI 0)]) := (frC35 _ (by omega)).trans hP
        have hPs : C35 (1 + 1) = aI (k 0) 100 (fun _ => 0) := (frC35 _ (by omega)).trans hPs
        have h3 : C35 3 = aQ (k 3) 8 f1 := (frC35 _ (by omega)).trans h3
        have hser : (∀ i : Int, 0 ≤ i → i < x → C35 (4 + 3 * i) = .inr (2, [.ref (AD ((4 + 3 * i) + 1)), .ref (AD ((4 + 3 * i) + 2)), .int (zI 0)]) ∧ C35 ((4 + 3 * i) + 1) = aI (k 0) 24 (fun _ => 0) ∧ C35 ((4 + 3 * i) + 2) = aI (k 0) 24 (fun _ => 0)) := fun i h1 h2 => by obtain ⟨a1, a2, a3⟩ := hser i h1 h2; exact ⟨(frC35 _ (by omega)).trans a1, (frC35 _ (by omega)).trans a2, (frC35 _ (by omega)).trans a3⟩
        have hS : C35 (4 + 3 * x) = .inr (2, [.null, .null, .int (zI 0)]) := by rw [hC35]; exact zup_s
        obtain ⟨N36, hN36⟩ : ∃ z : Nat, z = N1 + 1 := ⟨_, rfl⟩
        rw [← hN36] at hw
        have eN36 : ((N36 : Nat) : Int) = (5 + 3 * x) := by omega
        refine lv_dup hx hb d_R_init_43 rfl ?_
        refine W_size hw (by omega) hAD (by rw [eN36]; exact AD_sz (b := 1) (d := ((3 + 3 * x.toNat) + 1)) hAD (by omega) (by rw [hsz, hsz0, hNb]; rfl) (by omega)) (fun hsz9 => ?_)
        refine zr_callC (va_runI (As := []) (rest := [.ref (AD (4 + 3 * x)), .int (zI x), .ref (AD 3)]) ⟨hx, hb, hml, hown, hts⟩ (c_S_init l D k N36 AD C35 H.size (4 + 3 * x) (by omega) (by omega) hsz9 hAD hS) (cwI 0 hts (WS_c wk_67) rfl rfl rfl (hts _ wk_29) (hts _ wk_65) (hts _ wk_66) rfl (by decide +kernel) ⟨Nat.le_of_ble_eq_true rfl, Nat.le_of_ble_eq_true rfl⟩) (oPre_S hK hw hao1 hao2) rfl rfl hl.1 rfl (lv_room (Nat.le_of_ble_eq_true rfl)) d_R_init_44 ⟨(by show ((3 + 3 * x.toNat) + 1) + 2 ≤ 81; omega), (by show ((110 + 51 * x.toNat) + 3) + 48 ≤ 872; omega)⟩) hw hA (fun C37 H locs hq37 hw => ?_)
        obtain ⟨hq37a, hq37b, hq37c, frC37⟩ := hq37
        have hR : C37 0 = .inr (3, [.ref (AD 1), .ref (AD 3), .int (zI 0), .null, .int (zI 0), .int (zI 0), .null, .null, .null, .null]) := (frC37 _ (by omega)).trans hR
        have hP : C37 1 = .inr (1, [.ref (AD (1 + 1)), .int (zI 0)]) := (frC37 _ (by omega)).trans hP
        have hPs : C37 (1 + 1) = aI (k 0) 100 (fun _ => 0) := (frC37 _ (by omega)).trans hPs
        have h3 : C37 3 = aQ (k 3) 8 f1 := (frC37 _ (by omega)).trans h3
        have hser : (∀ i : Int, 0 ≤ i → i < x → C37 (4 + 3 * i) = .inr (2, [.ref (AD ((4 + 3 * i) + 1)), .ref (AD ((4 + 3 * i) + 2)), .int (zI 0)]) ∧ C37 ((4 + 3 * i) + 1) = aI (k 0) 24 (fun _ => 0) ∧ C37 ((4 + 3 * i) + 2) = aI (k 0) 24 (fun _ => 0)) := fun i h1 h2 => by obtain ⟨a1, a2, a3⟩ := hser i h1 h2; exact ⟨(frC37 _ (by omega)).trans a1, (frC37 _ (by omega)).trans a2, (frC37 _ (by omega)).trans a3⟩
        have hS : C37 (4 + 3 * x) = .inr (2, [.ref (AD ((4 + 3 * x) + 1)), .ref (AD ((4 + 3 * x) + 2)), .int (zI 0)]) := hq37a
        have hSw : C37 ((4 + 3 * x) + 1) = aI (k 0) 24 (fun _ => 0) := hq37b
        have hSe : C37 ((4 + 3 * x) + 2) = aI (k 0) 24 (fun _ => 0) := hq37c
        obtain ⟨N38, hN38⟩ : ∃ z : Nat, z = N36 + 2 := ⟨_, rfl⟩
        rw [← hN38] at hw
        have eN38 : ((N38 : Nat) : Int) = (7 + 3 * x) := by omega
        refine zr_astq (r := (R_S, T_S, 3)) hx hb hK hw 3 ⟨by omega, by omega⟩ 3 (4 + 3 * x) ⟨by omega, by omega⟩ 2 h3 rfl hS rfl ⟨by omega, by omega⟩ (by decide) d_R_init_47 (fun H locs hw => ?_)
        obtain ⟨C39, hC39⟩ : ∃ z : Int → va_E, z = zup C37 3 (aQ (k 3) 8 (zup f1 x (some (AD (4 + 3 * x))))) := ⟨_, rfl⟩
        have hw : WD D clW (wA N AD sz) s.heap H locs N38 AD C39 := by rw [hC39]; exact hw
        have frC39 : ∀ j : Int, j ≠ 3 → C39 j = C37 j := fun j h => by rw [hC39]; exact zup_n h
        have hR : C39 0 = .inr (3, [.ref (AD 1), .ref (AD 3), .int (zI 0), .null, .int (zI 0), .int (zI 0), .null, .null, .null, .null]) := (frC39 _ (by omega)).trans hR
        have hP : C39 1 = .inr (1, [.ref (AD (1 + 1)), .int (zI 0)]) := (frC39 _ (by omega)).trans hP
        have hPs : C39 (1 + 1) = aI (k 0) 100 (fun _ => 0) := (frC39 _ (by omega)).trans hPs
        have h3 : C39 3 = aQ (k 3) 8 (zup f1 x (some (AD (4 + 3 * x)))) := by rw [hC39]; exact zup_s
        have hser : (∀ i : Int, 0 ≤ i → i < x → C39 (4 + 3 * i) = .inr (2, [.ref (AD ((4 + 3 * i) + 1)), .ref (AD ((4 + 3 * i) + 2)), .int (zI 0)]) ∧ C39 ((4 + 3 * i) + 1) = aI (k 0) 24 (fun _ => 0) ∧ C39 ((4 + 3 * i) + 2) = aI (k 0) 24 (fun _ => 0)) := fun i h1 h2 => by obtain ⟨a1, a2, a3⟩ := hser i h1 h2; exact ⟨(frC39 _ (by omega)).trans a1, (frC39 _ (by omega)).trans a2, (frC39 _ (by omega)).trans a3⟩
        have hS : C39 (4 + 3 * x) = .inr (2, [.ref (AD ((4 + 3 * x) + 1)), .ref (AD ((4 + 3 * x) + 2)), .int (zI 0)]) := (frC39 _ (by omega)).trans hS
        have hSw : C39 ((4 + 3 * x) + 1) = aI (k 0) 24 (fun _ => 0) := (frC39 _ (by omega)).trans hSw
        have hSe : C39 ((4 + 3 * x) + 2) = aI (k 0) 24 (fun _ => 0) := (frC39 _ (by omega)).trans hSe
        have hf2 : ∀ j : Int, 0 ≤ j → j < x + 1 → (zup f1 x (some (AD (4 + 3 * x)))) j = some (AD (4 + 3 * j)) := by
          intro j h1 h2
          by_cases e : j = x
          · rw [e, zup_s]
          · rw [zup_n e]; exact hf1 j h1 (by omega)
        have hser : (∀ i : Int, 0 ≤ i → i < (x + 1) → C39 (4 + 3 * i) = .inr (2, [.ref (AD ((4 + 3 * i) + 1)), .ref (AD ((4 + 3 * i) + 2)), .int (zI 0)]) ∧ C39 ((4 + 3 * i) + 1) = aI (k 0) 24 (fun _ => 0) ∧ C39 ((4 + 3 * i) + 2) = aI (k 0) 24 (fun _ => 0)) := fun i h1 h2 => by by_cases e : i = x; rw [e]; exact ⟨hS, hSw, hSe⟩; exact hser i h1 (by omega)
        refine W.widen (k := 3 + 3 * (x + 1).toNat) (n := 110 + 51 * (x + 1).toNat) (by omega) (by omega) ?_
        refine lv_iinc (v := zI (x + 1)) (lv' := [(1, .int (zI (x + 1))), (0, .ref (AD 0))]) hx hb d_R_init_48 hl (k := 1) rfl (zI_add _ _) (by decide) rfl (fun ls hl => ?_)
        refine lv_goto (tgt := 26) hx hb d_R_init_51 (by decide) ?_
        exact ihlp (x + 1) N38 (zup f1 x (some (AD (4 + 3 * x)))) C39 H locs ls (by omega) (by omega) hf2 hR hP hPs h3 hser (by omega) hw (lv_sub hl [1, 0] rfl)
  exact lp ((8 - 0 : Int).toNat + 1) 0 N7 (fun _ => none) C8 H locs ls (by omega) (by omega) (fun j h1 h2 => absurd h2 (by omega)) hR hP hPs h3 hser (by omega) hw (lv_sub hl [1, 0] rfl)
