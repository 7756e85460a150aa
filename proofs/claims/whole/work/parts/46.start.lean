set_option maxHeartbeats 16000000 in
set_option maxRecDepth 100000 in
/-- from the entry: the three are made, then the loop -/
theorem whole_start {p : Program} {e : Env} {s : State} {m : MethodId} {below : List Frame} {meth : Method} {c : Code} (l : Launch) (hlt : l.stackTraces = false) {b L : Nat} {xs : Nat → Int32} (hL : L ≤ 2048) (C0 : lw_At p s m meth c b L xs) : W p l e room_1 s m #[Value.ref b] below meth c s.heap [] 0 0 (lw_Z below #[Value.ref b] s) (entryFrame m ([Value.ref b] : List Value).toArray 8) := by
  obtain ⟨hx, hb, hr, hml, hown, hts0, hX, hbl, hlocks, hgv⟩ := id C0
  have hown : s.vm.findClass "RingMatchesLaw" = some m.cls := hown
  have hts : ∀ w ∈ WS, w.before #[Value.ref b] s = true := fun w h => hts0 w (List.mem_filter.mp h).1
  have hgf := flat_of_before _ hgv
  obtain ⟨A, hAd⟩ : ∃ z : Nat → Prop, z = fun q => s.heap.size ≤ q := ⟨_, rfl⟩
  have hA : ∀ q, s.heap.size ≤ q → A q := fun q h => by rw [hAd]; exact h
  have hA2 : ∀ q, A q → s.heap.size ≤ q := fun q h => by rw [hAd] at h; exact h
  have hAn : ∀ a : Nat, a < s.heap.size → ¬ A a := fun a h q => absurd (hA2 a q) (by omega)

  obtain ⟨c0, iS0, hKn0⟩ := u_known (C := R_O) (T := T_O) (N := 5) (n := 5) hts iw_O (hts _ wk_84)
  obtain ⟨c1, iS1, hKn1⟩ := u_known (C := R_P) (T := T_P) (N := 2) (n := 2) hts iw_P (hts _ wk_48)
  obtain ⟨c2, iS2, hKn2⟩ := u_known (C := R_S) (T := T_S) (N := 3) (n := 3) hts iw_S (hts _ wk_64)
  obtain ⟨c3, iS3, hKn3⟩ := u_known (C := R_R) (T := T_R) (N := 10) (n := 10) hts iw_R (hts _ wk_40)
  obtain ⟨c4, iS4, hKn4⟩ := u_known (C := R_M) (T := T_M) (N := 18) (n := 18) hts iw_M (hts _ wk_501)
  obtain ⟨D, hKc⟩ : ∃ D : va_G, ∀ (i : Nat) (q : vw_C), clW[i]? = some q → u_Kn s q.1 q.2.1 q.2.2 (D.1 i) (D.2 i) := by
    refine ⟨(fun i => if i = 0 then c0 else if i = 1 then c1 else if i = 2 then c2 else if i = 3 then c3 else c4, fun i => if i = 0 then iS0 else if i = 1 then iS1 else if i = 2 then iS2 else if i = 3 then iS3 else iS4), ?_⟩
    intro i q hq
    match i, hq with
    | 0, hq => cases hq; exact hKn0
    | 1, hq => cases hq; exact hKn1
    | 2, hq => cases hq; exact hKn2
    | 3, hq => cases hq; exact hKn3
    | 4, hq => cases hq; exact hKn4
    | i + 5, hq => simp [clW] at hq
  have hao1 : va_AO "RingMatches$Series" s := va_AO.of (A := #[Value.ref b]) (hts0 (.arrayOver (.object "RingMatches$Series")) (by decide +kernel))
  have hao2 : va_AO "RingMatches$Overlap" s := va_AO.of (A := #[Value.ref b]) (hts0 (.arrayOver (.object "RingMatches$Overlap")) (by decide +kernel))
  obtain ⟨t0, k0, m0, a01, a02, a03⟩ := Cond.arrayClass_spec (args := #[Value.ref b]) (first := s) (o := none) (s := s) (idx := []) (type := .int) (hts _ wk_61)
  obtain ⟨t1, k1, m1, a11, a12, a13⟩ := Cond.arrayClass_spec (args := #[Value.ref b]) (first := s) (o := none) (s := s) (idx := []) (type := .boolean) (hts _ wk_141)
  obtain ⟨t2, k2, m2, a21, a22, a23⟩ := Cond.arrayClass_spec (args := #[Value.ref b]) (first := s) (o := none) (s := s) (idx := []) (type := .long) (hts _ wk_691)
  obtain ⟨m3, t3, k3, a31, a32, a33, a34, a35⟩ := Cond.arrayOver_spec (args := #[]) (first := s) (o := none) (s := s) (idx := []) (n := "RingMatches$Series") hao1
  obtain ⟨m4, t4, k4, a41, a42, a43, a44, a45⟩ := Cond.arrayOver_spec (args := #[]) (first := s) (o := none) (s := s) (idx := []) (n := "RingMatches$Overlap") hao2
  obtain ⟨k, hkk⟩ : ∃ k : Nat → ClassId, k 0 = t0 ∧ k 1 = t1 ∧ k 2 = t2 ∧ k 3 = t3 ∧ k 4 = t4 := ⟨fun i => if i = 0 then t0 else if i = 1 then t1 else if i = 2 then t2 else if i = 3 then t3 else t4, rfl, rfl, rfl, rfl, rfl⟩
  obtain ⟨hk0, hk1, hk2, hk3, hk4⟩ := hkk
  have hK : va_K D clW (tyW k) s := by
    refine ⟨hKc, fun i q hq => ?_⟩
    match i, hq with
    | 0, hq => cases hq; exact ⟨by rw [hk0]; exact fun n z => ⟨fun k h => (by cases h), k0, a02, m0, a03⟩, by rw [hk0]; exact a01⟩
    | 1, hq => cases hq; exact ⟨by rw [hk1]; exact fun n z => ⟨fun k h => (by cases h), k1, a12, m1, a13⟩, by rw [hk1]; exact a11⟩
    | 2, hq => cases hq; exact ⟨by rw [hk2]; exact fun n z => ⟨fun k h => (by cases h), k2, a22, m2, a23⟩, by rw [hk2]; exact a21⟩
    | 3, hq => cases hq; exact ⟨by rw [hk3]; exact fun n z => ⟨fun k h => (by cases h), k3, a33, m3, a34⟩, by rw [hk3]; exact ⟨k3, m3, a33, a34, a31, a35⟩⟩
    | 4, hq => cases hq; exact ⟨by rw [hk4]; exact fun n z => ⟨fun k h => (by cases h), k4, a43, m4, a44⟩, by rw [hk4]; exact ⟨k4, m4, a43, a44, a41, a45⟩⟩
    | i + 5, hq => simp [tyW] at hq
  have hxw : xW s := fun w hw => by
    have h1 := hts0 w (List.mem_filter.mp hw).1
    rcases xWB_k hw with ⟨a, b, rfl⟩ | ⟨a, rfl⟩
    · exact va_Nw.of rfl h1
    · exact va_Nw.of rfl h1
  have hstr : ∀ q ∈ strL, ∃ a, vk_R "RingMatches" q.1 q.2 a s := by
    intro q hq
    simp only [strL, List.mem_cons, List.not_mem_nil, or_false] at hq
    rcases hq with rfl | rfl | rfl | rfl | rfl | rfl | rfl | rfl | rfl | rfl | rfl | rfl
    · obtain ⟨a, _, _, _, q1, _⟩ := Cond.exactly_spec (args := #[Value.ref b]) (first := s) (o := none) (s := s) (idx := []) (t := .string "RingMatches" 51) (cls := "java/lang/String") (hgf _ (by decide +kernel))
      exact ⟨a, vk_R.of (A := #[Value.ref b]) (hts0 (.stringRef "RingMatches" 51 "a sign is not 32 .. 126") (by decide +kernel)) q1⟩
    · obtain ⟨a, _, _, _, q1, _⟩ := Cond.exactly_spec (args := #[Value.ref b]) (first := s) (o := none) (s := s) (idx := []) (t := .string "RingMatches" 66) (cls := "java/lang/String") (hgf _ (by decide +kernel))
      exact ⟨a, vk_R.of (A := #[Value.ref b]) (hts0 (.stringRef "RingMatches" 66 "the pad would have more than 100 signs") (by decide +kernel)) q1⟩
    · obtain ⟨a, _, _, _, q1, _⟩ := Cond.exactly_spec (args := #[Value.ref b]) (first := s) (o := none) (s := s) (idx := []) (t := .string "RingMatches" 76) (cls := "java/lang/String") (hgf _ (by decide +kernel))
      exact ⟨a, vk_R.of (A := #[Value.ref b]) (hts0 (.stringRef "RingMatches" 76 "there are eight series") (by decide +kernel)) q1⟩
    · obtain ⟨a, _, _, _, q1, _⟩ := Cond.exactly_spec (args := #[Value.ref b]) (first := s) (o := none) (s := s) (idx := []) (t := .string "RingMatches" 201) (cls := "java/lang/String") (hgf _ (by decide +kernel))
      exact ⟨a, vk_R.of (A := #[Value.ref b]) (hts0 (.stringRef "RingMatches" 201 "no such series") (by decide +kernel)) q1⟩
    · obtain ⟨a, _, _, _, q1, _⟩ := Cond.exactly_spec (args := #[Value.ref b]) (first := s) (o := none) (s := s) (idx := []) (t := .string "RingMatches" 96) (cls := "java/lang/String") (hgf _ (by decide +kernel))
      exact ⟨a, vk_R.of (A := #[Value.ref b]) (hts0 (.stringRef "RingMatches" 96 "no such ring") (by decide +kernel)) q1⟩
    · obtain ⟨a, _, _, _, q1, _⟩ := Cond.exactly_spec (args := #[Value.ref b]) (first := s) (o := none) (s := s) (idx := []) (t := .string "RingMatches" 105) (cls := "java/lang/String") (hgf _ (by decide +kernel))
      exact ⟨a, vk_R.of (A := #[Value.ref b]) (hts0 (.stringRef "RingMatches" 105 "no such sign") (by decide +kernel)) q1⟩
    · obtain ⟨a, _, _, _, q1, _⟩ := Cond.exactly_spec (args := #[Value.ref b]) (first := s) (o := none) (s := s) (idx := []) (t := .string "RingMatches" 205) (cls := "java/lang/String") (hgf _ (by decide +kernel))
      exact ⟨a, vk_R.of (A := #[Value.ref b]) (hts0 (.stringRef "RingMatches" 205 "least is not 3 .. 24") (by decide +kernel)) q1⟩
    · obtain ⟨a, _, _, _, q1, _⟩ := Cond.exactly_spec (args := #[Value.ref b]) (first := s) (o := none) (s := s) (idx := []) (t := .string "RingMatches" 203) (cls := "java/lang/String") (hgf _ (by decide +kernel))
      exact ⟨a, vk_R.of (A := #[Value.ref b]) (hts0 (.stringRef "RingMatches" 203 "no such overlap") (by decide +kernel)) q1⟩
    · obtain ⟨a, _, _, _, q1, _⟩ := Cond.exactly_spec (args := #[Value.ref b]) (first := s) (o := none) (s := s) (idx := []) (t := .string "RingMatches" 146) (cls := "java/lang/String") (hgf _ (by decide +kernel))
      exact ⟨a, vk_R.of (A := #[Value.ref b]) (hts0 (.stringRef "RingMatches" 146 "no such what") (by decide +kernel)) q1⟩
    · obtain ⟨a, _, _, _, q1, _⟩ := Cond.exactly_spec (args := #[Value.ref b]) (first := s) (o := none) (s := s) (idx := []) (t := .string "RingMatches" 207) (cls := "java/lang/String") (hgf _ (by decide +kernel))
      exact ⟨a, vk_R.of (A := #[Value.ref b]) (hts0 (.stringRef "RingMatches" 207 "no such part") (by decide +kernel)) q1⟩
    · obtain ⟨a, _, _, _, q1, _⟩ := Cond.exactly_spec (args := #[Value.ref b]) (first := s) (o := none) (s := s) (idx := []) (t := .string "RingMatches" 165) (cls := "java/lang/String") (hgf _ (by decide +kernel))
      exact ⟨a, vk_R.of (A := #[Value.ref b]) (hts0 (.stringRef "RingMatches" 165 "the series has 24 rings") (by decide +kernel)) q1⟩
    · obtain ⟨a, _, _, _, q1, _⟩ := Cond.exactly_spec (args := #[Value.ref b]) (first := s) (o := none) (s := s) (idx := []) (t := .string "RingMatches" 167) (cls := "java/lang/String") (hgf _ (by decide +kernel))
      exact ⟨a, vk_R.of (A := #[Value.ref b]) (hts0 (.stringRef "RingMatches" 167 "the shift is not -24 .. 24") (by decide +kernel)) q1⟩
  have hxc : xC A s s.heap := ⟨hxw, hstr, vx_Zqof (hts0 (.laysStatic "java/lang/Throwable" "UNASSIGNED_STACK" "[Ljava/lang/StackTraceElement;") (by decide +kernel)) (hts0 (.initialized "java/lang/Throwable") (by decide +kernel)) (hgf (.isRef (.static "java/lang/Throwable" "UNASSIGNED_STACK" "[Ljava/lang/StackTraceElement;")) (by decide +kernel)) hAn, vx_Zqof (hts0 (.laysStatic "java/lang/Throwable" "SUPPRESSED_SENTINEL" "Ljava/util/List;") (by decide +kernel)) (hts0 (.initialized "java/lang/Throwable") (by decide +kernel)) (hgf (.isRef (.static "java/lang/Throwable" "SUPPRESSED_SENTINEL" "Ljava/util/List;")) (by decide +kernel)) hAn⟩
  have hnc : nC s := ⟨va_Nc.of (hgf (.not (.castable "java/lang/IllegalStateException" "java/lang/IllegalArgumentException")) (by decide +kernel)), va_Nc.of (hgf (.not (.castable "java/lang/IllegalArgumentException" "java/lang/IndexOutOfBoundsException")) (by decide +kernel)), va_Nc.of (hgf (.not (.castable "java/lang/IllegalStateException" "java/lang/IndexOutOfBoundsException")) (by decide +kernel))⟩
  obtain ⟨AD, hADd⟩ : ∃ f : Int → Nat, f = fun j => s.heap.size + j.toNat := ⟨_, rfl⟩
  have hAD : ∀ j : Int, 0 ≤ j → AD (j + 1) = AD j + 1 := fun j h => by rw [hADd]; show s.heap.size + (j + 1).toNat = s.heap.size + j.toNat + 1; omega
  have hs0 : s.heap.size = AD 0 := by rw [hADd]; rfl
  have hl := lv_entry ([.ref b]) (n := 8) (Nat.le_of_ble_eq_true rfl)
  rw [lg_entry_eq]
  generalize (lg_sl ([.ref b]) ++ List.replicate (8 - (lg_sl ([.ref b])).length) Slot.unset).toArray = ls at hl ⊢
  have hl : lv_has ls 8 [(0, .ref b)] := hl
  obtain ⟨N0, eN0⟩ : ∃ n : Nat, ((n : Nat) : Int) = 0 := ⟨0, rfl⟩
  obtain ⟨C, hC⟩ : ∃ z : Int → va_E, z = fun _ => .inr (0, []) := ⟨_, rfl⟩
  obtain ⟨H, hH⟩ : ∃ H, H = s.heap := ⟨_, rfl⟩
  obtain ⟨locs, hlocs⟩ : ∃ z : List Loc, z = [] := ⟨_, rfl⟩
  have hN00 : N0 = 0 := by omega
  have hw : WD D clW A s.heap H locs N0 AD C := by
    rw [hN00, hH, hlocs]
    exact ⟨fun i q h => by simp [wl] at h, ⟨fun i j p q h => by simp [wl] at h, fun i q h => by simp [wl] at h⟩, va_S.rf⟩
  rw [← hlocs]
  suffices hgo : W p l e room_1 s m #[Value.ref b] below meth c H locs 0 0 (lw_Z below #[Value.ref b] s) (F0 m 0 ls []) by rw [hH] at hgo; exact hgo
  have hsz9 : H.size = AD ((N0 : Nat) : Int) := by rw [hH, eN0]; exact hs0
  refine zr_new (ci := 3) (fs := [.null, .null, .int (zI 0), .null, .int (zI 0), .int (zI 0), .null, .null, .null, .null]) hx hb hts iw_R tyR tyR_ok hown (hts _ wk_39) (hts _ wk_40) (hts _ wk_27) hK hw hA rfl df_R (Nat.le_of_ble_eq_true rfl) (Nat.le_of_ble_eq_true rfl) hsz9 d_L_law_0 (fun H hsz8 hw => ?_)
  rw [eN0] at hw hsz8 ⊢
  obtain ⟨C1, hC1⟩ : ∃ z : Int → va_E, z = zup C 0 (.inr (3, [.null, .null, .int (zI 0), .null, .int (zI 0), .int (zI 0), .null, .null, .null, .null])) := ⟨_, rfl⟩
  rw [← hC1] at hw
  have frC1 : ∀ j : Int, j ≠ 0 → C1 j = C j := fun j h => by rw [hC1]; exact zup_n h
  have hR : C1 0 = .inr (3, [.null, .null, .int (zI 0), .null, .int (zI 0), .int (zI 0), .null, .null, .null, .null]) := by rw [hC1]; exact zup_s
  obtain ⟨N2, hN2⟩ : ∃ z : Nat, z = N0 + 1 := ⟨_, rfl⟩
  rw [← hN2] at hw
  have eN2 : ((N2 : Nat) : Int) = 1 := by omega
  refine lv_dup hx hb d_L_law_3 rfl ?_
  refine W_size hw (by omega) hAD (by rw [eN2]; exact AD_sz (b := 0) (d := (0 + 1)) hAD (by omega) hs0 (by omega)) (fun hsz9 => ?_)
  refine zr_callC (va_runI (As := []) (rest := [.ref (AD 0)]) ⟨hx, hb, hml, hown, hts⟩ (c_R_init l D k N2 AD C1 H.size 0 rfl (by omega) hsz9 hAD hR) (cwI 0 hts (WS_c wk_43) rfl rfl rfl (hts _ wk_27) (hts _ wk_41) (hts _ wk_42) rfl (by decide +kernel) ⟨Nat.le_of_ble_eq_true rfl, Nat.le_of_ble_eq_true rfl⟩) (oPre_S hK hw hao1 hao2) rfl rfl hl.1 rfl (lv_room (Nat.le_of_ble_eq_true rfl)) d_L_law_4 ⟨(Nat.le_of_ble_eq_true rfl), (Nat.le_of_ble_eq_true rfl)⟩) hw hA (fun C3 H locs hq3 hw => ?_)
  have hRI : RIx k AD C3 0 (fun _ => 0) 0 (fun _ => 0) (fun _ _ => 0) (fun _ _ => 0) 0 (fun j => j) (fun _ => 0) (fun _ => 0) (fun _ => 0) (fun _ => 0) (fun _ => 0) (fun _ => 0) (fun _ => 0) (fun _ => 0) (fun _ => 0) (fun _ => 0) 0 0 (fun _ => 0) (fun _ => 0) 0 0 0 0 0 (fun _ => 0) (fun _ => 0) := hq3
  obtain ⟨N4, hN4⟩ : ∃ z : Nat, z = N2 + 81 := ⟨_, rfl⟩
  rw [← hN4] at hw
  have eN4 : ((N4 : Nat) : Int) = 82 := by omega
  refine lv_astore_n (lv' := [(1, .ref (AD 0)), (0, .ref b)]) hx hb d_L_law_7 rfl hl (by decide) rfl (fun ls hl => ?_)
  refine W_size hw (by omega) hAD (by rw [eN4]; exact AD_sz (b := 0) (d := ((0 + 1) + 81)) hAD (by omega) hs0 (by omega)) (fun hsz9 => ?_)
  refine zr_new (ci := 4) (fs := [.int (zI 0), .int (zI 0), .null, .int (zI 0), .null, .null, .int (zI 0), .int (zI 0), .int (zI 0), .int (zI 0), .null, .null, .null, .int (zI 0), .int (zI 0), .int (zI 0), .long (zL 0), .long (zL 0)]) hx hb hts iw_M tyM tyM_ok hown (hts _ wk_500) (hts _ wk_501) (hts _ wk_31) hK hw hA rfl df_M (Nat.le_of_ble_eq_true rfl) (Nat.le_of_ble_eq_true rfl) hsz9 d_L_law_8 (fun H hsz8 hw => ?_)
  rw [eN4] at hw hsz8 ⊢
  obtain ⟨C5, hC5⟩ : ∃ z : Int → va_E, z = zup C3 82 (.inr (4, [.int (zI 0), .int (zI 0), .null, .int (zI 0), .null, .null, .int (zI 0), .int (zI 0), .int (zI 0), .int (zI 0), .null, .null, .null, .int (zI 0), .int (zI 0), .int (zI 0), .long (zL 0), .long (zL 0)])) := ⟨_, rfl⟩
  rw [← hC5] at hw
  have frC5 : ∀ j : Int, j ≠ 82 → C5 j = C3 j := fun j h => by rw [hC5]; exact zup_n h
  have hRI : RIx k AD C5 0 (fun _ => 0) 0 (fun _ => 0) (fun _ _ => 0) (fun _ _ => 0) 0 (fun j => j) (fun _ => 0) (fun _ => 0) (fun _ => 0) (fun _ => 0) (fun _ => 0) (fun _ => 0) (fun _ => 0) (fun _ => 0) (fun _ => 0) (fun _ => 0) 0 0 (fun _ => 0) (fun _ => 0) 0 0 0 0 0 (fun _ => 0) (fun _ => 0) := RIx_cg (fun j h1 h2 => frC5 j (by omega)) hRI
  have hM : C5 82 = .inr (4, [.int (zI 0), .int (zI 0), .null, .int (zI 0), .null, .null, .int (zI 0), .int (zI 0), .int (zI 0), .int (zI 0), .null, .null, .null, .int (zI 0), .int (zI 0), .int (zI 0), .long (zL 0), .long (zL 0)]) := by rw [hC5]; exact zup_s
  obtain ⟨N6, hN6⟩ : ∃ z : Nat, z = N4 + 1 := ⟨_, rfl⟩
  rw [← hN6] at hw
  have eN6 : ((N6 : Nat) : Int) = 83 := by omega
  refine lv_dup hx hb d_L_law_11 rfl ?_
  refine W_size hw (by omega) hAD (by rw [eN6]; exact AD_sz (b := 0) (d := (((0 + 1) + 81) + 1)) hAD (by omega) hs0 (by omega)) (fun hsz9 => ?_)
  refine zr_callC (va_runI (As := []) (rest := [.ref (AD 82)]) ⟨hx, hb, hml, hown, hts⟩ (c_M_init l D k N6 AD C5 H.size 82 rfl (by omega) hsz9 hAD hM) (cwI 0 hts (WS_c wk_504) rfl rfl rfl (hts _ wk_31) (hts _ wk_502) (hts _ wk_503) rfl (by decide +kernel) ⟨Nat.le_of_ble_eq_true rfl, Nat.le_of_ble_eq_true rfl⟩) (oPre_S hK hw hao1 hao2) rfl rfl hl.1 rfl (lv_room (Nat.le_of_ble_eq_true rfl)) d_L_law_12 ⟨(Nat.le_of_ble_eq_true rfl), (Nat.le_of_ble_eq_true rfl)⟩) hw hA (fun C7 H locs hq7 hw => ?_)
  obtain ⟨hM, h83, h84, h85, h86, h87, h88, frC7⟩ := hq7
  have hRI : RIx k AD C7 0 (fun _ => 0) 0 (fun _ => 0) (fun _ _ => 0) (fun _ _ => 0) 0 (fun j => j) (fun _ => 0) (fun _ => 0) (fun _ => 0) (fun _ => 0) (fun _ => 0) (fun _ => 0) (fun _ => 0) (fun _ => 0) (fun _ => 0) (fun _ => 0) 0 0 (fun _ => 0) (fun _ => 0) 0 0 0 0 0 (fun _ => 0) (fun _ => 0) := RIx_cg (fun j h1 h2 => frC7 j (by omega)) hRI
  obtain ⟨N8, hN8⟩ : ∃ z : Nat, z = N6 + 6 := ⟨_, rfl⟩
  rw [← hN8] at hw
  have eN8 : ((N8 : Nat) : Int) = 89 := by omega
  refine lv_astore_n (lv' := [(2, .ref (AD 82)), (1, .ref (AD 0)), (0, .ref b)]) hx hb d_L_law_15 rfl hl (by decide) rfl (fun ls hl => ?_)
  refine zr_iconst hx hb d_L_law_16 ?_
  refine W_size hw (by omega) hAD (by rw [eN8]; exact AD_sz (b := 0) (d := ((((0 + 1) + 81) + 1) + 6)) hAD (by omega) hs0 (by omega)) (fun hsz9 => ?_)
  refine zr_newL (n := 1) hx hb (hts _ wk_691) hK 2 rfl hw hA (by decide) (Nat.le_of_ble_eq_true rfl) (Nat.le_of_ble_eq_true rfl) hsz9 d_L_law_17 (fun H hsz8 hw => ?_)
  rw [eN8] at hw hsz8 ⊢
  obtain ⟨C9, hC9⟩ : ∃ z : Int → va_E, z = zup C7 89 (aL (k 2) 1 (fun _ => 0)) := ⟨_, rfl⟩
  rw [← hC9] at hw
  have frC9 : ∀ j : Int, j ≠ 89 → C9 j = C7 j := fun j h => by rw [hC9]; exact zup_n h
  have hRI : RIx k AD C9 0 (fun _ => 0) 0 (fun _ => 0) (fun _ _ => 0) (fun _ _ => 0) 0 (fun j => j) (fun _ => 0) (fun _ => 0) (fun _ => 0) (fun _ => 0) (fun _ => 0) (fun _ => 0) (fun _ => 0) (fun _ => 0) (fun _ => 0) (fun _ => 0) 0 0 (fun _ => 0) (fun _ => 0) 0 0 0 0 0 (fun _ => 0) (fun _ => 0) := RIx_cg (fun j h1 h2 => frC9 j (by omega)) hRI
  have hM : C9 82 = .inr (4, [.int (zI 0), .int (zI 0), .ref (AD 83), .int (zI 0), .ref (AD 84), .ref (AD 85), .int (zI 0), .int (zI 0), .int (zI 0), .int (zI 0), .ref (AD 86), .ref (AD 87), .ref (AD 88), .int (zI 0), .int (zI 0), .int (zI 0), .long (zL 0), .long (zL 0)]) := (frC9 _ (by omega)).trans hM
  have h83 : C9 83 = aI (k 0) 100 (fun _ => 0) := (frC9 _ (by omega)).trans h83
  have h84 : C9 84 = aI (k 0) 9 (fun _ => 0) := (frC9 _ (by omega)).trans h84
  have h85 : C9 85 = aI (k 0) 216 (fun _ => 0) := (frC9 _ (by omega)).trans h85
  have h86 : C9 86 = aI (k 0) 48 (fun _ => 0) := (frC9 _ (by omega)).trans h86
  have h87 : C9 87 = aI (k 0) 48 (fun _ => 0) := (frC9 _ (by omega)).trans h87
  have h88 : C9 88 = aI (k 0) 48 (fun _ => 0) := (frC9 _ (by omega)).trans h88
  have hout : C9 89 = aL (k 2) 1 (fun _ => 0) := by rw [hC9]; exact zup_s
  obtain ⟨N10, hN10⟩ : ∃ z : Nat, z = N8 + 1 := ⟨_, rfl⟩
  rw [← hN10] at hw
  have eN10 : ((N10 : Nat) : Int) = 90 := by omega
  refine lv_astore_n (lv' := [(3, .ref (AD 89)), (2, .ref (AD 82)), (1, .ref (AD 0)), (0, .ref b)]) hx hb d_L_law_19 rfl hl (by decide) rfl (fun ls hl => ?_)
  refine zr_iconst hx hb d_L_law_20 ?_
  refine lv_istore (lv' := [(4, .int (zI 0)), (3, .ref (AD 89)), (2, .ref (AD 82)), (1, .ref (AD 0)), (0, .ref b)]) hx hb d_L_law_21 hl (by decide) rfl (fun ls hl => ?_)
  have hinv0 : INV k AD C9 (12 * 0) 0 := ⟨0, (fun _ => 0), 0, (fun _ => 0), (fun _ _ => 0), (fun _ _ => 0), 0, (fun j => j), (fun _ => 0), (fun _ => 0), (fun _ => 0), (fun _ => 0), (fun _ => 0), (fun _ => 0), (fun _ => 0), (fun _ => 0), (fun _ => 0), (fun _ => 0), 0, 0, (fun _ => 0), (fun _ => 0), 0, 0, 0, 0, 0, (fun _ => 0), (fun _ => 0), 0, 0, 0, 0, 0, 0, 0, (fun _ => 0), (fun _ => 0), (fun _ => 0), (fun _ => 0), (fun _ => 0), (fun _ => 0), ⟨hRI, hM, h83, h84, h85, h86, h87, h88, hout, (fun i _ _ => (by decide : (0 : Int) ≤ 0 ∧ (0 : Int) ≤ 24)), (fun i h1 h2 => absurd h2 (by omega)), (fun r h1 h2 => absurd h2 (by omega)), (fun h => absurd h (by omega)), (fun r h1 h2 => absurd h2 (by omega))⟩, by decide⟩
  refine W.widen (k := 90 + (0 : Int).toNat) (n := 1370 + 6 * (0 : Int).toNat) (by decide) (by decide) ?_
  exact law_loop hL hlt C0 hK hA hA2 hxc hnc (N := N10) (by omega) hinv0 hw (lv_sub hl [4, 3, 2, 1, 0] rfl)
