theorem sumR_bd {f : Int → Int} {M : Int} (h : ∀ x, 0 ≤ f x ∧ f x ≤ M) (lo : Int) : ∀ m : Nat, 0 ≤ sumR f lo m ∧ sumR f lo m ≤ M * (m : Int) := by
  intro m
  induction m with
  | zero => exact ⟨Int.le_refl 0, by show (0 : Int) ≤ M * ((0 : Nat) : Int); simp⟩
  | succ m ih =>
    have h2 := h (lo + (m : Int))
    have e : sumR f lo (m + 1) = sumR f lo m + f (lo + (m : Int)) := rfl
    have e2 : M * ((m + 1 : Nat) : Int) = M * (m : Int) + M := by rw [Int.natCast_add]; grind
    omega
theorem sumR_le2 {f g : Int → Int} (h : ∀ x, f x ≤ 2 * g x) (lo : Int) : ∀ m : Nat, sumR f lo m ≤ 2 * sumR g lo m := by
  intro m
  induction m with
  | zero => exact Int.le_refl 0
  | succ m ih =>
    have h2 := h (lo + (m : Int))
    have e : sumR f lo (m + 1) = sumR f lo m + f (lo + (m : Int)) := rfl
    have e2 : sumR g lo (m + 1) = sumR g lo m + g (lo + (m : Int)) := rfl
    omega
theorem ovN_in {w1 w2 : Int → Int} {n1 n2 a : Int} (h1 : 0 ≤ n1 ∧ n1 ≤ 24) (h2 : 0 ≤ n2 ∧ n2 ≤ 24) : 0 ≤ ovN w1 n1 w2 n2 a ∧ ovN w1 n1 w2 n2 a ≤ 24 := by
  have h := sumR_bd (f := ovT w1 n1 w2 n2 a (fun _ _ => 1)) (M := 1) (fun x => by unfold ovT prT; split; exact ⟨Int.le_refl 0, by decide⟩; exact ⟨(by decide : (0 : Int) ≤ 1), Int.le_refl 1⟩) (max 0 a) (min n1 (n2 + a) - max 0 a).toNat
  unfold ovN ovS
  omega
theorem rsT_in (w1 w2 : Int → Int) (n1 n2 a x : Int) : 0 ≤ rsT w1 n1 w2 n2 a x ∧ rsT w1 n1 w2 n2 a x ≤ 1 := by unfold rsT; split <;> omega
theorem agT_in (w1 w2 : Int → Int) (n1 n2 a x : Int) : 0 ≤ agT w1 n1 w2 n2 a x ∧ agT w1 n1 w2 n2 a x ≤ 2 * rsT w1 n1 w2 n2 a x := by
  unfold agT rsT
  have := lik_in (ris w1 n1 x) (ris w2 n2 (x - a))
  split <;> omega
theorem ovR_in {w1 w2 : Int → Int} {n1 n2 a : Int} (h1 : 0 ≤ n1 ∧ n1 ≤ 24) (h2 : 0 ≤ n2 ∧ n2 ≤ 24) : 0 ≤ ovR w1 n1 w2 n2 a ∧ ovR w1 n1 w2 n2 a ≤ 23 := by
  have h := sumR_bd (f := rsT w1 n1 w2 n2 a) (M := 1) (rsT_in w1 w2 n1 n2 a) (max 0 a + 1) (min n1 (n2 + a) - (max 0 a + 1)).toNat
  unfold ovR
  omega
theorem ovA_in (w1 w2 : Int → Int) (n1 n2 a : Int) : 0 ≤ ovA w1 n1 w2 n2 a ∧ ovA w1 n1 w2 n2 a ≤ 2 * ovR w1 n1 w2 n2 a :=
  ⟨sumR_nn (fun x => (agT_in w1 w2 n1 n2 a x).1) _, sumR_le2 (fun x => (agT_in w1 w2 n1 n2 a x).2) _ _⟩
/-- the list: how many, shifts, pairs, correlations, rises, agreements -/
abbrev MLs : Type := Int × (Int → Int) × (Int → Int) × (Int → Int) × (Int → Int) × (Int → Int)
def mKq (w1 : Int → Int) (n1 : Int) (w2 : Int → Int) (n2 s : Int) (q : MLs) : Int := insK q.2.2.1 q.2.2.2.1 (ovN w1 n1 w2 n2 s) (ovC w1 n1 w2 n2 s) q.1.toNat
def mStp (w1 : Int → Int) (n1 : Int) (w2 : Int → Int) (n2 least s : Int) (q : MLs) : MLs :=
  if least ≤ ovN w1 n1 w2 n2 s then (q.1 + 1, insF q.2.1 (mKq w1 n1 w2 n2 s q) s, insF q.2.2.1 (mKq w1 n1 w2 n2 s q) (ovN w1 n1 w2 n2 s), insF q.2.2.2.1 (mKq w1 n1 w2 n2 s q) (ovC w1 n1 w2 n2 s), insF q.2.2.2.2.1 (mKq w1 n1 w2 n2 s q) (ovR w1 n1 w2 n2 s), insF q.2.2.2.2.2 (mKq w1 n1 w2 n2 s q) (ovA w1 n1 w2 n2 s)) else q
def mAll (w1 : Int → Int) (n1 : Int) (w2 : Int → Int) (n2 least : Int) : Nat → MLs
  | 0 => (0, fun _ => 0, fun _ => 0, fun _ => 0, fun _ => 0, fun _ => 0)
  | m + 1 => mStp w1 n1 w2 n2 least (1 - n2 + (m : Int)) (mAll w1 n1 w2 n2 least m)
theorem mAll_step (w1 : Int → Int) (n1 : Int) (w2 : Int → Int) (n2 least : Int) {x : Int} (h : 1 - n2 ≤ x) : mAll w1 n1 w2 n2 least (x + 1 - (1 - n2)).toNat = mStp w1 n1 w2 n2 least x (mAll w1 n1 w2 n2 least (x - (1 - n2)).toNat) := by
  have e1 : (x + 1 - (1 - n2)).toNat = (x - (1 - n2)).toNat + 1 := by omega
  have e2 : 1 - n2 + (((x - (1 - n2)).toNat : Nat) : Int) = x := by omega
  rw [e1]
  show mStp w1 n1 w2 n2 least (1 - n2 + (((x - (1 - n2)).toNat : Nat) : Int)) (mAll w1 n1 w2 n2 least (x - (1 - n2)).toNat) = _
  rw [e2]
/-- the place that insP reads -/
def insI (k lc r : Int) : Int := if r < k then r else if r = k then lc else if r ≤ lc then r - 1 else r
theorem insP_I (pm : Int → Int) (k lc r : Int) : insP pm k lc r = pm (insI k lc r) := by
  unfold insP insI
  split
  · rfl
  · split
    · rfl
    · split <;> rfl
theorem insI_in {k lc r : Int} (hk : 0 ≤ k ∧ k ≤ lc) (hlc : lc < 47) (h : 0 ≤ r ∧ r < 47) : 0 ≤ insI k lc r ∧ insI k lc r < 47 := by
  unfold insI
  split
  · omega
  · split
    · omega
    · split <;> omega
theorem insI_inj {k lc r s : Int} (hk : 0 ≤ k ∧ k ≤ lc) (h : insI k lc r = insI k lc s) : r = s := by
  unfold insI at h
  split at h <;> split at h <;> first | omega | (split at h <;> first | omega | (split at h <;> first | omega | (split at h <;> omega)))
theorem insF_I {f pf pm : Int → Int} {k lc v : Int} (hk : 0 ≤ k ∧ k ≤ lc) (hf : ∀ r : Int, 0 ≤ r → r < lc → pf (pm r) = f r) (hv : pf (pm lc) = v) : ∀ r : Int, 0 ≤ r → r < lc + 1 → pf (insP pm k lc r) = insF f k v r := by
  intro r h1 h2
  unfold insP insF
  split
  · exact hf r h1 (by omega)
  · split
    · exact hv
    · rw [if_pos (by omega)]; exact hf (r - 1) (by omega) (by omega)
theorem insF_R {R : Int → Prop} {f : Int → Int} {k lc v : Int} (hk : 0 ≤ k ∧ k ≤ lc) (hf : ∀ r : Int, 0 ≤ r → r < lc → R (f r)) (hv : R v) : ∀ r : Int, 0 ≤ r → r < lc + 1 → R (insF f k v r) := by
  intro r h1 h2
  unfold insF
  split
  · exact hf r h1 (by omega)
  · split
    · exact hv
    · exact hf (r - 1) (by omega) (by omega)
theorem insF_R2 {R : Int → Int → Prop} {f g : Int → Int} {k lc v u : Int} (hk : 0 ≤ k ∧ k ≤ lc) (hf : ∀ r : Int, 0 ≤ r → r < lc → R (f r) (g r)) (hv : R v u) : ∀ r : Int, 0 ≤ r → r < lc + 1 → R (insF f k v r) (insF g k u r) := by
  intro r h1 h2
  unfold insF
  split
  · exact hf r h1 (by omega)
  · split
    · exact hv
    · exact hf (r - 1) (by omega) (by omega)
abbrev rm_R_match : Room := { frames := 7, cells := 3, slots := 18, locals := 103 }
set_option maxHeartbeats 4000000 in
set_option maxRecDepth 100000 in
theorem c_R_match (l : Launch) (D : va_G) (k : Nat → ClassId) (N : Nat) (AD : Int → Nat) (C : Int → va_E) (sz : Nat) (hlt : l.stackTraces = false) (pn : Int) (pf : Int → Int) (kc : Int) (nn : Int → Int) (ww : Int → Int → Int) (ee : Int → Int → Int) (lc : Int) (pm : Int → Int) (pS : Int → Int) (pN : Int → Int) (pR : Int → Int) (pT : Int → Int) (pA : Int → Int) (oS : Int → Int) (oN : Int → Int) (oR : Int → Int) (oT : Int → Int) (oA : Int → Int) (tr : Int) (sn : Int) (sw : Int → Int) (se : Int → Int) (q0 : Int) (q1 : Int) (q2 : Int) (q3 : Int) (q4 : Int) (mb : Int → Int) (ak : Int → Int) (a : Int) (b : Int) (least : Int) (hN : 82 ≤ (N : Int)) (hRI : RIx k AD C pn pf kc nn ww ee lc pm pS pN pR pT pA oS oN oR oT oA tr sn sw se q0 q1 q2 q3 q4 mb ak) (ha : inI a) (hb9 : inI b) (hle : inI least) (htr2 : tr ≤ 100000) : XI l y_R_match (Cond.code y_R_match b_R_match 8 (Option.some Jvm.ClassFile.FieldType.int) :: WS) rm_R_match 3 18 D clW (tyW k) N AD C sz [.ref (AD 0), .int (zI a), .int (zI b), .int (zI least)] (fun r C' => (((0 ≤ a ∧ a < kc) ∧ (0 ≤ b ∧ b < kc)) ∧ (3 ≤ least ∧ least ≤ 24)) ∧ ∃ (lx : Int) (pm1 pS1 pN1 pR1 pT1 pA1 aS aN aR aT aA : Int → Int), mAll (ww a) (nn a) (ww b) (nn b) least (nn a + nn b - 1).toNat = (lx, aS, aN, aR, aT, aA) ∧ r = zI lx ∧ RIx k AD C' pn pf kc nn ww ee lx pm1 pS1 pN1 pR1 pT1 pA1 aS aN aR aT aA (tr + (nn a + nn b - 1)) sn sw se q0 q1 q2 q3 q4 mb ak ∧ ∀ j : Int, ¬ (0 ≤ j ∧ j ≤ 81) → C' j = C j) (fun E => (E = "java/lang/IndexOutOfBoundsException" ∧ ¬ ((0 ≤ a ∧ a < kc) ∧ (0 ≤ b ∧ b < kc))) ∨ (E = "java/lang/IllegalArgumentException" ∧ ((0 ≤ a ∧ a < kc) ∧ (0 ≤ b ∧ b < kc)) ∧ ¬ (3 ≤ least ∧ least ≤ 24))) := by
  refine XI.start (cc := b_R_match) (maxL := 8) (rt := .int) (by decide) rfl (Nat.le_of_ble_eq_true rfl) ?_
  intro p e s m args below meth c Q ls hx hb hml hown hts hK hsz hw hl htb hlk hxc hQ hret
  obtain ⟨Qc9, hQ⟩ := hQ
  have hown : s.vm.findClass "RingMatches" = some m.cls := hown
  have hl : lv_has ls 8 [(0, .ref (AD 0)), (1, .int (zI a)), (2, .int (zI b)), (3, .int (zI least))] := hl
  have hA := wA_hi (N := N) (AD := AD) hsz
  obtain ⟨H, hH⟩ : ∃ H, H = s.heap := ⟨_, rfl⟩
  obtain ⟨locs, hlocs⟩ : ∃ z : List Loc, z = [] := ⟨_, rfl⟩
  have hw : WD D clW (wA N AD sz) s.heap H locs N AD C := by rw [hH, hlocs]; exact hw
  rw [← hlocs]
  suffices hgo : W p l e rm_R_match s m args below meth c H locs 0 0 Q (F0 m 0 ls []) by rw [hH] at hgo; exact hgo
  obtain ⟨C0, hC0⟩ : ∃ z : Int → va_E, z = C := ⟨_, rfl⟩
  obtain ⟨hR, hP, hPs, h3, hser, h28, hov, hpm, hpi, hls, hst, hstw, hste, hsn, hpr, hmb, hak, hpn, hkc, hlc, htr, hpf, hok, hlb⟩ := hRI
  have hP0 := hP; have hPs0 := hPs; have h30 := h3
  refine lv_aload_n hx hb d_R_match_0 rfl (lv_at hl 0 rfl) ?_
  refine lv_iload_n hx hb d_R_match_1 rfl (lv_at hl 1 rfl) ?_
  refine zr_xcallR (vx_runV (As := [.int (zI a)]) (rest := []) ⟨hx, hb, hml, hown, hts⟩ (c_R_seriesAt l D k N AD C H.size hlt kc lc tr a hN (by omega) ⟨by omega, by omega⟩ hR h3) (cwV 1 hts (good_V wk_298 wk_300 wk_3 wk_27 wk_301) rfl rfl rfl (by decide +kernel) ⟨Nat.le_of_ble_eq_true rfl, Nat.le_of_ble_eq_true rfl⟩) (xPre_V hK hw hA hxc 0 ⟨by omega, by omega⟩ hR rfl) rfl rfl hl.1 rfl (lv_room (Nat.le_of_ble_eq_true rfl)) d_R_match_2 ⟨Nat.le_of_ble_eq_true rfl, Nat.le_of_ble_eq_true rfl⟩) hw hA (fun E9 ce9 q9 H locs hxp hw h91 h92 h93 => ?_) (fun H locs hrp1 hw => ?_)
  · rw [hQ]; exact xout hK htb hlk hw (Or.inl ⟨hxp.1, fun h => hxp.2 h.1⟩) h91 h92 h93 (Nat.le_of_ble_eq_true rfl) (Nat.le_of_ble_eq_true rfl)
  obtain ⟨hokhS1, hokhS2, hokhS3⟩ := hok a hrp1.1 hrp1.2
  obtain ⟨hS, hSw, hSe, hSn⟩ := hser a hrp1.1 (by omega)
  refine lv_astore (lv' := [(4, .ref (AD (4 + 3 * a))), (0, .ref (AD 0)), (1, .int (zI a)), (2, .int (zI b)), (3, .int (zI least))]) hx hb d_R_match_5 hl (by decide) rfl (fun ls hl => ?_)
  refine lv_aload_n hx hb d_R_match_7 rfl (lv_at hl 1 rfl) ?_
  refine lv_iload_n hx hb d_R_match_8 rfl (lv_at hl 3 rfl) ?_
  refine zr_xcallR (vx_runV (As := [.int (zI b)]) (rest := []) ⟨hx, hb, hml, hown, hts⟩ (c_R_seriesAt l D k N AD C H.size hlt kc lc tr b hN (by omega) ⟨by omega, by omega⟩ hR h3) (cwV 1 hts (good_V wk_298 wk_300 wk_3 wk_27 wk_301) rfl rfl rfl (by decide +kernel) ⟨Nat.le_of_ble_eq_true rfl, Nat.le_of_ble_eq_true rfl⟩) (xPre_V hK hw hA hxc 0 ⟨by omega, by omega⟩ hR rfl) rfl rfl hl.1 rfl (lv_room (Nat.le_of_ble_eq_true rfl)) d_R_match_9 ⟨Nat.le_of_ble_eq_true rfl, Nat.le_of_ble_eq_true rfl⟩) hw hA (fun E9 ce9 q9 H locs hxp hw h91 h92 h93 => ?_) (fun H locs hrp2 hw => ?_)
  · rw [hQ]; exact xout hK htb hlk hw (Or.inl ⟨hxp.1, fun h => hxp.2 h.2⟩) h91 h92 h93 (Nat.le_of_ble_eq_true rfl) (Nat.le_of_ble_eq_true rfl)
  obtain ⟨hokhT1, hokhT2, hokhT3⟩ := hok b hrp2.1 hrp2.2
  obtain ⟨hT, hTw, hTe, hTn⟩ := hser b hrp2.1 (by omega)
  refine lv_astore (lv' := [(5, .ref (AD (4 + 3 * b))), (4, .ref (AD (4 + 3 * a))), (0, .ref (AD 0)), (1, .int (zI a)), (2, .int (zI b)), (3, .int (zI least))]) hx hb d_R_match_12 hl (by decide) rfl (fun ls hl => ?_)
  refine lv_iload_n hx hb d_R_match_14 rfl (lv_at hl 5 rfl) ?_
  refine zr_xcallV (vx_runS (As := [.int (zI least)]) (rest := []) ⟨hx, hb, hml, hown, hts⟩ (c_R_requireLeast l D k N AD C H.size hlt least ⟨by omega, by omega⟩) (va_cwS 1 hts (good_S wk_361 wk_362 wk_27 wk_363) rfl rfl rfl (by decide +kernel) ⟨Nat.le_of_ble_eq_true rfl, Nat.le_of_ble_eq_true rfl⟩) (xPre_S hK hw hA hxc) rfl rfl hl.1 rfl (lv_room (Nat.le_of_ble_eq_true rfl)) d_R_match_15 ⟨Nat.le_of_ble_eq_true rfl, Nat.le_of_ble_eq_true rfl⟩) hw hA (fun E9 ce9 q9 H locs hxp hw h91 h92 h93 => ?_) (fun C3 H locs hq4 hw => ?_)
  · rw [hQ]; exact xout hK htb hlk hw (Or.inr ⟨hxp.1, by omega, hxp.2⟩) h91 h92 h93 (Nat.le_of_ble_eq_true rfl) (Nat.le_of_ble_eq_true rfl)
  obtain ⟨hrq, hCe⟩ := hq4
  rw [hCe] at hw
  refine lv_aload_n hx hb d_R_match_18 rfl (lv_at hl 2 rfl) ?_
  refine zr_iconst hx hb d_R_match_19 ?_
  refine zr_put (ty := .int) (v := .int (zI 0)) hx hb hts iw_R tyR tyR_ok nmR hown hK hw 0 ⟨by omega, by omega⟩ hR rfl 4 (by decide) (hts _ wk_114) (fun _ h => h) rfl (by decide +kernel) rfl rfl (Nat.le_of_ble_eq_true rfl) d_R_match_20 (fun H locs hw => ?_)
  obtain ⟨C5, hC5⟩ : ∃ z : Int → va_E, z = zup C 0 (.inr (3, [.ref (AD 1), .ref (AD 3), .int (zI kc), .ref (AD 28), .int (zI 0), .int (zI tr), .ref (AD 76), .ref (AD 79), .ref (AD 80), .ref (AD 81)])) := ⟨_, rfl⟩
  have hw : WD D clW (wA N AD sz) s.heap H locs N AD C5 := by rw [hC5]; exact hw
  have frC5 : ∀ j : Int, j ≠ 0 → C5 j = C j := fun j h => by rw [hC5]; exact zup_n h
  have hR : C5 0 = .inr (3, [.ref (AD 1), .ref (AD 3), .int (zI kc), .ref (AD 28), .int (zI 0), .int (zI tr), .ref (AD 76), .ref (AD 79), .ref (AD 80), .ref (AD 81)]) := by rw [hC5]; exact zup_s
  have h3 : C5 3 = aQ (k 3) 8 (fun i => some (AD (4 + 3 * i))) := (frC5 _ (by omega)).trans h3
  have h28 : C5 28 = aQ (k 4) 47 (fun j => some (AD (29 + pm j))) := (frC5 _ (by omega)).trans h28
  have hP : C5 1 = .inr (1, [.ref (AD (1 + 1)), .int (zI pn)]) := (frC5 _ (by omega)).trans hP
  have hPs : C5 (1 + 1) = aI (k 0) 100 pf := (frC5 _ (by omega)).trans hPs
  have hS : C5 (4 + 3 * a) = .inr (2, [.ref (AD ((4 + 3 * a) + 1)), .ref (AD ((4 + 3 * a) + 2)), .int (zI (nn a))]) := (frC5 _ (by omega)).trans hS
  have hSw : C5 ((4 + 3 * a) + 1) = aI (k 0) 24 (ww a) := (frC5 _ (by omega)).trans hSw
  have hSe : C5 ((4 + 3 * a) + 2) = aI (k 0) 24 (ee a) := (frC5 _ (by omega)).trans hSe
  have hT : C5 (4 + 3 * b) = .inr (2, [.ref (AD ((4 + 3 * b) + 1)), .ref (AD ((4 + 3 * b) + 2)), .int (zI (nn b))]) := (frC5 _ (by omega)).trans hT
  have hTw : C5 ((4 + 3 * b) + 1) = aI (k 0) 24 (ww b) := (frC5 _ (by omega)).trans hTw
  have hTe : C5 ((4 + 3 * b) + 2) = aI (k 0) 24 (ee b) := (frC5 _ (by omega)).trans hTe
  refine zr_iconst hx hb d_R_match_23 ?_
  refine lv_aload hx hb d_R_match_24 (lv_at hl 0 rfl) ?_
  refine zr_get (v := .int (zI (nn b))) hx hb hts iw_S hown hK hw (4 + 3 * b) ⟨by omega, by omega⟩ hT rfl 2 (by decide) (hts _ wk_73) (fun _ h => h) rfl d_R_match_26 ?_
  refine zr_isub hx hb d_R_match_29 ?_
  have etr : tr = tr + ((1 - nn b) - (1 - nn b)) := by omega
  have hR : C5 0 = .inr (3, [.ref (AD 1), .ref (AD 3), .int (zI kc), .ref (AD 28), .int (zI 0), .int (zI (tr + ((1 - nn b) - (1 - nn b)))), .ref (AD 76), .ref (AD 79), .ref (AD 80), .ref (AD 81)]) := by rw [← etr]; exact hR
  refine lv_istore (lv' := [(6, .int (zI (1 - (nn b)))), (5, .ref (AD (4 + 3 * b))), (4, .ref (AD (4 + 3 * a))), (0, .ref (AD 0)), (1, .int (zI a)), (2, .int (zI b)), (3, .int (zI least))]) hx hb d_R_match_30 hl (by decide) rfl (fun ls hl => ?_)
  have lp : ∀ (n9 : Nat) (x : Int) (lx : Int) (pm1 : Int → Int) (pS1 : Int → Int) (pN1 : Int → Int) (pR1 : Int → Int) (pT1 : Int → Int) (pA1 : Int → Int) (aS : Int → Int) (aN : Int → Int) (aR : Int → Int) (aT : Int → Int) (aA : Int → Int) (C : Int → va_E) (H : Heap) (locs : List Loc) (ls : Array Slot), (1 - nn b ≤ x ∧ x ≤ nn a) → (0 ≤ lx ∧ lx ≤ x - (1 - nn b)) → (mAll (ww a) (nn a) (ww b) (nn b) least (x - (1 - nn b)).toNat = (lx, aS, aN, aR, aT, aA)) → (∀ j : Int, 0 ≤ j → j < 47 → C (29 + j) = .inr (0, [.int (zI (pS1 j)), .int (zI (pN1 j)), .int (zI (pR1 j)), .int (zI (pT1 j)), .int (zI (pA1 j))])) → (∀ j : Int, 0 ≤ j → j < 47 → 0 ≤ pm1 j ∧ pm1 j < 47) → (∀ i j : Int, 0 ≤ i → i < 47 → 0 ≤ j → j < 47 → pm1 i = pm1 j → i = j) → (∀ r : Int, 0 ≤ r → r < lx → pS1 (pm1 r) = aS r ∧ pN1 (pm1 r) = aN r ∧ pR1 (pm1 r) = aR r ∧ pT1 (pm1 r) = aT r ∧ pA1 (pm1 r) = aA r) → (∀ r : Int, 0 ≤ r → r < lx → (-24 ≤ aS r ∧ aS r ≤ 24) ∧ (0 ≤ aN r ∧ aN r ≤ 24) ∧ (-100 ≤ aR r ∧ aR r ≤ 100) ∧ (0 ≤ aT r ∧ aT r ≤ 23) ∧ (0 ≤ aA r ∧ aA r ≤ 2 * aT r)) → (∀ j : Int, ¬ (j = 0 ∨ (28 ≤ j ∧ j ≤ 75)) → C j = C0 j) → (C 0 = .inr (3, [.ref (AD 1), .ref (AD 3), .int (zI kc), .ref (AD 28), .int (zI lx), .int (zI (tr + (x - (1 - nn b)))), .ref (AD 76), .ref (AD 79), .ref (AD 80), .ref (AD 81)])) → (C 28 = aQ (k 4) 47 (fun j => some (AD (29 + pm1 j)))) → (C (4 + 3 * a) = .inr (2, [.ref (AD ((4 + 3 * a) + 1)), .ref (AD ((4 + 3 * a) + 2)), .int (zI (nn a))])) → (C ((4 + 3 * a) + 1) = aI (k 0) 24 (ww a)) → (C ((4 + 3 * a) + 2) = aI (k 0) 24 (ee a)) → (C (4 + 3 * b) = .inr (2, [.ref (AD ((4 + 3 * b) + 1)), .ref (AD ((4 + 3 * b) + 2)), .int (zI (nn b))])) → (C ((4 + 3 * b) + 1) = aI (k 0) 24 (ww b)) → (C ((4 + 3 * b) + 2) = aI (k 0) 24 (ee b)) → (nn a - x).toNat < n9 → WD D clW (wA N AD sz) s.heap H locs N AD C → lv_has ls 8 [(0, .ref (AD 0)), (1, .int (zI a)), (2, .int (zI b)), (3, .int (zI least)), (4, .ref (AD (4 + 3 * a))), (5, .ref (AD (4 + 3 * b))), (6, .int (zI x))] → W p l e rm_R_match s m args below meth c H locs 3 18 Q (F0 m 32 ls []) := by
    intro n9
    induction n9 with
    | zero => intro x lx pm1 pS1 pN1 pR1 pT1 pA1 aS aN aR aT aA C H locs ls hx1 hlx hma hov1 hpm1 hpi1 hls1 hlb1 hfr hR h28 hS hSw hSe hT hTw hTe hm hw hl; exact absurd hm (by omega)
    | succ n9 ihlp =>
      intro x lx pm1 pS1 pN1 pR1 pT1 pA1 aS aN aR aT aA C H locs ls hx1 hlx hma hov1 hpm1 hpi1 hls1 hlb1 hfr hR h28 hS hSw hSe hT hTw hTe hm hw hl
      refine lv_iload hx hb d_R_match_32 (lv_at hl 6 rfl) ?_
      refine lv_aload hx hb d_R_match_34 (lv_at hl 4 rfl) ?_
      refine zr_get (v := .int (zI (nn a))) hx hb hts iw_S hown hK hw (4 + 3 * a) ⟨by omega, by omega⟩ hS rfl 2 (by decide) (hts _ wk_73) (fun _ h => h) rfl d_R_match_36 ?_
      refine zr_icmp_ge (tgt := 114) hx hb ⟨by omega, by omega⟩ ⟨by omega, by omega⟩ d_R_match_39 (by decide) (fun c6 => ?_) (fun c6 => ?_)
      · have hxe : x = nn a := by omega
        rw [hxe] at hma
        have em : nn a - (1 - nn b) = nn a + nn b - 1 := by omega
        rw [em] at hma
        refine lv_aload_n hx hb d_R_match_114 rfl (lv_at hl 0 rfl) ?_
        refine zr_get (v := .int (zI lx)) hx hb hts iw_R hown hK hw 0 ⟨by omega, by omega⟩ hR rfl 4 (by decide) (hts _ wk_114) (fun _ h => h) rfl d_R_match_115 ?_
        exact hret _ _ _ _ _ _ 3 18 (by decide) (by decide) d_R_match_118 hw rfl ⟨by omega, lx, pm1, pS1, pN1, pR1, pT1, pA1, aS, aN, aR, aT, aA, hma, rfl, ⟨(by rw [hR, show x - (1 - nn b) = nn a + nn b - 1 by omega]), ((hfr _ (by omega)).trans (by rw [hC0]; exact hP0)), ((hfr _ (by omega)).trans (by rw [hC0]; exact hPs0)), ((hfr _ (by omega)).trans (by rw [hC0]; exact h30)), (fun i h1 h2 => by obtain ⟨a1, a2, a3, a4⟩ := hser i h1 h2; rw [← hC0] at a1 a2 a3; exact ⟨(hfr _ (by omega)).trans a1, (hfr _ (by omega)).trans a2, (hfr _ (by omega)).trans a3, a4⟩), h28, hov1, hpm1, hpi1, hls1, ((hfr _ (by omega)).trans (by rw [hC0]; exact hst)), ((hfr _ (by omega)).trans (by rw [hC0]; exact hstw)), ((hfr _ (by omega)).trans (by rw [hC0]; exact hste)), hsn, ((hfr _ (by omega)).trans (by rw [hC0]; exact hpr)), ((hfr _ (by omega)).trans (by rw [hC0]; exact hmb)), ((hfr _ (by omega)).trans (by rw [hC0]; exact hak)), hpn, hkc, (by omega), (by omega), hpf, hok, hlb1⟩, fun j hj => (hfr j (by omega)).trans (by rw [hC0])⟩
      · refine lv_aload_n hx hb d_R_match_42 rfl (lv_at hl 0 rfl) ?_
        refine zr_get (v := .int (zI lx)) hx hb hts iw_R hown hK hw 0 ⟨by omega, by omega⟩ hR rfl 4 (by decide) (hts _ wk_114) (fun _ h => h) rfl d_R_match_43 ?_
        refine lv_aload_n hx hb d_R_match_46 rfl (lv_at hl 0 rfl) ?_
        refine zr_get (v := .ref (AD 28)) hx hb hts iw_R hown hK hw 0 ⟨by omega, by omega⟩ hR rfl 3 (by decide) (hts _ wk_113) (fun _ h => h) rfl d_R_match_47 ?_
        refine zr_alen hx hb hK hw 28 ⟨by omega, by omega⟩ 4 h28 rfl d_R_match_50 ?_
        refine zr_icmp_ge (tgt := 114) hx hb ⟨by omega, by omega⟩ ⟨by omega, by omega⟩ d_R_match_51 (by decide) (fun c7 => ?_) (fun c7 => ?_)
        · exact absurd c7 (by omega)
        · refine lv_aload_n hx hb d_R_match_54 rfl (lv_at hl 0 rfl) ?_
          refine lv_dup hx hb d_R_match_55 rfl ?_
          refine zr_get (v := .int (zI (tr + (x - (1 - nn b))))) hx hb hts iw_R hown hK hw 0 ⟨by omega, by omega⟩ hR rfl 5 (by decide) (hts _ wk_115) (fun _ h => h) rfl d_R_match_56 ?_
          refine zr_iconst hx hb d_R_match_59 ?_
          refine zr_iadd hx hb d_R_match_60 ?_
          refine zr_put (ty := .int) (v := .int (zI ((tr + (x - (1 - nn b))) + 1))) hx hb hts iw_R tyR tyR_ok nmR hown hK hw 0 ⟨by omega, by omega⟩ hR rfl 5 (by decide) (hts _ wk_115) (fun _ h => h) rfl (by decide +kernel) rfl rfl (Nat.le_of_ble_eq_true rfl) d_R_match_61 (fun H locs hw => ?_)
          obtain ⟨C8, hC8⟩ : ∃ z : Int → va_E, z = zup C 0 (.inr (3, [.ref (AD 1), .ref (AD 3), .int (zI kc), .ref (AD 28), .int (zI lx), .int (zI ((tr + (x - (1 - nn b))) + 1)), .ref (AD 76), .ref (AD 79), .ref (AD 80), .ref (AD 81)])) := ⟨_, rfl⟩
          have hw : WD D clW (wA N AD sz) s.heap H locs N AD C8 := by rw [hC8]; exact hw
          have frC8 : ∀ j : Int, j ≠ 0 → C8 j = C j := fun j h => by rw [hC8]; exact zup_n h
          have hR : C8 0 = .inr (3, [.ref (AD 1), .ref (AD 3), .int (zI kc), .ref (AD 28), .int (zI lx), .int (zI ((tr + (x - (1 - nn b))) + 1)), .ref (AD 76), .ref (AD 79), .ref (AD 80), .ref (AD 81)]) := by rw [hC8]; exact zup_s
          have h28 : C8 28 = aQ (k 4) 47 (fun j => some (AD (29 + pm1 j))) := (frC8 _ (by omega)).trans h28
          have hS : C8 (4 + 3 * a) = .inr (2, [.ref (AD ((4 + 3 * a) + 1)), .ref (AD ((4 + 3 * a) + 2)), .int (zI (nn a))]) := (frC8 _ (by omega)).trans hS
          have hSw : C8 ((4 + 3 * a) + 1) = aI (k 0) 24 (ww a) := (frC8 _ (by omega)).trans hSw
          have hSe : C8 ((4 + 3 * a) + 2) = aI (k 0) 24 (ee a) := (frC8 _ (by omega)).trans hSe
          have hT : C8 (4 + 3 * b) = .inr (2, [.ref (AD ((4 + 3 * b) + 1)), .ref (AD ((4 + 3 * b) + 2)), .int (zI (nn b))]) := (frC8 _ (by omega)).trans hT
          have hTw : C8 ((4 + 3 * b) + 1) = aI (k 0) 24 (ww b) := (frC8 _ (by omega)).trans hTw
          have hTe : C8 ((4 + 3 * b) + 2) = aI (k 0) 24 (ee b) := (frC8 _ (by omega)).trans hTe
          refine lv_aload_n hx hb d_R_match_64 rfl (lv_at hl 0 rfl) ?_
          refine zr_get (v := .ref (AD 28)) hx hb hts iw_R hown hK hw 0 ⟨by omega, by omega⟩ hR rfl 3 (by decide) (hts _ wk_113) (fun _ h => h) rfl d_R_match_65 ?_
          refine lv_aload_n hx hb d_R_match_68 rfl (lv_at hl 0 rfl) ?_
          refine zr_get (v := .int (zI lx)) hx hb hts iw_R hown hK hw 0 ⟨by omega, by omega⟩ hR rfl 4 (by decide) (hts _ wk_114) (fun _ h => h) rfl d_R_match_69 ?_
          refine zr_aldq (v := AD (29 + pm1 lx)) hx hb hK hw 28 ⟨by omega, by omega⟩ 4 h28 rfl ⟨by omega, by omega⟩ (by decide) rfl d_R_match_72 ?_
          have hpl := hpm1 lx (by omega) (by omega)
          have hO : C8 (29 + pm1 lx) = .inr (0, [.int (zI (pS1 (pm1 lx))), .int (zI (pN1 (pm1 lx))), .int (zI (pR1 (pm1 lx))), .int (zI (pT1 (pm1 lx))), .int (zI (pA1 (pm1 lx)))]) := by rw [frC8 _ (by omega)]; exact hov1 _ hpl.1 hpl.2
          refine lv_astore (lv' := [(7, .ref (AD (29 + pm1 lx))), (0, .ref (AD 0)), (1, .int (zI a)), (2, .int (zI b)), (3, .int (zI least)), (4, .ref (AD (4 + 3 * a))), (5, .ref (AD (4 + 3 * b))), (6, .int (zI x))]) hx hb d_R_match_73 hl (by decide) rfl (fun ls hl => ?_)
          refine lv_aload hx hb d_R_match_75 (lv_at hl 0 rfl) ?_
          refine lv_aload hx hb d_R_match_77 (lv_at hl 5 rfl) ?_
          refine lv_aload hx hb d_R_match_79 (lv_at hl 6 rfl) ?_
          refine lv_iload hx hb d_R_match_81 (lv_at hl 7 rfl) ?_
          refine zr_callV (va_runV (As := [.ref (AD (4 + 3 * a)), .ref (AD (4 + 3 * b)), .int (zI x)]) (rest := []) ⟨hx, hb, hml, hown, hts⟩ (c_O_lay l D k N AD C8 H.size (29 + pm1 lx) (pS1 (pm1 lx)) (pN1 (pm1 lx)) (pR1 (pm1 lx)) (pT1 (pm1 lx)) (pA1 (pm1 lx)) (4 + 3 * a) (nn a) (ww a) (ee a) (4 + 3 * b) (nn b) (ww b) (ee b) x ⟨by omega, by omega⟩ hO ⟨by omega, by omega⟩ ⟨by omega, by omega⟩ hS hSw hSe ⟨by omega, by omega⟩ ⟨by omega, by omega⟩ hT hTw hTe hokhS2 hokhT2 hokhS3 hokhT3 (by omega) (by omega) (by omega)) (cwV 3 hts (good_V wk_365 wk_366 wk_367 wk_30 wk_368) rfl rfl rfl (by decide +kernel) ⟨Nat.le_of_ble_eq_true rfl, Nat.le_of_ble_eq_true rfl⟩) (cPre_V hK hw (29 + pm1 lx) ⟨by omega, by omega⟩ hO rfl) rfl rfl hl.1 rfl (lv_room (Nat.le_of_ble_eq_true rfl)) d_R_match_83 ⟨Nat.le_of_ble_eq_true rfl, Nat.le_of_ble_eq_true rfl⟩) hw hA (fun C9 H locs hq10 hw => ?_)
          obtain ⟨hq10a, frC9⟩ := hq10
          have hR : C9 0 = .inr (3, [.ref (AD 1), .ref (AD 3), .int (zI kc), .ref (AD 28), .int (zI lx), .int (zI ((tr + (x - (1 - nn b))) + 1)), .ref (AD 76), .ref (AD 79), .ref (AD 80), .ref (AD 81)]) := (frC9 _ (by omega)).trans hR
          have h28 : C9 28 = aQ (k 4) 47 (fun j => some (AD (29 + pm1 j))) := (frC9 _ (by omega)).trans h28
          have hS : C9 (4 + 3 * a) = .inr (2, [.ref (AD ((4 + 3 * a) + 1)), .ref (AD ((4 + 3 * a) + 2)), .int (zI (nn a))]) := (frC9 _ (by omega)).trans hS
          have hSw : C9 ((4 + 3 * a) + 1) = aI (k 0) 24 (ww a) := (frC9 _ (by omega)).trans hSw
          have hSe : C9 ((4 + 3 * a) + 2) = aI (k 0) 24 (ee a) := (frC9 _ (by omega)).trans hSe
          have hT : C9 (4 + 3 * b) = .inr (2, [.ref (AD ((4 + 3 * b) + 1)), .ref (AD ((4 + 3 * b) + 2)), .int (zI (nn b))]) := (frC9 _ (by omega)).trans hT
          have hTw : C9 ((4 + 3 * b) + 1) = aI (k 0) 24 (ww b) := (frC9 _ (by omega)).trans hTw
          have hTe : C9 ((4 + 3 * b) + 2) = aI (k 0) 24 (ee b) := (frC9 _ (by omega)).trans hTe
          have hO : C9 (29 + pm1 lx) = .inr (0, [.int (zI x), .int (zI (ovN (ww a) (nn a) (ww b) (nn b) x)), .int (zI (ovC (ww a) (nn a) (ww b) (nn b) x)), .int (zI (pT1 (pm1 lx))), .int (zI (pA1 (pm1 lx)))]) := hq10a
          have hNi := ovN_in (w1 := ww a) (w2 := ww b) (a := x) hSn hTn
          have hCi : -100 ≤ ovC (ww a) (nn a) (ww b) (nn b) x ∧ ovC (ww a) (nn a) (ww b) (nn b) x ≤ 100 := corrF_in _ _ _
          refine lv_aload hx hb d_R_match_86 (lv_at hl 0 rfl) ?_
          refine zr_get (v := .int (zI (ovN (ww a) (nn a) (ww b) (nn b) x))) hx hb hts iw_O hown hK hw (29 + pm1 lx) ⟨by omega, by omega⟩ hO rfl 1 (by decide) (hts _ wk_92) (fun _ h => h) rfl d_R_match_88 ?_
          refine lv_iload_n hx hb d_R_match_91 rfl (lv_at hl 4 rfl) ?_
          refine zr_icmp_lt (tgt := 108) hx hb ⟨by omega, by omega⟩ ⟨by omega, by omega⟩ d_R_match_92 (by decide) (fun c11 => ?_) (fun c11 => ?_)
          · have hma2 : mAll (ww a) (nn a) (ww b) (nn b) least (x + 1 - (1 - nn b)).toNat = (lx, aS, aN, aR, aT, aA) := by rw [mAll_step _ _ _ _ _ hx1.1, hma]; exact if_neg (by omega)
            have hov2 : ∀ j : Int, 0 ≤ j → j < 47 → C9 (29 + j) = .inr (0, [.int (zI (zup pS1 (pm1 lx) x j)), .int (zI (zup pN1 (pm1 lx) (ovN (ww a) (nn a) (ww b) (nn b) x) j)), .int (zI (zup pR1 (pm1 lx) (ovC (ww a) (nn a) (ww b) (nn b) x) j)), .int (zI (zup pT1 (pm1 lx) (pT1 (pm1 lx)) j)), .int (zI (zup pA1 (pm1 lx) (pA1 (pm1 lx)) j))]) := by
              intro j h1 h2
              by_cases hj : j = pm1 lx
              · rw [hj, zup_s, zup_s, zup_s, zup_s, zup_s]; exact hO
              · rw [zup_n hj, zup_n hj, zup_n hj, zup_n hj, zup_n hj]
                rw [frC9 _ (by omega), frC8 _ (by omega)]; exact hov1 j h1 h2
            have hls2 : ∀ r : Int, 0 ≤ r → r < lx → zup pS1 (pm1 lx) x (pm1 r) = aS r ∧ zup pN1 (pm1 lx) (ovN (ww a) (nn a) (ww b) (nn b) x) (pm1 r) = aN r ∧ zup pR1 (pm1 lx) (ovC (ww a) (nn a) (ww b) (nn b) x) (pm1 r) = aR r ∧ zup pT1 (pm1 lx) (pT1 (pm1 lx)) (pm1 r) = aT r ∧ zup pA1 (pm1 lx) (pA1 (pm1 lx)) (pm1 r) = aA r := by
              intro r h1 h2
              have hne : pm1 r ≠ pm1 lx := fun e9 => by have := hpi1 r lx h1 (by omega) (by omega) (by omega) e9; omega
              rw [zup_n hne, zup_n hne, zup_n hne, zup_n hne, zup_n hne]; exact hls1 r h1 h2
            have hR : C9 0 = .inr (3, [.ref (AD 1), .ref (AD 3), .int (zI kc), .ref (AD 28), .int (zI lx), .int (zI (tr + (x + 1 - (1 - nn b)))), .ref (AD 76), .ref (AD 79), .ref (AD 80), .ref (AD 81)]) := by rw [show tr + (x + 1 - (1 - nn b)) = tr + (x - (1 - nn b)) + 1 by omega]; exact hR
            refine lv_iinc (v := zI (x + 1)) (lv' := [(6, .int (zI (x + 1))), (7, .ref (AD (29 + pm1 lx))), (0, .ref (AD 0)), (1, .int (zI a)), (2, .int (zI b)), (3, .int (zI least)), (4, .ref (AD (4 + 3 * a))), (5, .ref (AD (4 + 3 * b)))]) hx hb d_R_match_108 hl (k := 7) rfl (zI_add _ _) (by decide) rfl (fun ls hl => ?_)
            refine lv_goto (tgt := 32) hx hb d_R_match_111 (by decide) ?_
            exact ihlp (x + 1) lx pm1 (zup pS1 (pm1 lx) x) (zup pN1 (pm1 lx) (ovN (ww a) (nn a) (ww b) (nn b) x)) (zup pR1 (pm1 lx) (ovC (ww a) (nn a) (ww b) (nn b) x)) (zup pT1 (pm1 lx) (pT1 (pm1 lx))) (zup pA1 (pm1 lx) (pA1 (pm1 lx))) aS aN aR aT aA C9 H locs ls (by omega) (by omega) hma2 hov2 hpm1 hpi1 hls2 hlb1 (fun j hj => by rw [frC9 _ (by omega), frC8 _ (by omega)]; exact hfr j hj) hR h28 hS hSw hSe hT hTw hTe (by omega) hw (lv_sub hl [2, 3, 4, 5, 6, 7, 0] rfl)
          · refine lv_aload hx hb d_R_match_95 (lv_at hl 0 rfl) ?_
            refine lv_aload hx hb d_R_match_97 (lv_at hl 5 rfl) ?_
            refine lv_aload hx hb d_R_match_99 (lv_at hl 6 rfl) ?_
            refine zr_callV (va_runV (As := [.ref (AD (4 + 3 * a)), .ref (AD (4 + 3 * b))]) (rest := []) ⟨hx, hb, hml, hown, hts⟩ (c_O_compareRises l D k N AD C9 H.size (29 + pm1 lx) x (ovN (ww a) (nn a) (ww b) (nn b) x) (ovC (ww a) (nn a) (ww b) (nn b) x) (pT1 (pm1 lx)) (pA1 (pm1 lx)) (4 + 3 * a) (nn a) (ww a) (ee a) (4 + 3 * b) (nn b) (ww b) (ee b) ⟨by omega, by omega⟩ hO ⟨by omega, by omega⟩ ⟨by omega, by omega⟩ hS hSw hSe ⟨by omega, by omega⟩ ⟨by omega, by omega⟩ hT hTw hTe hokhS2 hokhT2 (by omega) (by omega) (by omega)) (cwV 2 hts (good_V wk_378 wk_379 wk_380 wk_30 wk_381) rfl rfl rfl (by decide +kernel) ⟨Nat.le_of_ble_eq_true rfl, Nat.le_of_ble_eq_true rfl⟩) (cPre_V hK hw (29 + pm1 lx) ⟨by omega, by omega⟩ hO rfl) rfl rfl hl.1 rfl (lv_room (Nat.le_of_ble_eq_true rfl)) d_R_match_101 ⟨Nat.le_of_ble_eq_true rfl, Nat.le_of_ble_eq_true rfl⟩) hw hA (fun C12 H locs hq13 hw => ?_)
            obtain ⟨hq13a, frC12⟩ := hq13
            have hR : C12 0 = .inr (3, [.ref (AD 1), .ref (AD 3), .int (zI kc), .ref (AD 28), .int (zI lx), .int (zI ((tr + (x - (1 - nn b))) + 1)), .ref (AD 76), .ref (AD 79), .ref (AD 80), .ref (AD 81)]) := (frC12 _ (by omega)).trans hR
            have h28 : C12 28 = aQ (k 4) 47 (fun j => some (AD (29 + pm1 j))) := (frC12 _ (by omega)).trans h28
            have hS : C12 (4 + 3 * a) = .inr (2, [.ref (AD ((4 + 3 * a) + 1)), .ref (AD ((4 + 3 * a) + 2)), .int (zI (nn a))]) := (frC12 _ (by omega)).trans hS
            have hSw : C12 ((4 + 3 * a) + 1) = aI (k 0) 24 (ww a) := (frC12 _ (by omega)).trans hSw
            have hSe : C12 ((4 + 3 * a) + 2) = aI (k 0) 24 (ee a) := (frC12 _ (by omega)).trans hSe
            have hT : C12 (4 + 3 * b) = .inr (2, [.ref (AD ((4 + 3 * b) + 1)), .ref (AD ((4 + 3 * b) + 2)), .int (zI (nn b))]) := (frC12 _ (by omega)).trans hT
            have hTw : C12 ((4 + 3 * b) + 1) = aI (k 0) 24 (ww b) := (frC12 _ (by omega)).trans hTw
            have hTe : C12 ((4 + 3 * b) + 2) = aI (k 0) 24 (ee b) := (frC12 _ (by omega)).trans hTe
            have hO : C12 (29 + pm1 lx) = .inr (0, [.int (zI x), .int (zI (ovN (ww a) (nn a) (ww b) (nn b) x)), .int (zI (ovC (ww a) (nn a) (ww b) (nn b) x)), .int (zI (ovR (ww a) (nn a) (ww b) (nn b) x)), .int (zI (ovA (ww a) (nn a) (ww b) (nn b) x))]) := hq13a
            refine lv_aload_n hx hb d_R_match_104 rfl (lv_at hl 1 rfl) ?_
            have hov2 : ∀ j : Int, 0 ≤ j → j < 47 → C12 (29 + j) = .inr (0, [.int (zI (zup pS1 (pm1 lx) x j)), .int (zI (zup pN1 (pm1 lx) (ovN (ww a) (nn a) (ww b) (nn b) x) j)), .int (zI (zup pR1 (pm1 lx) (ovC (ww a) (nn a) (ww b) (nn b) x) j)), .int (zI (zup pT1 (pm1 lx) (ovR (ww a) (nn a) (ww b) (nn b) x) j)), .int (zI (zup pA1 (pm1 lx) (ovA (ww a) (nn a) (ww b) (nn b) x) j))]) := by
              intro j h1 h2
              by_cases hj : j = pm1 lx
              · rw [hj, zup_s, zup_s, zup_s, zup_s, zup_s]; exact hO
              · rw [zup_n hj, zup_n hj, zup_n hj, zup_n hj, zup_n hj]
                rw [frC12 _ (by omega), frC9 _ (by omega), frC8 _ (by omega)]; exact hov1 j h1 h2
            have hls3 : ∀ r : Int, 0 ≤ r → r < lx → zup pS1 (pm1 lx) x (pm1 r) = aS r ∧ zup pN1 (pm1 lx) (ovN (ww a) (nn a) (ww b) (nn b) x) (pm1 r) = aN r ∧ zup pR1 (pm1 lx) (ovC (ww a) (nn a) (ww b) (nn b) x) (pm1 r) = aR r ∧ zup pT1 (pm1 lx) (ovR (ww a) (nn a) (ww b) (nn b) x) (pm1 r) = aT r ∧ zup pA1 (pm1 lx) (ovA (ww a) (nn a) (ww b) (nn b) x) (pm1 r) = aA r := by
              intro r h1 h2
              have hne : pm1 r ≠ pm1 lx := fun e9 => by have := hpi1 r lx h1 (by omega) (by omega) (by omega) e9; omega
              rw [zup_n hne, zup_n hne, zup_n hne, zup_n hne, zup_n hne]; exact hls1 r h1 h2
            have hRi := ovR_in (w1 := ww a) (w2 := ww b) (a := x) hSn hTn
            have hAi := ovA_in (ww a) (ww b) (nn a) (nn b) x
            have hbd9 : ∀ r : Int, 0 ≤ r → r ≤ lx → (inI ((zup pN1 (pm1 lx) (ovN (ww a) (nn a) (ww b) (nn b) x)) (pm1 r)) ∧ inI ((zup pR1 (pm1 lx) (ovC (ww a) (nn a) (ww b) (nn b) x)) (pm1 r))) := by
              intro r h1 h2
              by_cases hr : r = lx
              · rw [hr, zup_s, zup_s]; exact ⟨⟨by omega, by omega⟩, ⟨by omega, by omega⟩⟩
              · obtain ⟨_, g2, g3, _, _⟩ := hls3 r h1 (by omega)
                have hb9 := hlb1 r h1 (by omega)
                rw [g2, g3]; exact ⟨⟨by omega, by omega⟩, ⟨by omega, by omega⟩⟩
            refine zr_callV (va_runV (As := []) (rest := []) ⟨hx, hb, hml, hown, hts⟩ (c_R_rankNewest l D k N AD C12 H.size kc lx (tr + (x - (1 - nn b)) + 1) pm1 (zup pS1 (pm1 lx) x) (zup pN1 (pm1 lx) (ovN (ww a) (nn a) (ww b) (nn b) x)) (zup pR1 (pm1 lx) (ovC (ww a) (nn a) (ww b) (nn b) x)) (zup pT1 (pm1 lx) (ovR (ww a) (nn a) (ww b) (nn b) x)) (zup pA1 (pm1 lx) (ovA (ww a) (nn a) (ww b) (nn b) x)) hN (by omega) hR h28 hov2 hpm1 hbd9) (cwV 0 hts (good_V wk_393 wk_395 wk_5 wk_27 wk_396) rfl rfl rfl (by decide +kernel) ⟨Nat.le_of_ble_eq_true rfl, Nat.le_of_ble_eq_true rfl⟩) (cPre_V hK hw 0 ⟨by omega, by omega⟩ hR rfl) rfl rfl hl.1 rfl (lv_room (Nat.le_of_ble_eq_true rfl)) d_R_match_105 ⟨Nat.le_of_ble_eq_true rfl, Nat.le_of_ble_eq_true rfl⟩) hw hA (fun C14 H locs hq15 hw => ?_)
            obtain ⟨hq15a, hq15b, frC140⟩ := hq15
            have frC14 : ∀ j : Int, ¬ (j = 0 ∨ j = 28) → C14 j = C12 j := fun j hj => frC140 j (by omega) (by omega)
            obtain ⟨K9, hK9⟩ : ∃ z, z = insK aN aR (ovN (ww a) (nn a) (ww b) (nn b) x) (ovC (ww a) (nn a) (ww b) (nn b) x) lx.toNat := ⟨_, rfl⟩
            have hKe : insK (fun r => (zup pN1 (pm1 lx) (ovN (ww a) (nn a) (ww b) (nn b) x)) (pm1 r)) (fun r => (zup pR1 (pm1 lx) (ovC (ww a) (nn a) (ww b) (nn b) x)) (pm1 r)) ((zup pN1 (pm1 lx) (ovN (ww a) (nn a) (ww b) (nn b) x)) (pm1 lx)) ((zup pR1 (pm1 lx) (ovC (ww a) (nn a) (ww b) (nn b) x)) (pm1 lx)) lx.toNat = K9 := by
              rw [zup_s, zup_s, hK9]; exact insK_eq _ (fun r h1 h2 => ⟨(hls3 r h1 (by omega)).2.1, (hls3 r h1 (by omega)).2.2.1⟩)
            rw [hKe] at hq15b
            have hKi : 0 ≤ K9 ∧ K9 ≤ lx := by rw [hK9]; have := insK_in (oN := aN) (oR := aR) (n := ovN (ww a) (nn a) (ww b) (nn b) x) (c := ovC (ww a) (nn a) (ww b) (nn b) x) lx.toNat; omega
            have hR : C14 0 = .inr (3, [.ref (AD 1), .ref (AD 3), .int (zI kc), .ref (AD 28), .int (zI (lx + 1)), .int (zI (tr + (x - (1 - nn b)) + 1)), .ref (AD 76), .ref (AD 79), .ref (AD 80), .ref (AD 81)]) := hq15a
            have h28 : C14 28 = aQ (k 4) 47 (fun j => some (AD (29 + (insP pm1 K9 lx) j))) := hq15b
            have hS : C14 (4 + 3 * a) = .inr (2, [.ref (AD ((4 + 3 * a) + 1)), .ref (AD ((4 + 3 * a) + 2)), .int (zI (nn a))]) := (frC14 _ (by omega)).trans hS
            have hSw : C14 ((4 + 3 * a) + 1) = aI (k 0) 24 (ww a) := (frC14 _ (by omega)).trans hSw
            have hSe : C14 ((4 + 3 * a) + 2) = aI (k 0) 24 (ee a) := (frC14 _ (by omega)).trans hSe
            have hT : C14 (4 + 3 * b) = .inr (2, [.ref (AD ((4 + 3 * b) + 1)), .ref (AD ((4 + 3 * b) + 2)), .int (zI (nn b))]) := (frC14 _ (by omega)).trans hT
            have hTw : C14 ((4 + 3 * b) + 1) = aI (k 0) 24 (ww b) := (frC14 _ (by omega)).trans hTw
            have hTe : C14 ((4 + 3 * b) + 2) = aI (k 0) 24 (ee b) := (frC14 _ (by omega)).trans hTe
            have hO : C14 (29 + pm1 lx) = .inr (0, [.int (zI x), .int (zI (ovN (ww a) (nn a) (ww b) (nn b) x)), .int (zI (ovC (ww a) (nn a) (ww b) (nn b) x)), .int (zI (ovR (ww a) (nn a) (ww b) (nn b) x)), .int (zI (ovA (ww a) (nn a) (ww b) (nn b) x))]) := (frC14 _ (by omega)).trans hO
            have hov2 : ∀ j : Int, 0 ≤ j → j < 47 → C14 (29 + j) = .inr (0, [.int (zI ((zup pS1 (pm1 lx) x) j)), .int (zI ((zup pN1 (pm1 lx) (ovN (ww a) (nn a) (ww b) (nn b) x)) j)), .int (zI ((zup pR1 (pm1 lx) (ovC (ww a) (nn a) (ww b) (nn b) x)) j)), .int (zI ((zup pT1 (pm1 lx) (ovR (ww a) (nn a) (ww b) (nn b) x)) j)), .int (zI ((zup pA1 (pm1 lx) (ovA (ww a) (nn a) (ww b) (nn b) x)) j))]) := fun j h1 h2 => by rw [frC14 _ (by omega)]; exact hov2 j h1 h2
            have hma2 : mAll (ww a) (nn a) (ww b) (nn b) least (x + 1 - (1 - nn b)).toNat = (lx + 1, insF aS K9 x, insF aN K9 (ovN (ww a) (nn a) (ww b) (nn b) x), insF aR K9 (ovC (ww a) (nn a) (ww b) (nn b) x), insF aT K9 (ovR (ww a) (nn a) (ww b) (nn b) x), insF aA K9 (ovA (ww a) (nn a) (ww b) (nn b) x)) := by
              rw [mAll_step _ _ _ _ _ hx1.1, hma, hK9]; exact if_pos (by omega)
            have hpm2 : ∀ j : Int, 0 ≤ j → j < 47 → 0 ≤ insP pm1 K9 lx j ∧ insP pm1 K9 lx j < 47 := fun j h1 h2 => by rw [insP_I]; have := insI_in hKi (by omega) ⟨h1, h2⟩; exact hpm1 _ this.1 this.2
            have hpi2 : ∀ i j : Int, 0 ≤ i → i < 47 → 0 ≤ j → j < 47 → insP pm1 K9 lx i = insP pm1 K9 lx j → i = j := fun i j h1 h2 h3 h4 e9 => by
              rw [insP_I, insP_I] at e9
              have g1 := insI_in hKi (by omega) ⟨h1, h2⟩
              have g2 := insI_in hKi (by omega) ⟨h3, h4⟩
              exact insI_inj hKi (hpi1 _ _ g1.1 g1.2 g2.1 g2.2 e9)
            have hls2 : ∀ r : Int, 0 ≤ r → r < lx + 1 → (zup pS1 (pm1 lx) x) (insP pm1 K9 lx r) = insF aS K9 x r ∧ (zup pN1 (pm1 lx) (ovN (ww a) (nn a) (ww b) (nn b) x)) (insP pm1 K9 lx r) = insF aN K9 (ovN (ww a) (nn a) (ww b) (nn b) x) r ∧ (zup pR1 (pm1 lx) (ovC (ww a) (nn a) (ww b) (nn b) x)) (insP pm1 K9 lx r) = insF aR K9 (ovC (ww a) (nn a) (ww b) (nn b) x) r ∧ (zup pT1 (pm1 lx) (ovR (ww a) (nn a) (ww b) (nn b) x)) (insP pm1 K9 lx r) = insF aT K9 (ovR (ww a) (nn a) (ww b) (nn b) x) r ∧ (zup pA1 (pm1 lx) (ovA (ww a) (nn a) (ww b) (nn b) x)) (insP pm1 K9 lx r) = insF aA K9 (ovA (ww a) (nn a) (ww b) (nn b) x) r := fun r h1 h2 => ⟨insF_I (pf := (zup pS1 (pm1 lx) x)) hKi (fun r a9 b9 => (hls3 r a9 b9).1) zup_s r h1 h2, insF_I (pf := (zup pN1 (pm1 lx) (ovN (ww a) (nn a) (ww b) (nn b) x))) hKi (fun r a9 b9 => (hls3 r a9 b9).2.1) zup_s r h1 h2, insF_I (pf := (zup pR1 (pm1 lx) (ovC (ww a) (nn a) (ww b) (nn b) x))) hKi (fun r a9 b9 => (hls3 r a9 b9).2.2.1) zup_s r h1 h2, insF_I (pf := (zup pT1 (pm1 lx) (ovR (ww a) (nn a) (ww b) (nn b) x))) hKi (fun r a9 b9 => (hls3 r a9 b9).2.2.2.1) zup_s r h1 h2, insF_I (pf := (zup pA1 (pm1 lx) (ovA (ww a) (nn a) (ww b) (nn b) x))) hKi (fun r a9 b9 => (hls3 r a9 b9).2.2.2.2) zup_s r h1 h2⟩
            have hlb2 : ∀ r : Int, 0 ≤ r → r < lx + 1 → (-24 ≤ insF aS K9 x r ∧ insF aS K9 x r ≤ 24) ∧ (0 ≤ insF aN K9 (ovN (ww a) (nn a) (ww b) (nn b) x) r ∧ insF aN K9 (ovN (ww a) (nn a) (ww b) (nn b) x) r ≤ 24) ∧ (-100 ≤ insF aR K9 (ovC (ww a) (nn a) (ww b) (nn b) x) r ∧ insF aR K9 (ovC (ww a) (nn a) (ww b) (nn b) x) r ≤ 100) ∧ (0 ≤ insF aT K9 (ovR (ww a) (nn a) (ww b) (nn b) x) r ∧ insF aT K9 (ovR (ww a) (nn a) (ww b) (nn b) x) r ≤ 23) ∧ (0 ≤ insF aA K9 (ovA (ww a) (nn a) (ww b) (nn b) x) r ∧ insF aA K9 (ovA (ww a) (nn a) (ww b) (nn b) x) r ≤ 2 * insF aT K9 (ovR (ww a) (nn a) (ww b) (nn b) x) r) := fun r h1 h2 =>
              ⟨insF_R (R := fun z => -24 ≤ z ∧ z ≤ 24) hKi (fun r a9 b9 => (hlb1 r a9 b9).1) (by omega) r h1 h2, insF_R (R := fun z => 0 ≤ z ∧ z ≤ 24) hKi (fun r a9 b9 => (hlb1 r a9 b9).2.1) hNi r h1 h2, insF_R (R := fun z => -100 ≤ z ∧ z ≤ 100) hKi (fun r a9 b9 => (hlb1 r a9 b9).2.2.1) hCi r h1 h2, insF_R (R := fun z => 0 ≤ z ∧ z ≤ 23) hKi (fun r a9 b9 => (hlb1 r a9 b9).2.2.2.1) hRi r h1 h2, insF_R2 (R := fun z y => 0 ≤ z ∧ z ≤ 2 * y) hKi (fun r a9 b9 => (hlb1 r a9 b9).2.2.2.2) hAi r h1 h2⟩
            have hR : C14 0 = .inr (3, [.ref (AD 1), .ref (AD 3), .int (zI kc), .ref (AD 28), .int (zI (lx + 1)), .int (zI (tr + (x + 1 - (1 - nn b)))), .ref (AD 76), .ref (AD 79), .ref (AD 80), .ref (AD 81)]) := by rw [show tr + (x + 1 - (1 - nn b)) = tr + (x - (1 - nn b)) + 1 by omega]; exact hR
            refine lv_iinc (v := zI (x + 1)) (lv' := [(6, .int (zI (x + 1))), (7, .ref (AD (29 + pm1 lx))), (0, .ref (AD 0)), (1, .int (zI a)), (2, .int (zI b)), (3, .int (zI least)), (4, .ref (AD (4 + 3 * a))), (5, .ref (AD (4 + 3 * b)))]) hx hb d_R_match_108 hl (k := 7) rfl (zI_add _ _) (by decide) rfl (fun ls hl => ?_)
            refine lv_goto (tgt := 32) hx hb d_R_match_111 (by decide) ?_
            exact ihlp (x + 1) (lx + 1) (insP pm1 K9 lx) (zup pS1 (pm1 lx) x) (zup pN1 (pm1 lx) (ovN (ww a) (nn a) (ww b) (nn b) x)) (zup pR1 (pm1 lx) (ovC (ww a) (nn a) (ww b) (nn b) x)) (zup pT1 (pm1 lx) (ovR (ww a) (nn a) (ww b) (nn b) x)) (zup pA1 (pm1 lx) (ovA (ww a) (nn a) (ww b) (nn b) x)) (insF aS K9 x) (insF aN K9 (ovN (ww a) (nn a) (ww b) (nn b) x)) (insF aR K9 (ovC (ww a) (nn a) (ww b) (nn b) x)) (insF aT K9 (ovR (ww a) (nn a) (ww b) (nn b) x)) (insF aA K9 (ovA (ww a) (nn a) (ww b) (nn b) x)) C14 H locs ls (by omega) (by omega) hma2 hov2 hpm2 hpi2 hls2 hlb2 (fun j hj => by rw [frC14 _ (by omega), frC12 _ (by omega), frC9 _ (by omega), frC8 _ (by omega)]; exact hfr j hj) hR h28 hS hSw hSe hT hTw hTe (by omega) hw (lv_sub hl [2, 3, 4, 5, 6, 7, 0] rfl)
  exact lp ((nn a - (1 - nn b) : Int).toNat + 1) (1 - nn b) 0 pm pS pN pR pT pA (fun _ => 0) (fun _ => 0) (fun _ => 0) (fun _ => 0) (fun _ => 0) C5 H locs ls (by omega) (by omega) (by rw [Int.sub_self]; rfl) (fun j h1 h2 => by rw [frC5 _ (by omega)]; exact hov j h1 h2) hpm hpi (fun r h1 h2 => absurd h2 (by omega)) (fun r h1 h2 => absurd h2 (by omega)) (fun j hj => by rw [frC5 _ (by omega), hC0]) hR h28 hS hSw hSe hT hTw hTe (by omega) hw (lv_sub hl [3, 4, 5, 6, 2, 1, 0] rfl)
