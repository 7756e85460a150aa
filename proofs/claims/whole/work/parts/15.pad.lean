/-- the q-th eight bits of a, the lowest first -/
def bq (q : Int) : Int := if q = 0 then 1 else if q = 1 then 256 else if q = 2 then 65536 else 16777216
def byt (a q : Int) : Int := a / bq q % 256
theorem byt_in (a q : Int) : 0 ≤ byt a q ∧ byt a q < 256 := by unfold byt; omega
theorem byt_nat {a q : Int} (hq : 0 ≤ q ∧ q < 4) : (((a % 4294967296).toNat / 2 ^ (8 * q.toNat) % 256 : Nat) : Int) = byt a q := by
  rcases (show q = 0 ∨ q = 1 ∨ q = 2 ∨ q = 3 by omega) with rfl | rfl | rfl | rfl
  · show (((a % 4294967296).toNat / 1 % 256 : Nat) : Int) = a / 1 % 256
    omega
  · show (((a % 4294967296).toNat / 256 % 256 : Nat) : Int) = a / 256 % 256
    omega
  · show (((a % 4294967296).toNat / 65536 % 256 : Nat) : Int) = a / 65536 % 256
    omega
  · show (((a % 4294967296).toNat / 16777216 % 256 : Nat) : Int) = a / 16777216 % 256
    omega
theorem byt_is {a q : Int} (hq : 0 ≤ q ∧ q < 4) : ((zI a).toUInt32 >>> ((zI (8 * q)).toUInt32 &&& Int32.toUInt32 31)).toInt32 &&& zI 255 = zI (byt a q) := by
  have h1 : ((zI a).toUInt32 >>> ((zI (8 * q)).toUInt32 &&& Int32.toUInt32 31)).toInt32.toBitVec.toNat = (zI a).toBitVec.toNat / 2 ^ (8 * q.toNat) := by
    apply pk_ushr
    rcases (show q = 0 ∨ q = 1 ∨ q = 2 ∨ q = 3 by omega) with rfl | rfl | rfl | rfl <;> decide +kernel
  rw [pk_and _ 8 (by decide +kernel), h1]
  have h2 : (zI a).toBitVec.toNat = (a % 4294967296).toNat := by
    show (BitVec.ofInt 32 a).toNat = _
    rw [BitVec.toNat_ofInt]
    rfl
  rw [h2, ← byt_nat hq]
  exact (Int32.ofInt_eq_ofNat).symm
section ZB
variable {p : Program} {l : Launch} {e : Env} {R : Room} {s : State} {m : MethodId} {args : Array Value} {below : List Frame} {meth : Method} {c : Code} {H : Heap} {locs : List Loc} {cells slots : Nat} {Q : State → Prop} {cc : ByteArray} {pc : Nat} {ls : Array Slot} {rest : List Value}
theorem zr_byte (hx : p.tables.exec = Jvm.exec) (hb : c.code = cc) {a q : Int} (hq : 0 ≤ q ∧ q < 4) (hd0 : decode cc pc = .ok (.iushr, 1)) (hd1 : decode cc (pc + 1) = .ok (.sipush 255, 3)) (hd2 : decode cc (pc + 1 + 3) = .ok (.iand, 1)) (k : W p l e R s m args below meth c H locs cells slots Q (F0 m (pc + 1 + 3 + 1) ls (.int (zI (byt a q)) :: rest))) : W p l e R s m args below meth c H locs cells slots Q (F0 m pc ls (.int (zI (8 * q)) :: .int (zI a) :: rest)) :=
  lv_iushr hx hb hd0 rfl (zr_sipush hx hb hd1 (by decide) (lv_iand hx hb hd2 (by rw [byt_is hq]; exact k)))
end ZB
/-- a sign of a pad, or none -/
def okB (s : Int) : Prop := s = 0 ∨ (32 ≤ s ∧ s ≤ 126)
def TK (a : Int) : Prop := ∀ q : Int, 0 ≤ q → q < 4 → okB (byt a q)
def nzT (a q : Int) : Int := if byt a q = 0 then 0 else 1
theorem nzT_in (a q : Int) : 0 ≤ nzT a q ∧ nzT a q ≤ 1 := by unfold nzT; split <;> omega
def nz (a : Int) : Int := sumR (nzT a) 0 4
theorem sumR_le {f : Int → Int} {lo : Int} (h : ∀ x, 0 ≤ f x) : ∀ (m d : Nat), sumR f lo m ≤ sumR f lo (m + d) := by
  intro m d
  induction d with
  | zero => exact Int.le_refl _
  | succ d ih =>
    have h1 : sumR f lo (m + (d + 1)) = sumR f lo (m + d) + f (lo + ((m + d : Nat) : Int)) := rfl
    have h2 := h (lo + ((m + d : Nat) : Int))
    omega
theorem sumR_nn {f : Int → Int} {lo : Int} (h : ∀ x, 0 ≤ f x) (m : Nat) : 0 ≤ sumR f lo m := by
  have := sumR_le (lo := lo) h 0 m
  rw [Nat.zero_add] at this
  exact this
theorem nz_le (a : Int) {q : Int} (h : 0 ≤ q ∧ q ≤ 4) : 0 ≤ sumR (nzT a) 0 (q - 0).toNat ∧ sumR (nzT a) 0 (q - 0).toNat ≤ nz a := by
  refine ⟨sumR_nn (fun x => (nzT_in a x).1) _, ?_⟩
  have := sumR_le (lo := 0) (fun x => (nzT_in a x).1) (q - 0).toNat (4 - (q - 0).toNat)
  rw [show (q - 0).toNat + (4 - (q - 0).toNat) = 4 by omega] at this
  exact this
theorem nz_in (a : Int) : 0 ≤ nz a ∧ nz a ≤ 4 := by
  have h0 := nzT_in a 0; have h1 := nzT_in a 1; have h2 := nzT_in a 2; have h3 := nzT_in a 3
  have e : nz a = 0 + nzT a (0 + ((0 : Nat) : Int)) + nzT a (0 + ((1 : Nat) : Int)) + nzT a (0 + ((2 : Nat) : Int)) + nzT a (0 + ((3 : Nat) : Int)) := rfl
  have e0 : (0 : Int) + ((0 : Nat) : Int) = 0 := rfl
  have e1 : (0 : Int) + ((1 : Nat) : Int) = 1 := rfl
  have e2 : (0 : Int) + ((2 : Nat) : Int) = 2 := rfl
  have e3 : (0 : Int) + ((3 : Nat) : Int) = 3 := rfl
  rw [e0, e1, e2, e3] at e
  omega
/-- a pad's signs when m of the four of a have come behind n signs -/
def padF (f : Int → Int) (n a : Int) : Nat → Int → Int
  | 0 => f
  | m + 1 => if byt a (m : Int) = 0 then padF f n a m else zup (padF f n a m) (n + sumR (nzT a) 0 m) (byt a (m : Int))
theorem padF_t {f : Int → Int} {n a x : Int} (hx : 0 ≤ x) (h : byt a x = 0) : padF f n a (x + 1).toNat = padF f n a x.toNat := by
  have e1 : (x + 1).toNat = x.toNat + 1 := by omega
  have e2 : ((x.toNat : Nat) : Int) = x := by omega
  rw [e1]
  show (if byt a ((x.toNat : Nat) : Int) = 0 then _ else _) = _
  rw [e2, if_pos h]
theorem padF_f {f : Int → Int} {n a x : Int} (hx : 0 ≤ x) (h : ¬ byt a x = 0) : padF f n a (x + 1).toNat = zup (padF f n a x.toNat) (n + sumR (nzT a) 0 (x - 0).toNat) (byt a x) := by
  have e1 : (x + 1).toNat = x.toNat + 1 := by omega
  have e2 : ((x.toNat : Nat) : Int) = x := by omega
  have e3 : (x - 0).toNat = x.toNat := by omega
  rw [e1, e3]
  show (if byt a ((x.toNat : Nat) : Int) = 0 then _ else _) = _
  rw [e2, if_neg h]
abbrev rm_P_signOf : Room := { frames := 0, cells := 0, slots := 0, locals := 0 }
set_option maxHeartbeats 4000000 in
set_option maxRecDepth 100000 in
theorem c_P_signOf (l : Launch) (D : va_G) (k : Nat → ClassId) (N : Nat) (AD : Int → Nat) (C : Int → va_E) (sz : Nat) (a : Int) (q : Int) (hq : 0 ≤ q ∧ q < 4) : MI l y_P_signOf (Cond.code y_P_signOf b_P_signOf 2 (Option.some Jvm.ClassFile.FieldType.int) :: WS) rm_P_signOf D clW (tyW k) N AD C sz [.int (zI a), .int (zI q)] (fun r C' => r = zI (byt a q) ∧ C' = C) := by
  refine MI.start (cc := b_P_signOf) (maxL := 2) (rt := .int) (by decide) rfl (Nat.le_of_ble_eq_true rfl) ?_
  intro p e s m args below meth c Q ls hx hb hml hown hts hK hsz hw hl hret
  have hown : s.vm.findClass "RingMatches$Pad" = some m.cls := hown
  have hl : lv_has ls 2 [(0, .int (zI a)), (1, .int (zI q))] := hl
  have hA := wA_hi (N := N) (AD := AD) hsz
  obtain ⟨H, hH⟩ : ∃ H, H = s.heap := ⟨_, rfl⟩
  obtain ⟨locs, hlocs⟩ : ∃ z : List Loc, z = [] := ⟨_, rfl⟩
  have hw : WD D clW (wA N AD sz) s.heap H locs N AD C := by rw [hH, hlocs]; exact hw
  rw [← hlocs]
  suffices hgo : W p l e rm_P_signOf s m args below meth c H locs 0 0 Q (F0 m 0 ls []) by rw [hH] at hgo; exact hgo
  refine lv_iload_n hx hb d_P_signOf_0 rfl (lv_at hl 0 rfl) ?_
  refine zr_bipush hx hb d_P_signOf_1 (by decide) ?_
  refine lv_iload_n hx hb d_P_signOf_3 rfl (lv_at hl 1 rfl) ?_
  refine zr_imul hx hb d_P_signOf_4 ?_
  refine zr_byte hx hb (a := a) (q := q) (by omega) d_P_signOf_5 d_P_signOf_6 d_P_signOf_9 ?_
  exact hret _ _ _ _ _ _ d_P_signOf_10 hw rfl ⟨rfl, rfl⟩
abbrev rm_P_takes : Room := { frames := 1, cells := 0, slots := 0, locals := 21 }
set_option maxHeartbeats 4000000 in
set_option maxRecDepth 100000 in
theorem c_P_takes (l : Launch) (D : va_G) (k : Nat → ClassId) (N : Nat) (AD : Int → Nat) (C : Int → va_E) (sz : Nat) (a : Int)  : MI l y_P_takes (Cond.code y_P_takes b_P_takes 3 (Option.some Jvm.ClassFile.FieldType.boolean) :: WS) rm_P_takes D clW (tyW k) N AD C sz [.int (zI a)] (fun r C' => (r = zI 1 ∧ TK a ∨ r = zI 0 ∧ ¬ TK a) ∧ C' = C) := by
  refine MI.start (cc := b_P_takes) (maxL := 3) (rt := .boolean) (by decide) rfl (Nat.le_of_ble_eq_true rfl) ?_
  intro p e s m args below meth c Q ls hx hb hml hown hts hK hsz hw hl hret
  have hown : s.vm.findClass "RingMatches$Pad" = some m.cls := hown
  have hl : lv_has ls 3 [(0, .int (zI a))] := hl
  have hA := wA_hi (N := N) (AD := AD) hsz
  obtain ⟨H, hH⟩ : ∃ H, H = s.heap := ⟨_, rfl⟩
  obtain ⟨locs, hlocs⟩ : ∃ z : List Loc, z = [] := ⟨_, rfl⟩
  have hw : WD D clW (wA N AD sz) s.heap H locs N AD C := by rw [hH, hlocs]; exact hw
  rw [← hlocs]
  suffices hgo : W p l e rm_P_takes s m args below meth c H locs 0 0 Q (F0 m 0 ls []) by rw [hH] at hgo; exact hgo
  refine zr_iconst hx hb d_P_takes_0 ?_
  refine lv_istore_n (lv' := [(1, .int (zI 0)), (0, .int (zI a))]) hx hb d_P_takes_1 rfl hl (by decide) rfl (fun ls hl => ?_)
  have lp : ∀ (n9 : Nat) (x : Int) (H : Heap) (locs : List Loc) (ls : Array Slot), (0 ≤ x ∧ x ≤ 4) → (∀ q : Int, 0 ≤ q → q < x → okB (byt a q)) → (4 - x).toNat < n9 → WD D clW (wA N AD sz) s.heap H locs N AD C → lv_has ls 3 [(0, .int (zI a)), (1, .int (zI x))] → W p l e rm_P_takes s m args below meth c H locs 0 0 Q (F0 m 2 ls []) := by
    intro n9
    induction n9 with
    | zero => intro x H locs ls hx1 hT  hm hw hl; exact absurd hm (by omega)
    | succ n9 ihlp =>
      intro x H locs ls hx1 hT  hm hw hl
      refine lv_iload_n hx hb d_P_takes_2 rfl (lv_at hl 1 rfl) ?_
      refine zr_iconst hx hb d_P_takes_3 ?_
      refine zr_icmp_ge (tgt := 37) hx hb ⟨by omega, by omega⟩ ⟨by omega, by omega⟩ d_P_takes_4 (by decide) (fun c1 => ?_) (fun c1 => ?_)
      · refine zr_iconst hx hb d_P_takes_37 ?_
        exact hret _ _ _ _ _ _ d_P_takes_38 hw (by decide +kernel) ⟨Or.inl ⟨rfl, fun q h1 h2 => hT q h1 (by omega)⟩, rfl⟩
      · refine lv_iload_n hx hb d_P_takes_7 rfl (lv_at hl 0 rfl) ?_
        refine lv_iload_n hx hb d_P_takes_8 rfl (lv_at hl 1 rfl) ?_
        refine zr_callI (va_runS (As := [.int (zI a), .int (zI x)]) (rest := []) ⟨hx, hb, hml, hown, hts⟩ (c_P_signOf l D k N AD C H.size a x (by omega)) (va_cwS 2 hts (good_S wk_154 wk_155 wk_28 wk_156) rfl rfl rfl (by decide +kernel) ⟨Nat.le_of_ble_eq_true rfl, Nat.le_of_ble_eq_true rfl⟩) (cPre_S hK hw) rfl rfl hl.1 rfl (lv_room (Nat.le_of_ble_eq_true rfl)) d_P_takes_9 ⟨Nat.le_of_ble_eq_true rfl, Nat.le_of_ble_eq_true rfl⟩) hw hA (fun r9 C3 H locs hq2 hw => ?_)
        obtain ⟨hr9, hCe⟩ := hq2
        rw [hCe] at hw; subst hr9
        refine lv_istore_n (lv' := [(2, .int (zI (byt a x))), (0, .int (zI a)), (1, .int (zI x))]) hx hb d_P_takes_12 rfl hl (by decide) rfl (fun ls hl => ?_)
        have hb9 := byt_in a x
        refine lv_iload_n hx hb d_P_takes_13 rfl (lv_at hl 0 rfl) ?_
        refine zr_if_eq (tgt := 31) hx hb ⟨by omega, by omega⟩ d_P_takes_14 (by decide) (fun c4 => ?_) (fun c4 => ?_)
        · refine lv_iinc (v := zI (x + 1)) (lv' := [(1, .int (zI (x + 1))), (2, .int (zI (byt a x))), (0, .int (zI a))]) hx hb d_P_takes_31 hl (k := 2) rfl (zI_add _ _) (by decide) rfl (fun ls hl => ?_)
          refine lv_goto (tgt := 2) hx hb d_P_takes_34 (by decide) ?_
          exact ihlp (x + 1) H locs ls (by omega) (fun q h1 h2 => (Int.lt_or_eq_of_le (Int.lt_add_one_iff.mp h2)).elim (hT q h1) (fun e9 => by rw [e9]; unfold okB; omega))  (by omega) hw (lv_sub hl [2, 0] rfl)
        · refine lv_iload_n hx hb d_P_takes_17 rfl (lv_at hl 0 rfl) ?_
          refine zr_bipush hx hb d_P_takes_18 (by decide) ?_
          refine zr_icmp_lt (tgt := 29) hx hb ⟨by omega, by omega⟩ ⟨by omega, by omega⟩ d_P_takes_20 (by decide) (fun c5 => ?_) (fun c5 => ?_)
          · refine zr_iconst hx hb d_P_takes_29 ?_
            exact hret _ _ _ _ _ _ d_P_takes_30 hw (by decide +kernel) ⟨Or.inr ⟨rfl, fun h9 => by have := h9 x (by omega) (by omega); unfold okB at this; omega⟩, rfl⟩
          · refine lv_iload_n hx hb d_P_takes_23 rfl (lv_at hl 0 rfl) ?_
            refine zr_bipush hx hb d_P_takes_24 (by decide) ?_
            refine zr_icmp_le (tgt := 31) hx hb ⟨by omega, by omega⟩ ⟨by omega, by omega⟩ d_P_takes_26 (by decide) (fun c6 => ?_) (fun c6 => ?_)
            · refine lv_iinc (v := zI (x + 1)) (lv' := [(1, .int (zI (x + 1))), (2, .int (zI (byt a x))), (0, .int (zI a))]) hx hb d_P_takes_31 hl (k := 2) rfl (zI_add _ _) (by decide) rfl (fun ls hl => ?_)
              refine lv_goto (tgt := 2) hx hb d_P_takes_34 (by decide) ?_
              exact ihlp (x + 1) H locs ls (by omega) (fun q h1 h2 => (Int.lt_or_eq_of_le (Int.lt_add_one_iff.mp h2)).elim (hT q h1) (fun e9 => by rw [e9]; unfold okB; omega))  (by omega) hw (lv_sub hl [2, 0] rfl)
            · refine zr_iconst hx hb d_P_takes_29 ?_
              exact hret _ _ _ _ _ _ d_P_takes_30 hw (by decide +kernel) ⟨Or.inr ⟨rfl, fun h9 => by have := h9 x (by omega) (by omega); unfold okB at this; omega⟩, rfl⟩
  exact lp ((4 - 0 : Int).toNat + 1) 0 H locs ls (by omega) (fun q h1 h2 => absurd h2 (by omega))  (by omega) hw (lv_sub hl [1, 0] rfl)
abbrev rm_P_signsIn : Room := { frames := 1, cells := 0, slots := 0, locals := 21 }
set_option maxHeartbeats 4000000 in
set_option maxRecDepth 100000 in
theorem c_P_signsIn (l : Launch) (D : va_G) (k : Nat → ClassId) (N : Nat) (AD : Int → Nat) (C : Int → va_E) (sz : Nat) (a : Int)  : MI l y_P_signsIn (Cond.code y_P_signsIn b_P_signsIn 3 (Option.some Jvm.ClassFile.FieldType.int) :: WS) rm_P_signsIn D clW (tyW k) N AD C sz [.int (zI a)] (fun r C' => r = zI (nz a) ∧ C' = C) := by
  refine MI.start (cc := b_P_signsIn) (maxL := 3) (rt := .int) (by decide) rfl (Nat.le_of_ble_eq_true rfl) ?_
  intro p e s m args below meth c Q ls hx hb hml hown hts hK hsz hw hl hret
  have hown : s.vm.findClass "RingMatches$Pad" = some m.cls := hown
  have hl : lv_has ls 3 [(0, .int (zI a))] := hl
  have hA := wA_hi (N := N) (AD := AD) hsz
  obtain ⟨H, hH⟩ : ∃ H, H = s.heap := ⟨_, rfl⟩
  obtain ⟨locs, hlocs⟩ : ∃ z : List Loc, z = [] := ⟨_, rfl⟩
  have hw : WD D clW (wA N AD sz) s.heap H locs N AD C := by rw [hH, hlocs]; exact hw
  rw [← hlocs]
  suffices hgo : W p l e rm_P_signsIn s m args below meth c H locs 0 0 Q (F0 m 0 ls []) by rw [hH] at hgo; exact hgo
  refine zr_iconst hx hb d_P_signsIn_0 ?_
  refine lv_istore_n (lv' := [(1, .int (zI 0)), (0, .int (zI a))]) hx hb d_P_signsIn_1 rfl hl (by decide) rfl (fun ls hl => ?_)
  refine zr_iconst hx hb d_P_signsIn_2 ?_
  refine lv_istore_n (lv' := [(2, .int (zI 0)), (1, .int (zI 0)), (0, .int (zI a))]) hx hb d_P_signsIn_3 rfl hl (by decide) rfl (fun ls hl => ?_)
  have lp : ∀ (n9 : Nat) (x : Int) (fd : Int) (H : Heap) (locs : List Loc) (ls : Array Slot), (0 ≤ x ∧ x ≤ 4) → (fd = sumR (nzT a) 0 (x - 0).toNat) → (0 ≤ fd ∧ fd ≤ x) → (4 - x).toNat < n9 → WD D clW (wA N AD sz) s.heap H locs N AD C → lv_has ls 3 [(0, .int (zI a)), (1, .int (zI fd)), (2, .int (zI x))] → W p l e rm_P_signsIn s m args below meth c H locs 0 0 Q (F0 m 4 ls []) := by
    intro n9
    induction n9 with
    | zero => intro x fd H locs ls hx1 hf hf2  hm hw hl; exact absurd hm (by omega)
    | succ n9 ihlp =>
      intro x fd H locs ls hx1 hf hf2  hm hw hl
      refine lv_iload_n hx hb d_P_signsIn_4 rfl (lv_at hl 2 rfl) ?_
      refine zr_iconst hx hb d_P_signsIn_5 ?_
      refine zr_icmp_ge (tgt := 26) hx hb ⟨by omega, by omega⟩ ⟨by omega, by omega⟩ d_P_signsIn_6 (by decide) (fun c1 => ?_) (fun c1 => ?_)
      · refine lv_iload_n hx hb d_P_signsIn_26 rfl (lv_at hl 1 rfl) ?_
        exact hret _ _ _ _ _ _ d_P_signsIn_27 hw rfl ⟨by rw [hf, show x = 4 by omega]; rfl, rfl⟩
      · refine lv_iload_n hx hb d_P_signsIn_9 rfl (lv_at hl 0 rfl) ?_
        refine lv_iload_n hx hb d_P_signsIn_10 rfl (lv_at hl 2 rfl) ?_
        refine zr_callI (va_runS (As := [.int (zI a), .int (zI x)]) (rest := []) ⟨hx, hb, hml, hown, hts⟩ (c_P_signOf l D k N AD C H.size a x (by omega)) (va_cwS 2 hts (good_S wk_154 wk_155 wk_28 wk_156) rfl rfl rfl (by decide +kernel) ⟨Nat.le_of_ble_eq_true rfl, Nat.le_of_ble_eq_true rfl⟩) (cPre_S hK hw) rfl rfl hl.1 rfl (lv_room (Nat.le_of_ble_eq_true rfl)) d_P_signsIn_11 ⟨Nat.le_of_ble_eq_true rfl, Nat.le_of_ble_eq_true rfl⟩) hw hA (fun r9 C3 H locs hq2 hw => ?_)
        obtain ⟨hr9, hCe⟩ := hq2
        rw [hCe] at hw; subst hr9
        have hb9 := byt_in a x
        refine zr_if_eq (tgt := 20) hx hb ⟨by omega, by omega⟩ d_P_signsIn_14 (by decide) (fun c4 => ?_) (fun c4 => ?_)
        · have hz := c4
          refine lv_iinc (v := zI (x + 1)) (lv' := [(2, .int (zI (x + 1))), (0, .int (zI a)), (1, .int (zI fd))]) hx hb d_P_signsIn_20 hl (k := 2) rfl (zI_add _ _) (by decide) rfl (fun ls hl => ?_)
          refine lv_goto (tgt := 4) hx hb d_P_signsIn_23 (by decide) ?_
          exact ihlp (x + 1) fd H locs ls (by omega) (by rw [sumR_step _ (by omega), ← hf]; unfold nzT; rw [if_pos hz]; omega) (by omega)  (by omega) hw (lv_sub hl [1, 2, 0] rfl)
        · have hz := c4
          refine lv_iinc (v := zI (fd + 1)) (lv' := [(1, .int (zI (fd + 1))), (0, .int (zI a)), (2, .int (zI x))]) hx hb d_P_signsIn_17 hl (k := 1) rfl (zI_add _ _) (by decide) rfl (fun ls hl => ?_)
          refine lv_iinc (v := zI (x + 1)) (lv' := [(2, .int (zI (x + 1))), (1, .int (zI (fd + 1))), (0, .int (zI a))]) hx hb d_P_signsIn_20 hl (k := 2) rfl (zI_add _ _) (by decide) rfl (fun ls hl => ?_)
          refine lv_goto (tgt := 4) hx hb d_P_signsIn_23 (by decide) ?_
          exact ihlp (x + 1) (fd + 1) H locs ls (by omega) (by rw [sumR_step _ (by omega), ← hf]; unfold nzT; rw [if_neg hz]) (by omega)  (by omega) hw (lv_sub hl [2, 1, 0] rfl)
  exact lp ((4 - 0 : Int).toNat + 1) 0 0 H locs ls (by omega) rfl (by omega)  (by omega) hw (lv_sub hl [2, 1, 0] rfl)
abbrev rm_P_put : Room := { frames := 1, cells := 0, slots := 0, locals := 21 }
set_option maxHeartbeats 4000000 in
set_option maxRecDepth 100000 in
theorem c_P_put (l : Launch) (D : va_G) (k : Nat → ClassId) (N : Nat) (AD : Int → Nat) (C : Int → va_E) (sz : Nat) (b : Int) (n : Int) (f : Int → Int) (a : Int) (hb0 : 0 ≤ b ∧ b + 1 < (N : Int)) (hn : 0 ≤ n ∧ n ≤ 100) (hS : C b = .inr (1, [.ref (AD (b + 1)), .int (zI n)])) (hSw : C (b + 1) = aI (k 0) 100 f) (hfit : n + nz a ≤ 100) : MV l y_P_put (Cond.code y_P_put b_P_put 4 (Option.none : Option FieldType) :: WS) rm_P_put D clW (tyW k) N AD C sz [.ref (AD b), .int (zI a)] (fun C' => C' b = .inr (1, [.ref (AD (b + 1)), .int (zI (n + nz a))]) ∧ C' (b + 1) = aI (k 0) 100 (padF f n a 4) ∧ ∀ j : Int, j ≠ b → j ≠ b + 1 → C' j = C j) := by
  refine MV.start (cc := b_P_put) (maxL := 4) (by decide) rfl (Nat.le_of_ble_eq_true rfl) ?_
  intro p e s m args below meth c Q ls hx hb hml hown hts hK hsz hw hl hret
  have hown : s.vm.findClass "RingMatches$Pad" = some m.cls := hown
  have hl : lv_has ls 4 [(0, .ref (AD b)), (1, .int (zI a))] := hl
  have hA := wA_hi (N := N) (AD := AD) hsz
  obtain ⟨H, hH⟩ : ∃ H, H = s.heap := ⟨_, rfl⟩
  obtain ⟨locs, hlocs⟩ : ∃ z : List Loc, z = [] := ⟨_, rfl⟩
  have hw : WD D clW (wA N AD sz) s.heap H locs N AD C := by rw [hH, hlocs]; exact hw
  rw [← hlocs]
  suffices hgo : W p l e rm_P_put s m args below meth c H locs 0 0 Q (F0 m 0 ls []) by rw [hH] at hgo; exact hgo
  obtain ⟨C0, hC0⟩ : ∃ z : Int → va_E, z = C := ⟨_, rfl⟩
  rw [← hC0] at hret
  have hS : C b = .inr (1, [.ref (AD (b + 1)), .int (zI (n + sumR (nzT a) 0 ((0 : Int) - 0).toNat))]) := by rw [hS]; show _ = Sum.inr (1, [Value.ref (AD (b + 1)), Value.int (zI (n + 0))]); rw [Int.add_zero]
  refine zr_iconst hx hb d_P_put_0 ?_
  refine lv_istore_n (lv' := [(2, .int (zI 0)), (0, .ref (AD b)), (1, .int (zI a))]) hx hb d_P_put_1 rfl hl (by decide) rfl (fun ls hl => ?_)
  have lp : ∀ (n9 : Nat) (x : Int) (C : Int → va_E) (H : Heap) (locs : List Loc) (ls : Array Slot), (0 ≤ x ∧ x ≤ 4) → (∀ j : Int, j ≠ b → j ≠ b + 1 → C j = C0 j) → (C b = .inr (1, [.ref (AD (b + 1)), .int (zI (n + sumR (nzT a) 0 (x - 0).toNat))])) → (C (b + 1) = aI (k 0) 100 (padF f n a x.toNat)) → (4 - x).toNat < n9 → WD D clW (wA N AD sz) s.heap H locs N AD C → lv_has ls 4 [(0, .ref (AD b)), (1, .int (zI a)), (2, .int (zI x))] → W p l e rm_P_put s m args below meth c H locs 0 0 Q (F0 m 2 ls []) := by
    intro n9
    induction n9 with
    | zero => intro x C H locs ls hx1 hfr hS hSw hm hw hl; exact absurd hm (by omega)
    | succ n9 ihlp =>
      intro x C H locs ls hx1 hfr hS hSw hm hw hl
      have hz1 := nz_le a (q := x) (by omega)
      refine lv_iload_n hx hb d_P_put_2 rfl (lv_at hl 2 rfl) ?_
      refine zr_iconst hx hb d_P_put_3 ?_
      refine zr_icmp_ge (tgt := 55) hx hb ⟨by omega, by omega⟩ ⟨by omega, by omega⟩ d_P_put_4 (by decide) (fun c1 => ?_) (fun c1 => ?_)
      · exact hret _ _ _ _ _ d_P_put_55 hw ⟨by rw [hS, show x = 4 by omega]; rfl, by rw [hSw, show x = 4 by omega]; rfl, hfr⟩
      · refine lv_iload_n hx hb d_P_put_7 rfl (lv_at hl 1 rfl) ?_
        refine lv_iload_n hx hb d_P_put_8 rfl (lv_at hl 2 rfl) ?_
        refine zr_callI (va_runS (As := [.int (zI a), .int (zI x)]) (rest := []) ⟨hx, hb, hml, hown, hts⟩ (c_P_signOf l D k N AD C H.size a x (by omega)) (va_cwS 2 hts (good_S wk_154 wk_155 wk_28 wk_156) rfl rfl rfl (by decide +kernel) ⟨Nat.le_of_ble_eq_true rfl, Nat.le_of_ble_eq_true rfl⟩) (cPre_S hK hw) rfl rfl hl.1 rfl (lv_room (Nat.le_of_ble_eq_true rfl)) d_P_put_9 ⟨Nat.le_of_ble_eq_true rfl, Nat.le_of_ble_eq_true rfl⟩) hw hA (fun r9 C3 H locs hq2 hw => ?_)
        obtain ⟨hr9, hCe⟩ := hq2
        rw [hCe] at hw; subst hr9
        refine lv_istore_n (lv' := [(3, .int (zI (byt a x))), (0, .ref (AD b)), (1, .int (zI a)), (2, .int (zI x))]) hx hb d_P_put_12 rfl hl (by decide) rfl (fun ls hl => ?_)
        have hb9 := byt_in a x
        refine lv_iload_n hx hb d_P_put_13 rfl (lv_at hl 0 rfl) ?_
        refine zr_if_eq (tgt := 49) hx hb ⟨by omega, by omega⟩ d_P_put_14 (by decide) (fun c4 => ?_) (fun c4 => ?_)
        · have hz := c4
          have es : sumR (nzT a) 0 (x + 1 - 0).toNat = sumR (nzT a) 0 (x - 0).toNat := by rw [sumR_step _ (by omega)]; unfold nzT; rw [if_pos hz]; omega
          have hS : C b = .inr (1, [.ref (AD (b + 1)), .int (zI (n + sumR (nzT a) 0 (x + 1 - 0).toNat))]) := by rw [es]; exact hS
          have hSw : C (b + 1) = aI (k 0) 100 (padF f n a (x + 1).toNat) := by rw [padF_t (by omega) hz]; exact hSw
          refine lv_iinc (v := zI (x + 1)) (lv' := [(2, .int (zI (x + 1))), (3, .int (zI (byt a x))), (0, .ref (AD b)), (1, .int (zI a))]) hx hb d_P_put_49 hl (k := 3) rfl (zI_add _ _) (by decide) rfl (fun ls hl => ?_)
          refine lv_goto (tgt := 2) hx hb d_P_put_52 (by decide) ?_
          exact ihlp (x + 1) C H locs ls (by omega) hfr hS hSw (by omega) hw (lv_sub hl [2, 3, 0] rfl)
        · have hz := c4
          have es : sumR (nzT a) 0 (x + 1 - 0).toNat = sumR (nzT a) 0 (x - 0).toNat + 1 := by rw [sumR_step _ (by omega)]; unfold nzT; rw [if_neg hz]
          have hz2 := nz_le a (q := x + 1) (by omega)
          refine lv_aload_n hx hb d_P_put_17 rfl (lv_at hl 1 rfl) ?_
          refine zr_get (v := .int (zI (n + sumR (nzT a) 0 (x - 0).toNat))) hx hb hts iw_P hown hK hw b ⟨by omega, by omega⟩ hS rfl 1 (by decide) (hts _ wk_55) (fun _ h => h) rfl d_P_put_18 ?_
          refine lv_aload_n hx hb d_P_put_21 rfl (lv_at hl 1 rfl) ?_
          refine zr_get (v := .ref (AD (b + 1))) hx hb hts iw_P hown hK hw b ⟨by omega, by omega⟩ hS rfl 0 (by decide) (hts _ wk_53) (fun _ h => h) rfl d_P_put_22 ?_
          refine zr_alen hx hb hK hw (b + 1) ⟨by omega, by omega⟩ 0 hSw rfl d_P_put_25 ?_
          refine zr_icmp_ge (tgt := 49) hx hb ⟨by omega, by omega⟩ ⟨by omega, by omega⟩ d_P_put_26 (by decide) (fun c5 => ?_) (fun c5 => ?_)
          · exact absurd c5 (by omega)
          · refine lv_aload_n hx hb d_P_put_29 rfl (lv_at hl 1 rfl) ?_
            refine zr_get (v := .ref (AD (b + 1))) hx hb hts iw_P hown hK hw b ⟨by omega, by omega⟩ hS rfl 0 (by decide) (hts _ wk_53) (fun _ h => h) rfl d_P_put_30 ?_
            refine lv_aload_n hx hb d_P_put_33 rfl (lv_at hl 1 rfl) ?_
            refine zr_get (v := .int (zI (n + sumR (nzT a) 0 (x - 0).toNat))) hx hb hts iw_P hown hK hw b ⟨by omega, by omega⟩ hS rfl 1 (by decide) (hts _ wk_55) (fun _ h => h) rfl d_P_put_34 ?_
            refine lv_iload_n hx hb d_P_put_37 rfl (lv_at hl 0 rfl) ?_
            refine zr_iast hx hb hK hw (b + 1) ⟨by omega, by omega⟩ 0 hSw rfl ⟨by omega, by omega⟩ (by decide) d_P_put_38 (fun H locs hw => ?_)
            obtain ⟨C6, hC6⟩ : ∃ z : Int → va_E, z = zup C (b + 1) (aI (k 0) 100 (zup (padF f n a x.toNat) (n + sumR (nzT a) 0 (x - 0).toNat) (byt a x))) := ⟨_, rfl⟩
            have hw : WD D clW (wA N AD sz) s.heap H locs N AD C6 := by rw [hC6]; exact hw
            have frC6 : ∀ j : Int, j ≠ (b + 1) → C6 j = C j := fun j h => by rw [hC6]; exact zup_n h
            have hS : C6 b = .inr (1, [.ref (AD (b + 1)), .int (zI (n + sumR (nzT a) 0 (x - 0).toNat))]) := (frC6 _ (by omega)).trans hS
            have hSw : C6 (b + 1) = aI (k 0) 100 (zup (padF f n a x.toNat) (n + sumR (nzT a) 0 (x - 0).toNat) (byt a x)) := by rw [hC6]; exact zup_s
            refine lv_aload_n hx hb d_P_put_39 rfl (lv_at hl 1 rfl) ?_
            refine lv_dup hx hb d_P_put_40 rfl ?_
            refine zr_get (v := .int (zI (n + sumR (nzT a) 0 (x - 0).toNat))) hx hb hts iw_P hown hK hw b ⟨by omega, by omega⟩ hS rfl 1 (by decide) (hts _ wk_55) (fun _ h => h) rfl d_P_put_41 ?_
            refine zr_iconst hx hb d_P_put_44 ?_
            refine zr_iadd hx hb d_P_put_45 ?_
            refine zr_put (ty := .int) (v := .int (zI ((n + sumR (nzT a) 0 (x - 0).toNat) + 1))) hx hb hts iw_P tyP tyP_ok nmP hown hK hw b ⟨by omega, by omega⟩ hS rfl 1 (by decide) (hts _ wk_55) (fun _ h => h) rfl (by decide +kernel) rfl rfl (Nat.le_of_ble_eq_true rfl) d_P_put_46 (fun H locs hw => ?_)
            obtain ⟨C7, hC7⟩ : ∃ z : Int → va_E, z = zup C6 b (.inr (1, [.ref (AD (b + 1)), .int (zI ((n + sumR (nzT a) 0 (x - 0).toNat) + 1))])) := ⟨_, rfl⟩
            have hw : WD D clW (wA N AD sz) s.heap H locs N AD C7 := by rw [hC7]; exact hw
            have frC7 : ∀ j : Int, j ≠ b → C7 j = C6 j := fun j h => by rw [hC7]; exact zup_n h
            have hS : C7 b = .inr (1, [.ref (AD (b + 1)), .int (zI ((n + sumR (nzT a) 0 (x - 0).toNat) + 1))]) := by rw [hC7]; exact zup_s
            have hSw : C7 (b + 1) = aI (k 0) 100 (zup (padF f n a x.toNat) (n + sumR (nzT a) 0 (x - 0).toNat) (byt a x)) := (frC7 _ (by omega)).trans hSw
            have hS : C7 b = .inr (1, [.ref (AD (b + 1)), .int (zI (n + sumR (nzT a) 0 (x + 1 - 0).toNat))]) := by rw [es, ← Int.add_assoc]; exact hS
            have hSw : C7 (b + 1) = aI (k 0) 100 (padF f n a (x + 1).toNat) := by rw [padF_f (by omega) hz]; exact hSw
            refine lv_iinc (v := zI (x + 1)) (lv' := [(2, .int (zI (x + 1))), (3, .int (zI (byt a x))), (0, .ref (AD b)), (1, .int (zI a))]) hx hb d_P_put_49 hl (k := 3) rfl (zI_add _ _) (by decide) rfl (fun ls hl => ?_)
            refine lv_goto (tgt := 2) hx hb d_P_put_52 (by decide) ?_
            exact ihlp (x + 1) C7 H locs ls (by omega) (fun j h1 h2 => by rw [frC7 j h1, frC6 j h2]; exact hfr j h1 h2) hS hSw (by omega) hw (lv_sub hl [2, 3, 0] rfl)
  exact lp ((4 - 0 : Int).toNat + 1) 0 C H locs ls (by omega) (fun j _ _ => by rw [hC0]) hS hSw (by omega) hw (lv_sub hl [1, 2, 0] rfl)
