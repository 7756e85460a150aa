/-! whole numbers as ints and as longs -/
def zI (z : Int) : Int32 := Int32.ofInt z
def zL (z : Int) : Int64 := Int64.ofInt z
abbrev inI (z : Int) : Prop := -2147483648 ≤ z ∧ z < 2147483648
abbrev inL (z : Int) : Prop := -9223372036854775808 ≤ z ∧ z < 9223372036854775808
theorem zI_toInt {z : Int} (h : inI z) : (zI z).toInt = z := Int32.toInt_ofInt_of_le (by have := h.1; omega) (by have := h.2; omega)
theorem zL_toInt {z : Int} (h : inL z) : (zL z).toInt = z := Int64.toInt_ofInt_of_le (by have := h.1; omega) (by have := h.2; omega)
theorem zI_of (x : Int32) : ∃ z : Int, inI z ∧ x = zI z := by
  refine ⟨x.toInt, ⟨?_, ?_⟩, (Int32.ofInt_toInt x).symm⟩
  · have := x.le_toInt; omega
  · have := x.toInt_lt; omega
theorem zL_of (x : Int64) : ∃ z : Int, inL z ∧ x = zL z := by
  refine ⟨x.toInt, ⟨?_, ?_⟩, (Int64.ofInt_toInt x).symm⟩
  · have := x.le_toInt; omega
  · have := x.toInt_lt; omega
theorem zI_add (a b : Int) : zI a + zI b = zI (a + b) := (Int32.ofInt_add a b).symm
theorem zI_sub (a b : Int) : zI a - zI b = zI (a - b) := (Int32.ofInt_sub a b).symm
theorem zI_mul (a b : Int) : zI a * zI b = zI (a * b) := (Int32.ofInt_mul a b).symm
theorem zI_neg (a : Int) : -zI a = zI (-a) := (Int32.ofInt_neg a).symm
theorem zL_add (a b : Int) : zL a + zL b = zL (a + b) := (Int64.ofInt_add a b).symm
theorem zL_sub (a b : Int) : zL a - zL b = zL (a - b) := (Int64.ofInt_sub a b).symm
theorem zL_mul (a b : Int) : zL a * zL b = zL (a * b) := (Int64.ofInt_mul a b).symm
theorem zL_neg (a : Int) : -zL a = zL (-a) := (Int64.ofInt_neg a).symm
theorem zI_lt {a b : Int} (ha : inI a) (hb : inI b) : zI a < zI b ↔ a < b := by
  rw [Int32.lt_iff_toInt_lt, zI_toInt ha, zI_toInt hb]
theorem zI_le {a b : Int} (ha : inI a) (hb : inI b) : zI a ≤ zI b ↔ a ≤ b := by
  rw [Int32.le_iff_toInt_le, zI_toInt ha, zI_toInt hb]
theorem zI_eq {a b : Int} (ha : inI a) (hb : inI b) : zI a = zI b ↔ a = b := by
  rw [← Int32.toInt_inj, zI_toInt ha, zI_toInt hb]
theorem zL_lt {a b : Int} (ha : inL a) (hb : inL b) : zL a < zL b ↔ a < b := by
  rw [Int64.lt_iff_toInt_lt, zL_toInt ha, zL_toInt hb]
theorem zL_le {a b : Int} (ha : inL a) (hb : inL b) : zL a ≤ zL b ↔ a ≤ b := by
  rw [Int64.le_iff_toInt_le, zL_toInt ha, zL_toInt hb]
theorem zL_eq {a b : Int} (ha : inL a) (hb : inL b) : zL a = zL b ↔ a = b := by
  rw [← Int64.toInt_inj, zL_toInt ha, zL_toInt hb]
theorem zI_0 : zI 0 = 0 := by decide +kernel
theorem zL_0 : zL 0 = 0 := by decide +kernel
theorem in0 : inI 0 := ⟨by decide, by decide⟩
theorem inL0 : inL 0 := ⟨by decide, by decide⟩
theorem zI_nz {b : Int} (hb : inI b) (h : b ≠ 0) : ¬ zI b = 0 := fun q => h ((zI_eq hb in0).mp (q.trans zI_0.symm))
theorem zL_nz {b : Int} (hb : inL b) (h : b ≠ 0) : ¬ zL b = 0 := fun q => h ((zL_eq hb inL0).mp (q.trans zL_0.symm))
theorem zI_div {a b : Int} (ha : inI a) (hb : inI b) (h0 : 0 ≤ a) (h1 : 0 < b) : zI a / zI b = zI (a / b) := by
  apply Int32.toInt_inj.mp
  have hne : zI b ≠ -1 := by
    intro h
    have h3 := congrArg Int32.toInt h
    rw [zI_toInt hb] at h3
    have h2 : (-1 : Int32).toInt = -1 := by decide +kernel
    omega
  have e1 := Int.ediv_nonneg h0 (Int.le_of_lt h1)
  have e2 := Int.ediv_le_self b h0
  rw [Int32.toInt_div_of_ne_right _ _ hne, zI_toInt ha, zI_toInt hb, Int.tdiv_eq_ediv_of_nonneg h0, zI_toInt]
  have := ha.2
  exact ⟨by omega, by omega⟩
theorem zL_div {a b : Int} (ha : inL a) (hb : inL b) (h0 : 0 ≤ a) (h1 : 0 < b) : zL a / zL b = zL (a / b) := by
  apply Int64.toInt_inj.mp
  have hne : zL b ≠ -1 := by
    intro h
    have h3 := congrArg Int64.toInt h
    rw [zL_toInt hb] at h3
    have h2 : (-1 : Int64).toInt = -1 := by decide +kernel
    omega
  have e1 := Int.ediv_nonneg h0 (Int.le_of_lt h1)
  have e2 := Int.ediv_le_self b h0
  rw [Int64.toInt_div_of_ne_right _ _ hne, zL_toInt ha, zL_toInt hb, Int.tdiv_eq_ediv_of_nonneg h0, zL_toInt]
  have := ha.2
  exact ⟨by omega, by omega⟩
theorem zI_rem {a b : Int} (ha : inI a) (hb : inI b) (h0 : 0 ≤ a) (h1 : 0 < b) : zI a - zI a / zI b * zI b = zI (a % b) := by
  rw [zI_div ha hb h0 h1, zI_mul, zI_sub, Int.emod_def, Int.mul_comm]
theorem zL_rem {a b : Int} (ha : inL a) (hb : inL b) (h0 : 0 ≤ a) (h1 : 0 < b) : zL a - zL a / zL b * zL b = zL (a % b) := by
  rw [zL_div ha hb h0 h1, zL_mul, zL_sub, Int.emod_def, Int.mul_comm]
theorem zI_i2l {a : Int} (ha : inI a) : (zI a).toInt64 = zL a := by
  apply Int64.toInt_inj.mp
  rw [Int32.toInt_toInt64, zI_toInt ha, zL_toInt ⟨by have := ha.1; omega, by have := ha.2; omega⟩]
theorem zL_l2i (a : Int) : (zL a).toInt32 = zI a := Int64.toInt32_ofInt
theorem zI_in {z : Int} {n : Nat} (h0 : 0 ≤ z) (h : z < n) (hn : n < 2147483648) : vp_in (zI z) n := by
  rw [vp_in_iff, zI_toInt ⟨by omega, by omega⟩]
  exact ⟨h0, h⟩
theorem zI_cl {z : Int} (h0 : 0 ≤ z) (h : z < 2147483648) : (zI z).toNatClampNeg = z.toNat := by
  show (zI z).toInt.toNat = _
  rw [zI_toInt ⟨by omega, h⟩]
theorem zI_nn {z : Int} (h0 : 0 ≤ z) (h : z < 2147483648) : ¬ zI z < 0 := by
  rw [← zI_0, zI_lt ⟨by omega, h⟩ in0]
  omega
theorem zI_max {a b : Int} (ha : inI a) (hb : inI b) : (if zI a < zI b then zI b else zI a) = zI (max a b) := by
  by_cases h : a < b
  · rw [if_pos ((zI_lt ha hb).mpr h), Int.max_eq_right (Int.le_of_lt h)]
  · rw [if_neg (fun q => h ((zI_lt ha hb).mp q)), Int.max_eq_left (by omega)]
theorem zI_min {a b : Int} (ha : inI a) (hb : inI b) : (if zI b < zI a then zI b else zI a) = zI (min a b) := by
  by_cases h : b < a
  · rw [if_pos ((zI_lt hb ha).mpr h), Int.min_eq_right (Int.le_of_lt h)]
  · rw [if_neg (fun q => h ((zI_lt hb ha).mp q)), Int.min_eq_left (by omega)]
theorem zI_8 {n : Int} (h0 : -128 ≤ n) (h : n < 128) : (Int8.ofInt n).toInt32 = zI n := by
  have h1 : Int8.minValue.toInt = -128 := by decide +kernel
  have h2 : Int8.maxValue.toInt = 127 := by decide +kernel
  exact Int8.toInt32_ofInt (by omega) (by omega)
theorem zI_16 {n : Int} (h0 : -32768 ≤ n) (h : n < 32768) : (Int16.ofInt n).toInt32 = zI n := by
  have h1 : Int16.minValue.toInt = -32768 := by decide +kernel
  have h2 : Int16.maxValue.toInt = 32767 := by decide +kernel
  exact Int16.toInt32_ofInt (by omega) (by omega)
/-- a function changed at a place -/
def zup {α : Type} (f : Int → α) (k : Int) (v : α) : Int → α := fun j => if j = k then v else f j
theorem zup_s {α : Type} {f : Int → α} {k : Int} {v : α} : zup f k v k = v := if_pos rfl
theorem zup_n {α : Type} {f : Int → α} {k j : Int} {v : α} (h : j ≠ k) : zup f k v j = f j := if_neg h
