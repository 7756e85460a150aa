/-! correlation: numbers alone -/
/-- the product test: t is not too great -/
def Pd (c u v t : Int) : Prop := t * t * u * v ≤ 10000 * c * c
def tls (c u v : Int) : Nat → Int → Int
  | 0, t => t
  | m + 1, t => if (t + 1) * (t + 1) * u * v ≤ 10000 * c * c then tls c u v m (t + 1) else t
def corrT (c u v : Int) : Int := tls c u v 100 0
def corrF (c u v : Int) : Int := if u = 0 ∨ v = 0 then 0 else if c < 0 then -corrT c u v else corrT c u v
theorem tls_in (c u v : Int) : ∀ (m : Nat) (t : Int), t ≤ tls c u v m t ∧ tls c u v m t ≤ t + (m : Int) := by
  intro m
  induction m with
  | zero => intro t; show t ≤ t ∧ t ≤ t + ((0 : Nat) : Int); omega
  | succ m ih =>
    intro t
    show t ≤ (if _ then tls c u v m (t + 1) else t) ∧ (if _ then tls c u v m (t + 1) else t) ≤ t + ((m + 1 : Nat) : Int)
    split
    · have := ih (t + 1); omega
    · omega
theorem corrF_in (c u v : Int) : -100 ≤ corrF c u v ∧ corrF c u v ≤ 100 := by
  have h := tls_in c u v 100 0
  unfold corrF corrT
  split
  · omega
  · split <;> omega
theorem Pd_mono {c u v s t : Int} (hu : 0 ≤ u) (hv : 0 ≤ v) (h0 : 0 ≤ s) (h : s ≤ t) (ht : Pd c u v t) : Pd c u v s := by
  unfold Pd at *
  have h1 : s * s ≤ t * t := Int.mul_le_mul h h h0 (by omega)
  have h2 : s * s * u ≤ t * t * u := Int.mul_le_mul_of_nonneg_right h1 hu
  have h3 : s * s * u * v ≤ t * t * u * v := Int.mul_le_mul_of_nonneg_right h2 hv
  omega
theorem tls_is {c u v t : Int} (hu : 0 ≤ u) (hv : 0 ≤ v) (h1 : Pd c u v t) (h2 : ¬ Pd c u v (t + 1)) : ∀ (m : Nat) (s : Int), 0 ≤ s → s ≤ t → t ≤ s + (m : Int) → tls c u v m s = t := by
  intro m
  induction m with
  | zero => intro s h0 h3 h4; show s = t; omega
  | succ m ih =>
    intro s h0 h3 h4
    show (if (s + 1) * (s + 1) * u * v ≤ 10000 * c * c then tls c u v m (s + 1) else s) = t
    by_cases hs : s = t
    · rw [if_neg (by rw [hs]; exact h2), hs]
    · have hp : (s + 1) * (s + 1) * u * v ≤ 10000 * c * c := Pd_mono hu hv (by omega) (show s + 1 ≤ t by omega) h1
      rw [if_pos hp]
      exact ih (s + 1) (by omega) (by omega) (by omega)
theorem Pd_100 {c u v t : Int} (hu : 0 < u) (hv : 0 < v) (hcs : c * c ≤ u * v) (h : Pd c u v t) (h0 : 0 ≤ t) : t ≤ 100 := by
  apply Int.not_lt.mp
  intro ht
  have h1 : Pd c u v 101 := Pd_mono (by omega) (by omega) (by omega) (show (101 : Int) ≤ t by omega) h
  unfold Pd at h1
  have h2 : 0 < u * v := Int.mul_pos hu hv
  have e1 : (101 : Int) * 101 * u * v = 10201 * (u * v) := by rw [Int.mul_assoc, show (101 : Int) * 101 = 10201 from rfl]
  have e2 : 10000 * c * c = 10000 * (c * c) := by rw [Int.mul_assoc]
  rw [e1, e2] at h1
  omega
theorem corrT_is {c u v t : Int} (hu : 0 < u) (hv : 0 < v) (hcs : c * c ≤ u * v) (h0 : 0 ≤ t) (h1 : Pd c u v t) (h2 : ¬ Pd c u v (t + 1) ∨ 128 ≤ t + 1) : corrT c u v = t := by
  have h3 := Pd_100 hu hv hcs h1 h0
  have h4 : ¬ Pd c u v (t + 1) := by rcases h2 with h | h; exact h; omega
  exact tls_is (by omega) (by omega) h1 h4 100 0 (by omega) h0 (by omega)
/-! sums over pairs -/
def prT (x y : Int → Int) (g : Int → Int → Int) (p : Int) : Int := if x p = -1 ∨ y p = -1 then 0 else g (x p) (y p)
theorem prT_t {x y : Int → Int} {g : Int → Int → Int} {p : Int} (h : x p = -1 ∨ y p = -1) : prT x y g p = 0 := if_pos h
theorem prT_f {x y : Int → Int} {g : Int → Int → Int} {p : Int} (h1 : ¬ x p = -1) (h2 : ¬ y p = -1) : prT x y g p = g (x p) (y p) := if_neg (by omega)
/-- sums of squares of differences are not below 0 -/
theorem vr1 (x y : Int → Int) (a b lo t : Int) : ∀ m : Nat, 0 ≤ (a * a * sumR (prT x y (fun p _ => p * p)) lo m + 2 * a * b * sumR (prT x y (fun p q => p * q)) lo m + b * b * sumR (prT x y (fun _ q => q * q)) lo m) - 2 * t * (a * sumR (prT x y (fun p _ => p)) lo m + b * sumR (prT x y (fun _ q => q)) lo m) + sumR (prT x y (fun _ _ => 1)) lo m * (t * t) := by
  intro m
  induction m with
  | zero => show 0 ≤ (a * a * 0 + 2 * a * b * 0 + b * b * 0) - 2 * t * (a * 0 + b * 0) + 0 * (t * t); simp
  | succ m ih =>
    simp only [sumR]
    by_cases h : x (lo + (m : Int)) = -1 ∨ y (lo + (m : Int)) = -1
    · simp only [prT_t h, Int.add_zero]
      exact ih
    · have h1 : ¬ x (lo + (m : Int)) = -1 := fun q => h (Or.inl q)
      have h2 : ¬ y (lo + (m : Int)) = -1 := fun q => h (Or.inr q)
      simp only [prT_f h1 h2]
      generalize x (lo + (m : Int)) = p0 at *
      generalize y (lo + (m : Int)) = q0 at *
      have h3 : 0 ≤ (a * p0 + b * q0 - t) * (a * p0 + b * q0 - t) := by
        rcases Int.le_total 0 (a * p0 + b * q0 - t) with h | h
        · exact Int.mul_nonneg h h
        · exact Int.mul_nonneg_of_nonpos_of_nonpos h h
      generalize sumR (prT x y (fun p _ => p * p)) lo m = s1 at *
      generalize sumR (prT x y (fun p q => p * q)) lo m = s2 at *
      generalize sumR (prT x y (fun _ q => q * q)) lo m = s3 at *
      generalize sumR (prT x y (fun p _ => p)) lo m = s4 at *
      generalize sumR (prT x y (fun _ q => q)) lo m = s5 at *
      generalize sumR (prT x y (fun _ _ => 1)) lo m = s6 at *
      have h4 : (a * a * (s1 + p0 * p0) + 2 * a * b * (s2 + p0 * q0) + b * b * (s3 + q0 * q0)) - 2 * t * (a * (s4 + p0) + b * (s5 + q0)) + (s6 + 1) * (t * t) = ((a * a * s1 + 2 * a * b * s2 + b * b * s3) - 2 * t * (a * s4 + b * s5) + s6 * (t * t)) + (a * p0 + b * q0 - t) * (a * p0 + b * q0 - t) := by grind
      rw [h4]
      omega
theorem vr2 (x y : Int → Int) (a b lo : Int) : ∀ m : Nat, 0 ≤ sumR (prT x y (fun _ _ => 1)) lo m * (a * a * sumR (prT x y (fun p _ => p * p)) lo m + 2 * a * b * sumR (prT x y (fun p q => p * q)) lo m + b * b * sumR (prT x y (fun _ q => q * q)) lo m) - (a * sumR (prT x y (fun p _ => p)) lo m + b * sumR (prT x y (fun _ q => q)) lo m) * (a * sumR (prT x y (fun p _ => p)) lo m + b * sumR (prT x y (fun _ q => q)) lo m) := by
  intro m
  induction m with
  | zero => show 0 ≤ 0 * (a * a * 0 + 2 * a * b * 0 + b * b * 0) - (a * 0 + b * 0) * (a * 0 + b * 0); simp
  | succ m ih =>
    simp only [sumR]
    by_cases h : x (lo + (m : Int)) = -1 ∨ y (lo + (m : Int)) = -1
    · simp only [prT_t h, Int.add_zero]
      exact ih
    · have h1 : ¬ x (lo + (m : Int)) = -1 := fun q => h (Or.inl q)
      have h2 : ¬ y (lo + (m : Int)) = -1 := fun q => h (Or.inr q)
      have h5 := vr1 x y a b lo (a * x (lo + (m : Int)) + b * y (lo + (m : Int))) m
      simp only [prT_f h1 h2]
      generalize x (lo + (m : Int)) = p0 at *
      generalize y (lo + (m : Int)) = q0 at *
      generalize sumR (prT x y (fun p _ => p * p)) lo m = s1 at *
      generalize sumR (prT x y (fun p q => p * q)) lo m = s2 at *
      generalize sumR (prT x y (fun _ q => q * q)) lo m = s3 at *
      generalize sumR (prT x y (fun p _ => p)) lo m = s4 at *
      generalize sumR (prT x y (fun _ q => q)) lo m = s5 at *
      generalize sumR (prT x y (fun _ _ => 1)) lo m = s6 at *
      have h4 : (s6 + 1) * (a * a * (s1 + p0 * p0) + 2 * a * b * (s2 + p0 * q0) + b * b * (s3 + q0 * q0)) - (a * (s4 + p0) + b * (s5 + q0)) * (a * (s4 + p0) + b * (s5 + q0)) = (s6 * (a * a * s1 + 2 * a * b * s2 + b * b * s3) - (a * s4 + b * s5) * (a * s4 + b * s5)) + ((a * a * s1 + 2 * a * b * s2 + b * b * s3) - 2 * (a * p0 + b * q0) * (a * s4 + b * s5) + s6 * ((a * p0 + b * q0) * (a * p0 + b * q0))) := by grind
      rw [h4]
      omega
/-- Cauchy and Schwarz, and that u, v are not below 0 -/
theorem cs_all (x y : Int → Int) (lo : Int) (m : Nat) {n sx sy sxx syy sxy : Int} (hn : n = sumR (prT x y (fun _ _ => 1)) lo m) (hx : sx = sumR (prT x y (fun p _ => p)) lo m) (hy : sy = sumR (prT x y (fun _ q => q)) lo m) (hxx : sxx = sumR (prT x y (fun p _ => p * p)) lo m) (hyy : syy = sumR (prT x y (fun _ q => q * q)) lo m) (hxy : sxy = sumR (prT x y (fun p q => p * q)) lo m) :
    0 ≤ n * sxx - sx * sx ∧ 0 ≤ n * syy - sy * sy ∧ (n * sxy - sx * sy) * (n * sxy - sx * sy) ≤ (n * sxx - sx * sx) * (n * syy - sy * sy) := by
  have hu := vr2 x y 1 0 lo m
  have hv := vr2 x y 0 1 lo m
  have hc := vr2 x y (n * syy - sy * sy) (-(n * sxy - sx * sy)) lo m
  have hd := vr2 x y (-(n * sxy - sx * sy)) (n * sxx - sx * sx) lo m
  rw [← hn, ← hx, ← hy, ← hxx, ← hyy, ← hxy] at hu hv hc hd
  have eu : n * (1 * 1 * sxx + 2 * 1 * 0 * sxy + 0 * 0 * syy) - (1 * sx + 0 * sy) * (1 * sx + 0 * sy) = n * sxx - sx * sx := by grind
  have ev : n * (0 * 0 * sxx + 2 * 0 * 1 * sxy + 1 * 1 * syy) - (0 * sx + 1 * sy) * (0 * sx + 1 * sy) = n * syy - sy * sy := by grind
  rw [eu] at hu
  rw [ev] at hv
  refine ⟨hu, hv, ?_⟩
  obtain ⟨u, eu⟩ : ∃ u, u = n * sxx - sx * sx := ⟨_, rfl⟩
  obtain ⟨v, ev⟩ : ∃ v, v = n * syy - sy * sy := ⟨_, rfl⟩
  obtain ⟨c, ec⟩ : ∃ c, c = n * sxy - sx * sy := ⟨_, rfl⟩
  have e1 : n * ((n * syy - sy * sy) * (n * syy - sy * sy) * sxx + 2 * (n * syy - sy * sy) * (-(n * sxy - sx * sy)) * sxy + -(n * sxy - sx * sy) * -(n * sxy - sx * sy) * syy) - ((n * syy - sy * sy) * sx + -(n * sxy - sx * sy) * sy) * ((n * syy - sy * sy) * sx + -(n * sxy - sx * sy) * sy) = v * (u * v - c * c) := by rw [← ev, ← ec, eu]; grind
  have e2 : n * (-(n * sxy - sx * sy) * -(n * sxy - sx * sy) * sxx + 2 * (-(n * sxy - sx * sy)) * (n * sxx - sx * sx) * sxy + (n * sxx - sx * sx) * (n * sxx - sx * sx) * syy) - (-(n * sxy - sx * sy) * sx + (n * sxx - sx * sx) * sy) * (-(n * sxy - sx * sy) * sx + (n * sxx - sx * sx) * sy) = u * (u * v - c * c) := by rw [← eu, ← ec, ev]; grind
  rw [e1] at hc
  rw [e2] at hd
  rw [← eu, ← ev, ← ec]
  rw [← eu] at hu
  rw [← ev] at hv
  by_cases hv0 : 0 < v
  · have h9 : 0 ≤ u * v - c * c := by
      apply Int.not_lt.mp
      intro h
      have := Int.mul_neg_of_pos_of_neg hv0 h
      omega
    omega
  · by_cases hu0 : 0 < u
    · have h9 : 0 ≤ u * v - c * c := by
        apply Int.not_lt.mp
        intro h
        have := Int.mul_neg_of_pos_of_neg hu0 h
        omega
      omega
    · have z1 : u = 0 := by omega
      have z2 : v = 0 := by omega
      have h8 := vr2 x y 1 1 lo m
      have h7 := vr2 x y 1 (-1) lo m
      rw [← hn, ← hx, ← hy, ← hxx, ← hyy, ← hxy] at h8 h7
      have e3 : n * (1 * 1 * sxx + 2 * 1 * 1 * sxy + 1 * 1 * syy) - (1 * sx + 1 * sy) * (1 * sx + 1 * sy) = u + 2 * c + v := by rw [eu, ev, ec]; grind
      have e4 : n * (1 * 1 * sxx + 2 * 1 * -1 * sxy + -1 * -1 * syy) - (1 * sx + -1 * sy) * (1 * sx + -1 * sy) = u - 2 * c + v := by rw [eu, ev, ec]; grind
      rw [e3] at h8
      rw [e4] at h7
      have z3 : c = 0 := by omega
      rw [z1, z2, z3]
      decide
