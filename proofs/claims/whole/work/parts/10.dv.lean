/-! NUMBERS IN LIMBS -/
/-- the worth of the first n limbs to the base B -/
def dv (B : Int) (f : Int → Int) : Nat → Int
  | 0 => 0
  | n + 1 => dv B f n + f (n : Int) * B ^ n
theorem dv_congr {B : Int} {f g : Int → Int} : ∀ {n : Nat}, (∀ k : Int, 0 ≤ k → k < n → f k = g k) → dv B f n = dv B g n
  | 0, _ => rfl
  | n + 1, h => by
    simp only [dv]
    rw [dv_congr (n := n) (fun k h0 h1 => h k h0 (by omega)), h n (by omega) (by omega)]
theorem pow_pos' {B : Int} (hB : 0 < B) (n : Nat) : 0 < B ^ n := Int.pow_pos hB
theorem dv_nonneg {B : Int} {f : Int → Int} (hB : 0 < B) : ∀ {n : Nat}, (∀ k : Int, 0 ≤ k → k < n → 0 ≤ f k) → 0 ≤ dv B f n
  | 0, _ => by simp [dv]
  | n + 1, h => by
    simp only [dv]
    have h1 := dv_nonneg hB (n := n) (fun k h0 h1 => h k h0 (by omega))
    have h2 := Int.mul_nonneg (h n (by omega) (by omega)) (Int.le_of_lt (pow_pos' hB n))
    omega
theorem dv_lt {B : Int} {f : Int → Int} (hB : 0 < B) : ∀ {n : Nat}, (∀ k : Int, 0 ≤ k → k < n → 0 ≤ f k ∧ f k < B) → dv B f n < B ^ n
  | 0, _ => by simp [dv]
  | n + 1, h => by
    simp only [dv]
    have h1 := dv_lt hB (n := n) (fun k h0 h1 => h k h0 (by omega))
    have h2 := h n (by omega) (by omega)
    have h3 := pow_pos' hB n
    have h4 : f n * B ^ n ≤ (B - 1) * B ^ n := Int.mul_le_mul_of_nonneg_right (by omega) (by omega)
    rw [Int.sub_mul, Int.one_mul] at h4
    rw [Int.pow_succ, Int.mul_comm (B ^ n) B]
    omega
/-- limbs from n on -/
theorem dv_split {B : Int} {f : Int → Int} (n : Nat) : ∀ m : Nat, dv B f (n + m) = dv B f n + B ^ n * dv B (fun k => f (n + k)) m
  | 0 => by simp [dv]
  | m + 1 => by
    have e : f ((n + m : Nat) : Int) = f ((n : Int) + m) := by congr 1
    rw [show n + (m + 1) = (n + m) + 1 by omega]
    simp only [dv]
    rw [dv_split n m, e, Int.pow_add, Int.mul_add]
    rw [Int.mul_left_comm, Int.add_assoc]
theorem dv_zero {B : Int} {f : Int → Int} : ∀ {n : Nat}, (∀ k : Int, 0 ≤ k → k < n → f k = 0) → dv B f n = 0
  | 0, _ => rfl
  | n + 1, h => by
    simp only [dv]
    rw [dv_zero (n := n) (fun k h0 h1 => h k h0 (by omega)), h n (by omega) (by omega)]
    simp
theorem dv_ge {B : Int} {f : Int → Int} (hB : 0 < B) {n : Nat} (h : ∀ k : Int, 0 ≤ k → k < n + 1 → 0 ≤ f k) (h0 : f n ≠ 0) : B ^ n ≤ dv B f (n + 1) := by
  simp only [dv]
  have h1 := dv_nonneg hB (n := n) (fun k h0 h1 => h k h0 (by omega))
  have h2 := h n (by omega) (by omega)
  have h3 := pow_pos' hB n
  have h4 : 1 * B ^ n ≤ f n * B ^ n := Int.mul_le_mul_of_nonneg_right (by omega) (by omega)
  omega
theorem dv_top {B : Int} {f : Int → Int} {n : Nat} (h0 : f n = 0) : dv B f (n + 1) = dv B f n := by simp [dv, h0]
theorem pow_le' {B : Int} (hB : 1 ≤ B) {n m : Nat} (h : n ≤ m) : B ^ n ≤ B ^ m := by
  obtain ⟨k, rfl⟩ := Nat.exists_eq_add_of_le h
  rw [Int.pow_add]
  have h1 := pow_pos' (show 0 < B by omega) n
  have h2 : 1 ≤ B ^ k := by have := pow_pos' (show 0 < B by omega) k; omega
  have h3 := Int.mul_le_mul_of_nonneg_left h2 (Int.le_of_lt h1)
  rw [Int.mul_one] at h3
  exact h3
theorem pow_lt_of {B : Int} (hB : 1 ≤ B) {n m : Nat} (h : B ^ n < B ^ m) : n < m := by
  apply Classical.byContradiction
  intro q
  have := pow_le' hB (show m ≤ n by omega)
  omega
