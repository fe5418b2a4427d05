/-! sets of ponds as numbers below 65536 -/
def allB : Nat → (Nat → Bool) → Bool
  | 0, _ => true
  | n + 1, f => f n && allB n f
theorem allB_at {f : Nat → Bool} : ∀ {n : Nat}, allB n f = true → ∀ k, k < n → f k = true
  | 0, _, k, hk => by omega
  | n + 1, h, k, hk => by
    simp only [allB, Bool.and_eq_true] at h
    rcases Nat.lt_or_ge k n with z | z
    · exact allB_at h.2 k z
    · rw [show k = n by omega]; exact h.1
def pcA (n : Nat) : Nat := n - ((n >>> 1) &&& 1431655765)
def pcB (a : Nat) : Nat := (a &&& 858993459) + ((a >>> 2) &&& 858993459)
def pcC (b : Nat) : Nat := (b + (b >>> 4)) &&& 252645135
def pcD (c : Nat) : Nat := c + (c >>> 8)
def pcE (d : Nat) : Nat := d + (d >>> 16)
def pcN (n : Nat) : Nat := pcE (pcD (pcC (pcB (pcA n)))) &&& 63
theorem land_s {u v m k : Nat} (hv : v < 256) (hk : k < 256) : (256 * u + v) &&& (256 * m + k) = 256 * (u &&& m) + (v &&& k) := by
  have hvk : v &&& k < 256 := Nat.lt_of_le_of_lt Nat.and_le_left hv
  apply Nat.eq_of_testBit_eq
  intro i
  rw [Nat.testBit_and, show 256 = 2 ^ 8 from rfl, Nat.testBit_two_pow_mul_add _ hv, Nat.testBit_two_pow_mul_add _ hk, Nat.testBit_two_pow_mul_add _ hvk]
  split
  · rw [Nat.testBit_and]
  · rw [Nat.testBit_and]
def p1 (b : Nat) : Nat := (b >>> 1) &&& 85
theorem p1_le : ∀ b, b < 256 → p1 b ≤ b := by decide +kernel
theorem p1_x : ∀ c, c < 2 → ∀ b, b < 256 → ((256 * c + b) >>> 1) % 256 &&& 85 = p1 b := by decide +kernel
theorem pcA_s {a b : Nat} (ha : a < 256) (hb : b < 256) : pcA (256 * a + b) = 256 * (a - p1 a) + (b - p1 b) := by
  have h1 : (256 * a + b) >>> 1 = 256 * (a >>> 1) + ((256 * (a % 2) + b) >>> 1) % 256 := by
    simp only [Nat.shiftRight_eq_div_pow]; omega
  have h2 : (a >>> 1) < 128 := by simp only [Nat.shiftRight_eq_div_pow]; omega
  have h3 : (a >>> 1) &&& 5592405 = p1 a := (by decide +kernel : ∀ a, a < 256 → (a >>> 1) &&& 5592405 = p1 a) a ha
  have la := p1_le a ha
  have lb := p1_le b hb
  unfold pcA
  rw [h1, show (1431655765 : Nat) = 256 * 5592405 + 85 from rfl, land_s (Nat.mod_lt _ (by decide)) (by decide), p1_x (a % 2) (by omega) b hb, h3]
  omega
def q1 (b : Nat) : Nat := b - p1 b
def q2 (b : Nat) : Nat := (b &&& 51) + ((b >>> 2) &&& 51)
theorem q1_lt : ∀ b, b < 256 → q1 b < 256 ∧ q2 (q1 b) < 256 ∧ ((q2 (q1 b) + (q2 (q1 b) >>> 4)) &&& 15) ≤ 8 ∧ ((q2 (q1 b) + (q2 (q1 b) >>> 4)) % 256 &&& 15) = ((q2 (q1 b) + (q2 (q1 b) >>> 4)) &&& 15) := by decide +kernel
theorem q2_x : ∀ c, c < 4 → ∀ b, b < 256 → ((256 * c + b) >>> 2) % 256 &&& 51 = (b >>> 2) &&& 51 := by decide +kernel
theorem pcB_s {a b : Nat} (ha : a < 256) (hb : b < 256) : pcB (256 * a + b) = 256 * q2 a + q2 b := by
  have h1 : (256 * a + b) >>> 2 = 256 * (a >>> 2) + ((256 * (a % 4) + b) >>> 2) % 256 := by
    simp only [Nat.shiftRight_eq_div_pow]; omega
  have h3 : (a >>> 2) &&& 3355443 = (a >>> 2) &&& 51 := (by decide +kernel : ∀ a, a < 256 → (a >>> 2) &&& 3355443 = (a >>> 2) &&& 51) a ha
  have h4 : a &&& 3355443 = a &&& 51 := (by decide +kernel : ∀ a, a < 256 → a &&& 3355443 = a &&& 51) a ha
  unfold pcB
  rw [h1, show (858993459 : Nat) = 256 * 3355443 + 51 from rfl, land_s hb (by decide), land_s (Nat.mod_lt _ (by decide)) (by decide), q2_x (a % 4) (by omega) b hb, h3, h4]
  unfold q2
  omega
def q3 (b : Nat) : Nat := (b + (b >>> 4)) &&& 15
def p8 (b : Nat) : Nat := q3 (q2 (q1 b))
/-- numbers of 4 bits each that are at most 4 -/
def q2L (b : Nat) : Prop := b / 16 ≤ 4 ∧ b % 16 ≤ 4
theorem q2_L : ∀ b, b < 256 → q2 (q1 b) / 16 ≤ 4 ∧ q2 (q1 b) % 16 ≤ 4 ∧ p8 b ≤ 8 := by decide +kernel
theorem q3_x : ∀ d, d < 5 → ∀ e, e < 5 → ∀ c, c < 5 → (16 * d + e + (16 * c + d)) &&& 15 = q3 (16 * d + e) := by decide +kernel
theorem q3_y : ∀ d, d < 5 → ∀ e, e < 5 → (16 * d + e + d) &&& 986895 = q3 (16 * d + e) := by decide +kernel
theorem pcC_s {a b : Nat} (ha : a / 16 ≤ 4 ∧ a % 16 ≤ 4) (hb : b / 16 ≤ 4 ∧ b % 16 ≤ 4) : pcC (256 * a + b) = 256 * q3 a + q3 b := by
  have h1 : (256 * a + b) + ((256 * a + b) >>> 4) = 256 * (16 * (a / 16) + a % 16 + a / 16) + (16 * (b / 16) + b % 16 + (16 * (a % 16) + b / 16)) := by
    simp only [Nat.shiftRight_eq_div_pow]; omega
  unfold pcC
  rw [h1, show (252645135 : Nat) = 256 * 986895 + 15 from rfl, land_s (by omega) (by decide), q3_x _ (by omega) _ (by omega) _ (by omega), q3_y _ (by omega) _ (by omega), show 16 * (a / 16) + a % 16 = a by omega, show 16 * (b / 16) + b % 16 = b by omega]
theorem pcN_s {a b : Nat} (ha : a < 256) (hb : b < 256) : pcN (256 * a + b) = p8 a + p8 b := by
  have g1 := q1_lt a ha
  have g2 := q1_lt b hb
  have g3 := q2_L a ha
  have g4 := q2_L b hb
  unfold pcN
  rw [pcA_s ha hb, show a - p1 a = q1 a from rfl, show b - p1 b = q1 b from rfl, pcB_s g1.1 g2.1, pcC_s ⟨g3.1, g3.2.1⟩ ⟨g4.1, g4.2.1⟩]
  have e : ∀ x, x < 9 → ∀ y, y < 9 → pcE (pcD (256 * x + y)) &&& 63 = x + y := by decide +kernel
  exact e (p8 a) (by omega) (p8 b) (by omega)

