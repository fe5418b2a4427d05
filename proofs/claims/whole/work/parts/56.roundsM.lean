theorem cnt_cong {n : Nat} {P Q : Nat → Bool} (h : ∀ k, k < n → P k = Q k) : cnt n P = cnt n Q := by
  induction n with
  | zero => rfl
  | succ n ih =>
    show cnt n P + (if P n = true then 1 else 0) = cnt n Q + (if Q n = true then 1 else 0)
    rw [ih (fun k hk => h k (by omega)), h n (by omega)]
theorem cnt_t {n : Nat} {P : Nat → Bool} (h : P n = true) : cnt (n + 1) P = cnt n P + 1 := by
  show cnt n P + (if P n = true then 1 else 0) = cnt n P + 1
  rw [if_pos h]
theorem cnt_f {n : Nat} {P : Nat → Bool} (h : P n = false) : cnt (n + 1) P = cnt n P := by
  show cnt n P + (if P n = true then 1 else 0) = cnt n P
  rw [h, if_neg (by decide), Nat.add_zero]
theorem cnt_le (P : Nat → Bool) : ∀ n, cnt n P ≤ n
  | 0 => Nat.le_refl 0
  | n + 1 => by
    have h := cnt_le P n
    show cnt n P + (if P n = true then 1 else 0) ≤ n + 1
    split <;> omega
theorem cnt_or1 {A : Nat → Bool} {x : Nat} : ∀ {n : Nat}, x < n → A x = false → cnt n (fun v => A v || decide (x = v)) = cnt n A + 1
  | 0, h, _ => by omega
  | n + 1, h, hA => by
    by_cases e : x = n
    · subst e
      rw [cnt_t (P := fun v => A v || decide (x = v)) (by simp), cnt_f hA, cnt_cong (P := fun v => A v || decide (x = v)) (Q := A) (fun k hk => by rw [decide_eq_false (show ¬ x = k by omega), Bool.or_false])]
    · have ih := cnt_or1 (A := A) (x := x) (n := n) (by omega) hA
      cases hn : A n with
      | true => rw [cnt_t (P := fun v => A v || decide (x = v)) (by simp [hn]), cnt_t hn, ih]
      | false => rw [cnt_f (P := fun v => A v || decide (x = v)) (by simp [hn, e]), cnt_f hn, ih]
theorem cnt_inj {f : Nat → Nat} {n r : Nat} (hb : ∀ i, i < r → f i < n) (hi : ∀ i j, i < j → j < r → f i ≠ f j) : ∀ k, k ≤ r → cnt n (fun v => anyB k (fun i => decide (f i = v))) = k
  | 0, _ => by
    have : ∀ n, cnt n (fun v => anyB 0 (fun i => decide (f i = v))) = 0 := fun n => by
      induction n with
      | zero => rfl
      | succ n ih => rw [cnt_f (by rfl), ih]
    exact this n
  | k + 1, h => by
    have ih := cnt_inj hb hi k (by omega)
    rw [cnt_cong (n := n) (P := fun v => anyB (k + 1) (fun i => decide (f i = v))) (Q := fun v => anyB k (fun i => decide (f i = v)) || decide (f k = v)) (fun v _ => rfl), cnt_or1 (hb k (by omega)) (anyB_no (fun i h2 => decide_eq_false (hi i k h2 (by omega)))), ih]
theorem pigeon : ∀ (n : Nat) (f : Nat → Nat), (∀ i, i ≤ n → f i < n) → ∃ i j, i < j ∧ j ≤ n ∧ f i = f j
  | 0, f, h => absurd (h 0 (Nat.le_refl 0)) (Nat.not_lt_zero _)
  | n + 1, f, h => by
    by_cases hx : ∃ i, i ≤ n ∧ f i = f (n + 1)
    · obtain ⟨i, hi, e⟩ := hx
      exact ⟨i, n + 1, by omega, Nat.le_refl _, e⟩
    · have hne : ∀ i, i ≤ n → f i ≠ f (n + 1) := fun i hi e => hx ⟨i, hi, e⟩
      have hl := h (n + 1) (Nat.le_refl _)
      obtain ⟨i, j, h1, h2, h3⟩ := pigeon n (fun i => if f i = n then f (n + 1) else f i) (fun i hi => by
        have a := hne i hi
        have b := h i (by omega)
        show (if f i = n then f (n + 1) else f i) < n
        split <;> omega)
      refine ⟨i, j, h1, by omega, ?_⟩
      have a := hne i (by omega)
      have b := hne j h2
      have h4 : (if f i = n then f (n + 1) else f i) = (if f j = n then f (n + 1) else f j) := h3
      split at h4 <;> split at h4 <;> omega
theorem itr_add {S : Nat → Int32} {b p : Nat} : ∀ a, itr S (a + b) p = itr S a (itr S b p)
  | 0 => by rw [Nat.zero_add]; rfl
  | a + 1 => by
    rw [show a + 1 + b = (a + b) + 1 by omega]
    show f6 S (itr S (a + b) p) 0 = f6 S (itr S a (itr S b p)) 0
    rw [itr_add a]
theorem rl_pos {S : Nat → Int32} {p : Nat} : ¬ rlS S p = 0 ↔ ∃ i, i < 16 ∧ itr S (i + 1) p = p := by
  unfold rlS
  constructor
  · intro h
    by_cases e : firstN 16 (fun i => decide (itr S (i + 1) p = p)) < 16
    · exact ⟨_, e, of_decide_eq_true (firstN_lt e).2⟩
    · rw [if_neg e] at h; exact absurd rfl h
  · rintro ⟨i, hi, e⟩
    by_cases z : firstN 16 (fun i => decide (itr S (i + 1) p = p)) < 16
    · rw [if_pos z]; omega
    · have := firstN_z z i hi
      exact absurd e (of_decide_eq_false this)
theorem rl_min {S : Nat → Int32} {p : Nat} (h : ¬ rlS S p = 0) : itr S (rlS S p) p = p ∧ ∀ i, 0 < i → i < rlS S p → itr S i p ≠ p := by
  unfold rlS at h ⊢
  by_cases e : firstN 16 (fun i => decide (itr S (i + 1) p = p)) < 16
  · rw [if_pos e] at h ⊢
    refine ⟨of_decide_eq_true (firstN_lt e).2, fun i h0 h1 => ?_⟩
    have := (firstN_lt e).1 (i - 1) (by omega)
    have := of_decide_eq_false this
    rw [show i - 1 + 1 = i by omega] at this
    exact this
  · rw [if_neg e] at h; exact absurd rfl h
theorem rl_eq {S : Nat → Int32} {p r : Nat} (h0 : 0 < r) (hr : r ≤ 16) (h1 : itr S r p = p) (h2 : ∀ i, 0 < i → i < r → itr S i p ≠ p) : rlS S p = r := by
  unfold rlS
  rw [firstN_eq (n := 16) (i := r - 1) (by omega) (fun k hk => decide_eq_false (h2 (k + 1) (by omega) (by omega))) (decide_eq_true (by rw [show r - 1 + 1 = r by omega]; exact h1)), if_pos (by omega)]
  omega
theorem itr_mul {S : Nat → Int32} {p r : Nat} (h : itr S r p = p) : ∀ k, itr S (k * r) p = p
  | 0 => by rw [Nat.zero_mul]; rfl
  | k + 1 => by rw [Nat.succ_mul, itr_add, h, itr_mul h k]
theorem itr_mod {S : Nat → Int32} {p r : Nat} (h : itr S r p = p) (i : Nat) : itr S i p = itr S (i % r) p := by
  have e : i = i % r + (i / r) * r := by rw [Nat.mul_comm]; exact (Nat.mod_add_div i r).symm
  have := itr_add (S := S) (b := (i / r) * r) (p := p) (i % r)
  rw [itr_mul h, ← e] at this
  exact this
theorem bef_lt {S : Nat → Int32} (h : IS S) {p : Nat} (hp : p < 16) : befN S p < 16 := by
  unfold befN
  refine Classical.byContradiction (fun z => ?_)
  obtain ⟨i, j, h1, h2, h3⟩ := pigeon 16 (fun i => itr S i p) (fun i _ => itr_lt h i hp)
  have h3 : itr S i p = itr S j p := h3
  have hz := firstN_z z i (by omega)
  refine of_decide_eq_false hz (rl_pos.mpr ⟨j - i - 1, by omega, ?_⟩)
  have := itr_add (S := S) (b := i) (p := p) (j - i)
  rw [show j - i - 1 + 1 = j - i by omega, ← this, show j - i + i = j by omega]
  exact h3.symm
theorem rl_next {S : Nat → Int32} {q : Nat} (h : ¬ rlS S q = 0) (k : Nat) : rlS S (itr S k q) = rlS S q := by
  obtain ⟨h1, h2⟩ := rl_min h
  have hle := rlS_le S q
  have hc : ∀ a b : Nat, itr S a (itr S b q) = itr S b (itr S a q) := fun a b => by rw [← itr_add, ← itr_add, Nat.add_comm]
  refine rl_eq (by omega) hle (by rw [hc, h1]) (fun i h0 hi z => h2 i h0 hi ?_)
  have hm : itr S (k * rlS S q - k) (itr S k q) = q := by
    rw [← itr_add, show k * rlS S q - k + k = k * rlS S q from Nat.sub_add_cancel (Nat.le_mul_of_pos_right k (by omega)), itr_mul h1]
  have e1 : itr S i q = itr S i (itr S (k * rlS S q - k) (itr S k q)) := by rw [hm]
  rw [e1, ← itr_add, Nat.add_comm, itr_add, z, hm]
theorem rl_16 {S : Nat → Int32} (h : IS S) {p : Nat} (hp : p < 16) : ¬ rlS S (itr S 16 p) = 0 := by
  have hb := bef_lt h hp
  have h1 : ¬ rlS S (itr S (befN S p) p) = 0 := by
    have := (firstN_lt (n := 16) hb).2
    exact of_decide_eq_true this
  have e : itr S 16 p = itr S (16 - befN S p) (itr S (befN S p) p) := by rw [← itr_add, show 16 - befN S p + befN S p = 16 by omega]
  rw [e, rl_next h1]
  exact h1
/-- the ponds of the round to which a chain comes -/
def rdP (S : Nat → Int32) (p : Nat) : Nat → Bool := fun v => anyB 16 (fun i => decide (itr S (16 + i) p = v))
theorem rd_orV {S : Nat → Int32} (h : IS S) {p : Nat} (hp : p < 16) : orV 16 (fun i => itr S (16 + i) p) = orL 16 (rdP S p) := b_ext (fun i hi => by
  rw [bt_orV (fun k _ => Nat.lt_of_lt_of_le (itr_lt h _ hp) (by decide)) hi, bt_orL (by decide) hi]
  unfold rdP
  rw [Bool.eq_iff_iff, Bool.and_eq_true, anyB_iff, anyB_iff, decide_eq_true_iff]
  constructor
  · rintro ⟨k, hk, e⟩
    have e := of_decide_eq_true e
    exact ⟨by rw [e]; exact itr_lt h _ hp, k, hk, decide_eq_true e.symm⟩
  · rintro ⟨_, k, hk, e⟩
    exact ⟨k, hk, decide_eq_true (of_decide_eq_true e).symm⟩)
theorem rd_cnt {S : Nat → Int32} (h : IS S) {p : Nat} (hp : p < 16) : cnt 16 (rdP S p) = rlS S (itr S 16 p) := by
  have h0 := rl_16 h hp
  obtain ⟨h1, h2⟩ := rl_min h0
  have hle := rlS_le S (itr S 16 p)
  have hq := itr_lt h 16 hp
  generalize hr : rlS S (itr S 16 p) = r at h0 h1 h2 hle ⊢
  generalize hqq : itr S 16 p = q at h1 h2 hq hr
  have e : cnt 16 (rdP S p) = cnt 16 (fun v => anyB r (fun i => decide (itr S i q = v))) := cnt_cong (fun v _ => by
    unfold rdP
    rw [Bool.eq_iff_iff, anyB_iff, anyB_iff]
    constructor
    · rintro ⟨i, hi, e⟩
      have e := of_decide_eq_true e
      rw [Nat.add_comm, itr_add, hqq, itr_mod h1] at e
      exact ⟨i % r, Nat.mod_lt _ (by omega), decide_eq_true e⟩
    · rintro ⟨i, hi, e⟩
      have e := of_decide_eq_true e
      exact ⟨i, by omega, decide_eq_true (by rw [Nat.add_comm, itr_add, hqq]; exact e)⟩)
  rw [e]
  refine cnt_inj (fun i _ => itr_lt h i hq) (fun i j hij hj z => ?_) r (Nat.le_refl r)
  refine h2 (r - j + i) (by omega) (by omega) ?_
  rw [itr_add, z, ← itr_add, show r - j + j = r by omega, h1]
theorem low_b : ∀ p, p < 16 → b1 p - nI 1 = orL 16 (fun k => decide (k < p)) := by decide +kernel
theorem low_z {P : Nat → Bool} {p : Nat} (hp : p < 16) : orL 16 P &&& (b1 p - nI 1) = 0 ↔ ∀ k, k < p → P k = false := by
  rw [low_b p hp, orL_and (by decide), orL_z (by decide)]
  constructor
  · intro h k hk
    have := h k (by omega)
    rw [decide_eq_true hk, Bool.and_true] at this
    exact this
  · intro h k _
    by_cases e : k < p
    · rw [h k e, Bool.false_and]
    · rw [decide_eq_false e, Bool.and_false]
theorem ll_iff {S : Nat → Int32} (h : IS S) {p : Nat} (hp : p < 16) : llS S p = true ↔ ¬ rlS S p = 0 ∧ ∀ k, k < p → rdP S p k = false := by
  unfold llS
  rw [Bool.and_eq_true, decide_eq_true_iff, Bool.not_eq_true', Bool.eq_false_iff, Ne, anyB_iff]
  constructor
  · rintro ⟨h0, hn⟩
    obtain ⟨h1, h2⟩ := rl_min (S := S) (p := p) (by omega)
    refine ⟨by omega, fun k hk => anyB_no (fun i hi => decide_eq_false (fun e => ?_))⟩
    rw [itr_mod h1] at e
    have ht := Nat.mod_lt (16 + i) h0
    by_cases z : (16 + i) % rlS S p = 0
    · rw [z] at e
      have e2 : p = k := e
      omega
    · exact hn ⟨(16 + i) % rlS S p - 1, by omega, decide_eq_true (by rw [show (16 + i) % rlS S p - 1 + 1 = (16 + i) % rlS S p by omega, e]; exact hk)⟩
  · rintro ⟨h0, hn⟩
    obtain ⟨h1, h2⟩ := rl_min h0
    have hle := rlS_le S p
    refine ⟨by omega, fun ⟨i, hi, e⟩ => ?_⟩
    have e := of_decide_eq_true e
    have hb := hn _ e
    have hj : (i + 1 + 16 * rlS S p - 16) % rlS S p < rlS S p := Nat.mod_lt _ (by omega)
    refine absurd (anyB_yes (n := 16) (P := fun j => decide (itr S (16 + j) p = itr S (i + 1) p)) (k := (i + 1 + 16 * rlS S p - 16) % rlS S p) (by omega) (decide_eq_true ?_)) (by
      unfold rdP at hb
      rw [hb]
      decide)
    rw [itr_mod h1 (16 + _), Nat.add_mod_mod, show 16 + (i + 1 + 16 * rlS S p - 16) = i + 1 + 16 * rlS S p by omega, Nat.add_mul_mod_self_right, Nat.mod_eq_of_lt (by omega)]
