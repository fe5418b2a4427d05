/-! ===== Int32 by its bits: bt x i ===== -/
def bt (x : Int32) (i : Nat) : Bool := x.toBitVec.getLsbD i
theorem b_ext {x y : Int32} (h : ∀ i, i < 32 → bt x i = bt y i) : x = y := Int32.toBitVec_inj.mp (BitVec.eq_of_getLsbD_eq (fun i hi => h i hi))
theorem b_or (x y : Int32) (i : Nat) : bt (x ||| y) i = (bt x i || bt y i) := by unfold bt; rw [Int32.toBitVec_or, BitVec.getLsbD_or]
theorem b_and (x y : Int32) (i : Nat) : bt (x &&& y) i = (bt x i && bt y i) := by unfold bt; rw [Int32.toBitVec_and, BitVec.getLsbD_and]
theorem b_xor (x y : Int32) (i : Nat) : bt (x ^^^ y) i = (bt x i ^^ bt y i) := by unfold bt; rw [Int32.toBitVec_xor, BitVec.getLsbD_xor]
theorem b_big {x : Int32} {i : Nat} (h : 32 ≤ i) : bt x i = false := BitVec.getLsbD_of_ge _ _ h
theorem b_255 (i : Nat) : bt 255 i = decide (i < 8) := by
  rcases Nat.lt_or_ge i 32 with h | h
  · exact (by decide +kernel : ∀ i, i < 32 → bt 255 i = decide (i < 8)) i h
  · rw [b_big h, decide_eq_false (by omega)]
theorem b_65535 (i : Nat) : bt 65535 i = decide (i < 16) := by
  rcases Nat.lt_or_ge i 32 with h | h
  · exact (by decide +kernel : ∀ i, i < 32 → bt 65535 i = decide (i < 16)) i h
  · rw [b_big h, decide_eq_false (by omega)]
theorem b_m1 : ∀ i, i < 32 → bt (-1) i = true := by decide +kernel
theorem b_0 (i : Nat) : bt 0 i = false := BitVec.getLsbD_zero
theorem s_l : ∀ n, n < 32 → ((nI n &&& 31).toBitVec.smod 32).toNat = n := by decide +kernel
theorem s_u : ∀ n, n < 32 → (((nI n).toUInt32 &&& Int32.toUInt32 31).toBitVec % 32).toNat = n := by decide +kernel
theorem b_shl (n : Nat) (hn : n < 32) (x : Int32) {i : Nat} (hi : i < 32) : bt (x <<< (nI n &&& 31)) i = (decide (n ≤ i) && bt x (i - n)) := by
  unfold bt
  rw [Int32.toBitVec_shiftLeft]
  show (x.toBitVec <<< ((nI n &&& 31).toBitVec.smod 32).toNat).getLsbD i = _
  rw [s_l n hn, BitVec.getLsbD_shiftLeft]
  rcases Nat.lt_or_ge i n with h | h
  · simp [h, Nat.not_le.mpr h]
  · simp [hi, h, Nat.not_lt.mpr h]
theorem b_ushr (n : Nat) (hn : n < 32) (x : Int32) (i : Nat) : bt ((x.toUInt32 >>> ((nI n).toUInt32 &&& Int32.toUInt32 31)).toInt32) i = bt x (n + i) := by
  show (x.toUInt32 >>> ((nI n).toUInt32 &&& Int32.toUInt32 31)).toBitVec.getLsbD i = x.toUInt32.toBitVec.getLsbD (n + i)
  rw [UInt32.toBitVec_shiftRight]
  show (x.toUInt32.toBitVec >>> (((nI n).toUInt32 &&& Int32.toUInt32 31).toBitVec % 32).toNat).getLsbD i = _
  rw [s_u n hn, BitVec.getLsbD_ushiftRight]
theorem b_sshr (n : Nat) (hn : n < 32) (x : Int32) {i : Nat} (hi : i < 32) : bt (x >>> (nI n &&& 31)) i = if n + i < 32 then bt x (n + i) else bt x 31 := by
  unfold bt
  rw [Int32.toBitVec_shiftRight]
  show (x.toBitVec.sshiftRight ((nI n &&& 31).toBitVec.smod 32).toNat).getLsbD i = _
  rw [s_l n hn, BitVec.getLsbD_sshiftRight, BitVec.msb_eq_getLsbD_last]
  simp [hi]
theorem bt_b1 : ∀ n, n < 32 → ∀ i, i < 32 → bt (b1 n) i = decide (i = n) := by
  intro n hn i hi
  unfold b1
  rw [b_shl n hn (nI 1) hi]
  have h1 : ∀ j, j < 32 → bt (nI 1) j = decide (j = 0) := by decide +kernel
  rw [h1 _ (by omega)]
  by_cases h : i = n
  · subst h; simp
  · by_cases h2 : n ≤ i
    · have : i - n ≠ 0 := by omega
      simp [h, h2, this]
    · simp [h, h2]
theorem bt_0 (i : Nat) : bt (nI 0) i = false := BitVec.getLsbD_zero
theorem bt_orL {n : Nat} {P : Nat → Bool} (hn : n ≤ 32) {i : Nat} (hi : i < 32) : bt (orL n P) i = (decide (i < n) && P i) := by
  induction n with
  | zero => simp [orL, bt_0]
  | succ n ih =>
    simp only [orL]
    rw [b_or, ih (by omega)]
    by_cases h : i = n
    · subst h
      by_cases hp : P i = true
      · simp [hp, bt_b1 i hi i hi]
      · simp [hp, bt_0]
    · have e : (decide (i < n + 1)) = decide (i < n) := by rw [decide_eq_decide]; omega
      rw [e]
      by_cases hp : P n = true
      · simp [hp, bt_b1 n (by omega) i hi, h]
      · simp [hp, bt_0]
theorem bt_orV {n : Nat} {f : Nat → Nat} (hf : ∀ k, k < n → f k < 32) {i : Nat} (hi : i < 32) : bt (orV n f) i = anyB n (fun k => decide (i = f k)) := by
  induction n with
  | zero => simp [orV, anyB, bt_0]
  | succ n ih => simp only [orV, anyB]; rw [b_or, ih (fun k hk => hf k (by omega)), bt_b1 _ (hf n (by omega)) _ hi]
theorem and1 (x : Int32) : x &&& nI 1 = 0 ↔ bt x 0 = false := by
  constructor
  · intro h
    have := b_and x (nI 1) 0
    rw [h, show bt (nI 1) 0 = true by decide, Bool.and_true] at this
    rw [← this]; exact b_0 0
  · intro h
    apply b_ext
    intro i hi
    rw [b_and, b_0]
    have h1 : ∀ j, j < 32 → bt (nI 1) j = decide (j = 0) := by decide +kernel
    rw [h1 i hi]
    by_cases e : i = 0
    · subst e; rw [h]; rfl
    · simp [e]
theorem bit_bt {x : Int32} {k : Nat} (hk : k < 32) : bit x k = bt x k := by
  unfold bit
  have e : (x >>> (nI k &&& 31)) &&& nI 1 = 0 ↔ bt x k = false := by rw [and1, b_sshr k hk x (by omega), if_pos (by omega), Nat.add_zero]
  cases hb : bt x k with
  | false => exact decide_eq_false (fun z => z (e.mpr hb))
  | true => exact decide_eq_true (fun z => by rw [e.mp z] at hb; cases hb)
theorem z_iff (x : Int32) : x = 0 ↔ ∀ i, i < 32 → bt x i = false := ⟨fun h i _ => by rw [h]; exact b_0 i, fun h => b_ext (fun i hi => by rw [h i hi, b_0])⟩
theorem orL_z {n : Nat} {P : Nat → Bool} (hn : n ≤ 32) : orL n P = 0 ↔ ∀ k, k < n → P k = false := by
  rw [z_iff]
  constructor
  · intro h k hk
    have := h k (by omega)
    rw [bt_orL hn (by omega), decide_eq_true hk, Bool.true_and] at this
    exact this
  · intro h i hi
    rw [bt_orL hn hi]
    by_cases hl : i < n
    · rw [h i hl, Bool.and_false]
    · simp [hl]
theorem anyB_iff {n : Nat} {P : Nat → Bool} : anyB n P = true ↔ ∃ k, k < n ∧ P k = true := by
  constructor
  · intro h
    induction n with
    | zero => simp [anyB] at h
    | succ n ih =>
      simp only [anyB, Bool.or_eq_true] at h
      rcases h with h | h
      · obtain ⟨k, hk, hp⟩ := ih h
        exact ⟨k, by omega, hp⟩
      · exact ⟨n, by omega, h⟩
  · rintro ⟨k, hk, hp⟩
    exact anyB_yes hk hp
theorem anyB_cong {n : Nat} {P P' : Nat → Bool} (h : ∀ k, k < n → P k = P' k) : anyB n P = anyB n P' := by
  induction n with
  | zero => rfl
  | succ n ih => simp only [anyB]; rw [ih (fun k hk => h k (by omega)), h n (by omega)]
/-- in which ponds anything is, by what is in each -/
theorem in_z {S : Nat → Int32} (h : IS S) {p : Nat} (hp : p < 2 ^ 31) : inS S (nI p) = 0 ↔ anyB (iN S) (fun k => decide (p = f3 S k 1)) = false := by
  have hN := leN h
  unfold inS
  rw [orL_z (by omega)]
  have e : ∀ k, k < iN S → (decide (nI (f3 S k 1) = nI p) = decide (p = f3 S k 1)) := fun k hk => by
    have := lt31 h (k := k) (by omega)
    rw [decide_eq_decide, nI_eq (by omega) hp]
    exact ⟨fun z => z.symm, fun z => z.symm⟩
  constructor
  · intro q
    exact anyB_no (fun k hk => by rw [← e k hk]; exact q k hk)
  · intro q k hk
    rw [e k hk]
    cases hc : decide (p = f3 S k 1) with
    | false => rfl
    | true =>
      have := anyB_yes (P := fun k => decide (p = f3 S k 1)) hk hc
      rw [q] at this
      cases this
theorem fill_bt {S : Nat → Int32} (h : IS S) {p : Nat} (hp : p < 32) : bt (fillS S) p = anyB (iN S) (fun k => decide (p = f3 S k 1)) := by
  have hN := leN h
  exact bt_orV (fun k hk => by have := lt31 h (k := k) (by omega); omega) hp
theorem pw_in {S : Nat → Int32} (h : IS S) : orL 16 (fun p => decide (¬ inS S (nI p) = 0)) = fillS S := by
  have hN := leN h
  apply b_ext
  intro i hi
  rw [bt_orL (by omega) hi, fill_bt h hi]
  by_cases hl : i < 16
  · rw [decide_eq_true hl, Bool.true_and, decide_not, show decide (inS S (nI i) = 0) = decide (anyB (iN S) (fun k => decide (i = f3 S k 1)) = false) from decide_eq_decide.mpr (in_z h (by omega))]
    cases anyB (iN S) (fun k => decide (i = f3 S k 1)) <;> rfl
  · rw [decide_eq_false hl, Bool.false_and]
    exact (anyB_no (fun k hk => decide_eq_false (by have := lt31 h (k := k) (by omega); omega))).symm
theorem pw_seen {S : Nat → Int32} (h : IS S) : orL 16 (fun p => decide (¬ inS S (nI (f6 S p 0)) = 0)) = sightS S := by
  unfold sightS
  refine orL_cong (fun p hp => ?_)
  have hs := lt60 h hp
  rw [bit_bt (by omega), fill_bt h (by omega), decide_not, show decide (inS S (nI (f6 S p 0)) = 0) = decide (anyB (iN S) (fun k => decide (f6 S p 0 = f3 S k 1)) = false) from decide_eq_decide.mpr (in_z h (by omega))]
  cases anyB (iN S) (fun k => decide (f6 S p 0 = f3 S k 1)) <;> rfl
theorem kind1 : ∀ k, k < 7 → kindS 1 k = (decide (k = 1) || decide (k = 6)) := by decide +kernel
