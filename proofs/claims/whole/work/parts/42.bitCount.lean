theorem bt_nI {n i : Nat} (hi : i < 32) : bt (nI n) i = n.testBit i := by
  show (BitVec.ofNat 32 n).getLsbD i = _
  rw [BitVec.getLsbD_ofNat]
  simp [hi]
theorem nI_and (a b : Nat) : nI a &&& nI b = nI (a &&& b) := b_ext (fun i hi => by rw [b_and, bt_nI hi, bt_nI hi, bt_nI hi, Nat.testBit_and])
theorem nI_or (a b : Nat) : nI a ||| nI b = nI (a ||| b) := b_ext (fun i hi => by rw [b_or, bt_nI hi, bt_nI hi, bt_nI hi, Nat.testBit_or])
theorem nI_ushr {a k : Nat} (ha : a < 2 ^ 32) (hk : k < 32) : ((nI a).toUInt32 >>> ((nI k).toUInt32 &&& Int32.toUInt32 31)).toInt32 = nI (a >>> k) := b_ext (fun i hi => by
  rw [b_ushr k hk, bt_nI hi, Nat.testBit_shiftRight]
  rcases Nat.lt_or_ge (k + i) 32 with h | h
  · rw [bt_nI h]
  · rw [b_big h, Nat.testBit_lt_two_pow (Nat.lt_of_lt_of_le ha (Nat.pow_le_pow_right (by decide) h))])
theorem p8_hi : ∀ k, k < 8 → ∀ b, b < 2 ^ k → p8 (2 ^ k + b) = p8 b + 1 := by decide +kernel
theorem p8_lo : ∀ b, b < 256 → b ≠ 0 → p8 (b &&& (b - 1)) + 1 = p8 b ∧ b &&& (b - 1) < b := by decide +kernel
theorem pcN_b {b : Nat} (hb : b < 256) : pcN b = p8 b := by
  have h := pcN_s (a := 0) (by decide) hb
  rw [Nat.mul_zero, Nat.zero_add] at h
  rw [h, show p8 0 = 0 by decide, Nat.zero_add]
theorem pcN_hi {n m : Nat} (hn : n < 16) (hm : m < 2 ^ n) : pcN (2 ^ n + m) = pcN m + 1 := by
  rcases Nat.lt_or_ge n 8 with h | h
  · have h2 : 2 ^ n ≤ 2 ^ 7 := Nat.pow_le_pow_right (by decide) (by omega)
    rw [pcN_b (by omega), pcN_b (by omega)]
    exact p8_hi n h m hm
  · have e : 2 ^ n = 256 * 2 ^ (n - 8) := by rw [show (256 : Nat) = 2 ^ 8 from rfl, ← Nat.pow_add, show 8 + (n - 8) = n by omega]
    have h2 : 2 ^ (n - 8) ≤ 2 ^ 7 := Nat.pow_le_pow_right (by decide) (by omega)
    have h3 : m / 256 < 2 ^ (n - 8) := by omega
    have h4 := pcN_s (a := 2 ^ (n - 8) + m / 256) (b := m % 256) (by omega) (by omega)
    have h5 := pcN_s (a := m / 256) (b := m % 256) (by omega) (by omega)
    have h6 := p8_hi (n - 8) (by omega) (m / 256) h3
    rw [show 256 * (m / 256) + m % 256 = m by omega] at h5
    rw [show 256 * (2 ^ (n - 8) + m / 256) + m % 256 = 2 ^ n + m by omega] at h4
    omega
theorem pcN_lo {x : Nat} (hx : x < 65536) (h0 : x ≠ 0) : pcN (x &&& (x - 1)) + 1 = pcN x ∧ x &&& (x - 1) < x := by
  have hs := pcN_s (a := x / 256) (b := x % 256) (by omega) (by omega)
  rw [show 256 * (x / 256) + x % 256 = x by omega] at hs
  by_cases hb : x % 256 = 0
  · have ha := p8_lo (x / 256) (by omega) (by omega)
    have e : x &&& (x - 1) = 256 * ((x / 256) &&& (x / 256 - 1)) + 0 := by
      have h := land_s (u := x / 256) (v := 0) (m := x / 256 - 1) (k := 255) (by decide) (by decide)
      rw [show 256 * (x / 256) + 0 = x by omega, show 256 * (x / 256 - 1) + 255 = x - 1 by omega] at h
      rw [h, Nat.zero_and]
    have h2 := pcN_s (a := (x / 256) &&& (x / 256 - 1)) (b := 0) (by omega) (by decide)
    rw [e, hs, h2, hb]
    omega
  · have ha := p8_lo (x % 256) (by omega) hb
    have e : x &&& (x - 1) = 256 * (x / 256) + ((x % 256) &&& (x % 256 - 1)) := by
      have h := land_s (u := x / 256) (v := x % 256) (m := x / 256) (k := x % 256 - 1) (by omega) (by omega)
      rw [show 256 * (x / 256) + x % 256 = x by omega, show 256 * (x / 256) + (x % 256 - 1) = x - 1 by omega, Nat.and_self] at h
      exact h
    have h2 := pcN_s (a := x / 256) (b := (x % 256) &&& (x % 256 - 1)) (by omega) (by omega)
    rw [e, hs, h2]
    omega
/-- a set's number; how many hold -/
def mk (n : Nat) (P : Nat → Bool) : Nat := match n with
  | 0 => 0
  | n + 1 => (if P n then 2 ^ n else 0) + mk n P
def cnt (n : Nat) (P : Nat → Bool) : Nat := match n with
  | 0 => 0
  | n + 1 => cnt n P + (if P n then 1 else 0)
theorem mk_lt (P : Nat → Bool) : ∀ n, mk n P < 2 ^ n
  | 0 => by show 0 < 1; decide
  | n + 1 => by
    have h := mk_lt P n
    simp only [mk, Nat.pow_succ]
    split <;> omega
theorem mk_pc (P : Nat → Bool) : ∀ n, n ≤ 16 → pcN (mk n P) = cnt n P
  | 0, _ => by show pcN 0 = 0; decide
  | n + 1, h => by
    have ih := mk_pc P n (by omega)
    simp only [mk, cnt]
    split
    · rw [pcN_hi (by omega) (mk_lt P n), ih]
    · rw [Nat.zero_add, ih, Nat.add_zero]
theorem mk_bit {P : Nat → Bool} : ∀ {n i : Nat}, (mk n P).testBit i = (decide (i < n) && P i)
  | 0, i => by simp [mk]
  | n + 1, i => by
    have hl := mk_lt P n
    simp only [mk]
    by_cases hp : P n = true
    · rw [if_pos hp, show 2 ^ n + mk n P = 2 ^ n * 1 + mk n P by omega, Nat.testBit_two_pow_mul_add _ hl, mk_bit]
      rcases Nat.lt_trichotomy i n with h | h | h
      · simp [h, Nat.lt_succ_of_lt h]
      · subst h; simp [hp]
      · have h1 : ¬ i < n := by omega
        have h2 : ¬ i < n + 1 := by omega
        have h3 : i - n ≠ 0 := by omega
        rw [if_neg h1, decide_eq_false h2, Bool.false_and]
        exact Nat.testBit_lt_two_pow (Nat.one_lt_two_pow h3)
    · rw [if_neg hp, Nat.zero_add, mk_bit]
      by_cases h : i = n
      · subst h; simp [hp]
      · have : (i < n) = (i < n + 1) := by rw [eq_iff_iff]; omega
        simp [this]
theorem orL_mk {n : Nat} (hn : n ≤ 32) (P : Nat → Bool) : orL n P = nI (mk n P) := b_ext (fun i hi => by rw [bt_orL hn hi, bt_nI hi, mk_bit])
theorem pcA_le (n : Nat) : pcA n ≤ n := Nat.sub_le _ _
theorem pcA_h (n : Nat) : (n >>> 1) &&& 1431655765 ≤ n := Nat.le_trans Nat.and_le_left (by simp only [Nat.shiftRight_eq_div_pow]; omega)
theorem pcB_le (a : Nat) : pcB a ≤ 1717986918 := by
  have h1 : a &&& 858993459 ≤ 858993459 := Nat.and_le_right
  have h2 : (a >>> 2) &&& 858993459 ≤ 858993459 := Nat.and_le_right
  unfold pcB
  omega
theorem pcC_le (b : Nat) : pcC b ≤ 252645135 := Nat.and_le_right
theorem pcD_le (c : Nat) (h : c ≤ 252645135) : pcD c ≤ 505290270 := by unfold pcD; simp only [Nat.shiftRight_eq_div_pow]; omega
section PA
variable {M : jM}
set_option maxRecDepth 4000 in
theorem c_J6_bitCount (l : Launch) (E : jE) (n : Nat) (hn : n < 65536)  : K_J6_bitCount_0f7a4 l E [.int (nI n)] M (nI (pcN n)) (M) := by
  refine CT_intro (own := RJ6) (by decide +kernel) rfl (by simp [Value.category]) (Nat.le_of_ble_eq_true rfl) rfl (fun X C G => ?_)
  show J E X 0 [some (.int (nI n))] [] M
  refine J_iload_n C (dA DJ6_bitCount_0f7a4_0 0 rfl) rfl ?_
  refine J_iload_n C (dA DJ6_bitCount_0f7a4_0 1 rfl) rfl ?_
  refine J_iconst (v := nI 1) C (dA DJ6_bitCount_0f7a4_0 2 rfl) (by decide) ?_
  refine J_iushr C (dA DJ6_bitCount_0f7a4_0 3 rfl) ?_
  rw [nI_ushr (by omega) (by decide)]
  refine J_ldc_w (v := nI 1431655765) C wK_RJ6_265 (dA DJ6_bitCount_0f7a4_0 4 rfl) ?_
  refine J_iand C (dA DJ6_bitCount_0f7a4_0 5 rfl) ?_
  rw [nI_and]
  refine J_isub_n C (pcA_h n) (dA DJ6_bitCount_0f7a4_0 6 rfl) ?_
  rw [show n - (n >>> 1 &&& 1431655765) = pcA n from rfl]
  have l1 := pcA_le n
  refine J_ist_0_1 C (dA DJ6_bitCount_0f7a4_0 7 rfl) rfl ?_
  refine J_iload_n C (dA DJ6_bitCount_0f7a4_0 8 rfl) rfl ?_
  refine J_ldc_w (v := nI 858993459) C wK_RJ6_266 (dA DJ6_bitCount_0f7a4_0 9 rfl) ?_
  refine J_iand C (dA DJ6_bitCount_0f7a4_0 10 rfl) ?_
  rw [nI_and]
  refine J_iload_n C (dA DJ6_bitCount_0f7a4_0 11 rfl) rfl ?_
  refine J_iconst (v := nI 2) C (dA DJ6_bitCount_0f7a4_0 12 rfl) (by decide) ?_
  refine J_iushr C (dA DJ6_bitCount_0f7a4_0 13 rfl) ?_
  rw [nI_ushr (by omega) (by decide)]
  refine J_ldc_w (v := nI 858993459) C wK_RJ6_266 (dA DJ6_bitCount_0f7a4_0 14 rfl) ?_
  refine J_iand C (dA DJ6_bitCount_0f7a4_0 15 rfl) ?_
  rw [nI_and]
  refine J_iadd_n C (dA DJ6_bitCount_0f7a4_0 16 rfl) ?_
  rw [show (pcA n &&& 858993459) + (pcA n >>> 2 &&& 858993459) = pcB (pcA n) from rfl]
  have l2 := pcB_le (pcA n)
  refine J_ist_0_1 C (dA DJ6_bitCount_0f7a4_0 17 rfl) rfl ?_
  refine J_iload_n C (dA DJ6_bitCount_0f7a4_0 18 rfl) rfl ?_
  refine J_iload_n C (dA DJ6_bitCount_0f7a4_0 19 rfl) rfl ?_
  refine J_iconst (v := nI 4) C (dA DJ6_bitCount_0f7a4_0 20 rfl) (by decide) ?_
  refine J_iushr C (dA DJ6_bitCount_0f7a4_0 21 rfl) ?_
  rw [nI_ushr (by omega) (by decide)]
  refine J_iadd_n C (dA DJ6_bitCount_0f7a4_0 22 rfl) ?_
  refine J_ldc_w (v := nI 252645135) C wK_RJ6_267 (dA DJ6_bitCount_0f7a4_0 23 rfl) ?_
  refine J_iand C (dA DJ6_bitCount_0f7a4_0 24 rfl) ?_
  rw [nI_and, show (pcB (pcA n) + pcB (pcA n) >>> 4) &&& 252645135 = pcC (pcB (pcA n)) from rfl]
  have l3 := pcC_le (pcB (pcA n))
  have l4 := pcD_le _ l3
  refine J_ist_0_1 C (dA DJ6_bitCount_0f7a4_0 25 rfl) rfl ?_
  refine J_iload_n C (dA DJ6_bitCount_0f7a4_0 26 rfl) rfl ?_
  refine J_iload_n C (dA DJ6_bitCount_0f7a4_0 27 rfl) rfl ?_
  refine J_bipush (v := nI 8) C (dA DJ6_bitCount_0f7a4_0 28 rfl) (by decide) ?_
  refine J_iushr C (dA DJ6_bitCount_0f7a4_0 29 rfl) ?_
  rw [nI_ushr (by omega) (by decide)]
  refine J_iadd_n C (dA DJ6_bitCount_0f7a4_0 30 rfl) ?_
  rw [show pcC (pcB (pcA n)) + pcC (pcB (pcA n)) >>> 8 = pcD (pcC (pcB (pcA n))) from rfl]
  refine J_ist_0_1 C (dA DJ6_bitCount_0f7a4_0 31 rfl) rfl ?_
  refine J_iload_n C (dA DJ6_bitCount_0f7a4_0 32 rfl) rfl ?_
  refine J_iload_n C (dA DJ6_bitCount_0f7a4_0 33 rfl) rfl ?_
  refine J_bipush (v := nI 16) C (dA DJ6_bitCount_0f7a4_0 34 rfl) (by decide) ?_
  refine J_iushr C (dA DJ6_bitCount_0f7a4_0 35 rfl) ?_
  rw [nI_ushr (by omega) (by decide)]
  refine J_iadd_n C (dA DJ6_bitCount_0f7a4_0 36 rfl) ?_
  rw [show pcD (pcC (pcB (pcA n))) + pcD (pcC (pcB (pcA n))) >>> 16 = pcE (pcD (pcC (pcB (pcA n)))) from rfl]
  refine J_ist_0_1 C (dA DJ6_bitCount_0f7a4_0 37 rfl) rfl ?_
  refine J_iload_n C (dA DJ6_bitCount_0f7a4_0 38 rfl) rfl ?_
  refine J_bipush (v := nI 63) C (dA DJ6_bitCount_0f7a4_0 39 rfl) (by decide) ?_
  refine J_iand C (dA DJ6_bitCount_0f7a4_0 40 rfl) ?_
  rw [nI_and]
  exact J_iret C G (dA DJ6_bitCount_0f7a4_0 41 rfl) ⟨rfl, rfl⟩
set_option maxRecDepth 4000 in
theorem c_X8_bits (l : Launch) (E : jE) (n : Nat) (hn : n < 65536)  : K_X8_bits l E [.int (nI n)] M (nI (pcN n)) (M) := by
  refine CT_intro (own := RX8) (by decide +kernel) rfl (by simp [Value.category]) (Nat.le_of_ble_eq_true rfl) rfl (fun X C G => ?_)
  show J E X 0 [some (.int (nI n)), none, none] [] M
  have loop : ∀ k m c, m < k → m < 65536 → c + pcN m = pcN n → J E X 4 [some (.int (nI n)), some (.int (nI c)), some (.int (nI m))] [] M := by
    intro k
    induction k with
    | zero =>
      intro m c hk hm hc
      exact absurd hk (Nat.not_lt_zero _)
    | succ k ih =>
      intro m c hk hm hc
      refine J_iload_n C (dA DX8_bits_0 4 rfl) rfl ?_
      refine J_if_eq_n (tgt := 20) C (by omega) (dA DX8_bits_0 5 rfl) (by decide) (fun h5 => ?_) (fun h5 => ?_)
      · try have g5 := inr_t h5
        try have g5 := inr_f h5
        obtain rfl : m = 0 := by omega
        have z : pcN 0 = 0 := by decide
        refine J_iload_n C (dA DX8_bits_0 14 rfl) rfl ?_
        exact J_iret C G (dA DX8_bits_0 15 rfl) ⟨oi (by rw [← hc, z, Nat.add_zero]), rfl⟩
      · try have g5 := inr_t h5
        try have g5 := inr_f h5
        first | refine J_inc1_1_3 C (dA DX8_bits_0 6 rfl) rfl ?_ | refine J_iinc_1_3 C (dA DX8_bits_0 6 rfl) rfl ?_
        refine J_iload_n C (dA DX8_bits_0 7 rfl) rfl ?_
        refine J_iload_n C (dA DX8_bits_0 8 rfl) rfl ?_
        refine J_iconst (v := nI 1) C (dA DX8_bits_0 9 rfl) (by decide) ?_
        first | refine J_isub_n C (by omega) (dA DX8_bits_0 10 rfl) ?_ | refine J_isub C (dA DX8_bits_0 10 rfl) ?_
        refine J_iand C (dA DX8_bits_0 11 rfl) ?_
        refine J_ist_2_3 C (dA DX8_bits_0 12 rfl) rfl ?_
        refine J_goto (tgt := 4) C (dA DX8_bits_0 13 rfl) (by decide) ?_
        have hl := pcN_lo hm (by omega)
        rw [nI_and]
        exact ih _ (c + 1) (by omega) (by omega) (by omega)
  refine J_iconst (v := nI 0) C (dA DX8_bits_0 0 rfl) (by decide) ?_
  refine J_ist_1_3 C (dA DX8_bits_0 1 rfl) rfl ?_
  refine J_iload_n C (dA DX8_bits_0 2 rfl) rfl ?_
  refine J_ist_2_3 C (dA DX8_bits_0 3 rfl) rfl ?_
  exact loop (n + 1) n 0 (by omega) hn (Nat.zero_add _)
end PA
