/-- a set's least: m = 2^(i+1) * k + 2^i -/
theorem mk_low {P : Nat → Bool} {i : Nat} (hi : i < 16) (hno : ∀ j, j < i → P j = false) (hy : P i = true) : mk 16 P = 2 ^ (i + 1) * (mk 16 P / 2 ^ (i + 1)) + 2 ^ i := by
  have e : mk 16 P % 2 ^ (i + 1) = 2 ^ i := by
    apply Nat.eq_of_testBit_eq
    intro j
    rw [Nat.testBit_mod_two_pow, mk_bit, Nat.testBit_two_pow]
    rcases Nat.lt_trichotomy j i with h | h | h
    · rw [hno j h]; simp; omega
    · subst h; simp [hy, hi]
    · have h1 : ¬ j < i + 1 := by omega
      have h2 : i ≠ j := by omega
      simp [h1, h2]
  have h := Nat.div_add_mod (mk 16 P) (2 ^ (i + 1))
  rw [e] at h
  exact h.symm
theorem low_m {k i j : Nat} : (2 ^ (i + 1) * k + 2 ^ i).testBit j = if j < i + 1 then decide (i = j) else k.testBit (j - (i + 1)) := by
  have hl : 2 ^ i < 2 ^ (i + 1) := Nat.pow_lt_pow_right (by decide) (by omega)
  rw [Nat.testBit_two_pow_mul_add _ hl, Nat.testBit_two_pow]
theorem low_p {k i j : Nat} : (2 ^ (i + 1) * k + 2 ^ i - 1).testBit j = if j < i + 1 then decide (j < i) else k.testBit (j - (i + 1)) := by
  have h0 : 0 < 2 ^ i := Nat.pow_pos (by decide)
  have hl : 2 ^ i < 2 ^ (i + 1) := Nat.pow_lt_pow_right (by decide) (by omega)
  rw [show 2 ^ (i + 1) * k + 2 ^ i - 1 = 2 ^ (i + 1) * k + (2 ^ i - 1) by omega, Nat.testBit_two_pow_mul_add _ (by omega), Nat.testBit_two_pow_sub_one]
theorem low_n {P : Nat → Bool} {i : Nat} (hi : i < 16) (hno : ∀ j, j < i → P j = false) (hy : P i = true) : (nI (mk 16 P) ^^^ (-1)) &&& nI (mk 16 P - 1) = nI (2 ^ i - 1) := by
  have e := mk_low hi hno hy
  apply b_ext
  intro j hj
  rw [b_and, b_xor, bt_nI hj, bt_nI hj, bt_nI hj, b_m1 j hj, Nat.testBit_two_pow_sub_one, e, low_m, low_p]
  by_cases h : j < i + 1
  · rw [if_pos h, if_pos h]
    by_cases h2 : i = j
    · subst h2; simp
    · have h3 : j < i := by omega
      simp [h2, h3]
  · rw [if_neg h, if_neg h]
    have h3 : ¬ j < i := by omega
    simp [h3]
theorem firstN_out {P : Nat → Bool} : ∀ {n : Nat}, firstN n P = n → ∀ j, j < n → P j = false
  | 0, _, j, hj => by omega
  | n + 1, h, j, hj => by
    have hl := firstN_le P n
    simp only [firstN] at h
    by_cases e : firstN n P < n
    · rw [if_pos e] at h; omega
    · rw [if_neg e] at h
      by_cases hp : P n = true
      · rw [if_pos hp] at h; omega
      · rcases Nat.lt_or_ge j n with z | z
        · exact firstN_out (by omega) j z
        · rw [show j = n by omega]; exact Bool.eq_false_iff.mpr hp
theorem firstN_lt {P : Nat → Bool} : ∀ {n : Nat}, firstN n P < n → (∀ j, j < firstN n P → P j = false) ∧ P (firstN n P) = true
  | 0, h => by omega
  | n + 1, h => by
    have hl := firstN_le P n
    simp only [firstN] at h ⊢
    by_cases e : firstN n P < n
    · rw [if_pos e]; exact firstN_lt e
    · rw [if_neg e] at h ⊢
      by_cases hp : P n = true
      · rw [if_pos hp]
        refine ⟨fun j hj => ?_, hp⟩
        exact firstN_out (by omega) j hj
      · rw [if_neg hp] at h; omega
theorem firstN_z {P : Nat → Bool} {n : Nat} (h : ¬ firstN n P < n) : ∀ j, j < n → P j = false := fun j hj => firstN_out (by have := firstN_le P n; omega) j hj
section PA
variable {M : jM}
set_option maxRecDepth 4000 in
theorem c_J6_ntz (l : Launch) (E : jE) {P : Nat → Bool} (i : Nat) (hi : i < 16) (hno : ∀ j, j < i → P j = false) (hy : P i = true)  : K_J6_numberOfTrailingZeros_0f7a4 l E [.int (orL 16 P)] M (nI i) (M) := by
  refine CT_intro (own := RJ6) (by decide +kernel) rfl (by simp [Value.category]) (Nat.le_of_ble_eq_true rfl) rfl (fun X C G => ?_)
  show J E X 0 [some (.int (orL 16 P)), none] [] M
  have hp0 : 0 < 2 ^ i := Nat.pow_pos (by decide)
  have el := mk_low hi hno hy
  have ll := low_n hi hno hy
  have hml := mk_lt P 16
  have hm1 : 1 ≤ mk 16 P := by omega
  rw [orL_mk (by decide)]
  refine J_iload_n C (dA DJ6_numberOfTrailingZeros_0f7a4_0 0 rfl) rfl ?_
  refine J_iconst (v := (-1)) C (dA DJ6_numberOfTrailingZeros_0f7a4_0 1 rfl) (by decide) ?_
  refine J_ixor C (dA DJ6_numberOfTrailingZeros_0f7a4_0 2 rfl) ?_
  refine J_iload_n C (dA DJ6_numberOfTrailingZeros_0f7a4_0 3 rfl) rfl ?_
  refine J_iconst (v := nI 1) C (dA DJ6_numberOfTrailingZeros_0f7a4_0 4 rfl) (by decide) ?_
  refine J_isub_n C (by omega) (dA DJ6_numberOfTrailingZeros_0f7a4_0 5 rfl) ?_
  refine J_iand C (dA DJ6_numberOfTrailingZeros_0f7a4_0 6 rfl) ?_
  rw [ll]
  clear ll el
  clear hno hy
  rcases (show i = 0 ∨ i = 1 ∨ i = 2 ∨ i = 3 ∨ i = 4 ∨ i = 5 ∨ i = 6 ∨ i = 7 ∨ i = 8 ∨ i = 9 ∨ i = 10 ∨ i = 11 ∨ i = 12 ∨ i = 13 ∨ i = 14 ∨ i = 15 by omega) with rfl | rfl | rfl | rfl | rfl | rfl | rfl | rfl | rfl | rfl | rfl | rfl | rfl | rfl | rfl | rfl
  · refine J_ist_0_2 C (dA DJ6_numberOfTrailingZeros_0f7a4_0 7 rfl) rfl ?_
    refine J_iload_n C (dA DJ6_numberOfTrailingZeros_0f7a4_0 8 rfl) rfl ?_
    refine J_if_gt_n (tgt := 17) C (by decide) (dA DJ6_numberOfTrailingZeros_0f7a4_0 9 rfl) (by decide) (fun h9 => ?_) (fun h9 => ?_)
    · exact absurd h9 (by decide)
    · refine J_iload_n C (dA DJ6_numberOfTrailingZeros_0f7a4_0 10 rfl) rfl ?_
      refine J_bipush (v := nI 32) C (dA DJ6_numberOfTrailingZeros_0f7a4_0 11 rfl) (by decide) ?_
      skip
      refine J_iand C (dA DJ6_numberOfTrailingZeros_0f7a4_0 12 rfl) ?_
      exact J_iret C G (dA DJ6_numberOfTrailingZeros_0f7a4_0 13 rfl) ⟨oi (by decide +kernel), rfl⟩
  · refine J_ist_0_2 C (dA DJ6_numberOfTrailingZeros_0f7a4_0 7 rfl) rfl ?_
    refine J_iload_n C (dA DJ6_numberOfTrailingZeros_0f7a4_0 8 rfl) rfl ?_
    refine J_if_gt_n (tgt := 17) C (by decide) (dA DJ6_numberOfTrailingZeros_0f7a4_0 9 rfl) (by decide) (fun h9 => ?_) (fun h9 => ?_)
    · refine J_iconst (v := nI 1) C (dA DJ6_numberOfTrailingZeros_0f7a4_0 14 rfl) (by decide) ?_
      refine J_ist_1_2 C (dA DJ6_numberOfTrailingZeros_0f7a4_0 15 rfl) rfl ?_
      refine J_iload_n C (dA DJ6_numberOfTrailingZeros_0f7a4_0 16 rfl) rfl ?_
      refine J_ldc_w (v := nI 65536) C wK_RJ6_264 (dA DJ6_numberOfTrailingZeros_0f7a4_0 17 rfl) ?_
      refine J_icmp_le_n (tgt := 34) C (by decide) (by decide) (dA DJ6_numberOfTrailingZeros_0f7a4_0 18 rfl) (by decide) (fun h23 => ?_) (fun h23 => ?_)
      · refine J_iload_n C (dA DJ6_numberOfTrailingZeros_0f7a4_0 24 rfl) rfl ?_
        refine J_sipush (v := nI 256) C (dA DJ6_numberOfTrailingZeros_0f7a4_0 25 rfl) (by decide) ?_
        refine J_icmp_le_n (tgt := 49) C (by decide) (by decide) (dA DJ6_numberOfTrailingZeros_0f7a4_0 26 rfl) (by decide) (fun h38 => ?_) (fun h38 => ?_)
        · refine J_iload_n C (dA DJ6_numberOfTrailingZeros_0f7a4_0 32 rfl) rfl ?_
          refine J_bipush (v := nI 16) C (dA DJ6_numberOfTrailingZeros_0f7a4_0 33 rfl) (by decide) ?_
          refine J_icmp_le_n (tgt := 62) C (by decide) (by decide) (dA DJ6_numberOfTrailingZeros_0f7a4_0 34 rfl) (by decide) (fun h52 => ?_) (fun h52 => ?_)
          · refine J_iload_n C (dA DJ6_numberOfTrailingZeros_0f7a4_0 40 rfl) rfl ?_
            refine J_iconst (v := nI 4) C (dA DJ6_numberOfTrailingZeros_0f7a4_0 41 rfl) (by decide) ?_
            refine J_icmp_le_n (tgt := 74) C (by decide) (by decide) (dA DJ6_numberOfTrailingZeros_0f7a4_0 42 rfl) (by decide) (fun h64 => ?_) (fun h64 => ?_)
            · refine J_iload_n C (dA DJ6_numberOfTrailingZeros_0f7a4_0 48 rfl) rfl ?_
              refine J_iload_n C (dA DJ6_numberOfTrailingZeros_0f7a4_0 49 rfl) rfl ?_
              refine J_iconst (v := nI 1) C (dA DJ6_numberOfTrailingZeros_0f7a4_0 50 rfl) (by decide) ?_
              refine J_iushr C (dA DJ6_numberOfTrailingZeros_0f7a4_0 51 rfl) ?_
              rw [nI_ushr (by decide) (by decide)]
              refine J_iadd C (dA DJ6_numberOfTrailingZeros_0f7a4_0 52 rfl) ?_
              exact J_iret C G (dA DJ6_numberOfTrailingZeros_0f7a4_0 53 rfl) ⟨oi (by decide +kernel), rfl⟩
            · exact absurd h64 (by decide)
          · exact absurd h52 (by decide)
        · exact absurd h38 (by decide)
      · exact absurd h23 (by decide)
    · exact absurd h9 (by decide)
  · refine J_ist_0_2 C (dA DJ6_numberOfTrailingZeros_0f7a4_0 7 rfl) rfl ?_
    refine J_iload_n C (dA DJ6_numberOfTrailingZeros_0f7a4_0 8 rfl) rfl ?_
    refine J_if_gt_n (tgt := 17) C (by decide) (dA DJ6_numberOfTrailingZeros_0f7a4_0 9 rfl) (by decide) (fun h9 => ?_) (fun h9 => ?_)
    · refine J_iconst (v := nI 1) C (dA DJ6_numberOfTrailingZeros_0f7a4_0 14 rfl) (by decide) ?_
      refine J_ist_1_2 C (dA DJ6_numberOfTrailingZeros_0f7a4_0 15 rfl) rfl ?_
      refine J_iload_n C (dA DJ6_numberOfTrailingZeros_0f7a4_0 16 rfl) rfl ?_
      refine J_ldc_w (v := nI 65536) C wK_RJ6_264 (dA DJ6_numberOfTrailingZeros_0f7a4_0 17 rfl) ?_
      refine J_icmp_le_n (tgt := 34) C (by decide) (by decide) (dA DJ6_numberOfTrailingZeros_0f7a4_0 18 rfl) (by decide) (fun h23 => ?_) (fun h23 => ?_)
      · refine J_iload_n C (dA DJ6_numberOfTrailingZeros_0f7a4_0 24 rfl) rfl ?_
        refine J_sipush (v := nI 256) C (dA DJ6_numberOfTrailingZeros_0f7a4_0 25 rfl) (by decide) ?_
        refine J_icmp_le_n (tgt := 49) C (by decide) (by decide) (dA DJ6_numberOfTrailingZeros_0f7a4_0 26 rfl) (by decide) (fun h38 => ?_) (fun h38 => ?_)
        · refine J_iload_n C (dA DJ6_numberOfTrailingZeros_0f7a4_0 32 rfl) rfl ?_
          refine J_bipush (v := nI 16) C (dA DJ6_numberOfTrailingZeros_0f7a4_0 33 rfl) (by decide) ?_
          refine J_icmp_le_n (tgt := 62) C (by decide) (by decide) (dA DJ6_numberOfTrailingZeros_0f7a4_0 34 rfl) (by decide) (fun h52 => ?_) (fun h52 => ?_)
          · refine J_iload_n C (dA DJ6_numberOfTrailingZeros_0f7a4_0 40 rfl) rfl ?_
            refine J_iconst (v := nI 4) C (dA DJ6_numberOfTrailingZeros_0f7a4_0 41 rfl) (by decide) ?_
            refine J_icmp_le_n (tgt := 74) C (by decide) (by decide) (dA DJ6_numberOfTrailingZeros_0f7a4_0 42 rfl) (by decide) (fun h64 => ?_) (fun h64 => ?_)
            · refine J_iload_n C (dA DJ6_numberOfTrailingZeros_0f7a4_0 48 rfl) rfl ?_
              refine J_iload_n C (dA DJ6_numberOfTrailingZeros_0f7a4_0 49 rfl) rfl ?_
              refine J_iconst (v := nI 1) C (dA DJ6_numberOfTrailingZeros_0f7a4_0 50 rfl) (by decide) ?_
              refine J_iushr C (dA DJ6_numberOfTrailingZeros_0f7a4_0 51 rfl) ?_
              rw [nI_ushr (by decide) (by decide)]
              refine J_iadd C (dA DJ6_numberOfTrailingZeros_0f7a4_0 52 rfl) ?_
              exact J_iret C G (dA DJ6_numberOfTrailingZeros_0f7a4_0 53 rfl) ⟨oi (by decide +kernel), rfl⟩
            · exact absurd h64 (by decide)
          · exact absurd h52 (by decide)
        · exact absurd h38 (by decide)
      · exact absurd h23 (by decide)
    · exact absurd h9 (by decide)
  · refine J_ist_0_2 C (dA DJ6_numberOfTrailingZeros_0f7a4_0 7 rfl) rfl ?_
    refine J_iload_n C (dA DJ6_numberOfTrailingZeros_0f7a4_0 8 rfl) rfl ?_
    refine J_if_gt_n (tgt := 17) C (by decide) (dA DJ6_numberOfTrailingZeros_0f7a4_0 9 rfl) (by decide) (fun h9 => ?_) (fun h9 => ?_)
    · refine J_iconst (v := nI 1) C (dA DJ6_numberOfTrailingZeros_0f7a4_0 14 rfl) (by decide) ?_
      refine J_ist_1_2 C (dA DJ6_numberOfTrailingZeros_0f7a4_0 15 rfl) rfl ?_
      refine J_iload_n C (dA DJ6_numberOfTrailingZeros_0f7a4_0 16 rfl) rfl ?_
      refine J_ldc_w (v := nI 65536) C wK_RJ6_264 (dA DJ6_numberOfTrailingZeros_0f7a4_0 17 rfl) ?_
      refine J_icmp_le_n (tgt := 34) C (by decide) (by decide) (dA DJ6_numberOfTrailingZeros_0f7a4_0 18 rfl) (by decide) (fun h23 => ?_) (fun h23 => ?_)
      · refine J_iload_n C (dA DJ6_numberOfTrailingZeros_0f7a4_0 24 rfl) rfl ?_
        refine J_sipush (v := nI 256) C (dA DJ6_numberOfTrailingZeros_0f7a4_0 25 rfl) (by decide) ?_
        refine J_icmp_le_n (tgt := 49) C (by decide) (by decide) (dA DJ6_numberOfTrailingZeros_0f7a4_0 26 rfl) (by decide) (fun h38 => ?_) (fun h38 => ?_)
        · refine J_iload_n C (dA DJ6_numberOfTrailingZeros_0f7a4_0 32 rfl) rfl ?_
          refine J_bipush (v := nI 16) C (dA DJ6_numberOfTrailingZeros_0f7a4_0 33 rfl) (by decide) ?_
          refine J_icmp_le_n (tgt := 62) C (by decide) (by decide) (dA DJ6_numberOfTrailingZeros_0f7a4_0 34 rfl) (by decide) (fun h52 => ?_) (fun h52 => ?_)
          · refine J_iload_n C (dA DJ6_numberOfTrailingZeros_0f7a4_0 40 rfl) rfl ?_
            refine J_iconst (v := nI 4) C (dA DJ6_numberOfTrailingZeros_0f7a4_0 41 rfl) (by decide) ?_
            refine J_icmp_le_n (tgt := 74) C (by decide) (by decide) (dA DJ6_numberOfTrailingZeros_0f7a4_0 42 rfl) (by decide) (fun h64 => ?_) (fun h64 => ?_)
            · exact absurd h64 (by decide)
            · refine J_iinc_1_2 C (dA DJ6_numberOfTrailingZeros_0f7a4_0 43 rfl) rfl ?_
              refine J_iload_n C (dA DJ6_numberOfTrailingZeros_0f7a4_0 44 rfl) rfl ?_
              refine J_iconst (v := nI 2) C (dA DJ6_numberOfTrailingZeros_0f7a4_0 45 rfl) (by decide) ?_
              refine J_iushr C (dA DJ6_numberOfTrailingZeros_0f7a4_0 46 rfl) ?_
              rw [nI_ushr (by decide) (by decide), show ((2 ^ 3 - 1) >>> 2 : Nat) = 1 by decide]
              refine J_ist_0_2 C (dA DJ6_numberOfTrailingZeros_0f7a4_0 47 rfl) rfl ?_
              refine J_iload_n C (dA DJ6_numberOfTrailingZeros_0f7a4_0 48 rfl) rfl ?_
              refine J_iload_n C (dA DJ6_numberOfTrailingZeros_0f7a4_0 49 rfl) rfl ?_
              refine J_iconst (v := nI 1) C (dA DJ6_numberOfTrailingZeros_0f7a4_0 50 rfl) (by decide) ?_
              refine J_iushr C (dA DJ6_numberOfTrailingZeros_0f7a4_0 51 rfl) ?_
              rw [nI_ushr (by decide) (by decide)]
              refine J_iadd C (dA DJ6_numberOfTrailingZeros_0f7a4_0 52 rfl) ?_
              exact J_iret C G (dA DJ6_numberOfTrailingZeros_0f7a4_0 53 rfl) ⟨oi (by decide +kernel), rfl⟩
          · exact absurd h52 (by decide)
        · exact absurd h38 (by decide)
      · exact absurd h23 (by decide)
    · exact absurd h9 (by decide)
  · refine J_ist_0_2 C (dA DJ6_numberOfTrailingZeros_0f7a4_0 7 rfl) rfl ?_
    refine J_iload_n C (dA DJ6_numberOfTrailingZeros_0f7a4_0 8 rfl) rfl ?_
    refine J_if_gt_n (tgt := 17) C (by decide) (dA DJ6_numberOfTrailingZeros_0f7a4_0 9 rfl) (by decide) (fun h9 => ?_) (fun h9 => ?_)
    · refine J_iconst (v := nI 1) C (dA DJ6_numberOfTrailingZeros_0f7a4_0 14 rfl) (by decide) ?_
      refine J_ist_1_2 C (dA DJ6_numberOfTrailingZeros_0f7a4_0 15 rfl) rfl ?_
      refine J_iload_n C (dA DJ6_numberOfTrailingZeros_0f7a4_0 16 rfl) rfl ?_
      refine J_ldc_w (v := nI 65536) C wK_RJ6_264 (dA DJ6_numberOfTrailingZeros_0f7a4_0 17 rfl) ?_
      refine J_icmp_le_n (tgt := 34) C (by decide) (by decide) (dA DJ6_numberOfTrailingZeros_0f7a4_0 18 rfl) (by decide) (fun h23 => ?_) (fun h23 => ?_)
      · refine J_iload_n C (dA DJ6_numberOfTrailingZeros_0f7a4_0 24 rfl) rfl ?_
        refine J_sipush (v := nI 256) C (dA DJ6_numberOfTrailingZeros_0f7a4_0 25 rfl) (by decide) ?_
        refine J_icmp_le_n (tgt := 49) C (by decide) (by decide) (dA DJ6_numberOfTrailingZeros_0f7a4_0 26 rfl) (by decide) (fun h38 => ?_) (fun h38 => ?_)
        · refine J_iload_n C (dA DJ6_numberOfTrailingZeros_0f7a4_0 32 rfl) rfl ?_
          refine J_bipush (v := nI 16) C (dA DJ6_numberOfTrailingZeros_0f7a4_0 33 rfl) (by decide) ?_
          refine J_icmp_le_n (tgt := 62) C (by decide) (by decide) (dA DJ6_numberOfTrailingZeros_0f7a4_0 34 rfl) (by decide) (fun h52 => ?_) (fun h52 => ?_)
          · refine J_iload_n C (dA DJ6_numberOfTrailingZeros_0f7a4_0 40 rfl) rfl ?_
            refine J_iconst (v := nI 4) C (dA DJ6_numberOfTrailingZeros_0f7a4_0 41 rfl) (by decide) ?_
            refine J_icmp_le_n (tgt := 74) C (by decide) (by decide) (dA DJ6_numberOfTrailingZeros_0f7a4_0 42 rfl) (by decide) (fun h64 => ?_) (fun h64 => ?_)
            · exact absurd h64 (by decide)
            · refine J_iinc_1_2 C (dA DJ6_numberOfTrailingZeros_0f7a4_0 43 rfl) rfl ?_
              refine J_iload_n C (dA DJ6_numberOfTrailingZeros_0f7a4_0 44 rfl) rfl ?_
              refine J_iconst (v := nI 2) C (dA DJ6_numberOfTrailingZeros_0f7a4_0 45 rfl) (by decide) ?_
              refine J_iushr C (dA DJ6_numberOfTrailingZeros_0f7a4_0 46 rfl) ?_
              rw [nI_ushr (by decide) (by decide), show ((2 ^ 4 - 1) >>> 2 : Nat) = 3 by decide]
              refine J_ist_0_2 C (dA DJ6_numberOfTrailingZeros_0f7a4_0 47 rfl) rfl ?_
              refine J_iload_n C (dA DJ6_numberOfTrailingZeros_0f7a4_0 48 rfl) rfl ?_
              refine J_iload_n C (dA DJ6_numberOfTrailingZeros_0f7a4_0 49 rfl) rfl ?_
              refine J_iconst (v := nI 1) C (dA DJ6_numberOfTrailingZeros_0f7a4_0 50 rfl) (by decide) ?_
              refine J_iushr C (dA DJ6_numberOfTrailingZeros_0f7a4_0 51 rfl) ?_
              rw [nI_ushr (by decide) (by decide)]
              refine J_iadd C (dA DJ6_numberOfTrailingZeros_0f7a4_0 52 rfl) ?_
              exact J_iret C G (dA DJ6_numberOfTrailingZeros_0f7a4_0 53 rfl) ⟨oi (by decide +kernel), rfl⟩
          · exact absurd h52 (by decide)
        · exact absurd h38 (by decide)
      · exact absurd h23 (by decide)
    · exact absurd h9 (by decide)
  · refine J_ist_0_2 C (dA DJ6_numberOfTrailingZeros_0f7a4_0 7 rfl) rfl ?_
    refine J_iload_n C (dA DJ6_numberOfTrailingZeros_0f7a4_0 8 rfl) rfl ?_
    refine J_if_gt_n (tgt := 17) C (by decide) (dA DJ6_numberOfTrailingZeros_0f7a4_0 9 rfl) (by decide) (fun h9 => ?_) (fun h9 => ?_)
    · refine J_iconst (v := nI 1) C (dA DJ6_numberOfTrailingZeros_0f7a4_0 14 rfl) (by decide) ?_
      refine J_ist_1_2 C (dA DJ6_numberOfTrailingZeros_0f7a4_0 15 rfl) rfl ?_
      refine J_iload_n C (dA DJ6_numberOfTrailingZeros_0f7a4_0 16 rfl) rfl ?_
      refine J_ldc_w (v := nI 65536) C wK_RJ6_264 (dA DJ6_numberOfTrailingZeros_0f7a4_0 17 rfl) ?_
      refine J_icmp_le_n (tgt := 34) C (by decide) (by decide) (dA DJ6_numberOfTrailingZeros_0f7a4_0 18 rfl) (by decide) (fun h23 => ?_) (fun h23 => ?_)
      · refine J_iload_n C (dA DJ6_numberOfTrailingZeros_0f7a4_0 24 rfl) rfl ?_
        refine J_sipush (v := nI 256) C (dA DJ6_numberOfTrailingZeros_0f7a4_0 25 rfl) (by decide) ?_
        refine J_icmp_le_n (tgt := 49) C (by decide) (by decide) (dA DJ6_numberOfTrailingZeros_0f7a4_0 26 rfl) (by decide) (fun h38 => ?_) (fun h38 => ?_)
        · refine J_iload_n C (dA DJ6_numberOfTrailingZeros_0f7a4_0 32 rfl) rfl ?_
          refine J_bipush (v := nI 16) C (dA DJ6_numberOfTrailingZeros_0f7a4_0 33 rfl) (by decide) ?_
          refine J_icmp_le_n (tgt := 62) C (by decide) (by decide) (dA DJ6_numberOfTrailingZeros_0f7a4_0 34 rfl) (by decide) (fun h52 => ?_) (fun h52 => ?_)
          · exact absurd h52 (by decide)
          · refine J_iinc_1_2 C (dA DJ6_numberOfTrailingZeros_0f7a4_0 35 rfl) rfl ?_
            refine J_iload_n C (dA DJ6_numberOfTrailingZeros_0f7a4_0 36 rfl) rfl ?_
            refine J_iconst (v := nI 4) C (dA DJ6_numberOfTrailingZeros_0f7a4_0 37 rfl) (by decide) ?_
            refine J_iushr C (dA DJ6_numberOfTrailingZeros_0f7a4_0 38 rfl) ?_
            rw [nI_ushr (by decide) (by decide), show ((2 ^ 5 - 1) >>> 4 : Nat) = 1 by decide]
            refine J_ist_0_2 C (dA DJ6_numberOfTrailingZeros_0f7a4_0 39 rfl) rfl ?_
            refine J_iload_n C (dA DJ6_numberOfTrailingZeros_0f7a4_0 40 rfl) rfl ?_
            refine J_iconst (v := nI 4) C (dA DJ6_numberOfTrailingZeros_0f7a4_0 41 rfl) (by decide) ?_
            refine J_icmp_le_n (tgt := 74) C (by decide) (by decide) (dA DJ6_numberOfTrailingZeros_0f7a4_0 42 rfl) (by decide) (fun h64 => ?_) (fun h64 => ?_)
            · refine J_iload_n C (dA DJ6_numberOfTrailingZeros_0f7a4_0 48 rfl) rfl ?_
              refine J_iload_n C (dA DJ6_numberOfTrailingZeros_0f7a4_0 49 rfl) rfl ?_
              refine J_iconst (v := nI 1) C (dA DJ6_numberOfTrailingZeros_0f7a4_0 50 rfl) (by decide) ?_
              refine J_iushr C (dA DJ6_numberOfTrailingZeros_0f7a4_0 51 rfl) ?_
              rw [nI_ushr (by decide) (by decide)]
              refine J_iadd C (dA DJ6_numberOfTrailingZeros_0f7a4_0 52 rfl) ?_
              exact J_iret C G (dA DJ6_numberOfTrailingZeros_0f7a4_0 53 rfl) ⟨oi (by decide +kernel), rfl⟩
            · exact absurd h64 (by decide)
        · exact absurd h38 (by decide)
      · exact absurd h23 (by decide)
    · exact absurd h9 (by decide)
  · refine J_ist_0_2 C (dA DJ6_numberOfTrailingZeros_0f7a4_0 7 rfl) rfl ?_
    refine J_iload_n C (dA DJ6_numberOfTrailingZeros_0f7a4_0 8 rfl) rfl ?_
    refine J_if_gt_n (tgt := 17) C (by decide) (dA DJ6_numberOfTrailingZeros_0f7a4_0 9 rfl) (by decide) (fun h9 => ?_) (fun h9 => ?_)
    · refine J_iconst (v := nI 1) C (dA DJ6_numberOfTrailingZeros_0f7a4_0 14 rfl) (by decide) ?_
      refine J_ist_1_2 C (dA DJ6_numberOfTrailingZeros_0f7a4_0 15 rfl) rfl ?_
      refine J_iload_n C (dA DJ6_numberOfTrailingZeros_0f7a4_0 16 rfl) rfl ?_
      refine J_ldc_w (v := nI 65536) C wK_RJ6_264 (dA DJ6_numberOfTrailingZeros_0f7a4_0 17 rfl) ?_
      refine J_icmp_le_n (tgt := 34) C (by decide) (by decide) (dA DJ6_numberOfTrailingZeros_0f7a4_0 18 rfl) (by decide) (fun h23 => ?_) (fun h23 => ?_)
      · refine J_iload_n C (dA DJ6_numberOfTrailingZeros_0f7a4_0 24 rfl) rfl ?_
        refine J_sipush (v := nI 256) C (dA DJ6_numberOfTrailingZeros_0f7a4_0 25 rfl) (by decide) ?_
        refine J_icmp_le_n (tgt := 49) C (by decide) (by decide) (dA DJ6_numberOfTrailingZeros_0f7a4_0 26 rfl) (by decide) (fun h38 => ?_) (fun h38 => ?_)
        · refine J_iload_n C (dA DJ6_numberOfTrailingZeros_0f7a4_0 32 rfl) rfl ?_
          refine J_bipush (v := nI 16) C (dA DJ6_numberOfTrailingZeros_0f7a4_0 33 rfl) (by decide) ?_
          refine J_icmp_le_n (tgt := 62) C (by decide) (by decide) (dA DJ6_numberOfTrailingZeros_0f7a4_0 34 rfl) (by decide) (fun h52 => ?_) (fun h52 => ?_)
          · exact absurd h52 (by decide)
          · refine J_iinc_1_2 C (dA DJ6_numberOfTrailingZeros_0f7a4_0 35 rfl) rfl ?_
            refine J_iload_n C (dA DJ6_numberOfTrailingZeros_0f7a4_0 36 rfl) rfl ?_
            refine J_iconst (v := nI 4) C (dA DJ6_numberOfTrailingZeros_0f7a4_0 37 rfl) (by decide) ?_
            refine J_iushr C (dA DJ6_numberOfTrailingZeros_0f7a4_0 38 rfl) ?_
            rw [nI_ushr (by decide) (by decide), show ((2 ^ 6 - 1) >>> 4 : Nat) = 3 by decide]
            refine J_ist_0_2 C (dA DJ6_numberOfTrailingZeros_0f7a4_0 39 rfl) rfl ?_
            refine J_iload_n C (dA DJ6_numberOfTrailingZeros_0f7a4_0 40 rfl) rfl ?_
            refine J_iconst (v := nI 4) C (dA DJ6_numberOfTrailingZeros_0f7a4_0 41 rfl) (by decide) ?_
            refine J_icmp_le_n (tgt := 74) C (by decide) (by decide) (dA DJ6_numberOfTrailingZeros_0f7a4_0 42 rfl) (by decide) (fun h64 => ?_) (fun h64 => ?_)
            · refine J_iload_n C (dA DJ6_numberOfTrailingZeros_0f7a4_0 48 rfl) rfl ?_
              refine J_iload_n C (dA DJ6_numberOfTrailingZeros_0f7a4_0 49 rfl) rfl ?_
              refine J_iconst (v := nI 1) C (dA DJ6_numberOfTrailingZeros_0f7a4_0 50 rfl) (by decide) ?_
              refine J_iushr C (dA DJ6_numberOfTrailingZeros_0f7a4_0 51 rfl) ?_
              rw [nI_ushr (by decide) (by decide)]
              refine J_iadd C (dA DJ6_numberOfTrailingZeros_0f7a4_0 52 rfl) ?_
              exact J_iret C G (dA DJ6_numberOfTrailingZeros_0f7a4_0 53 rfl) ⟨oi (by decide +kernel), rfl⟩
            · exact absurd h64 (by decide)
        · exact absurd h38 (by decide)
      · exact absurd h23 (by decide)
    · exact absurd h9 (by decide)
  · refine J_ist_0_2 C (dA DJ6_numberOfTrailingZeros_0f7a4_0 7 rfl) rfl ?_
    refine J_iload_n C (dA DJ6_numberOfTrailingZeros_0f7a4_0 8 rfl) rfl ?_
    refine J_if_gt_n (tgt := 17) C (by decide) (dA DJ6_numberOfTrailingZeros_0f7a4_0 9 rfl) (by decide) (fun h9 => ?_) (fun h9 => ?_)
    · refine J_iconst (v := nI 1) C (dA DJ6_numberOfTrailingZeros_0f7a4_0 14 rfl) (by decide) ?_
      refine J_ist_1_2 C (dA DJ6_numberOfTrailingZeros_0f7a4_0 15 rfl) rfl ?_
      refine J_iload_n C (dA DJ6_numberOfTrailingZeros_0f7a4_0 16 rfl) rfl ?_
      refine J_ldc_w (v := nI 65536) C wK_RJ6_264 (dA DJ6_numberOfTrailingZeros_0f7a4_0 17 rfl) ?_
      refine J_icmp_le_n (tgt := 34) C (by decide) (by decide) (dA DJ6_numberOfTrailingZeros_0f7a4_0 18 rfl) (by decide) (fun h23 => ?_) (fun h23 => ?_)
      · refine J_iload_n C (dA DJ6_numberOfTrailingZeros_0f7a4_0 24 rfl) rfl ?_
        refine J_sipush (v := nI 256) C (dA DJ6_numberOfTrailingZeros_0f7a4_0 25 rfl) (by decide) ?_
        refine J_icmp_le_n (tgt := 49) C (by decide) (by decide) (dA DJ6_numberOfTrailingZeros_0f7a4_0 26 rfl) (by decide) (fun h38 => ?_) (fun h38 => ?_)
        · refine J_iload_n C (dA DJ6_numberOfTrailingZeros_0f7a4_0 32 rfl) rfl ?_
          refine J_bipush (v := nI 16) C (dA DJ6_numberOfTrailingZeros_0f7a4_0 33 rfl) (by decide) ?_
          refine J_icmp_le_n (tgt := 62) C (by decide) (by decide) (dA DJ6_numberOfTrailingZeros_0f7a4_0 34 rfl) (by decide) (fun h52 => ?_) (fun h52 => ?_)
          · exact absurd h52 (by decide)
          · refine J_iinc_1_2 C (dA DJ6_numberOfTrailingZeros_0f7a4_0 35 rfl) rfl ?_
            refine J_iload_n C (dA DJ6_numberOfTrailingZeros_0f7a4_0 36 rfl) rfl ?_
            refine J_iconst (v := nI 4) C (dA DJ6_numberOfTrailingZeros_0f7a4_0 37 rfl) (by decide) ?_
            refine J_iushr C (dA DJ6_numberOfTrailingZeros_0f7a4_0 38 rfl) ?_
            rw [nI_ushr (by decide) (by decide), show ((2 ^ 7 - 1) >>> 4 : Nat) = 7 by decide]
            refine J_ist_0_2 C (dA DJ6_numberOfTrailingZeros_0f7a4_0 39 rfl) rfl ?_
            refine J_iload_n C (dA DJ6_numberOfTrailingZeros_0f7a4_0 40 rfl) rfl ?_
            refine J_iconst (v := nI 4) C (dA DJ6_numberOfTrailingZeros_0f7a4_0 41 rfl) (by decide) ?_
            refine J_icmp_le_n (tgt := 74) C (by decide) (by decide) (dA DJ6_numberOfTrailingZeros_0f7a4_0 42 rfl) (by decide) (fun h64 => ?_) (fun h64 => ?_)
            · exact absurd h64 (by decide)
            · refine J_iinc_1_2 C (dA DJ6_numberOfTrailingZeros_0f7a4_0 43 rfl) rfl ?_
              refine J_iload_n C (dA DJ6_numberOfTrailingZeros_0f7a4_0 44 rfl) rfl ?_
              refine J_iconst (v := nI 2) C (dA DJ6_numberOfTrailingZeros_0f7a4_0 45 rfl) (by decide) ?_
              refine J_iushr C (dA DJ6_numberOfTrailingZeros_0f7a4_0 46 rfl) ?_
              rw [nI_ushr (by decide) (by decide), show (7 >>> 2 : Nat) = 1 by decide]
              refine J_ist_0_2 C (dA DJ6_numberOfTrailingZeros_0f7a4_0 47 rfl) rfl ?_
              refine J_iload_n C (dA DJ6_numberOfTrailingZeros_0f7a4_0 48 rfl) rfl ?_
              refine J_iload_n C (dA DJ6_numberOfTrailingZeros_0f7a4_0 49 rfl) rfl ?_
              refine J_iconst (v := nI 1) C (dA DJ6_numberOfTrailingZeros_0f7a4_0 50 rfl) (by decide) ?_
              refine J_iushr C (dA DJ6_numberOfTrailingZeros_0f7a4_0 51 rfl) ?_
              rw [nI_ushr (by decide) (by decide)]
              refine J_iadd C (dA DJ6_numberOfTrailingZeros_0f7a4_0 52 rfl) ?_
              exact J_iret C G (dA DJ6_numberOfTrailingZeros_0f7a4_0 53 rfl) ⟨oi (by decide +kernel), rfl⟩
        · exact absurd h38 (by decide)
      · exact absurd h23 (by decide)
    · exact absurd h9 (by decide)
  · refine J_ist_0_2 C (dA DJ6_numberOfTrailingZeros_0f7a4_0 7 rfl) rfl ?_
    refine J_iload_n C (dA DJ6_numberOfTrailingZeros_0f7a4_0 8 rfl) rfl ?_
    refine J_if_gt_n (tgt := 17) C (by decide) (dA DJ6_numberOfTrailingZeros_0f7a4_0 9 rfl) (by decide) (fun h9 => ?_) (fun h9 => ?_)
    · refine J_iconst (v := nI 1) C (dA DJ6_numberOfTrailingZeros_0f7a4_0 14 rfl) (by decide) ?_
      refine J_ist_1_2 C (dA DJ6_numberOfTrailingZeros_0f7a4_0 15 rfl) rfl ?_
      refine J_iload_n C (dA DJ6_numberOfTrailingZeros_0f7a4_0 16 rfl) rfl ?_
      refine J_ldc_w (v := nI 65536) C wK_RJ6_264 (dA DJ6_numberOfTrailingZeros_0f7a4_0 17 rfl) ?_
      refine J_icmp_le_n (tgt := 34) C (by decide) (by decide) (dA DJ6_numberOfTrailingZeros_0f7a4_0 18 rfl) (by decide) (fun h23 => ?_) (fun h23 => ?_)
      · refine J_iload_n C (dA DJ6_numberOfTrailingZeros_0f7a4_0 24 rfl) rfl ?_
        refine J_sipush (v := nI 256) C (dA DJ6_numberOfTrailingZeros_0f7a4_0 25 rfl) (by decide) ?_
        refine J_icmp_le_n (tgt := 49) C (by decide) (by decide) (dA DJ6_numberOfTrailingZeros_0f7a4_0 26 rfl) (by decide) (fun h38 => ?_) (fun h38 => ?_)
        · refine J_iload_n C (dA DJ6_numberOfTrailingZeros_0f7a4_0 32 rfl) rfl ?_
          refine J_bipush (v := nI 16) C (dA DJ6_numberOfTrailingZeros_0f7a4_0 33 rfl) (by decide) ?_
          refine J_icmp_le_n (tgt := 62) C (by decide) (by decide) (dA DJ6_numberOfTrailingZeros_0f7a4_0 34 rfl) (by decide) (fun h52 => ?_) (fun h52 => ?_)
          · exact absurd h52 (by decide)
          · refine J_iinc_1_2 C (dA DJ6_numberOfTrailingZeros_0f7a4_0 35 rfl) rfl ?_
            refine J_iload_n C (dA DJ6_numberOfTrailingZeros_0f7a4_0 36 rfl) rfl ?_
            refine J_iconst (v := nI 4) C (dA DJ6_numberOfTrailingZeros_0f7a4_0 37 rfl) (by decide) ?_
            refine J_iushr C (dA DJ6_numberOfTrailingZeros_0f7a4_0 38 rfl) ?_
            rw [nI_ushr (by decide) (by decide), show ((2 ^ 8 - 1) >>> 4 : Nat) = 15 by decide]
            refine J_ist_0_2 C (dA DJ6_numberOfTrailingZeros_0f7a4_0 39 rfl) rfl ?_
            refine J_iload_n C (dA DJ6_numberOfTrailingZeros_0f7a4_0 40 rfl) rfl ?_
            refine J_iconst (v := nI 4) C (dA DJ6_numberOfTrailingZeros_0f7a4_0 41 rfl) (by decide) ?_
            refine J_icmp_le_n (tgt := 74) C (by decide) (by decide) (dA DJ6_numberOfTrailingZeros_0f7a4_0 42 rfl) (by decide) (fun h64 => ?_) (fun h64 => ?_)
            · exact absurd h64 (by decide)
            · refine J_iinc_1_2 C (dA DJ6_numberOfTrailingZeros_0f7a4_0 43 rfl) rfl ?_
              refine J_iload_n C (dA DJ6_numberOfTrailingZeros_0f7a4_0 44 rfl) rfl ?_
              refine J_iconst (v := nI 2) C (dA DJ6_numberOfTrailingZeros_0f7a4_0 45 rfl) (by decide) ?_
              refine J_iushr C (dA DJ6_numberOfTrailingZeros_0f7a4_0 46 rfl) ?_
              rw [nI_ushr (by decide) (by decide), show (15 >>> 2 : Nat) = 3 by decide]
              refine J_ist_0_2 C (dA DJ6_numberOfTrailingZeros_0f7a4_0 47 rfl) rfl ?_
              refine J_iload_n C (dA DJ6_numberOfTrailingZeros_0f7a4_0 48 rfl) rfl ?_
              refine J_iload_n C (dA DJ6_numberOfTrailingZeros_0f7a4_0 49 rfl) rfl ?_
              refine J_iconst (v := nI 1) C (dA DJ6_numberOfTrailingZeros_0f7a4_0 50 rfl) (by decide) ?_
              refine J_iushr C (dA DJ6_numberOfTrailingZeros_0f7a4_0 51 rfl) ?_
              rw [nI_ushr (by decide) (by decide)]
              refine J_iadd C (dA DJ6_numberOfTrailingZeros_0f7a4_0 52 rfl) ?_
              exact J_iret C G (dA DJ6_numberOfTrailingZeros_0f7a4_0 53 rfl) ⟨oi (by decide +kernel), rfl⟩
        · exact absurd h38 (by decide)
      · exact absurd h23 (by decide)
    · exact absurd h9 (by decide)
  · refine J_ist_0_2 C (dA DJ6_numberOfTrailingZeros_0f7a4_0 7 rfl) rfl ?_
    refine J_iload_n C (dA DJ6_numberOfTrailingZeros_0f7a4_0 8 rfl) rfl ?_
    refine J_if_gt_n (tgt := 17) C (by decide) (dA DJ6_numberOfTrailingZeros_0f7a4_0 9 rfl) (by decide) (fun h9 => ?_) (fun h9 => ?_)
    · refine J_iconst (v := nI 1) C (dA DJ6_numberOfTrailingZeros_0f7a4_0 14 rfl) (by decide) ?_
      refine J_ist_1_2 C (dA DJ6_numberOfTrailingZeros_0f7a4_0 15 rfl) rfl ?_
      refine J_iload_n C (dA DJ6_numberOfTrailingZeros_0f7a4_0 16 rfl) rfl ?_
      refine J_ldc_w (v := nI 65536) C wK_RJ6_264 (dA DJ6_numberOfTrailingZeros_0f7a4_0 17 rfl) ?_
      refine J_icmp_le_n (tgt := 34) C (by decide) (by decide) (dA DJ6_numberOfTrailingZeros_0f7a4_0 18 rfl) (by decide) (fun h23 => ?_) (fun h23 => ?_)
      · refine J_iload_n C (dA DJ6_numberOfTrailingZeros_0f7a4_0 24 rfl) rfl ?_
        refine J_sipush (v := nI 256) C (dA DJ6_numberOfTrailingZeros_0f7a4_0 25 rfl) (by decide) ?_
        refine J_icmp_le_n (tgt := 49) C (by decide) (by decide) (dA DJ6_numberOfTrailingZeros_0f7a4_0 26 rfl) (by decide) (fun h38 => ?_) (fun h38 => ?_)
        · exact absurd h38 (by decide)
        · refine J_iinc_1_2 C (dA DJ6_numberOfTrailingZeros_0f7a4_0 27 rfl) rfl ?_
          refine J_iload_n C (dA DJ6_numberOfTrailingZeros_0f7a4_0 28 rfl) rfl ?_
          refine J_bipush (v := nI 8) C (dA DJ6_numberOfTrailingZeros_0f7a4_0 29 rfl) (by decide) ?_
          refine J_iushr C (dA DJ6_numberOfTrailingZeros_0f7a4_0 30 rfl) ?_
          rw [nI_ushr (by decide) (by decide), show ((2 ^ 9 - 1) >>> 8 : Nat) = 1 by decide]
          refine J_ist_0_2 C (dA DJ6_numberOfTrailingZeros_0f7a4_0 31 rfl) rfl ?_
          refine J_iload_n C (dA DJ6_numberOfTrailingZeros_0f7a4_0 32 rfl) rfl ?_
          refine J_bipush (v := nI 16) C (dA DJ6_numberOfTrailingZeros_0f7a4_0 33 rfl) (by decide) ?_
          refine J_icmp_le_n (tgt := 62) C (by decide) (by decide) (dA DJ6_numberOfTrailingZeros_0f7a4_0 34 rfl) (by decide) (fun h52 => ?_) (fun h52 => ?_)
          · refine J_iload_n C (dA DJ6_numberOfTrailingZeros_0f7a4_0 40 rfl) rfl ?_
            refine J_iconst (v := nI 4) C (dA DJ6_numberOfTrailingZeros_0f7a4_0 41 rfl) (by decide) ?_
            refine J_icmp_le_n (tgt := 74) C (by decide) (by decide) (dA DJ6_numberOfTrailingZeros_0f7a4_0 42 rfl) (by decide) (fun h64 => ?_) (fun h64 => ?_)
            · refine J_iload_n C (dA DJ6_numberOfTrailingZeros_0f7a4_0 48 rfl) rfl ?_
              refine J_iload_n C (dA DJ6_numberOfTrailingZeros_0f7a4_0 49 rfl) rfl ?_
              refine J_iconst (v := nI 1) C (dA DJ6_numberOfTrailingZeros_0f7a4_0 50 rfl) (by decide) ?_
              refine J_iushr C (dA DJ6_numberOfTrailingZeros_0f7a4_0 51 rfl) ?_
              rw [nI_ushr (by decide) (by decide)]
              refine J_iadd C (dA DJ6_numberOfTrailingZeros_0f7a4_0 52 rfl) ?_
              exact J_iret C G (dA DJ6_numberOfTrailingZeros_0f7a4_0 53 rfl) ⟨oi (by decide +kernel), rfl⟩
            · exact absurd h64 (by decide)
          · exact absurd h52 (by decide)
      · exact absurd h23 (by decide)
    · exact absurd h9 (by decide)
  · refine J_ist_0_2 C (dA DJ6_numberOfTrailingZeros_0f7a4_0 7 rfl) rfl ?_
    refine J_iload_n C (dA DJ6_numberOfTrailingZeros_0f7a4_0 8 rfl) rfl ?_
    refine J_if_gt_n (tgt := 17) C (by decide) (dA DJ6_numberOfTrailingZeros_0f7a4_0 9 rfl) (by decide) (fun h9 => ?_) (fun h9 => ?_)
    · refine J_iconst (v := nI 1) C (dA DJ6_numberOfTrailingZeros_0f7a4_0 14 rfl) (by decide) ?_
      refine J_ist_1_2 C (dA DJ6_numberOfTrailingZeros_0f7a4_0 15 rfl) rfl ?_
      refine J_iload_n C (dA DJ6_numberOfTrailingZeros_0f7a4_0 16 rfl) rfl ?_
      refine J_ldc_w (v := nI 65536) C wK_RJ6_264 (dA DJ6_numberOfTrailingZeros_0f7a4_0 17 rfl) ?_
      refine J_icmp_le_n (tgt := 34) C (by decide) (by decide) (dA DJ6_numberOfTrailingZeros_0f7a4_0 18 rfl) (by decide) (fun h23 => ?_) (fun h23 => ?_)
      · refine J_iload_n C (dA DJ6_numberOfTrailingZeros_0f7a4_0 24 rfl) rfl ?_
        refine J_sipush (v := nI 256) C (dA DJ6_numberOfTrailingZeros_0f7a4_0 25 rfl) (by decide) ?_
        refine J_icmp_le_n (tgt := 49) C (by decide) (by decide) (dA DJ6_numberOfTrailingZeros_0f7a4_0 26 rfl) (by decide) (fun h38 => ?_) (fun h38 => ?_)
        · exact absurd h38 (by decide)
        · refine J_iinc_1_2 C (dA DJ6_numberOfTrailingZeros_0f7a4_0 27 rfl) rfl ?_
          refine J_iload_n C (dA DJ6_numberOfTrailingZeros_0f7a4_0 28 rfl) rfl ?_
          refine J_bipush (v := nI 8) C (dA DJ6_numberOfTrailingZeros_0f7a4_0 29 rfl) (by decide) ?_
          refine J_iushr C (dA DJ6_numberOfTrailingZeros_0f7a4_0 30 rfl) ?_
          rw [nI_ushr (by decide) (by decide), show ((2 ^ 10 - 1) >>> 8 : Nat) = 3 by decide]
          refine J_ist_0_2 C (dA DJ6_numberOfTrailingZeros_0f7a4_0 31 rfl) rfl ?_
          refine J_iload_n C (dA DJ6_numberOfTrailingZeros_0f7a4_0 32 rfl) rfl ?_
          refine J_bipush (v := nI 16) C (dA DJ6_numberOfTrailingZeros_0f7a4_0 33 rfl) (by decide) ?_
          refine J_icmp_le_n (tgt := 62) C (by decide) (by decide) (dA DJ6_numberOfTrailingZeros_0f7a4_0 34 rfl) (by decide) (fun h52 => ?_) (fun h52 => ?_)
          · refine J_iload_n C (dA DJ6_numberOfTrailingZeros_0f7a4_0 40 rfl) rfl ?_
            refine J_iconst (v := nI 4) C (dA DJ6_numberOfTrailingZeros_0f7a4_0 41 rfl) (by decide) ?_
            refine J_icmp_le_n (tgt := 74) C (by decide) (by decide) (dA DJ6_numberOfTrailingZeros_0f7a4_0 42 rfl) (by decide) (fun h64 => ?_) (fun h64 => ?_)
            · refine J_iload_n C (dA DJ6_numberOfTrailingZeros_0f7a4_0 48 rfl) rfl ?_
              refine J_iload_n C (dA DJ6_numberOfTrailingZeros_0f7a4_0 49 rfl) rfl ?_
              refine J_iconst (v := nI 1) C (dA DJ6_numberOfTrailingZeros_0f7a4_0 50 rfl) (by decide) ?_
              refine J_iushr C (dA DJ6_numberOfTrailingZeros_0f7a4_0 51 rfl) ?_
              rw [nI_ushr (by decide) (by decide)]
              refine J_iadd C (dA DJ6_numberOfTrailingZeros_0f7a4_0 52 rfl) ?_
              exact J_iret C G (dA DJ6_numberOfTrailingZeros_0f7a4_0 53 rfl) ⟨oi (by decide +kernel), rfl⟩
            · exact absurd h64 (by decide)
          · exact absurd h52 (by decide)
      · exact absurd h23 (by decide)
    · exact absurd h9 (by decide)
  · refine J_ist_0_2 C (dA DJ6_numberOfTrailingZeros_0f7a4_0 7 rfl) rfl ?_
    refine J_iload_n C (dA DJ6_numberOfTrailingZeros_0f7a4_0 8 rfl) rfl ?_
    refine J_if_gt_n (tgt := 17) C (by decide) (dA DJ6_numberOfTrailingZeros_0f7a4_0 9 rfl) (by decide) (fun h9 => ?_) (fun h9 => ?_)
    · refine J_iconst (v := nI 1) C (dA DJ6_numberOfTrailingZeros_0f7a4_0 14 rfl) (by decide) ?_
      refine J_ist_1_2 C (dA DJ6_numberOfTrailingZeros_0f7a4_0 15 rfl) rfl ?_
      refine J_iload_n C (dA DJ6_numberOfTrailingZeros_0f7a4_0 16 rfl) rfl ?_
      refine J_ldc_w (v := nI 65536) C wK_RJ6_264 (dA DJ6_numberOfTrailingZeros_0f7a4_0 17 rfl) ?_
      refine J_icmp_le_n (tgt := 34) C (by decide) (by decide) (dA DJ6_numberOfTrailingZeros_0f7a4_0 18 rfl) (by decide) (fun h23 => ?_) (fun h23 => ?_)
      · refine J_iload_n C (dA DJ6_numberOfTrailingZeros_0f7a4_0 24 rfl) rfl ?_
        refine J_sipush (v := nI 256) C (dA DJ6_numberOfTrailingZeros_0f7a4_0 25 rfl) (by decide) ?_
        refine J_icmp_le_n (tgt := 49) C (by decide) (by decide) (dA DJ6_numberOfTrailingZeros_0f7a4_0 26 rfl) (by decide) (fun h38 => ?_) (fun h38 => ?_)
        · exact absurd h38 (by decide)
        · refine J_iinc_1_2 C (dA DJ6_numberOfTrailingZeros_0f7a4_0 27 rfl) rfl ?_
          refine J_iload_n C (dA DJ6_numberOfTrailingZeros_0f7a4_0 28 rfl) rfl ?_
          refine J_bipush (v := nI 8) C (dA DJ6_numberOfTrailingZeros_0f7a4_0 29 rfl) (by decide) ?_
          refine J_iushr C (dA DJ6_numberOfTrailingZeros_0f7a4_0 30 rfl) ?_
          rw [nI_ushr (by decide) (by decide), show ((2 ^ 11 - 1) >>> 8 : Nat) = 7 by decide]
          refine J_ist_0_2 C (dA DJ6_numberOfTrailingZeros_0f7a4_0 31 rfl) rfl ?_
          refine J_iload_n C (dA DJ6_numberOfTrailingZeros_0f7a4_0 32 rfl) rfl ?_
          refine J_bipush (v := nI 16) C (dA DJ6_numberOfTrailingZeros_0f7a4_0 33 rfl) (by decide) ?_
          refine J_icmp_le_n (tgt := 62) C (by decide) (by decide) (dA DJ6_numberOfTrailingZeros_0f7a4_0 34 rfl) (by decide) (fun h52 => ?_) (fun h52 => ?_)
          · refine J_iload_n C (dA DJ6_numberOfTrailingZeros_0f7a4_0 40 rfl) rfl ?_
            refine J_iconst (v := nI 4) C (dA DJ6_numberOfTrailingZeros_0f7a4_0 41 rfl) (by decide) ?_
            refine J_icmp_le_n (tgt := 74) C (by decide) (by decide) (dA DJ6_numberOfTrailingZeros_0f7a4_0 42 rfl) (by decide) (fun h64 => ?_) (fun h64 => ?_)
            · exact absurd h64 (by decide)
            · refine J_iinc_1_2 C (dA DJ6_numberOfTrailingZeros_0f7a4_0 43 rfl) rfl ?_
              refine J_iload_n C (dA DJ6_numberOfTrailingZeros_0f7a4_0 44 rfl) rfl ?_
              refine J_iconst (v := nI 2) C (dA DJ6_numberOfTrailingZeros_0f7a4_0 45 rfl) (by decide) ?_
              refine J_iushr C (dA DJ6_numberOfTrailingZeros_0f7a4_0 46 rfl) ?_
              rw [nI_ushr (by decide) (by decide), show (7 >>> 2 : Nat) = 1 by decide]
              refine J_ist_0_2 C (dA DJ6_numberOfTrailingZeros_0f7a4_0 47 rfl) rfl ?_
              refine J_iload_n C (dA DJ6_numberOfTrailingZeros_0f7a4_0 48 rfl) rfl ?_
              refine J_iload_n C (dA DJ6_numberOfTrailingZeros_0f7a4_0 49 rfl) rfl ?_
              refine J_iconst (v := nI 1) C (dA DJ6_numberOfTrailingZeros_0f7a4_0 50 rfl) (by decide) ?_
              refine J_iushr C (dA DJ6_numberOfTrailingZeros_0f7a4_0 51 rfl) ?_
              rw [nI_ushr (by decide) (by decide)]
              refine J_iadd C (dA DJ6_numberOfTrailingZeros_0f7a4_0 52 rfl) ?_
              exact J_iret C G (dA DJ6_numberOfTrailingZeros_0f7a4_0 53 rfl) ⟨oi (by decide +kernel), rfl⟩
          · exact absurd h52 (by decide)
      · exact absurd h23 (by decide)
    · exact absurd h9 (by decide)
  · refine J_ist_0_2 C (dA DJ6_numberOfTrailingZeros_0f7a4_0 7 rfl) rfl ?_
    refine J_iload_n C (dA DJ6_numberOfTrailingZeros_0f7a4_0 8 rfl) rfl ?_
    refine J_if_gt_n (tgt := 17) C (by decide) (dA DJ6_numberOfTrailingZeros_0f7a4_0 9 rfl) (by decide) (fun h9 => ?_) (fun h9 => ?_)
    · refine J_iconst (v := nI 1) C (dA DJ6_numberOfTrailingZeros_0f7a4_0 14 rfl) (by decide) ?_
      refine J_ist_1_2 C (dA DJ6_numberOfTrailingZeros_0f7a4_0 15 rfl) rfl ?_
      refine J_iload_n C (dA DJ6_numberOfTrailingZeros_0f7a4_0 16 rfl) rfl ?_
      refine J_ldc_w (v := nI 65536) C wK_RJ6_264 (dA DJ6_numberOfTrailingZeros_0f7a4_0 17 rfl) ?_
      refine J_icmp_le_n (tgt := 34) C (by decide) (by decide) (dA DJ6_numberOfTrailingZeros_0f7a4_0 18 rfl) (by decide) (fun h23 => ?_) (fun h23 => ?_)
      · refine J_iload_n C (dA DJ6_numberOfTrailingZeros_0f7a4_0 24 rfl) rfl ?_
        refine J_sipush (v := nI 256) C (dA DJ6_numberOfTrailingZeros_0f7a4_0 25 rfl) (by decide) ?_
        refine J_icmp_le_n (tgt := 49) C (by decide) (by decide) (dA DJ6_numberOfTrailingZeros_0f7a4_0 26 rfl) (by decide) (fun h38 => ?_) (fun h38 => ?_)
        · exact absurd h38 (by decide)
        · refine J_iinc_1_2 C (dA DJ6_numberOfTrailingZeros_0f7a4_0 27 rfl) rfl ?_
          refine J_iload_n C (dA DJ6_numberOfTrailingZeros_0f7a4_0 28 rfl) rfl ?_
          refine J_bipush (v := nI 8) C (dA DJ6_numberOfTrailingZeros_0f7a4_0 29 rfl) (by decide) ?_
          refine J_iushr C (dA DJ6_numberOfTrailingZeros_0f7a4_0 30 rfl) ?_
          rw [nI_ushr (by decide) (by decide), show ((2 ^ 12 - 1) >>> 8 : Nat) = 15 by decide]
          refine J_ist_0_2 C (dA DJ6_numberOfTrailingZeros_0f7a4_0 31 rfl) rfl ?_
          refine J_iload_n C (dA DJ6_numberOfTrailingZeros_0f7a4_0 32 rfl) rfl ?_
          refine J_bipush (v := nI 16) C (dA DJ6_numberOfTrailingZeros_0f7a4_0 33 rfl) (by decide) ?_
          refine J_icmp_le_n (tgt := 62) C (by decide) (by decide) (dA DJ6_numberOfTrailingZeros_0f7a4_0 34 rfl) (by decide) (fun h52 => ?_) (fun h52 => ?_)
          · refine J_iload_n C (dA DJ6_numberOfTrailingZeros_0f7a4_0 40 rfl) rfl ?_
            refine J_iconst (v := nI 4) C (dA DJ6_numberOfTrailingZeros_0f7a4_0 41 rfl) (by decide) ?_
            refine J_icmp_le_n (tgt := 74) C (by decide) (by decide) (dA DJ6_numberOfTrailingZeros_0f7a4_0 42 rfl) (by decide) (fun h64 => ?_) (fun h64 => ?_)
            · exact absurd h64 (by decide)
            · refine J_iinc_1_2 C (dA DJ6_numberOfTrailingZeros_0f7a4_0 43 rfl) rfl ?_
              refine J_iload_n C (dA DJ6_numberOfTrailingZeros_0f7a4_0 44 rfl) rfl ?_
              refine J_iconst (v := nI 2) C (dA DJ6_numberOfTrailingZeros_0f7a4_0 45 rfl) (by decide) ?_
              refine J_iushr C (dA DJ6_numberOfTrailingZeros_0f7a4_0 46 rfl) ?_
              rw [nI_ushr (by decide) (by decide), show (15 >>> 2 : Nat) = 3 by decide]
              refine J_ist_0_2 C (dA DJ6_numberOfTrailingZeros_0f7a4_0 47 rfl) rfl ?_
              refine J_iload_n C (dA DJ6_numberOfTrailingZeros_0f7a4_0 48 rfl) rfl ?_
              refine J_iload_n C (dA DJ6_numberOfTrailingZeros_0f7a4_0 49 rfl) rfl ?_
              refine J_iconst (v := nI 1) C (dA DJ6_numberOfTrailingZeros_0f7a4_0 50 rfl) (by decide) ?_
              refine J_iushr C (dA DJ6_numberOfTrailingZeros_0f7a4_0 51 rfl) ?_
              rw [nI_ushr (by decide) (by decide)]
              refine J_iadd C (dA DJ6_numberOfTrailingZeros_0f7a4_0 52 rfl) ?_
              exact J_iret C G (dA DJ6_numberOfTrailingZeros_0f7a4_0 53 rfl) ⟨oi (by decide +kernel), rfl⟩
          · exact absurd h52 (by decide)
      · exact absurd h23 (by decide)
    · exact absurd h9 (by decide)
  · refine J_ist_0_2 C (dA DJ6_numberOfTrailingZeros_0f7a4_0 7 rfl) rfl ?_
    refine J_iload_n C (dA DJ6_numberOfTrailingZeros_0f7a4_0 8 rfl) rfl ?_
    refine J_if_gt_n (tgt := 17) C (by decide) (dA DJ6_numberOfTrailingZeros_0f7a4_0 9 rfl) (by decide) (fun h9 => ?_) (fun h9 => ?_)
    · refine J_iconst (v := nI 1) C (dA DJ6_numberOfTrailingZeros_0f7a4_0 14 rfl) (by decide) ?_
      refine J_ist_1_2 C (dA DJ6_numberOfTrailingZeros_0f7a4_0 15 rfl) rfl ?_
      refine J_iload_n C (dA DJ6_numberOfTrailingZeros_0f7a4_0 16 rfl) rfl ?_
      refine J_ldc_w (v := nI 65536) C wK_RJ6_264 (dA DJ6_numberOfTrailingZeros_0f7a4_0 17 rfl) ?_
      refine J_icmp_le_n (tgt := 34) C (by decide) (by decide) (dA DJ6_numberOfTrailingZeros_0f7a4_0 18 rfl) (by decide) (fun h23 => ?_) (fun h23 => ?_)
      · refine J_iload_n C (dA DJ6_numberOfTrailingZeros_0f7a4_0 24 rfl) rfl ?_
        refine J_sipush (v := nI 256) C (dA DJ6_numberOfTrailingZeros_0f7a4_0 25 rfl) (by decide) ?_
        refine J_icmp_le_n (tgt := 49) C (by decide) (by decide) (dA DJ6_numberOfTrailingZeros_0f7a4_0 26 rfl) (by decide) (fun h38 => ?_) (fun h38 => ?_)
        · exact absurd h38 (by decide)
        · refine J_iinc_1_2 C (dA DJ6_numberOfTrailingZeros_0f7a4_0 27 rfl) rfl ?_
          refine J_iload_n C (dA DJ6_numberOfTrailingZeros_0f7a4_0 28 rfl) rfl ?_
          refine J_bipush (v := nI 8) C (dA DJ6_numberOfTrailingZeros_0f7a4_0 29 rfl) (by decide) ?_
          refine J_iushr C (dA DJ6_numberOfTrailingZeros_0f7a4_0 30 rfl) ?_
          rw [nI_ushr (by decide) (by decide), show ((2 ^ 13 - 1) >>> 8 : Nat) = 31 by decide]
          refine J_ist_0_2 C (dA DJ6_numberOfTrailingZeros_0f7a4_0 31 rfl) rfl ?_
          refine J_iload_n C (dA DJ6_numberOfTrailingZeros_0f7a4_0 32 rfl) rfl ?_
          refine J_bipush (v := nI 16) C (dA DJ6_numberOfTrailingZeros_0f7a4_0 33 rfl) (by decide) ?_
          refine J_icmp_le_n (tgt := 62) C (by decide) (by decide) (dA DJ6_numberOfTrailingZeros_0f7a4_0 34 rfl) (by decide) (fun h52 => ?_) (fun h52 => ?_)
          · exact absurd h52 (by decide)
          · refine J_iinc_1_2 C (dA DJ6_numberOfTrailingZeros_0f7a4_0 35 rfl) rfl ?_
            refine J_iload_n C (dA DJ6_numberOfTrailingZeros_0f7a4_0 36 rfl) rfl ?_
            refine J_iconst (v := nI 4) C (dA DJ6_numberOfTrailingZeros_0f7a4_0 37 rfl) (by decide) ?_
            refine J_iushr C (dA DJ6_numberOfTrailingZeros_0f7a4_0 38 rfl) ?_
            rw [nI_ushr (by decide) (by decide), show (31 >>> 4 : Nat) = 1 by decide]
            refine J_ist_0_2 C (dA DJ6_numberOfTrailingZeros_0f7a4_0 39 rfl) rfl ?_
            refine J_iload_n C (dA DJ6_numberOfTrailingZeros_0f7a4_0 40 rfl) rfl ?_
            refine J_iconst (v := nI 4) C (dA DJ6_numberOfTrailingZeros_0f7a4_0 41 rfl) (by decide) ?_
            refine J_icmp_le_n (tgt := 74) C (by decide) (by decide) (dA DJ6_numberOfTrailingZeros_0f7a4_0 42 rfl) (by decide) (fun h64 => ?_) (fun h64 => ?_)
            · refine J_iload_n C (dA DJ6_numberOfTrailingZeros_0f7a4_0 48 rfl) rfl ?_
              refine J_iload_n C (dA DJ6_numberOfTrailingZeros_0f7a4_0 49 rfl) rfl ?_
              refine J_iconst (v := nI 1) C (dA DJ6_numberOfTrailingZeros_0f7a4_0 50 rfl) (by decide) ?_
              refine J_iushr C (dA DJ6_numberOfTrailingZeros_0f7a4_0 51 rfl) ?_
              rw [nI_ushr (by decide) (by decide)]
              refine J_iadd C (dA DJ6_numberOfTrailingZeros_0f7a4_0 52 rfl) ?_
              exact J_iret C G (dA DJ6_numberOfTrailingZeros_0f7a4_0 53 rfl) ⟨oi (by decide +kernel), rfl⟩
            · exact absurd h64 (by decide)
      · exact absurd h23 (by decide)
    · exact absurd h9 (by decide)
  · refine J_ist_0_2 C (dA DJ6_numberOfTrailingZeros_0f7a4_0 7 rfl) rfl ?_
    refine J_iload_n C (dA DJ6_numberOfTrailingZeros_0f7a4_0 8 rfl) rfl ?_
    refine J_if_gt_n (tgt := 17) C (by decide) (dA DJ6_numberOfTrailingZeros_0f7a4_0 9 rfl) (by decide) (fun h9 => ?_) (fun h9 => ?_)
    · refine J_iconst (v := nI 1) C (dA DJ6_numberOfTrailingZeros_0f7a4_0 14 rfl) (by decide) ?_
      refine J_ist_1_2 C (dA DJ6_numberOfTrailingZeros_0f7a4_0 15 rfl) rfl ?_
      refine J_iload_n C (dA DJ6_numberOfTrailingZeros_0f7a4_0 16 rfl) rfl ?_
      refine J_ldc_w (v := nI 65536) C wK_RJ6_264 (dA DJ6_numberOfTrailingZeros_0f7a4_0 17 rfl) ?_
      refine J_icmp_le_n (tgt := 34) C (by decide) (by decide) (dA DJ6_numberOfTrailingZeros_0f7a4_0 18 rfl) (by decide) (fun h23 => ?_) (fun h23 => ?_)
      · refine J_iload_n C (dA DJ6_numberOfTrailingZeros_0f7a4_0 24 rfl) rfl ?_
        refine J_sipush (v := nI 256) C (dA DJ6_numberOfTrailingZeros_0f7a4_0 25 rfl) (by decide) ?_
        refine J_icmp_le_n (tgt := 49) C (by decide) (by decide) (dA DJ6_numberOfTrailingZeros_0f7a4_0 26 rfl) (by decide) (fun h38 => ?_) (fun h38 => ?_)
        · exact absurd h38 (by decide)
        · refine J_iinc_1_2 C (dA DJ6_numberOfTrailingZeros_0f7a4_0 27 rfl) rfl ?_
          refine J_iload_n C (dA DJ6_numberOfTrailingZeros_0f7a4_0 28 rfl) rfl ?_
          refine J_bipush (v := nI 8) C (dA DJ6_numberOfTrailingZeros_0f7a4_0 29 rfl) (by decide) ?_
          refine J_iushr C (dA DJ6_numberOfTrailingZeros_0f7a4_0 30 rfl) ?_
          rw [nI_ushr (by decide) (by decide), show ((2 ^ 14 - 1) >>> 8 : Nat) = 63 by decide]
          refine J_ist_0_2 C (dA DJ6_numberOfTrailingZeros_0f7a4_0 31 rfl) rfl ?_
          refine J_iload_n C (dA DJ6_numberOfTrailingZeros_0f7a4_0 32 rfl) rfl ?_
          refine J_bipush (v := nI 16) C (dA DJ6_numberOfTrailingZeros_0f7a4_0 33 rfl) (by decide) ?_
          refine J_icmp_le_n (tgt := 62) C (by decide) (by decide) (dA DJ6_numberOfTrailingZeros_0f7a4_0 34 rfl) (by decide) (fun h52 => ?_) (fun h52 => ?_)
          · exact absurd h52 (by decide)
          · refine J_iinc_1_2 C (dA DJ6_numberOfTrailingZeros_0f7a4_0 35 rfl) rfl ?_
            refine J_iload_n C (dA DJ6_numberOfTrailingZeros_0f7a4_0 36 rfl) rfl ?_
            refine J_iconst (v := nI 4) C (dA DJ6_numberOfTrailingZeros_0f7a4_0 37 rfl) (by decide) ?_
            refine J_iushr C (dA DJ6_numberOfTrailingZeros_0f7a4_0 38 rfl) ?_
            rw [nI_ushr (by decide) (by decide), show (63 >>> 4 : Nat) = 3 by decide]
            refine J_ist_0_2 C (dA DJ6_numberOfTrailingZeros_0f7a4_0 39 rfl) rfl ?_
            refine J_iload_n C (dA DJ6_numberOfTrailingZeros_0f7a4_0 40 rfl) rfl ?_
            refine J_iconst (v := nI 4) C (dA DJ6_numberOfTrailingZeros_0f7a4_0 41 rfl) (by decide) ?_
            refine J_icmp_le_n (tgt := 74) C (by decide) (by decide) (dA DJ6_numberOfTrailingZeros_0f7a4_0 42 rfl) (by decide) (fun h64 => ?_) (fun h64 => ?_)
            · refine J_iload_n C (dA DJ6_numberOfTrailingZeros_0f7a4_0 48 rfl) rfl ?_
              refine J_iload_n C (dA DJ6_numberOfTrailingZeros_0f7a4_0 49 rfl) rfl ?_
              refine J_iconst (v := nI 1) C (dA DJ6_numberOfTrailingZeros_0f7a4_0 50 rfl) (by decide) ?_
              refine J_iushr C (dA DJ6_numberOfTrailingZeros_0f7a4_0 51 rfl) ?_
              rw [nI_ushr (by decide) (by decide)]
              refine J_iadd C (dA DJ6_numberOfTrailingZeros_0f7a4_0 52 rfl) ?_
              exact J_iret C G (dA DJ6_numberOfTrailingZeros_0f7a4_0 53 rfl) ⟨oi (by decide +kernel), rfl⟩
            · exact absurd h64 (by decide)
      · exact absurd h23 (by decide)
    · exact absurd h9 (by decide)
  · refine J_ist_0_2 C (dA DJ6_numberOfTrailingZeros_0f7a4_0 7 rfl) rfl ?_
    refine J_iload_n C (dA DJ6_numberOfTrailingZeros_0f7a4_0 8 rfl) rfl ?_
    refine J_if_gt_n (tgt := 17) C (by decide) (dA DJ6_numberOfTrailingZeros_0f7a4_0 9 rfl) (by decide) (fun h9 => ?_) (fun h9 => ?_)
    · refine J_iconst (v := nI 1) C (dA DJ6_numberOfTrailingZeros_0f7a4_0 14 rfl) (by decide) ?_
      refine J_ist_1_2 C (dA DJ6_numberOfTrailingZeros_0f7a4_0 15 rfl) rfl ?_
      refine J_iload_n C (dA DJ6_numberOfTrailingZeros_0f7a4_0 16 rfl) rfl ?_
      refine J_ldc_w (v := nI 65536) C wK_RJ6_264 (dA DJ6_numberOfTrailingZeros_0f7a4_0 17 rfl) ?_
      refine J_icmp_le_n (tgt := 34) C (by decide) (by decide) (dA DJ6_numberOfTrailingZeros_0f7a4_0 18 rfl) (by decide) (fun h23 => ?_) (fun h23 => ?_)
      · refine J_iload_n C (dA DJ6_numberOfTrailingZeros_0f7a4_0 24 rfl) rfl ?_
        refine J_sipush (v := nI 256) C (dA DJ6_numberOfTrailingZeros_0f7a4_0 25 rfl) (by decide) ?_
        refine J_icmp_le_n (tgt := 49) C (by decide) (by decide) (dA DJ6_numberOfTrailingZeros_0f7a4_0 26 rfl) (by decide) (fun h38 => ?_) (fun h38 => ?_)
        · exact absurd h38 (by decide)
        · refine J_iinc_1_2 C (dA DJ6_numberOfTrailingZeros_0f7a4_0 27 rfl) rfl ?_
          refine J_iload_n C (dA DJ6_numberOfTrailingZeros_0f7a4_0 28 rfl) rfl ?_
          refine J_bipush (v := nI 8) C (dA DJ6_numberOfTrailingZeros_0f7a4_0 29 rfl) (by decide) ?_
          refine J_iushr C (dA DJ6_numberOfTrailingZeros_0f7a4_0 30 rfl) ?_
          rw [nI_ushr (by decide) (by decide), show ((2 ^ 15 - 1) >>> 8 : Nat) = 127 by decide]
          refine J_ist_0_2 C (dA DJ6_numberOfTrailingZeros_0f7a4_0 31 rfl) rfl ?_
          refine J_iload_n C (dA DJ6_numberOfTrailingZeros_0f7a4_0 32 rfl) rfl ?_
          refine J_bipush (v := nI 16) C (dA DJ6_numberOfTrailingZeros_0f7a4_0 33 rfl) (by decide) ?_
          refine J_icmp_le_n (tgt := 62) C (by decide) (by decide) (dA DJ6_numberOfTrailingZeros_0f7a4_0 34 rfl) (by decide) (fun h52 => ?_) (fun h52 => ?_)
          · exact absurd h52 (by decide)
          · refine J_iinc_1_2 C (dA DJ6_numberOfTrailingZeros_0f7a4_0 35 rfl) rfl ?_
            refine J_iload_n C (dA DJ6_numberOfTrailingZeros_0f7a4_0 36 rfl) rfl ?_
            refine J_iconst (v := nI 4) C (dA DJ6_numberOfTrailingZeros_0f7a4_0 37 rfl) (by decide) ?_
            refine J_iushr C (dA DJ6_numberOfTrailingZeros_0f7a4_0 38 rfl) ?_
            rw [nI_ushr (by decide) (by decide), show (127 >>> 4 : Nat) = 7 by decide]
            refine J_ist_0_2 C (dA DJ6_numberOfTrailingZeros_0f7a4_0 39 rfl) rfl ?_
            refine J_iload_n C (dA DJ6_numberOfTrailingZeros_0f7a4_0 40 rfl) rfl ?_
            refine J_iconst (v := nI 4) C (dA DJ6_numberOfTrailingZeros_0f7a4_0 41 rfl) (by decide) ?_
            refine J_icmp_le_n (tgt := 74) C (by decide) (by decide) (dA DJ6_numberOfTrailingZeros_0f7a4_0 42 rfl) (by decide) (fun h64 => ?_) (fun h64 => ?_)
            · exact absurd h64 (by decide)
            · refine J_iinc_1_2 C (dA DJ6_numberOfTrailingZeros_0f7a4_0 43 rfl) rfl ?_
              refine J_iload_n C (dA DJ6_numberOfTrailingZeros_0f7a4_0 44 rfl) rfl ?_
              refine J_iconst (v := nI 2) C (dA DJ6_numberOfTrailingZeros_0f7a4_0 45 rfl) (by decide) ?_
              refine J_iushr C (dA DJ6_numberOfTrailingZeros_0f7a4_0 46 rfl) ?_
              rw [nI_ushr (by decide) (by decide), show (7 >>> 2 : Nat) = 1 by decide]
              refine J_ist_0_2 C (dA DJ6_numberOfTrailingZeros_0f7a4_0 47 rfl) rfl ?_
              refine J_iload_n C (dA DJ6_numberOfTrailingZeros_0f7a4_0 48 rfl) rfl ?_
              refine J_iload_n C (dA DJ6_numberOfTrailingZeros_0f7a4_0 49 rfl) rfl ?_
              refine J_iconst (v := nI 1) C (dA DJ6_numberOfTrailingZeros_0f7a4_0 50 rfl) (by decide) ?_
              refine J_iushr C (dA DJ6_numberOfTrailingZeros_0f7a4_0 51 rfl) ?_
              rw [nI_ushr (by decide) (by decide)]
              refine J_iadd C (dA DJ6_numberOfTrailingZeros_0f7a4_0 52 rfl) ?_
              exact J_iret C G (dA DJ6_numberOfTrailingZeros_0f7a4_0 53 rfl) ⟨oi (by decide +kernel), rfl⟩
      · exact absurd h23 (by decide)
    · exact absurd h9 (by decide)
set_option maxRecDepth 4000 in
theorem c_X7_lens (l : Launch) (E : jE) (a b : Int32) (hZ : QS (sv7 M)) (hS : IS (vb (fb 0) M))  : K_X7_lens l E [.ref (ja E 59), .int a, .int b] M (aLens (sv7 M) (vb (fb 0) M) a b) (eLens (sv7 M) (vb (fb 0) M) 1076 a b (lnM M (sv7 M) (vb (fb 0) M) (nv a) (nv b) 16) M) := by
  refine CT_intro (own := RX7) (by decide +kernel) rfl (by simp [Value.category]) (Nat.le_of_ble_eq_true rfl) rfl (fun X C G => ?_)
  show J E X 0 [some (.ref (ja E 59)), some (.int a), some (.int b), none, none] [] M
  rcases lkP_c (Z := sv7 M) (a := a) (b := b) with e | e | ⟨q, p, hq, hp, rfl, rfl, e⟩
  · refine J_aload_n C (dA DX7_lens_0 0 rfl) rfl ?_
    refine J_iload_n C (dA DX7_lens_0 1 rfl) rfl ?_
    refine J_iload_n C (dA DX7_lens_0 2 rfl) rfl ?_
    refine V_X7_lackOfSight C (c_X7_lackOfSight l E _ _) wM_RX7_204 (by decide) (dA DX7_lens_0 3 rfl) rfl (Nat.le_of_ble_eq_true rfl) ?_
    rw [e, show lk7 0 = fi 0 from rfl]
    refine J_ist_3_5 C (dA DX7_lens_0 4 rfl) rfl ?_
    refine J_iload_n C (dA DX7_lens_0 5 rfl) rfl ?_
    refine J_if_eq (tgt := 17) C (dA DX7_lens_0 6 rfl) (by decide) (fun h8 => ?_) (fun h8 => ?_)
    · exact absurd h8 (by decide)
    · refine J_aload_n C (dA DX7_lens_0 7 rfl) rfl ?_
      refine J_iload_n C (dA DX7_lens_0 8 rfl) rfl ?_
      refine V_X7_finding C (c_X7_finding l E 0 (by decide) _ rfl) wM_RX7_70 (by decide) (dA DX7_lens_0 9 rfl) rfl (Nat.le_of_ble_eq_true rfl) ?_
      exact J_iret C G (dA DX7_lens_0 10 rfl) ⟨oi (by unfold aLens; rw [if_neg (by rw [e]; decide), e] <;> rfl), by unfold eLens; rw [if_neg (by rw [e]; decide), e]⟩
  · refine J_aload_n C (dA DX7_lens_0 0 rfl) rfl ?_
    refine J_iload_n C (dA DX7_lens_0 1 rfl) rfl ?_
    refine J_iload_n C (dA DX7_lens_0 2 rfl) rfl ?_
    refine V_X7_lackOfSight C (c_X7_lackOfSight l E _ _) wM_RX7_204 (by decide) (dA DX7_lens_0 3 rfl) rfl (Nat.le_of_ble_eq_true rfl) ?_
    rw [e, show lk7 5 = fi 5 from rfl]
    refine J_ist_3_5 C (dA DX7_lens_0 4 rfl) rfl ?_
    refine J_iload_n C (dA DX7_lens_0 5 rfl) rfl ?_
    refine J_if_eq (tgt := 17) C (dA DX7_lens_0 6 rfl) (by decide) (fun h8 => ?_) (fun h8 => ?_)
    · exact absurd h8 (by decide)
    · refine J_aload_n C (dA DX7_lens_0 7 rfl) rfl ?_
      refine J_iload_n C (dA DX7_lens_0 8 rfl) rfl ?_
      refine V_X7_finding C (c_X7_finding l E 5 (by decide) _ rfl) wM_RX7_70 (by decide) (dA DX7_lens_0 9 rfl) rfl (Nat.le_of_ble_eq_true rfl) ?_
      exact J_iret C G (dA DX7_lens_0 10 rfl) ⟨oi (by unfold aLens; rw [if_neg (by rw [e]; decide), e] <;> rfl), by unfold eLens; rw [if_neg (by rw [e]; decide), e]⟩
  · have na : nv (nI q) = q := nv_nI (by omega)
    have nb : nv (nI p) = p := nv_nI (by omega)
    have hZ2 := hZ
    obtain ⟨b, n, hb, hn, e0, e1, h0⟩ := hZ2 q hq
    refine J_aload_n C (dA DX7_lens_0 0 rfl) rfl ?_
    refine J_iload_n C (dA DX7_lens_0 1 rfl) rfl ?_
    refine J_iload_n C (dA DX7_lens_0 2 rfl) rfl ?_
    refine V_X7_lackOfSight C (c_X7_lackOfSight l E _ _) wM_RX7_204 (by decide) (dA DX7_lens_0 3 rfl) rfl (Nat.le_of_ble_eq_true rfl) ?_
    rw [e, show lk7 7 = nI 0 from rfl]
    refine J_ist_3_5 C (dA DX7_lens_0 4 rfl) rfl ?_
    refine J_iload_n C (dA DX7_lens_0 5 rfl) rfl ?_
    refine J_if_eq (tgt := 17) C (dA DX7_lens_0 6 rfl) (by decide) (fun h8 => ?_) (fun h8 => ?_)
    · refine J_aload_n C (dA DX7_lens_0 11 rfl) rfl ?_
      refine J_aload_n C (dA DX7_lens_0 12 rfl) rfl ?_
      refine G_X7_sheets C wF_RX7_57 (dA DX7_lens_0 13 rfl) ?_
      refine J_iload_n C (dA DX7_lens_0 14 rfl) rfl ?_
      refine R_sh C rfl (by omega) (dA DX7_lens_0 15 rfl) ?_
      refine J_iload_n C (dA DX7_lens_0 16 rfl) rfl ?_
      refine V_X7_lensesFor C (c_X7_lensesFor l E q p n hq hp hn e1 hS) wM_RX7_207 (by decide) (dA DX7_lens_0 17 rfl) rfl (Nat.le_of_ble_eq_true rfl) ?_
      refine J_ist_4_5 C (dA DX7_lens_0 18 rfl) rfl ?_
      refine J_iload C (dA DX7_lens_0 19 rfl) rfl ?_
      refine J_if_ne (tgt := 42) C (dA DX7_lens_0 20 rfl) (by decide) (fun h32 => ?_) (fun h32 => ?_)
      · have hlt : firstN 16 (lnP (sv7 M) (vb (fb 0) M) q p) < 16 := Classical.byContradiction (fun z => h32 ((orL_z (by decide)).mpr (firstN_z z)))
        have hff := firstN_lt hlt
        refine J_iload C (dA DX7_lens_0 25 rfl) rfl ?_
        refine V_J6_numberOfTrailingZeros_0f7a4 C (c_J6_ntz l E _ hlt hff.1 hff.2) wM_RX7_211 (by decide) (dA DX7_lens_0 26 rfl) rfl (Nat.le_of_ble_eq_true rfl) ?_
        exact J_iret C G (dA DX7_lens_0 27 rfl) ⟨oi (by unfold aLens; rw [if_pos e, na, nb, if_pos hlt]), by unfold eLens; rw [if_pos e, na, nb, if_pos hlt]⟩
      · have hz0 : orL 16 (lnP (sv7 M) (vb (fb 0) M) q p) = 0 := by first | exact h32 | exact Classical.byContradiction h32
        have ef : firstN 16 (lnP (sv7 M) (vb (fb 0) M) q p) = 16 := firstN_no ((orL_z (by decide)).mp hz0)
        refine J_aload_n C (dA DX7_lens_0 21 rfl) rfl ?_
        refine J_ldc (v := (-1000004)) C wK_RX7_165 (dA DX7_lens_0 22 rfl) ?_
        refine V_X7_finding C (c_X7_finding l E 3 (by decide) _ (by decide)) wM_RX7_70 (by decide) (dA DX7_lens_0 23 rfl) rfl (Nat.le_of_ble_eq_true rfl) ?_
        exact J_iret C G (dA DX7_lens_0 24 rfl) ⟨oi (by unfold aLens; rw [if_pos e, na, nb, ef, if_neg (Nat.lt_irrefl _)]; rfl), by unfold eLens; rw [if_pos e, na, nb, ef, if_neg (Nat.lt_irrefl _)]⟩
    · exact absurd rfl h8

end PA
