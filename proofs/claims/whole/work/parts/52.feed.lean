/-- byte k of a number, from the lowest on -/
def byt (x : Int32) (k : Nat) : Int32 := ((x.toUInt32 >>> ((nI (8 * k)).toUInt32 &&& Int32.toUInt32 31)).toInt32) &&& nI 255
theorem byt_s (x : Int32) {k : Nat} (hk : k < 4) : (x >>> (nI (8 * k) &&& 31)) &&& nI 255 = byt x k := by
  unfold byt
  apply b_ext
  intro i hi
  rw [b_and, b_and, b_ushr (8 * k) (by omega), b_sshr (8 * k) (by omega) _ hi, bt_nI hi]
  by_cases h : i < 8
  · rw [if_pos (by omega)]
  · rw [show (255 : Nat) = 2 ^ 8 - 1 from rfl, Nat.testBit_two_pow_sub_one, decide_eq_false h, Bool.and_false, Bool.and_false]
/-- the tape at b, its length at lp, m long, with j bytes more -/
def fdT (b lp : Nat) (M : jM) (m : Nat) (x : Int32) (n j : Nat) : jM := fun a => if a = lp then nI (m + j) else if b + m ≤ a ∧ a < b + m + j then byt x (n - 1 - (a - b - m)) else M a
theorem fdT_0 {b lp : Nat} {M : jM} {m : Nat} {x : Int32} {n : Nat} (h : M lp = nI m) : fdT b lp M m x n 0 = M := by
  funext a
  unfold fdT
  by_cases e : a = lp
  · rw [if_pos e, e, h]; rfl
  · rw [if_neg e, if_neg (by omega)]
theorem fdT_l {b lp : Nat} {M : jM} {m : Nat} {x : Int32} {n j : Nat} : fdT b lp M m x n j lp = nI (m + j) := if_pos rfl
theorem fdT_s {b lp : Nat} {M : jM} {m : Nat} {x : Int32} {n j : Nat} (h : lp < b ∨ b + 120 ≤ lp) (hm : m + j < 120) : upd (upd (fdT b lp M m x n j) (b + (m + j)) (byt x (n - 1 - j))) lp (nI (m + j + 1)) = fdT b lp M m x n (j + 1) := by
  funext a
  unfold upd fdT
  by_cases e : a = lp
  · rw [if_pos e, if_pos e]; rfl
  · rw [if_neg e, if_neg e]
    by_cases e2 : a = b + (m + j)
    · rw [if_pos e2, if_neg e, if_pos (by omega), show a - b - m = j by omega]
    · rw [if_neg e2, if_neg e]
      by_cases e3 : b + m ≤ a ∧ a < b + m + j
      · rw [if_pos e3, if_pos (by omega)]
      · rw [if_neg e3, if_neg (by omega)]
theorem dec1 : ∀ k, k < 4 → nI k + Int32.ofInt (-1) = nI k - nI 1 := by decide +kernel
theorem prd4 : ∀ k, k < 5 → (nI k - nI 1).toInt = (k : Int) - 1 := by decide +kernel
def aFeed (m : Nat) (x n : Int32) : Int32 := if inr n 1 4 = true then (if 120 < m + nv n then fi 1 else nI (m + nv n)) else fi 0
def eFeed (b lp F : Nat) (m : Nat) (x n : Int32) (M : jM) : jM := if inr n 1 4 = true then (if 120 < m + nv n then Fl F 1 M else fdT b lp M m x (nv n) (nv n)) else Fl F 0 M
section PA
variable {M : jM}
set_option maxRecDepth 4000 in
theorem c_X4_append (l : Launch) (E : jE) (m : Nat) (hm : m < 120) (e : M 422 = nI m) (x : Int32)  : K_X4_append l E [.ref (ja E 42), .int x] M (upd (upd M (423 + m) x) 422 (nI (m + 1))) := by
  refine CT_intro (own := RX4) (by decide +kernel) rfl (by simp [Value.category]) (Nat.le_of_ble_eq_true rfl) rfl (fun X C G => ?_)
  show J E X 0 [some (.ref (ja E 42)), some (.int x)] [] M
  have e2 : (upd M (423 + m) x) 422 = nI m := by unfold upd; rw [if_neg (by omega)]; exact e
  refine J_aload_n C (dA DX4_append_0 0 rfl) rfl ?_
  refine G_X4_length C wF_RX4_15 (dA DX4_append_0 1 rfl) ?_
  rw [e]
  refine J_bipush (v := nI 120) C (dA DX4_append_0 2 rfl) (by decide) ?_
  refine J_icmp_ge_n (tgt := 29) C (by omega) (by omega) (dA DX4_append_0 3 rfl) (by decide) (fun h6 => ?_) (fun h6 => ?_)
  · exfalso; omega
  · refine J_aload_n C (dA DX4_append_0 4 rfl) rfl ?_
    refine G_X4_bytes C wF_RX4_9 (dA DX4_append_0 5 rfl) ?_
    refine J_aload_n C (dA DX4_append_0 6 rfl) rfl ?_
    refine G_X4_length C wF_RX4_15 (dA DX4_append_0 7 rfl) ?_
    rw [e]
    refine J_iload_n C (dA DX4_append_0 8 rfl) rfl ?_
    refine S_1 C (hk := rfl) (j := m) rfl (by omega) (dA DX4_append_0 9 rfl) ?_
    refine J_aload_n C (dA DX4_append_0 10 rfl) rfl ?_
    refine J_dup C (dA DX4_append_0 11 rfl) rfl ?_
    refine G_X4_length C wF_RX4_15 (dA DX4_append_0 12 rfl) ?_
    rw [e2]
    refine J_iconst (v := nI 1) C (dA DX4_append_0 13 rfl) (by decide) ?_
    refine J_iadd_n C (dA DX4_append_0 14 rfl) ?_
    refine P_X4_length C wF_RX4_15 (dA DX4_append_0 15 rfl) ?_
    exact J_vret C G (dA DX4_append_0 16 rfl) ⟨rfl, rfl⟩
set_option maxRecDepth 4000 in
theorem c_X7_feed (l : Launch) (E : jE) (x n : Int32) (m : Nat) (hm : m ≤ 120) (e : M 422 = nI m)  : K_X7_feed l E [.ref (ja E 59), .int x, .int n] M (aFeed m x n) (eFeed 423 422 1076 m x n M) := by
  refine CT_intro (own := RX7) (by decide +kernel) rfl (by simp [Value.category]) (Nat.le_of_ble_eq_true rfl) rfl (fun X C G => ?_)
  show J E X 0 [some (.ref (ja E 59)), some (.int x), some (.int n), none] [] M
  have u1 : (nI 1).toInt = 1 := by decide
  have u4 : (nI 4).toInt = 4 := by decide
  refine J_iload_n C (dA DX7_feed_0 0 rfl) rfl ?_
  refine J_iconst (v := nI 1) C (dA DX7_feed_0 1 rfl) (by decide) ?_
  refine J_icmp_lt_t (tgt := 10) C (dA DX7_feed_0 2 rfl) (by decide) (fun h2 => ?_) (fun h2 => ?_)
  · try have g2 := inr_t h2
    try have g2 := inr_f h2
    refine J_aload_n C (dA DX7_feed_0 6 rfl) rfl ?_
    refine J_ldc (v := (-1000001)) C wK_RX7_69 (dA DX7_feed_0 7 rfl) ?_
    refine V_X7_finding C (c_X7_finding l E 0 (by decide) _ (by decide)) wM_RX7_70 (by decide) (dA DX7_feed_0 8 rfl) rfl (Nat.le_of_ble_eq_true rfl) ?_
    exact J_iret C G (dA DX7_feed_0 9 rfl) ⟨oi (by unfold aFeed; rw [if_neg (fun z => by have z := inr_t z; omega)]; rfl), by unfold eFeed; rw [if_neg (fun z => by have z := inr_t z; omega)]⟩
  · try have g2 := inr_t h2
    try have g2 := inr_f h2
    refine J_iload_n C (dA DX7_feed_0 3 rfl) rfl ?_
    refine J_iconst (v := nI 4) C (dA DX7_feed_0 4 rfl) (by decide) ?_
    refine J_icmp_le_t (tgt := 17) C (dA DX7_feed_0 5 rfl) (by decide) (fun h7 => ?_) (fun h7 => ?_)
    · try have g7 := inr_t h7
      try have g7 := inr_f h7
      obtain ⟨p, hp, rfl⟩ := toNI (x := n) (n := 5) (by omega) (by omega)
      have tp := tI (n := p) (by omega)
      have np : nv (nI p) = p := nv_nI (by omega)
      refine J_iload_n C (dA DX7_feed_0 10 rfl) rfl ?_
      refine J_bipush (v := nI 120) C (dA DX7_feed_0 11 rfl) (by decide) ?_
      refine J_aload_n C (dA DX7_feed_0 12 rfl) rfl ?_
      refine G_X7_tape C wF_RX7_43 (dA DX7_feed_0 13 rfl) ?_
      refine G_X4_length C wF_RX7_233 (dA DX7_feed_0 14 rfl) ?_
      rw [e]
      refine J_isub_n C (by omega) (dA DX7_feed_0 15 rfl) ?_
      refine J_icmp_le_n (tgt := 38) C (by omega) (by omega) (dA DX7_feed_0 16 rfl) (by decide) (fun h28 => ?_) (fun h28 => ?_)
      · try have g28 := inr_t h28
        try have g28 := inr_f h28
        refine J_iload_n C (dA DX7_feed_0 21 rfl) rfl ?_
        refine J_iconst (v := nI 1) C (dA DX7_feed_0 22 rfl) (by decide) ?_
        have loop : ∀ k j, j + k = p → J E X 42 [some (.ref (ja E 59)), some (.int x), some (.int (nI p)), some (.int (nI (p - j) - nI 1))] [] (fdT 423 422 M m x p j) := by
          intro k
          induction k with
          | zero =>
            intro j hj
            obtain rfl : p = j := by omega
            have t3 := prd4 (p - p) (by omega)
            refine J_iload_n C (dA DX7_feed_0 25 rfl) rfl ?_
            refine J_if_lt_t (tgt := 69) C (dA DX7_feed_0 26 rfl) (by decide) (fun h43 => ?_) (fun h43 => ?_)
            · try have g43 := inr_t h43
              try have g43 := inr_f h43
              refine J_aload_n C (dA DX7_feed_0 39 rfl) rfl ?_
              refine G_X7_tape C wF_RX7_43 (dA DX7_feed_0 40 rfl) ?_
              refine G_X4_length C wF_RX7_233 (dA DX7_feed_0 41 rfl) ?_
              rw [fdT_l]
              exact J_iret C G (dA DX7_feed_0 42 rfl) ⟨oi (by unfold aFeed; rw [if_pos (show inr (nI p) 1 4 = true from decide_eq_true (by omega)), np, if_neg (by omega)]), by unfold eFeed; rw [if_pos (show inr (nI p) 1 4 = true from decide_eq_true (by omega)), np, if_neg (by omega)]⟩
            · exfalso; omega
          | succ k ih =>
            intro j hj
            have t3 := prd4 (p - j) (by omega)
            have ej : nI (p - j) - nI 1 = nI (p - 1 - j) := by rw [pk_sub (by omega), show p - j - 1 = p - 1 - j by omega]
            have en : nI (p - 1 - j) + Int32.ofInt (-1) = nI (p - (j + 1)) - nI 1 := by rw [dec1 _ (by omega), show p - 1 - j = p - (j + 1) by omega]
            have el : (fdT 423 422 M m x p j) 422 = nI (m + j) := fdT_l
            rw [ej] at t3 ⊢
            refine J_iload_n C (dA DX7_feed_0 25 rfl) rfl ?_
            refine J_if_lt_t (tgt := 69) C (dA DX7_feed_0 26 rfl) (by decide) (fun h43 => ?_) (fun h43 => ?_)
            · exfalso; omega
            · try have g43 := inr_t h43
              try have g43 := inr_f h43
              refine J_aload_n C (dA DX7_feed_0 27 rfl) rfl ?_
              refine G_X7_tape C wF_RX7_43 (dA DX7_feed_0 28 rfl) ?_
              refine J_iload_n C (dA DX7_feed_0 29 rfl) rfl ?_
              refine J_bipush (v := nI 8) C (dA DX7_feed_0 30 rfl) (by decide) ?_
              refine J_iload_n C (dA DX7_feed_0 31 rfl) rfl ?_
              refine J_imul_n C (dA DX7_feed_0 32 rfl) ?_
              refine J_iushr C (dA DX7_feed_0 33 rfl) ?_
              refine J_sipush (v := nI 255) C (dA DX7_feed_0 34 rfl) (by decide) ?_
              refine J_iand C (dA DX7_feed_0 35 rfl) ?_
              rw [show ((x.toUInt32 >>> ((nI (8 * (p - 1 - j))).toUInt32 &&& Int32.toUInt32 31)).toInt32) &&& nI 255 = byt x (p - 1 - j) from rfl]
              refine V_X4_append C (c_X4_append l E (m + j) (by omega) el _) wM_RX7_236 (by decide) (dA DX7_feed_0 36 rfl) rfl (Nat.le_of_ble_eq_true rfl) ?_
              refine J_iinc_3_4 C (dA DX7_feed_0 37 rfl) rfl ?_
              refine J_goto (tgt := 42) C (dA DX7_feed_0 38 rfl) (by decide) ?_
              rw [fdT_s (by omega) (by omega), en]
              exact ih (j + 1) (by omega)
        refine J_isub C (dA DX7_feed_0 23 rfl) ?_
        refine J_ist_3_4 C (dA DX7_feed_0 24 rfl) rfl ?_
        have h := loop p 0 (Nat.zero_add _)
        rw [fdT_0 e] at h
        exact h
      · try have g28 := inr_t h28
        try have g28 := inr_f h28
        refine J_aload_n C (dA DX7_feed_0 17 rfl) rfl ?_
        refine J_ldc (v := (-1000002)) C wK_RX7_95 (dA DX7_feed_0 18 rfl) ?_
        refine V_X7_finding C (c_X7_finding l E 1 (by decide) _ (by decide)) wM_RX7_70 (by decide) (dA DX7_feed_0 19 rfl) rfl (Nat.le_of_ble_eq_true rfl) ?_
        exact J_iret C G (dA DX7_feed_0 20 rfl) ⟨oi (by unfold aFeed; rw [if_pos (show inr (nI p) 1 4 = true from decide_eq_true (by omega)), np, if_pos (by omega)]; rfl), by unfold eFeed; rw [if_pos (show inr (nI p) 1 4 = true from decide_eq_true (by omega)), np, if_pos (by omega)]⟩
    · try have g7 := inr_t h7
      try have g7 := inr_f h7
      refine J_aload_n C (dA DX7_feed_0 6 rfl) rfl ?_
      refine J_ldc (v := (-1000001)) C wK_RX7_69 (dA DX7_feed_0 7 rfl) ?_
      refine V_X7_finding C (c_X7_finding l E 0 (by decide) _ (by decide)) wM_RX7_70 (by decide) (dA DX7_feed_0 8 rfl) rfl (Nat.le_of_ble_eq_true rfl) ?_
      exact J_iret C G (dA DX7_feed_0 9 rfl) ⟨oi (by unfold aFeed; rw [if_neg (fun z => by have z := inr_t z; omega)]; rfl), by unfold eFeed; rw [if_neg (fun z => by have z := inr_t z; omega)]⟩
set_option maxRecDepth 4000 in
theorem c_X8_feed (l : Launch) (E : jE) (x n : Int32) (m : Nat) (hm : m ≤ 120) (e : M 1858 = nI m)  : K_X8_feed l E [.ref (ja E 60), .int x, .int n] M (aFeed m x n) (eFeed 1525 1858 1502 m x n M) := by
  refine CT_intro (own := RX8) (by decide +kernel) rfl (by simp [Value.category]) (Nat.le_of_ble_eq_true rfl) rfl (fun X C G => ?_)
  show J E X 0 [some (.ref (ja E 60)), some (.int x), some (.int n), none] [] M
  have u1 : (nI 1).toInt = 1 := by decide
  have u4 : (nI 4).toInt = 4 := by decide
  refine J_iload_n C (dA DX8_feed_0 0 rfl) rfl ?_
  refine J_iconst (v := nI 1) C (dA DX8_feed_0 1 rfl) (by decide) ?_
  refine J_iconst (v := nI 4) C (dA DX8_feed_0 2 rfl) (by decide) ?_
  refine V_X8_in1 C (c_X8_in1n l E _ _ _ (by decide) (by decide)) wM_RX8_58 (by decide) (dA DX8_feed_0 3 rfl) rfl (Nat.le_of_ble_eq_true rfl) ?_
  refine J_if_ne_b (tgt := 15) C (dA DX8_feed_0 4 rfl) (by decide) (fun h6 => ?_) (fun h6 => ?_)
  · try have g6 := inr_t h6
    try have g6 := inr_f h6
    obtain ⟨p, hp, rfl⟩ := toNI (x := n) (n := 5) (by omega) (by omega)
    have tp := tI (n := p) (by omega)
    have np : nv (nI p) = p := nv_nI (by omega)
    refine J_aload_n C (dA DX8_feed_0 9 rfl) rfl ?_
    refine G_X8_taped C wF_RX8_203 (dA DX8_feed_0 10 rfl) ?_
    rw [e]
    refine J_iload_n C (dA DX8_feed_0 11 rfl) rfl ?_
    refine J_iadd_n C (dA DX8_feed_0 12 rfl) ?_
    refine J_bipush (v := nI 120) C (dA DX8_feed_0 13 rfl) (by decide) ?_
    refine J_icmp_le_n (tgt := 32) C (by omega) (by omega) (dA DX8_feed_0 14 rfl) (by decide) (fun h23 => ?_) (fun h23 => ?_)
    · try have g23 := inr_t h23
      try have g23 := inr_f h23
      refine J_iload_n C (dA DX8_feed_0 19 rfl) rfl ?_
      refine J_iconst (v := nI 1) C (dA DX8_feed_0 20 rfl) (by decide) ?_
      have loop : ∀ k j, j + k = p → J E X 36 [some (.ref (ja E 60)), some (.int x), some (.int (nI p)), some (.int (nI (p - j) - nI 1))] [] (fdT 1525 1858 M m x p j) := by
        intro k
        induction k with
        | zero =>
          intro j hj
          obtain rfl : p = j := by omega
          have t3 := prd4 (p - p) (by omega)
          refine J_iload_n C (dA DX8_feed_0 23 rfl) rfl ?_
          refine J_if_lt_t (tgt := 75) C (dA DX8_feed_0 24 rfl) (by decide) (fun h37 => ?_) (fun h37 => ?_)
          · try have g37 := inr_t h37
            try have g37 := inr_f h37
            refine J_aload_n C (dA DX8_feed_0 45 rfl) rfl ?_
            refine G_X8_taped C wF_RX8_203 (dA DX8_feed_0 46 rfl) ?_
            rw [fdT_l]
            exact J_iret C G (dA DX8_feed_0 47 rfl) ⟨oi (by unfold aFeed; rw [if_pos (show inr (nI p) 1 4 = true from decide_eq_true (by omega)), np, if_neg (by omega)]), by unfold eFeed; rw [if_pos (show inr (nI p) 1 4 = true from decide_eq_true (by omega)), np, if_neg (by omega)]⟩
          · exfalso; omega
        | succ k ih =>
          intro j hj
          have t3 := prd4 (p - j) (by omega)
          have ej : nI (p - j) - nI 1 = nI (p - 1 - j) := by rw [pk_sub (by omega), show p - j - 1 = p - 1 - j by omega]
          have en : nI (p - 1 - j) + Int32.ofInt (-1) = nI (p - (j + 1)) - nI 1 := by rw [dec1 _ (by omega), show p - 1 - j = p - (j + 1) by omega]
          have el : (fdT 1525 1858 M m x p j) 1858 = nI (m + j) := fdT_l
          rw [ej] at t3 ⊢
          refine J_iload_n C (dA DX8_feed_0 23 rfl) rfl ?_
          refine J_if_lt_t (tgt := 75) C (dA DX8_feed_0 24 rfl) (by decide) (fun h37 => ?_) (fun h37 => ?_)
          · exfalso; omega
          · try have g37 := inr_t h37
            try have g37 := inr_f h37
            refine J_aload_n C (dA DX8_feed_0 25 rfl) rfl ?_
            refine G_X8_tape C wF_RX8_25 (dA DX8_feed_0 26 rfl) ?_
            refine J_aload_n C (dA DX8_feed_0 27 rfl) rfl ?_
            refine G_X8_taped C wF_RX8_203 (dA DX8_feed_0 28 rfl) ?_
            rw [el]
            refine J_iload_n C (dA DX8_feed_0 29 rfl) rfl ?_
            refine J_bipush (v := nI 8) C (dA DX8_feed_0 30 rfl) (by decide) ?_
            refine J_iload_n C (dA DX8_feed_0 31 rfl) rfl ?_
            refine J_imul_n C (dA DX8_feed_0 32 rfl) ?_
            refine J_ishr C (dA DX8_feed_0 33 rfl) ?_
            refine J_sipush (v := nI 255) C (dA DX8_feed_0 34 rfl) (by decide) ?_
            refine J_iand C (dA DX8_feed_0 35 rfl) ?_
            rw [byt_s x (show p - 1 - j < 4 by omega)]
            refine S_1 C (hk := rfl) (j := m + j) rfl (by omega) (dA DX8_feed_0 36 rfl) ?_
            have el2 : (upd (fdT 1525 1858 M m x p j) (1525 + (m + j)) (byt x (p - 1 - j))) 1858 = nI (m + j) := by unfold upd; rw [if_neg (by omega)]; exact el
            refine J_aload_n C (dA DX8_feed_0 37 rfl) rfl ?_
            refine J_dup C (dA DX8_feed_0 38 rfl) rfl ?_
            refine G_X8_taped C wF_RX8_203 (dA DX8_feed_0 39 rfl) ?_
            rw [el2]
            refine J_iconst (v := nI 1) C (dA DX8_feed_0 40 rfl) (by decide) ?_
            refine J_iadd_n C (dA DX8_feed_0 41 rfl) ?_
            refine P_X8_taped C wF_RX8_203 (dA DX8_feed_0 42 rfl) ?_
            refine J_iinc_3_4 C (dA DX8_feed_0 43 rfl) rfl ?_
            refine J_goto (tgt := 36) C (dA DX8_feed_0 44 rfl) (by decide) ?_
            rw [fdT_s (by omega) (by omega), en]
            exact ih (j + 1) (by omega)
      refine J_isub C (dA DX8_feed_0 21 rfl) ?_
      refine J_ist_3_4 C (dA DX8_feed_0 22 rfl) rfl ?_
      have h := loop p 0 (Nat.zero_add _)
      rw [fdT_0 e] at h
      exact h
    · try have g23 := inr_t h23
      try have g23 := inr_f h23
      refine J_aload_n C (dA DX8_feed_0 15 rfl) rfl ?_
      refine J_iconst (v := nI 1) C (dA DX8_feed_0 16 rfl) (by decide) ?_
      refine V_X8_no C (c_X8_no l E _ (by decide)) wM_RX8_106 (by decide) (dA DX8_feed_0 17 rfl) rfl (Nat.le_of_ble_eq_true rfl) ?_
      exact J_iret C G (dA DX8_feed_0 18 rfl) ⟨oi (by unfold aFeed; rw [if_pos (show inr (nI p) 1 4 = true from decide_eq_true (by omega)), np, if_pos (by omega)]; rfl), by unfold eFeed; rw [if_pos (show inr (nI p) 1 4 = true from decide_eq_true (by omega)), np, if_pos (by omega)]⟩
  · try have g6 := inr_t h6
    try have g6 := inr_f h6
    refine J_aload_n C (dA DX8_feed_0 5 rfl) rfl ?_
    refine J_iconst (v := nI 0) C (dA DX8_feed_0 6 rfl) (by decide) ?_
    refine V_X8_no C (c_X8_no l E _ (by decide)) wM_RX8_106 (by decide) (dA DX8_feed_0 7 rfl) rfl (Nat.le_of_ble_eq_true rfl) ?_
    exact J_iret C G (dA DX8_feed_0 8 rfl) ⟨oi (by unfold aFeed; rw [if_neg (fun z => by have z := inr_t z; omega)]; rfl), by unfold eFeed; rw [if_neg (fun z => by have z := inr_t z; omega)]⟩
end PA
