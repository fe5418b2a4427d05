theorem st8 {M : jM} {q : Nat} {x y n : Int32} (hy : y = if x = 0 then nI 0 else n) : qs8 M (clN (updq (updq (sv8 M) q 0 x) q 1 y) q 40) = qs8 M (clq (sv8 M) q x n) := congrArg (qs8 M) (clq_8 hy)
section PA
variable {M : jM}
set_option maxRecDepth 4000 in
theorem c_X7_sheet (l : Launch) (E : jE) (a b n : Int32)  : K_X7_sheet l E [.ref (ja E 59), .int a, .int b, .int n] M (aSheet a b n) (eSheet 1076 a b n (qs7 M (clq (sv7 M) (nv a) b n)) M) := by
  refine CT_intro (own := RX7) (by decide +kernel) rfl (by simp [Value.category]) (Nat.le_of_ble_eq_true rfl) rfl (fun X C G => ?_)
  show J E X 0 [some (.ref (ja E 59)), some (.int a), some (.int b), some (.int n)] [] M
  have m7 : (nI 40).toInt = 40 := by decide
  refine J_iload_n C (dA DX7_sheet_0 0 rfl) rfl ?_
  refine V_X7_isSheet C (c_X7_isSheet l E _) wM_RX7_254 (by decide) (dA DX7_sheet_0 1 rfl) rfl (Nat.le_of_ble_eq_true rfl) ?_
  refine J_if_eq_b (tgt := 14) C (dA DX7_sheet_0 2 rfl) (by decide) (fun h4 => ?_) (fun h4 => ?_)
  · try have g4 := inr_t h4
    try have g4 := inr_f h4
    refine J_aload_n C (dA DX7_sheet_0 6 rfl) rfl ?_
    refine J_ldc (v := (-1000001)) C wK_RX7_69 (dA DX7_sheet_0 7 rfl) ?_
    refine V_X7_finding C (c_X7_finding l E 0 (by decide) _ (by decide)) wM_RX7_70 (by decide) (dA DX7_sheet_0 8 rfl) rfl (Nat.le_of_ble_eq_true rfl) ?_
    exact J_iret C G (dA DX7_sheet_0 9 rfl) ⟨oi (by unfold aSheet; rw [if_neg (by rintro ⟨z1, z2⟩; rw [h4] at z1; cases z1)]; rfl), by unfold eSheet; rw [if_neg (by rintro ⟨z1, z2⟩; rw [h4] at z1; cases z1)]⟩
  · try have g4 := inr_t h4
    try have g4 := inr_f h4
    refine J_iload_n C (dA DX7_sheet_0 3 rfl) rfl ?_
    refine V_X7_isBits C (c_X7_isBits l E _) wM_RX7_257 (by decide) (dA DX7_sheet_0 4 rfl) rfl (Nat.le_of_ble_eq_true rfl) ?_
    refine J_if_ne_b (tgt := 21) C (dA DX7_sheet_0 5 rfl) (by decide) (fun h11 => ?_) (fun h11 => ?_)
    · try have g11 := inr_t h11
      try have g11 := inr_f h11
      have hB : isB b = true := h11
      refine J_iload_n C (dA DX7_sheet_0 10 rfl) rfl ?_
      refine J_if_ge_t (tgt := 33) C (dA DX7_sheet_0 11 rfl) (by decide) (fun h22 => ?_) (fun h22 => ?_)
      · try have g22 := inr_t h22
        try have g22 := inr_f h22
        refine J_iload_n C (dA DX7_sheet_0 16 rfl) rfl ?_
        refine J_bipush (v := nI 40) C (dA DX7_sheet_0 17 rfl) (by decide) ?_
        refine J_icmp_le_t (tgt := 46) C (dA DX7_sheet_0 18 rfl) (by decide) (fun h36 => ?_) (fun h36 => ?_)
        · try have g36 := inr_t h36
          try have g36 := inr_f h36
          have g4 := inr_t h4
          obtain ⟨q, hq, rfl⟩ := toNI (x := a) (n := 4) (by omega) (by omega)
          have na : nv (nI q) = q := nv_nI (by omega)
          have hin : inr n 0 40 = true := decide_eq_true (by omega)
          refine J_aload_n C (dA DX7_sheet_0 23 rfl) rfl ?_
          refine G_X7_sheets C wF_RX7_57 (dA DX7_sheet_0 24 rfl) ?_
          refine J_iload_n C (dA DX7_sheet_0 25 rfl) rfl ?_
          refine R_sh C rfl (by omega) (dA DX7_sheet_0 26 rfl) ?_
          refine J_iload_n C (dA DX7_sheet_0 27 rfl) rfl ?_
          refine J_iload_n C (dA DX7_sheet_0 28 rfl) rfl ?_
          refine V_X3_clear C hq (c_X3_clear l E q hq _ _) wM_RX7_261 (by decide) (dA DX7_sheet_0 29 rfl) rfl (Nat.le_of_ble_eq_true rfl) ?_
          refine J_aload_n C (dA DX7_sheet_0 30 rfl) rfl ?_
          refine G_X7_sheets C wF_RX7_57 (dA DX7_sheet_0 31 rfl) ?_
          refine J_iload_n C (dA DX7_sheet_0 32 rfl) rfl ?_
          refine R_sh C rfl (by omega) (dA DX7_sheet_0 33 rfl) ?_
          refine G_X3_length C hq wF_RX7_265 (dA DX7_sheet_0 34 rfl) ?_
          exact J_iret C G (dA DX7_sheet_0 35 rfl) ⟨oi (by unfold aSheet; rw [if_pos ⟨h4, hB⟩, if_pos hin, clq_l7 hq]), by unfold eSheet; rw [if_pos ⟨h4, hB⟩, if_pos hin, na]⟩
        · try have g36 := inr_t h36
          try have g36 := inr_f h36
          refine J_aload_n C (dA DX7_sheet_0 19 rfl) rfl ?_
          refine J_ldc (v := (-1000001)) C wK_RX7_69 (dA DX7_sheet_0 20 rfl) ?_
          refine V_X7_finding C (c_X7_finding l E 0 (by decide) _ (by decide)) wM_RX7_70 (by decide) (dA DX7_sheet_0 21 rfl) rfl (Nat.le_of_ble_eq_true rfl) ?_
          exact J_iret C G (dA DX7_sheet_0 22 rfl) ⟨oi (by unfold aSheet; rw [if_pos ⟨h4, hB⟩, if_neg (fun z => by have := inr_t z; omega), if_neg (by omega)]; rfl), by unfold eSheet; rw [if_pos ⟨h4, hB⟩, if_neg (fun z => by have := inr_t z; omega), if_neg (by omega)]⟩
      · try have g22 := inr_t h22
        try have g22 := inr_f h22
        refine J_aload_n C (dA DX7_sheet_0 12 rfl) rfl ?_
        refine J_ldc_w (v := (-1000007)) C wK_RX7_260 (dA DX7_sheet_0 13 rfl) ?_
        refine V_X7_finding C (c_X7_finding l E 6 (by decide) _ (by decide)) wM_RX7_70 (by decide) (dA DX7_sheet_0 14 rfl) rfl (Nat.le_of_ble_eq_true rfl) ?_
        exact J_iret C G (dA DX7_sheet_0 15 rfl) ⟨oi (by unfold aSheet; rw [if_pos ⟨h4, hB⟩, if_neg (fun z => by have := inr_t z; omega), if_pos (by omega)]; rfl), by unfold eSheet; rw [if_pos ⟨h4, hB⟩, if_neg (fun z => by have := inr_t z; omega), if_pos (by omega)]⟩
    · try have g11 := inr_t h11
      try have g11 := inr_f h11
      refine J_aload_n C (dA DX7_sheet_0 6 rfl) rfl ?_
      refine J_ldc (v := (-1000001)) C wK_RX7_69 (dA DX7_sheet_0 7 rfl) ?_
      refine V_X7_finding C (c_X7_finding l E 0 (by decide) _ (by decide)) wM_RX7_70 (by decide) (dA DX7_sheet_0 8 rfl) rfl (Nat.le_of_ble_eq_true rfl) ?_
      exact J_iret C G (dA DX7_sheet_0 9 rfl) ⟨oi (by unfold aSheet; rw [if_neg (by rintro ⟨z1, z2⟩; rw [show isB b = false from h11] at z2; cases z2)]; rfl), by unfold eSheet; rw [if_neg (by rintro ⟨z1, z2⟩; rw [show isB b = false from h11] at z2; cases z2)]⟩
set_option maxRecDepth 4000 in
theorem c_X8_sheet (l : Launch) (E : jE) (a b n : Int32)  : K_X8_sheet l E [.ref (ja E 60), .int a, .int b, .int n] M (aSheet a b n) (eSheet 1502 a b n (qs8 M (clq (sv8 M) (nv a) b n)) M) := by
  refine CT_intro (own := RX8) (by decide +kernel) rfl (by simp [Value.category]) (Nat.le_of_ble_eq_true rfl) rfl (fun X C G => ?_)
  show J E X 0 [some (.ref (ja E 60)), some (.int a), some (.int b), some (.int n), none] [] M
  have m7 : (nI 40).toInt = 40 := by decide
  refine J_iload_n C (dA DX8_sheet_0 0 rfl) rfl ?_
  refine V_X8_isSheet C (c_X8_isSheet l E _) wM_RX8_181 (by decide) (dA DX8_sheet_0 1 rfl) rfl (Nat.le_of_ble_eq_true rfl) ?_
  refine J_if_eq_b (tgt := 29) C (dA DX8_sheet_0 2 rfl) (by decide) (fun h4 => ?_) (fun h4 => ?_)
  · try have g4 := inr_t h4
    try have g4 := inr_f h4
    refine J_aload_n C (dA DX8_sheet_0 14 rfl) rfl ?_
    refine J_iconst (v := nI 0) C (dA DX8_sheet_0 15 rfl) (by decide) ?_
    refine V_X8_no C (c_X8_no l E _ (by decide)) wM_RX8_106 (by decide) (dA DX8_sheet_0 16 rfl) rfl (Nat.le_of_ble_eq_true rfl) ?_
    exact J_iret C G (dA DX8_sheet_0 17 rfl) ⟨oi (by unfold aSheet; rw [if_neg (by rintro ⟨z1, z2⟩; rw [show inr a 0 3 = false from h4] at z1; cases z1)]; rfl), by unfold eSheet; rw [if_neg (by rintro ⟨z1, z2⟩; rw [show inr a 0 3 = false from h4] at z1; cases z1)]⟩
  · try have g4 := inr_t h4
    try have g4 := inr_f h4
    refine J_iload_n C (dA DX8_sheet_0 3 rfl) rfl ?_
    refine J_if_eq (tgt := 35) C (dA DX8_sheet_0 4 rfl) (by decide) (fun h8 => ?_) (fun h8 => ?_)
    · have hB : isB b = true := decide_eq_true (Or.inl (by first | exact h8 | exact Classical.byContradiction h8))
      refine J_iload_n C (dA DX8_sheet_0 18 rfl) rfl ?_
      refine J_if_ge_t (tgt := 46) C (dA DX8_sheet_0 19 rfl) (by decide) (fun h36 => ?_) (fun h36 => ?_)
      · try have g36 := inr_t h36
        try have g36 := inr_f h36
        refine J_iload_n C (dA DX8_sheet_0 24 rfl) rfl ?_
        refine J_bipush (v := nI 40) C (dA DX8_sheet_0 25 rfl) (by decide) ?_
        refine J_icmp_le_t (tgt := 58) C (dA DX8_sheet_0 26 rfl) (by decide) (fun h49 => ?_) (fun h49 => ?_)
        · try have g49 := inr_t h49
          try have g49 := inr_f h49
          have g4 := inr_t h4
          obtain ⟨q, hq, rfl⟩ := toNI (x := a) (n := 4) (by omega) (by omega)
          have na : nv (nI q) = q := nv_nI (by omega)
          have hin : inr n 0 40 = true := decide_eq_true (by omega)
          have loop : ∀ (y : Int32), y = (if b = 0 then nI 0 else n) → ∀ k i, i + k = 40 → J E X 83 [some (.ref (ja E 60)), some (.int (nI q)), some (.int b), some (.int n), some (.int (nI i))] [] (qs8 M (clN (updq (updq (sv8 M) q 0 b) q 1 y) q i)) := by
            intro y hy k
            induction k with
            | zero =>
              intro i hi
              obtain rfl : 40 = i := by omega
              rw [st8 hy]
              refine J_iload C (dA DX8_sheet_0 47 rfl) rfl ?_
              refine J_bipush (v := nI 40) C (dA DX8_sheet_0 48 rfl) (by decide) ?_
              first | refine J_icmp_ge_n (tgt := 109) C (by omega) (by omega) (dA DX8_sheet_0 49 rfl) (by decide) (fun h87 => ?_) (fun h87 => ?_) | refine J_icmp_ge_c (tgt := 109) C (by omega) (dA DX8_sheet_0 49 rfl) (by decide) (fun h87 => ?_) (fun h87 => ?_) | refine J_icmp_ge_t (tgt := 109) C (dA DX8_sheet_0 49 rfl) (by decide) (fun h87 => ?_) (fun h87 => ?_)
              · try have g87 := inr_t h87
                try have g87 := inr_f h87
                refine J_aload_n C (dA DX8_sheet_0 61 rfl) rfl ?_
                refine G_X8_sizes C wF_RX8_44 (dA DX8_sheet_0 62 rfl) ?_
                refine J_iload_n C (dA DX8_sheet_0 63 rfl) rfl ?_
                refine R_1 C (hk := rfl) rfl (by omega) (dA DX8_sheet_0 64 rfl) ?_
                exact J_iret C G (dA DX8_sheet_0 65 rfl) ⟨oi (by unfold aSheet; rw [if_pos ⟨h4, hB⟩, if_pos hin, clq_l8 hq]), by unfold eSheet; rw [if_pos ⟨h4, hB⟩, if_pos hin, na]⟩
              · exfalso; omega
            | succ k ih =>
              intro i hi
              refine J_iload C (dA DX8_sheet_0 47 rfl) rfl ?_
              refine J_bipush (v := nI 40) C (dA DX8_sheet_0 48 rfl) (by decide) ?_
              first | refine J_icmp_ge_n (tgt := 109) C (by omega) (by omega) (dA DX8_sheet_0 49 rfl) (by decide) (fun h87 => ?_) (fun h87 => ?_) | refine J_icmp_ge_c (tgt := 109) C (by omega) (dA DX8_sheet_0 49 rfl) (by decide) (fun h87 => ?_) (fun h87 => ?_) | refine J_icmp_ge_t (tgt := 109) C (dA DX8_sheet_0 49 rfl) (by decide) (fun h87 => ?_) (fun h87 => ?_)
              · exfalso; omega
              · try have g87 := inr_t h87
                try have g87 := inr_f h87
                refine J_aload_n C (dA DX8_sheet_0 50 rfl) rfl ?_
                refine G_X8_cells C wF_RX8_47 (dA DX8_sheet_0 51 rfl) ?_
                refine J_bipush (v := nI 40) C (dA DX8_sheet_0 52 rfl) (by decide) ?_
                refine J_iload_n C (dA DX8_sheet_0 53 rfl) rfl ?_
                first | refine J_imul_n C (dA DX8_sheet_0 54 rfl) ?_ | refine J_imul C (dA DX8_sheet_0 54 rfl) ?_
                refine J_iload C (dA DX8_sheet_0 55 rfl) rfl ?_
                first | refine J_iadd_n C (dA DX8_sheet_0 56 rfl) ?_ | refine J_iadd C (dA DX8_sheet_0 56 rfl) ?_
                refine J_iconst (v := nI 0) C (dA DX8_sheet_0 57 rfl) (by decide) ?_
                refine S_1 C (hk := rfl) (j := 40 * q + i) rfl (by omega) (dA DX8_sheet_0 58 rfl) ?_
                first | refine J_inc1_4_5 C (dA DX8_sheet_0 59 rfl) rfl ?_ | refine J_iinc_4_5 C (dA DX8_sheet_0 59 rfl) rfl ?_
                refine J_goto (tgt := 83) C (dA DX8_sheet_0 60 rfl) (by decide) ?_
                rw [qs8_u2 hq (by omega), clN_s]
                exact ih (i + 1) (by omega)
          refine J_aload_n C (dA DX8_sheet_0 31 rfl) rfl ?_
          refine G_X8_widths C wF_RX8_41 (dA DX8_sheet_0 32 rfl) ?_
          refine J_iload_n C (dA DX8_sheet_0 33 rfl) rfl ?_
          refine J_iload_n C (dA DX8_sheet_0 34 rfl) rfl ?_
          refine S_1 C (hk := rfl) rfl (by omega) (dA DX8_sheet_0 35 rfl) ?_
          refine J_aload_n C (dA DX8_sheet_0 36 rfl) rfl ?_
          refine G_X8_sizes C wF_RX8_44 (dA DX8_sheet_0 37 rfl) ?_
          refine J_iload_n C (dA DX8_sheet_0 38 rfl) rfl ?_
          refine J_iload_n C (dA DX8_sheet_0 39 rfl) rfl ?_
          refine J_if_ne (tgt := 78) C (dA DX8_sheet_0 40 rfl) (by decide) (fun h71 => ?_) (fun h71 => ?_)
          · refine J_iload_n C (dA DX8_sheet_0 43 rfl) rfl ?_
            refine S_1 C (hk := rfl) rfl (by omega) (dA DX8_sheet_0 44 rfl) ?_
            rw [w8_0 hq, qs8_u1 hq]
            refine J_iconst (v := nI 0) C (dA DX8_sheet_0 45 rfl) (by decide) ?_
            refine J_ist_4_5 C (dA DX8_sheet_0 46 rfl) rfl ?_
            have h := loop _ (if_neg h71).symm 40 0 (Nat.zero_add _)
            rw [clN_0] at h
            exact h
          · refine J_iconst (v := nI 0) C (dA DX8_sheet_0 41 rfl) (by decide) ?_
            refine J_goto (tgt := 79) C (dA DX8_sheet_0 42 rfl) (by decide) ?_
            refine S_1 C (hk := rfl) rfl (by omega) (dA DX8_sheet_0 44 rfl) ?_
            have hb0 : b = 0 := by first | exact h71 | exact Classical.byContradiction h71
            rw [w8_0 hq, qs8_u1 hq]
            refine J_iconst (v := nI 0) C (dA DX8_sheet_0 45 rfl) (by decide) ?_
            refine J_ist_4_5 C (dA DX8_sheet_0 46 rfl) rfl ?_
            have h := loop _ (if_pos hb0).symm 40 0 (Nat.zero_add _)
            rw [clN_0] at h
            exact h
        · try have g49 := inr_t h49
          try have g49 := inr_f h49
          refine J_aload_n C (dA DX8_sheet_0 27 rfl) rfl ?_
          refine J_iconst (v := nI 0) C (dA DX8_sheet_0 28 rfl) (by decide) ?_
          refine V_X8_no C (c_X8_no l E _ (by decide)) wM_RX8_106 (by decide) (dA DX8_sheet_0 29 rfl) rfl (Nat.le_of_ble_eq_true rfl) ?_
          exact J_iret C G (dA DX8_sheet_0 30 rfl) ⟨oi (by unfold aSheet; rw [if_pos ⟨h4, hB⟩, if_neg (fun z => by have := inr_t z; omega), if_neg (by omega)]; rfl), by unfold eSheet; rw [if_pos ⟨h4, hB⟩, if_neg (fun z => by have := inr_t z; omega), if_neg (by omega)]⟩
      · try have g36 := inr_t h36
        try have g36 := inr_f h36
        refine J_aload_n C (dA DX8_sheet_0 20 rfl) rfl ?_
        refine J_bipush (v := nI 6) C (dA DX8_sheet_0 21 rfl) (by decide) ?_
        refine V_X8_no C (c_X8_no l E _ (by decide)) wM_RX8_106 (by decide) (dA DX8_sheet_0 22 rfl) rfl (Nat.le_of_ble_eq_true rfl) ?_
        exact J_iret C G (dA DX8_sheet_0 23 rfl) ⟨oi (by unfold aSheet; rw [if_pos ⟨h4, hB⟩, if_neg (fun z => by have := inr_t z; omega), if_pos (by omega)]; rfl), by unfold eSheet; rw [if_pos ⟨h4, hB⟩, if_neg (fun z => by have := inr_t z; omega), if_pos (by omega)]⟩
    · refine J_iload_n C (dA DX8_sheet_0 5 rfl) rfl ?_
      refine J_bipush (v := nI 8) C (dA DX8_sheet_0 6 rfl) (by decide) ?_
      refine J_icmp_eq_c (tgt := 35) C (by decide) (dA DX8_sheet_0 7 rfl) (by decide) (fun h14 => ?_) (fun h14 => ?_)
      · try have g14 := inr_t h14
        try have g14 := inr_f h14
        have hB : isB b = true := decide_eq_true (Or.inr (Or.inl h14))
        refine J_iload_n C (dA DX8_sheet_0 18 rfl) rfl ?_
        refine J_if_ge_t (tgt := 46) C (dA DX8_sheet_0 19 rfl) (by decide) (fun h36 => ?_) (fun h36 => ?_)
        · try have g36 := inr_t h36
          try have g36 := inr_f h36
          refine J_iload_n C (dA DX8_sheet_0 24 rfl) rfl ?_
          refine J_bipush (v := nI 40) C (dA DX8_sheet_0 25 rfl) (by decide) ?_
          refine J_icmp_le_t (tgt := 58) C (dA DX8_sheet_0 26 rfl) (by decide) (fun h49 => ?_) (fun h49 => ?_)
          · try have g49 := inr_t h49
            try have g49 := inr_f h49
            have g4 := inr_t h4
            obtain ⟨q, hq, rfl⟩ := toNI (x := a) (n := 4) (by omega) (by omega)
            have na : nv (nI q) = q := nv_nI (by omega)
            have hin : inr n 0 40 = true := decide_eq_true (by omega)
            have loop : ∀ (y : Int32), y = (if b = 0 then nI 0 else n) → ∀ k i, i + k = 40 → J E X 83 [some (.ref (ja E 60)), some (.int (nI q)), some (.int b), some (.int n), some (.int (nI i))] [] (qs8 M (clN (updq (updq (sv8 M) q 0 b) q 1 y) q i)) := by
              intro y hy k
              induction k with
              | zero =>
                intro i hi
                obtain rfl : 40 = i := by omega
                rw [st8 hy]
                refine J_iload C (dA DX8_sheet_0 47 rfl) rfl ?_
                refine J_bipush (v := nI 40) C (dA DX8_sheet_0 48 rfl) (by decide) ?_
                first | refine J_icmp_ge_n (tgt := 109) C (by omega) (by omega) (dA DX8_sheet_0 49 rfl) (by decide) (fun h87 => ?_) (fun h87 => ?_) | refine J_icmp_ge_c (tgt := 109) C (by omega) (dA DX8_sheet_0 49 rfl) (by decide) (fun h87 => ?_) (fun h87 => ?_) | refine J_icmp_ge_t (tgt := 109) C (dA DX8_sheet_0 49 rfl) (by decide) (fun h87 => ?_) (fun h87 => ?_)
                · try have g87 := inr_t h87
                  try have g87 := inr_f h87
                  refine J_aload_n C (dA DX8_sheet_0 61 rfl) rfl ?_
                  refine G_X8_sizes C wF_RX8_44 (dA DX8_sheet_0 62 rfl) ?_
                  refine J_iload_n C (dA DX8_sheet_0 63 rfl) rfl ?_
                  refine R_1 C (hk := rfl) rfl (by omega) (dA DX8_sheet_0 64 rfl) ?_
                  exact J_iret C G (dA DX8_sheet_0 65 rfl) ⟨oi (by unfold aSheet; rw [if_pos ⟨h4, hB⟩, if_pos hin, clq_l8 hq]), by unfold eSheet; rw [if_pos ⟨h4, hB⟩, if_pos hin, na]⟩
                · exfalso; omega
              | succ k ih =>
                intro i hi
                refine J_iload C (dA DX8_sheet_0 47 rfl) rfl ?_
                refine J_bipush (v := nI 40) C (dA DX8_sheet_0 48 rfl) (by decide) ?_
                first | refine J_icmp_ge_n (tgt := 109) C (by omega) (by omega) (dA DX8_sheet_0 49 rfl) (by decide) (fun h87 => ?_) (fun h87 => ?_) | refine J_icmp_ge_c (tgt := 109) C (by omega) (dA DX8_sheet_0 49 rfl) (by decide) (fun h87 => ?_) (fun h87 => ?_) | refine J_icmp_ge_t (tgt := 109) C (dA DX8_sheet_0 49 rfl) (by decide) (fun h87 => ?_) (fun h87 => ?_)
                · exfalso; omega
                · try have g87 := inr_t h87
                  try have g87 := inr_f h87
                  refine J_aload_n C (dA DX8_sheet_0 50 rfl) rfl ?_
                  refine G_X8_cells C wF_RX8_47 (dA DX8_sheet_0 51 rfl) ?_
                  refine J_bipush (v := nI 40) C (dA DX8_sheet_0 52 rfl) (by decide) ?_
                  refine J_iload_n C (dA DX8_sheet_0 53 rfl) rfl ?_
                  first | refine J_imul_n C (dA DX8_sheet_0 54 rfl) ?_ | refine J_imul C (dA DX8_sheet_0 54 rfl) ?_
                  refine J_iload C (dA DX8_sheet_0 55 rfl) rfl ?_
                  first | refine J_iadd_n C (dA DX8_sheet_0 56 rfl) ?_ | refine J_iadd C (dA DX8_sheet_0 56 rfl) ?_
                  refine J_iconst (v := nI 0) C (dA DX8_sheet_0 57 rfl) (by decide) ?_
                  refine S_1 C (hk := rfl) (j := 40 * q + i) rfl (by omega) (dA DX8_sheet_0 58 rfl) ?_
                  first | refine J_inc1_4_5 C (dA DX8_sheet_0 59 rfl) rfl ?_ | refine J_iinc_4_5 C (dA DX8_sheet_0 59 rfl) rfl ?_
                  refine J_goto (tgt := 83) C (dA DX8_sheet_0 60 rfl) (by decide) ?_
                  rw [qs8_u2 hq (by omega), clN_s]
                  exact ih (i + 1) (by omega)
            refine J_aload_n C (dA DX8_sheet_0 31 rfl) rfl ?_
            refine G_X8_widths C wF_RX8_41 (dA DX8_sheet_0 32 rfl) ?_
            refine J_iload_n C (dA DX8_sheet_0 33 rfl) rfl ?_
            refine J_iload_n C (dA DX8_sheet_0 34 rfl) rfl ?_
            refine S_1 C (hk := rfl) rfl (by omega) (dA DX8_sheet_0 35 rfl) ?_
            refine J_aload_n C (dA DX8_sheet_0 36 rfl) rfl ?_
            refine G_X8_sizes C wF_RX8_44 (dA DX8_sheet_0 37 rfl) ?_
            refine J_iload_n C (dA DX8_sheet_0 38 rfl) rfl ?_
            refine J_iload_n C (dA DX8_sheet_0 39 rfl) rfl ?_
            refine J_if_ne (tgt := 78) C (dA DX8_sheet_0 40 rfl) (by decide) (fun h71 => ?_) (fun h71 => ?_)
            · refine J_iload_n C (dA DX8_sheet_0 43 rfl) rfl ?_
              refine S_1 C (hk := rfl) rfl (by omega) (dA DX8_sheet_0 44 rfl) ?_
              rw [w8_0 hq, qs8_u1 hq]
              refine J_iconst (v := nI 0) C (dA DX8_sheet_0 45 rfl) (by decide) ?_
              refine J_ist_4_5 C (dA DX8_sheet_0 46 rfl) rfl ?_
              have h := loop _ (if_neg h71).symm 40 0 (Nat.zero_add _)
              rw [clN_0] at h
              exact h
            · refine J_iconst (v := nI 0) C (dA DX8_sheet_0 41 rfl) (by decide) ?_
              refine J_goto (tgt := 79) C (dA DX8_sheet_0 42 rfl) (by decide) ?_
              refine S_1 C (hk := rfl) rfl (by omega) (dA DX8_sheet_0 44 rfl) ?_
              have hb0 : b = 0 := by first | exact h71 | exact Classical.byContradiction h71
              rw [w8_0 hq, qs8_u1 hq]
              refine J_iconst (v := nI 0) C (dA DX8_sheet_0 45 rfl) (by decide) ?_
              refine J_ist_4_5 C (dA DX8_sheet_0 46 rfl) rfl ?_
              have h := loop _ (if_pos hb0).symm 40 0 (Nat.zero_add _)
              rw [clN_0] at h
              exact h
          · try have g49 := inr_t h49
            try have g49 := inr_f h49
            refine J_aload_n C (dA DX8_sheet_0 27 rfl) rfl ?_
            refine J_iconst (v := nI 0) C (dA DX8_sheet_0 28 rfl) (by decide) ?_
            refine V_X8_no C (c_X8_no l E _ (by decide)) wM_RX8_106 (by decide) (dA DX8_sheet_0 29 rfl) rfl (Nat.le_of_ble_eq_true rfl) ?_
            exact J_iret C G (dA DX8_sheet_0 30 rfl) ⟨oi (by unfold aSheet; rw [if_pos ⟨h4, hB⟩, if_neg (fun z => by have := inr_t z; omega), if_neg (by omega)]; rfl), by unfold eSheet; rw [if_pos ⟨h4, hB⟩, if_neg (fun z => by have := inr_t z; omega), if_neg (by omega)]⟩
        · try have g36 := inr_t h36
          try have g36 := inr_f h36
          refine J_aload_n C (dA DX8_sheet_0 20 rfl) rfl ?_
          refine J_bipush (v := nI 6) C (dA DX8_sheet_0 21 rfl) (by decide) ?_
          refine V_X8_no C (c_X8_no l E _ (by decide)) wM_RX8_106 (by decide) (dA DX8_sheet_0 22 rfl) rfl (Nat.le_of_ble_eq_true rfl) ?_
          exact J_iret C G (dA DX8_sheet_0 23 rfl) ⟨oi (by unfold aSheet; rw [if_pos ⟨h4, hB⟩, if_neg (fun z => by have := inr_t z; omega), if_pos (by omega)]; rfl), by unfold eSheet; rw [if_pos ⟨h4, hB⟩, if_neg (fun z => by have := inr_t z; omega), if_pos (by omega)]⟩
      · try have g14 := inr_t h14
        try have g14 := inr_f h14
        refine J_iload_n C (dA DX8_sheet_0 8 rfl) rfl ?_
        refine J_bipush (v := nI 16) C (dA DX8_sheet_0 9 rfl) (by decide) ?_
        refine J_icmp_eq_c (tgt := 35) C (by decide) (dA DX8_sheet_0 10 rfl) (by decide) (fun h20 => ?_) (fun h20 => ?_)
        · try have g20 := inr_t h20
          try have g20 := inr_f h20
          have hB : isB b = true := decide_eq_true (Or.inr (Or.inr (Or.inl h20)))
          refine J_iload_n C (dA DX8_sheet_0 18 rfl) rfl ?_
          refine J_if_ge_t (tgt := 46) C (dA DX8_sheet_0 19 rfl) (by decide) (fun h36 => ?_) (fun h36 => ?_)
          · try have g36 := inr_t h36
            try have g36 := inr_f h36
            refine J_iload_n C (dA DX8_sheet_0 24 rfl) rfl ?_
            refine J_bipush (v := nI 40) C (dA DX8_sheet_0 25 rfl) (by decide) ?_
            refine J_icmp_le_t (tgt := 58) C (dA DX8_sheet_0 26 rfl) (by decide) (fun h49 => ?_) (fun h49 => ?_)
            · try have g49 := inr_t h49
              try have g49 := inr_f h49
              have g4 := inr_t h4
              obtain ⟨q, hq, rfl⟩ := toNI (x := a) (n := 4) (by omega) (by omega)
              have na : nv (nI q) = q := nv_nI (by omega)
              have hin : inr n 0 40 = true := decide_eq_true (by omega)
              have loop : ∀ (y : Int32), y = (if b = 0 then nI 0 else n) → ∀ k i, i + k = 40 → J E X 83 [some (.ref (ja E 60)), some (.int (nI q)), some (.int b), some (.int n), some (.int (nI i))] [] (qs8 M (clN (updq (updq (sv8 M) q 0 b) q 1 y) q i)) := by
                intro y hy k
                induction k with
                | zero =>
                  intro i hi
                  obtain rfl : 40 = i := by omega
                  rw [st8 hy]
                  refine J_iload C (dA DX8_sheet_0 47 rfl) rfl ?_
                  refine J_bipush (v := nI 40) C (dA DX8_sheet_0 48 rfl) (by decide) ?_
                  first | refine J_icmp_ge_n (tgt := 109) C (by omega) (by omega) (dA DX8_sheet_0 49 rfl) (by decide) (fun h87 => ?_) (fun h87 => ?_) | refine J_icmp_ge_c (tgt := 109) C (by omega) (dA DX8_sheet_0 49 rfl) (by decide) (fun h87 => ?_) (fun h87 => ?_) | refine J_icmp_ge_t (tgt := 109) C (dA DX8_sheet_0 49 rfl) (by decide) (fun h87 => ?_) (fun h87 => ?_)
                  · try have g87 := inr_t h87
                    try have g87 := inr_f h87
                    refine J_aload_n C (dA DX8_sheet_0 61 rfl) rfl ?_
                    refine G_X8_sizes C wF_RX8_44 (dA DX8_sheet_0 62 rfl) ?_
                    refine J_iload_n C (dA DX8_sheet_0 63 rfl) rfl ?_
                    refine R_1 C (hk := rfl) rfl (by omega) (dA DX8_sheet_0 64 rfl) ?_
                    exact J_iret C G (dA DX8_sheet_0 65 rfl) ⟨oi (by unfold aSheet; rw [if_pos ⟨h4, hB⟩, if_pos hin, clq_l8 hq]), by unfold eSheet; rw [if_pos ⟨h4, hB⟩, if_pos hin, na]⟩
                  · exfalso; omega
                | succ k ih =>
                  intro i hi
                  refine J_iload C (dA DX8_sheet_0 47 rfl) rfl ?_
                  refine J_bipush (v := nI 40) C (dA DX8_sheet_0 48 rfl) (by decide) ?_
                  first | refine J_icmp_ge_n (tgt := 109) C (by omega) (by omega) (dA DX8_sheet_0 49 rfl) (by decide) (fun h87 => ?_) (fun h87 => ?_) | refine J_icmp_ge_c (tgt := 109) C (by omega) (dA DX8_sheet_0 49 rfl) (by decide) (fun h87 => ?_) (fun h87 => ?_) | refine J_icmp_ge_t (tgt := 109) C (dA DX8_sheet_0 49 rfl) (by decide) (fun h87 => ?_) (fun h87 => ?_)
                  · exfalso; omega
                  · try have g87 := inr_t h87
                    try have g87 := inr_f h87
                    refine J_aload_n C (dA DX8_sheet_0 50 rfl) rfl ?_
                    refine G_X8_cells C wF_RX8_47 (dA DX8_sheet_0 51 rfl) ?_
                    refine J_bipush (v := nI 40) C (dA DX8_sheet_0 52 rfl) (by decide) ?_
                    refine J_iload_n C (dA DX8_sheet_0 53 rfl) rfl ?_
                    first | refine J_imul_n C (dA DX8_sheet_0 54 rfl) ?_ | refine J_imul C (dA DX8_sheet_0 54 rfl) ?_
                    refine J_iload C (dA DX8_sheet_0 55 rfl) rfl ?_
                    first | refine J_iadd_n C (dA DX8_sheet_0 56 rfl) ?_ | refine J_iadd C (dA DX8_sheet_0 56 rfl) ?_
                    refine J_iconst (v := nI 0) C (dA DX8_sheet_0 57 rfl) (by decide) ?_
                    refine S_1 C (hk := rfl) (j := 40 * q + i) rfl (by omega) (dA DX8_sheet_0 58 rfl) ?_
                    first | refine J_inc1_4_5 C (dA DX8_sheet_0 59 rfl) rfl ?_ | refine J_iinc_4_5 C (dA DX8_sheet_0 59 rfl) rfl ?_
                    refine J_goto (tgt := 83) C (dA DX8_sheet_0 60 rfl) (by decide) ?_
                    rw [qs8_u2 hq (by omega), clN_s]
                    exact ih (i + 1) (by omega)
              refine J_aload_n C (dA DX8_sheet_0 31 rfl) rfl ?_
              refine G_X8_widths C wF_RX8_41 (dA DX8_sheet_0 32 rfl) ?_
              refine J_iload_n C (dA DX8_sheet_0 33 rfl) rfl ?_
              refine J_iload_n C (dA DX8_sheet_0 34 rfl) rfl ?_
              refine S_1 C (hk := rfl) rfl (by omega) (dA DX8_sheet_0 35 rfl) ?_
              refine J_aload_n C (dA DX8_sheet_0 36 rfl) rfl ?_
              refine G_X8_sizes C wF_RX8_44 (dA DX8_sheet_0 37 rfl) ?_
              refine J_iload_n C (dA DX8_sheet_0 38 rfl) rfl ?_
              refine J_iload_n C (dA DX8_sheet_0 39 rfl) rfl ?_
              refine J_if_ne (tgt := 78) C (dA DX8_sheet_0 40 rfl) (by decide) (fun h71 => ?_) (fun h71 => ?_)
              · refine J_iload_n C (dA DX8_sheet_0 43 rfl) rfl ?_
                refine S_1 C (hk := rfl) rfl (by omega) (dA DX8_sheet_0 44 rfl) ?_
                rw [w8_0 hq, qs8_u1 hq]
                refine J_iconst (v := nI 0) C (dA DX8_sheet_0 45 rfl) (by decide) ?_
                refine J_ist_4_5 C (dA DX8_sheet_0 46 rfl) rfl ?_
                have h := loop _ (if_neg h71).symm 40 0 (Nat.zero_add _)
                rw [clN_0] at h
                exact h
              · refine J_iconst (v := nI 0) C (dA DX8_sheet_0 41 rfl) (by decide) ?_
                refine J_goto (tgt := 79) C (dA DX8_sheet_0 42 rfl) (by decide) ?_
                refine S_1 C (hk := rfl) rfl (by omega) (dA DX8_sheet_0 44 rfl) ?_
                have hb0 : b = 0 := by first | exact h71 | exact Classical.byContradiction h71
                rw [w8_0 hq, qs8_u1 hq]
                refine J_iconst (v := nI 0) C (dA DX8_sheet_0 45 rfl) (by decide) ?_
                refine J_ist_4_5 C (dA DX8_sheet_0 46 rfl) rfl ?_
                have h := loop _ (if_pos hb0).symm 40 0 (Nat.zero_add _)
                rw [clN_0] at h
                exact h
            · try have g49 := inr_t h49
              try have g49 := inr_f h49
              refine J_aload_n C (dA DX8_sheet_0 27 rfl) rfl ?_
              refine J_iconst (v := nI 0) C (dA DX8_sheet_0 28 rfl) (by decide) ?_
              refine V_X8_no C (c_X8_no l E _ (by decide)) wM_RX8_106 (by decide) (dA DX8_sheet_0 29 rfl) rfl (Nat.le_of_ble_eq_true rfl) ?_
              exact J_iret C G (dA DX8_sheet_0 30 rfl) ⟨oi (by unfold aSheet; rw [if_pos ⟨h4, hB⟩, if_neg (fun z => by have := inr_t z; omega), if_neg (by omega)]; rfl), by unfold eSheet; rw [if_pos ⟨h4, hB⟩, if_neg (fun z => by have := inr_t z; omega), if_neg (by omega)]⟩
          · try have g36 := inr_t h36
            try have g36 := inr_f h36
            refine J_aload_n C (dA DX8_sheet_0 20 rfl) rfl ?_
            refine J_bipush (v := nI 6) C (dA DX8_sheet_0 21 rfl) (by decide) ?_
            refine V_X8_no C (c_X8_no l E _ (by decide)) wM_RX8_106 (by decide) (dA DX8_sheet_0 22 rfl) rfl (Nat.le_of_ble_eq_true rfl) ?_
            exact J_iret C G (dA DX8_sheet_0 23 rfl) ⟨oi (by unfold aSheet; rw [if_pos ⟨h4, hB⟩, if_neg (fun z => by have := inr_t z; omega), if_pos (by omega)]; rfl), by unfold eSheet; rw [if_pos ⟨h4, hB⟩, if_neg (fun z => by have := inr_t z; omega), if_pos (by omega)]⟩
        · try have g20 := inr_t h20
          try have g20 := inr_f h20
          refine J_iload_n C (dA DX8_sheet_0 11 rfl) rfl ?_
          refine J_bipush (v := nI 32) C (dA DX8_sheet_0 12 rfl) (by decide) ?_
          refine J_icmp_eq_c (tgt := 35) C (by decide) (dA DX8_sheet_0 13 rfl) (by decide) (fun h26 => ?_) (fun h26 => ?_)
          · try have g26 := inr_t h26
            try have g26 := inr_f h26
            have hB : isB b = true := decide_eq_true (Or.inr (Or.inr (Or.inr h26)))
            refine J_iload_n C (dA DX8_sheet_0 18 rfl) rfl ?_
            refine J_if_ge_t (tgt := 46) C (dA DX8_sheet_0 19 rfl) (by decide) (fun h36 => ?_) (fun h36 => ?_)
            · try have g36 := inr_t h36
              try have g36 := inr_f h36
              refine J_iload_n C (dA DX8_sheet_0 24 rfl) rfl ?_
              refine J_bipush (v := nI 40) C (dA DX8_sheet_0 25 rfl) (by decide) ?_
              refine J_icmp_le_t (tgt := 58) C (dA DX8_sheet_0 26 rfl) (by decide) (fun h49 => ?_) (fun h49 => ?_)
              · try have g49 := inr_t h49
                try have g49 := inr_f h49
                have g4 := inr_t h4
                obtain ⟨q, hq, rfl⟩ := toNI (x := a) (n := 4) (by omega) (by omega)
                have na : nv (nI q) = q := nv_nI (by omega)
                have hin : inr n 0 40 = true := decide_eq_true (by omega)
                have loop : ∀ (y : Int32), y = (if b = 0 then nI 0 else n) → ∀ k i, i + k = 40 → J E X 83 [some (.ref (ja E 60)), some (.int (nI q)), some (.int b), some (.int n), some (.int (nI i))] [] (qs8 M (clN (updq (updq (sv8 M) q 0 b) q 1 y) q i)) := by
                  intro y hy k
                  induction k with
                  | zero =>
                    intro i hi
                    obtain rfl : 40 = i := by omega
                    rw [st8 hy]
                    refine J_iload C (dA DX8_sheet_0 47 rfl) rfl ?_
                    refine J_bipush (v := nI 40) C (dA DX8_sheet_0 48 rfl) (by decide) ?_
                    first | refine J_icmp_ge_n (tgt := 109) C (by omega) (by omega) (dA DX8_sheet_0 49 rfl) (by decide) (fun h87 => ?_) (fun h87 => ?_) | refine J_icmp_ge_c (tgt := 109) C (by omega) (dA DX8_sheet_0 49 rfl) (by decide) (fun h87 => ?_) (fun h87 => ?_) | refine J_icmp_ge_t (tgt := 109) C (dA DX8_sheet_0 49 rfl) (by decide) (fun h87 => ?_) (fun h87 => ?_)
                    · try have g87 := inr_t h87
                      try have g87 := inr_f h87
                      refine J_aload_n C (dA DX8_sheet_0 61 rfl) rfl ?_
                      refine G_X8_sizes C wF_RX8_44 (dA DX8_sheet_0 62 rfl) ?_
                      refine J_iload_n C (dA DX8_sheet_0 63 rfl) rfl ?_
                      refine R_1 C (hk := rfl) rfl (by omega) (dA DX8_sheet_0 64 rfl) ?_
                      exact J_iret C G (dA DX8_sheet_0 65 rfl) ⟨oi (by unfold aSheet; rw [if_pos ⟨h4, hB⟩, if_pos hin, clq_l8 hq]), by unfold eSheet; rw [if_pos ⟨h4, hB⟩, if_pos hin, na]⟩
                    · exfalso; omega
                  | succ k ih =>
                    intro i hi
                    refine J_iload C (dA DX8_sheet_0 47 rfl) rfl ?_
                    refine J_bipush (v := nI 40) C (dA DX8_sheet_0 48 rfl) (by decide) ?_
                    first | refine J_icmp_ge_n (tgt := 109) C (by omega) (by omega) (dA DX8_sheet_0 49 rfl) (by decide) (fun h87 => ?_) (fun h87 => ?_) | refine J_icmp_ge_c (tgt := 109) C (by omega) (dA DX8_sheet_0 49 rfl) (by decide) (fun h87 => ?_) (fun h87 => ?_) | refine J_icmp_ge_t (tgt := 109) C (dA DX8_sheet_0 49 rfl) (by decide) (fun h87 => ?_) (fun h87 => ?_)
                    · exfalso; omega
                    · try have g87 := inr_t h87
                      try have g87 := inr_f h87
                      refine J_aload_n C (dA DX8_sheet_0 50 rfl) rfl ?_
                      refine G_X8_cells C wF_RX8_47 (dA DX8_sheet_0 51 rfl) ?_
                      refine J_bipush (v := nI 40) C (dA DX8_sheet_0 52 rfl) (by decide) ?_
                      refine J_iload_n C (dA DX8_sheet_0 53 rfl) rfl ?_
                      first | refine J_imul_n C (dA DX8_sheet_0 54 rfl) ?_ | refine J_imul C (dA DX8_sheet_0 54 rfl) ?_
                      refine J_iload C (dA DX8_sheet_0 55 rfl) rfl ?_
                      first | refine J_iadd_n C (dA DX8_sheet_0 56 rfl) ?_ | refine J_iadd C (dA DX8_sheet_0 56 rfl) ?_
                      refine J_iconst (v := nI 0) C (dA DX8_sheet_0 57 rfl) (by decide) ?_
                      refine S_1 C (hk := rfl) (j := 40 * q + i) rfl (by omega) (dA DX8_sheet_0 58 rfl) ?_
                      first | refine J_inc1_4_5 C (dA DX8_sheet_0 59 rfl) rfl ?_ | refine J_iinc_4_5 C (dA DX8_sheet_0 59 rfl) rfl ?_
                      refine J_goto (tgt := 83) C (dA DX8_sheet_0 60 rfl) (by decide) ?_
                      rw [qs8_u2 hq (by omega), clN_s]
                      exact ih (i + 1) (by omega)
                refine J_aload_n C (dA DX8_sheet_0 31 rfl) rfl ?_
                refine G_X8_widths C wF_RX8_41 (dA DX8_sheet_0 32 rfl) ?_
                refine J_iload_n C (dA DX8_sheet_0 33 rfl) rfl ?_
                refine J_iload_n C (dA DX8_sheet_0 34 rfl) rfl ?_
                refine S_1 C (hk := rfl) rfl (by omega) (dA DX8_sheet_0 35 rfl) ?_
                refine J_aload_n C (dA DX8_sheet_0 36 rfl) rfl ?_
                refine G_X8_sizes C wF_RX8_44 (dA DX8_sheet_0 37 rfl) ?_
                refine J_iload_n C (dA DX8_sheet_0 38 rfl) rfl ?_
                refine J_iload_n C (dA DX8_sheet_0 39 rfl) rfl ?_
                refine J_if_ne (tgt := 78) C (dA DX8_sheet_0 40 rfl) (by decide) (fun h71 => ?_) (fun h71 => ?_)
                · refine J_iload_n C (dA DX8_sheet_0 43 rfl) rfl ?_
                  refine S_1 C (hk := rfl) rfl (by omega) (dA DX8_sheet_0 44 rfl) ?_
                  rw [w8_0 hq, qs8_u1 hq]
                  refine J_iconst (v := nI 0) C (dA DX8_sheet_0 45 rfl) (by decide) ?_
                  refine J_ist_4_5 C (dA DX8_sheet_0 46 rfl) rfl ?_
                  have h := loop _ (if_neg h71).symm 40 0 (Nat.zero_add _)
                  rw [clN_0] at h
                  exact h
                · refine J_iconst (v := nI 0) C (dA DX8_sheet_0 41 rfl) (by decide) ?_
                  refine J_goto (tgt := 79) C (dA DX8_sheet_0 42 rfl) (by decide) ?_
                  refine S_1 C (hk := rfl) rfl (by omega) (dA DX8_sheet_0 44 rfl) ?_
                  have hb0 : b = 0 := by first | exact h71 | exact Classical.byContradiction h71
                  rw [w8_0 hq, qs8_u1 hq]
                  refine J_iconst (v := nI 0) C (dA DX8_sheet_0 45 rfl) (by decide) ?_
                  refine J_ist_4_5 C (dA DX8_sheet_0 46 rfl) rfl ?_
                  have h := loop _ (if_pos hb0).symm 40 0 (Nat.zero_add _)
                  rw [clN_0] at h
                  exact h
              · try have g49 := inr_t h49
                try have g49 := inr_f h49
                refine J_aload_n C (dA DX8_sheet_0 27 rfl) rfl ?_
                refine J_iconst (v := nI 0) C (dA DX8_sheet_0 28 rfl) (by decide) ?_
                refine V_X8_no C (c_X8_no l E _ (by decide)) wM_RX8_106 (by decide) (dA DX8_sheet_0 29 rfl) rfl (Nat.le_of_ble_eq_true rfl) ?_
                exact J_iret C G (dA DX8_sheet_0 30 rfl) ⟨oi (by unfold aSheet; rw [if_pos ⟨h4, hB⟩, if_neg (fun z => by have := inr_t z; omega), if_neg (by omega)]; rfl), by unfold eSheet; rw [if_pos ⟨h4, hB⟩, if_neg (fun z => by have := inr_t z; omega), if_neg (by omega)]⟩
            · try have g36 := inr_t h36
              try have g36 := inr_f h36
              refine J_aload_n C (dA DX8_sheet_0 20 rfl) rfl ?_
              refine J_bipush (v := nI 6) C (dA DX8_sheet_0 21 rfl) (by decide) ?_
              refine V_X8_no C (c_X8_no l E _ (by decide)) wM_RX8_106 (by decide) (dA DX8_sheet_0 22 rfl) rfl (Nat.le_of_ble_eq_true rfl) ?_
              exact J_iret C G (dA DX8_sheet_0 23 rfl) ⟨oi (by unfold aSheet; rw [if_pos ⟨h4, hB⟩, if_neg (fun z => by have := inr_t z; omega), if_pos (by omega)]; rfl), by unfold eSheet; rw [if_pos ⟨h4, hB⟩, if_neg (fun z => by have := inr_t z; omega), if_pos (by omega)]⟩
          · try have g26 := inr_t h26
            try have g26 := inr_f h26
            refine J_aload_n C (dA DX8_sheet_0 14 rfl) rfl ?_
            refine J_iconst (v := nI 0) C (dA DX8_sheet_0 15 rfl) (by decide) ?_
            refine V_X8_no C (c_X8_no l E _ (by decide)) wM_RX8_106 (by decide) (dA DX8_sheet_0 16 rfl) rfl (Nat.le_of_ble_eq_true rfl) ?_
            exact J_iret C G (dA DX8_sheet_0 17 rfl) ⟨oi (by unfold aSheet; rw [if_neg (by rintro ⟨z1, z2⟩; have z3 := of_decide_eq_true z2; rcases z3 with z | z | z | z; exact h8 z; exact absurd z (by omega); exact absurd z (by omega); exact absurd z (by omega))]; rfl), by unfold eSheet; rw [if_neg (by rintro ⟨z1, z2⟩; have z3 := of_decide_eq_true z2; rcases z3 with z | z | z | z; exact h8 z; exact absurd z (by omega); exact absurd z (by omega); exact absurd z (by omega))]⟩
set_option maxRecDepth 4000 in
theorem c_X7_write (l : Launch) (E : jE) (a i v : Int32) (hZ : QS (sv7 M))  : K_X7_write l E [.ref (ja E 59), .int a, .int i, .int v] M (aWrite (sv7 M) a i) (eWrite (sv7 M) 1076 a i (qs7 M (wrq (sv7 M) a i v)) M) := by
  refine CT_intro (own := RX7) (by decide +kernel) rfl (by simp [Value.category]) (Nat.le_of_ble_eq_true rfl) rfl (fun X C G => ?_)
  show J E X 0 [some (.ref (ja E 59)), some (.int a), some (.int i), some (.int v), none] [] M
  rcases lkS_c (Z := sv7 M) (a := a) with ⟨hi, e⟩ | ⟨q, hq, rfl, hz, e⟩ | ⟨q, hq, rfl, hz, e⟩
  · refine J_aload_n C (dA DX7_write_0 0 rfl) rfl ?_
    refine J_iload_n C (dA DX7_write_0 1 rfl) rfl ?_
    refine V_X7_lackOfSheet C (c_X7_lackOfSheet l E _) wM_RX7_214 (by decide) (dA DX7_write_0 2 rfl) rfl (Nat.le_of_ble_eq_true rfl) ?_
    rw [e, show lk7 0 = fi 0 from rfl]
    refine J_ist_4_5 C (dA DX7_write_0 3 rfl) rfl ?_
    refine J_iload C (dA DX7_write_0 4 rfl) rfl ?_
    refine J_if_ne (tgt := 33) C (dA DX7_write_0 5 rfl) (by decide) (fun h9 => ?_) (fun h9 => ?_)
    · refine J_iload C (dA DX7_write_0 17 rfl) rfl ?_
      refine J_if_eq (tgt := 45) C (dA DX7_write_0 18 rfl) (by decide) (fun h35 => ?_) (fun h35 => ?_)
      · exact absurd h35 (by decide)
      · refine J_aload_n C (dA DX7_write_0 19 rfl) rfl ?_
        refine J_iload C (dA DX7_write_0 20 rfl) rfl ?_
        refine V_X7_finding C (c_X7_finding l E 0 (by decide) _ rfl) wM_RX7_70 (by decide) (dA DX7_write_0 21 rfl) rfl (Nat.le_of_ble_eq_true rfl) ?_
        exact J_iret C G (dA DX7_write_0 22 rfl) ⟨oi (by unfold aWrite; rw [if_neg (by rw [e]; decide), e] <;> rfl), by unfold eWrite; rw [if_neg (by rw [e]; decide), e]⟩
    · exact absurd h9 (by decide)
  · refine J_aload_n C (dA DX7_write_0 0 rfl) rfl ?_
    refine J_iload_n C (dA DX7_write_0 1 rfl) rfl ?_
    refine V_X7_lackOfSheet C (c_X7_lackOfSheet l E _) wM_RX7_214 (by decide) (dA DX7_write_0 2 rfl) rfl (Nat.le_of_ble_eq_true rfl) ?_
    rw [e, show lk7 5 = fi 5 from rfl]
    refine J_ist_4_5 C (dA DX7_write_0 3 rfl) rfl ?_
    refine J_iload C (dA DX7_write_0 4 rfl) rfl ?_
    refine J_if_ne (tgt := 33) C (dA DX7_write_0 5 rfl) (by decide) (fun h9 => ?_) (fun h9 => ?_)
    · refine J_iload C (dA DX7_write_0 17 rfl) rfl ?_
      refine J_if_eq (tgt := 45) C (dA DX7_write_0 18 rfl) (by decide) (fun h35 => ?_) (fun h35 => ?_)
      · exact absurd h35 (by decide)
      · refine J_aload_n C (dA DX7_write_0 19 rfl) rfl ?_
        refine J_iload C (dA DX7_write_0 20 rfl) rfl ?_
        refine V_X7_finding C (c_X7_finding l E 5 (by decide) _ rfl) wM_RX7_70 (by decide) (dA DX7_write_0 21 rfl) rfl (Nat.le_of_ble_eq_true rfl) ?_
        exact J_iret C G (dA DX7_write_0 22 rfl) ⟨oi (by unfold aWrite; rw [if_neg (by rw [e]; decide), e] <;> rfl), by unfold eWrite; rw [if_neg (by rw [e]; decide), e]⟩
    · exact absurd h9 (by decide)
  · have na : nv (nI q) = q := nv_nI (by omega)
    have hZ2 := hZ
    obtain ⟨b, n, hb, hn, e0, e1, h0⟩ := hZ2 q hq
    have nn : nv (nI n) = n := nv_nI (by omega)
    have tn : (nI n).toInt = n := tI (by omega)
    refine J_aload_n C (dA DX7_write_0 0 rfl) rfl ?_
    refine J_iload_n C (dA DX7_write_0 1 rfl) rfl ?_
    refine V_X7_lackOfSheet C (c_X7_lackOfSheet l E _) wM_RX7_214 (by decide) (dA DX7_write_0 2 rfl) rfl (Nat.le_of_ble_eq_true rfl) ?_
    rw [e, show lk7 7 = nI 0 from rfl]
    refine J_ist_4_5 C (dA DX7_write_0 3 rfl) rfl ?_
    refine J_iload C (dA DX7_write_0 4 rfl) rfl ?_
    refine J_if_ne (tgt := 33) C (dA DX7_write_0 5 rfl) (by decide) (fun h9 => ?_) (fun h9 => ?_)
    · exact absurd rfl h9
    · refine J_iload_n C (dA DX7_write_0 6 rfl) rfl ?_
      refine J_if_lt_t (tgt := 29) C (dA DX7_write_0 7 rfl) (by decide) (fun h13 => ?_) (fun h13 => ?_)
      · try have g13 := inr_t h13
        try have g13 := inr_f h13
        refine J_ldc (v := (-1000001)) C wK_RX7_69 (dA DX7_write_0 15 rfl) ?_
        refine J_ist_4_5 C (dA DX7_write_0 16 rfl) rfl ?_
        refine J_iload C (dA DX7_write_0 17 rfl) rfl ?_
        refine J_if_eq (tgt := 45) C (dA DX7_write_0 18 rfl) (by decide) (fun h35 => ?_) (fun h35 => ?_)
        · exact absurd h35 (by decide)
        · refine J_aload_n C (dA DX7_write_0 19 rfl) rfl ?_
          refine J_iload C (dA DX7_write_0 20 rfl) rfl ?_
          refine V_X7_finding C (c_X7_finding l E 0 (by decide) _ (by decide)) wM_RX7_70 (by decide) (dA DX7_write_0 21 rfl) rfl (Nat.le_of_ble_eq_true rfl) ?_
          exact J_iret C G (dA DX7_write_0 22 rfl) ⟨oi (by unfold aWrite; rw [if_pos e, na, e1, nn, if_neg (fun z => by have := inr_t z; omega)]; rfl), by unfold eWrite; rw [if_pos e, na, e1, nn, if_neg (fun z => by have := inr_t z; omega)]⟩
      · try have g13 := inr_t h13
        try have g13 := inr_f h13
        refine J_iload_n C (dA DX7_write_0 8 rfl) rfl ?_
        refine J_aload_n C (dA DX7_write_0 9 rfl) rfl ?_
        refine G_X7_sheets C wF_RX7_57 (dA DX7_write_0 10 rfl) ?_
        refine J_iload_n C (dA DX7_write_0 11 rfl) rfl ?_
        refine R_sh C rfl (by omega) (dA DX7_write_0 12 rfl) ?_
        refine G_X3_length C hq wF_RX7_265 (dA DX7_write_0 13 rfl) ?_
        rw [show M (sb q + 1) = nI n from (sv7_at hq (by decide)).trans e1]
        refine J_icmp_lt_t (tgt := 33) C (dA DX7_write_0 14 rfl) (by decide) (fun h26 => ?_) (fun h26 => ?_)
        · try have g26 := inr_t h26
          try have g26 := inr_f h26
          refine J_iload C (dA DX7_write_0 17 rfl) rfl ?_
          refine J_if_eq (tgt := 45) C (dA DX7_write_0 18 rfl) (by decide) (fun h35 => ?_) (fun h35 => ?_)
          · obtain ⟨j, hj, rfl⟩ := toNI (x := i) (n := n) (by omega) (by omega)
            have nj : nv (nI j) = j := nv_nI (by omega)
            have hin : inr (nI j) 0 ((n : Int) - 1) = true := by rw [inr_n (by omega)]; exact decide_eq_true (by omega)
            refine J_aload_n C (dA DX7_write_0 23 rfl) rfl ?_
            refine G_X7_sheets C wF_RX7_57 (dA DX7_write_0 24 rfl) ?_
            refine J_iload_n C (dA DX7_write_0 25 rfl) rfl ?_
            refine R_sh C rfl (by omega) (dA DX7_write_0 26 rfl) ?_
            refine J_iload_n C (dA DX7_write_0 27 rfl) rfl ?_
            refine J_iload_n C (dA DX7_write_0 28 rfl) rfl ?_
            refine V_X3_put C hq (c_X3_put l E q hq j (by omega) v hZ) wM_RX7_266 (by decide) (dA DX7_write_0 29 rfl) rfl (Nat.le_of_ble_eq_true rfl) ?_
            refine J_iconst (v := nI 1) C (dA DX7_write_0 30 rfl) (by decide) ?_
            exact J_iret C G (dA DX7_write_0 31 rfl) ⟨oi (by unfold aWrite; rw [if_pos e, na, e1, nn, if_pos hin]), by unfold eWrite wrq; rw [if_pos e, na, e1, nn, if_pos hin, nj]⟩
          · exact absurd rfl h35
        · try have g26 := inr_t h26
          try have g26 := inr_f h26
          refine J_ldc (v := (-1000001)) C wK_RX7_69 (dA DX7_write_0 15 rfl) ?_
          refine J_ist_4_5 C (dA DX7_write_0 16 rfl) rfl ?_
          refine J_iload C (dA DX7_write_0 17 rfl) rfl ?_
          refine J_if_eq (tgt := 45) C (dA DX7_write_0 18 rfl) (by decide) (fun h35 => ?_) (fun h35 => ?_)
          · exact absurd h35 (by decide)
          · refine J_aload_n C (dA DX7_write_0 19 rfl) rfl ?_
            refine J_iload C (dA DX7_write_0 20 rfl) rfl ?_
            refine V_X7_finding C (c_X7_finding l E 0 (by decide) _ (by decide)) wM_RX7_70 (by decide) (dA DX7_write_0 21 rfl) rfl (Nat.le_of_ble_eq_true rfl) ?_
            exact J_iret C G (dA DX7_write_0 22 rfl) ⟨oi (by unfold aWrite; rw [if_pos e, na, e1, nn, if_neg (fun z => by have := inr_t z; omega)]; rfl), by unfold eWrite; rw [if_pos e, na, e1, nn, if_neg (fun z => by have := inr_t z; omega)]⟩

set_option maxRecDepth 4000 in
theorem c_X8_write (l : Launch) (E : jE) (a i v : Int32) (hZ : QS (sv8 M))  : K_X8_write l E [.ref (ja E 60), .int a, .int i, .int v] M (aWrite (sv8 M) a i) (eWrite (sv8 M) 1502 a i (qs8 M (wrq (sv8 M) a i v)) M) := by
  refine CT_intro (own := RX8) (by decide +kernel) rfl (by simp [Value.category]) (Nat.le_of_ble_eq_true rfl) rfl (fun X C G => ?_)
  show J E X 0 [some (.ref (ja E 60)), some (.int a), some (.int i), some (.int v), none] [] M
  rcases lkS_c (Z := sv8 M) (a := a) with ⟨hi, e⟩ | ⟨q, hq, rfl, hz, e⟩ | ⟨q, hq, rfl, hz, e⟩
  · refine J_aload_n C (dA DX8_write_0 0 rfl) rfl ?_
    refine J_iload_n C (dA DX8_write_0 1 rfl) rfl ?_
    refine V_X8_wrongSheet C (c_X8_wrongSheet l E _) wM_RX8_184 (by decide) (dA DX8_write_0 2 rfl) rfl (Nat.le_of_ble_eq_true rfl) ?_
    rw [e, show lk8 0 = nI 0 from rfl]
    refine J_ist_4_5 C (dA DX8_write_0 3 rfl) rfl ?_
    refine J_iload C (dA DX8_write_0 4 rfl) rfl ?_
    refine J_if_ge (tgt := 31) C (dA DX8_write_0 5 rfl) (by decide) (fun h9 => ?_) (fun h9 => ?_)
    · refine J_iload C (dA DX8_write_0 18 rfl) rfl ?_
      refine J_if_lt (tgt := 43) C (dA DX8_write_0 19 rfl) (by decide) (fun h33 => ?_) (fun h33 => ?_)
      · exact absurd h33 (by decide)
      · refine J_aload_n C (dA DX8_write_0 20 rfl) rfl ?_
        refine J_iload C (dA DX8_write_0 21 rfl) rfl ?_
        refine V_X8_no C (c_X8_no l E 0 (by decide)) wM_RX8_106 (by decide) (dA DX8_write_0 22 rfl) rfl (Nat.le_of_ble_eq_true rfl) ?_
        exact J_iret C G (dA DX8_write_0 23 rfl) ⟨oi (by unfold aWrite; rw [if_neg (by rw [e]; decide), e] <;> rfl), by unfold eWrite; rw [if_neg (by rw [e]; decide), e]⟩
    · exact absurd h9 (by decide)
  · refine J_aload_n C (dA DX8_write_0 0 rfl) rfl ?_
    refine J_iload_n C (dA DX8_write_0 1 rfl) rfl ?_
    refine V_X8_wrongSheet C (c_X8_wrongSheet l E _) wM_RX8_184 (by decide) (dA DX8_write_0 2 rfl) rfl (Nat.le_of_ble_eq_true rfl) ?_
    rw [e, show lk8 5 = nI 5 from rfl]
    refine J_ist_4_5 C (dA DX8_write_0 3 rfl) rfl ?_
    refine J_iload C (dA DX8_write_0 4 rfl) rfl ?_
    refine J_if_ge (tgt := 31) C (dA DX8_write_0 5 rfl) (by decide) (fun h9 => ?_) (fun h9 => ?_)
    · refine J_iload C (dA DX8_write_0 18 rfl) rfl ?_
      refine J_if_lt (tgt := 43) C (dA DX8_write_0 19 rfl) (by decide) (fun h33 => ?_) (fun h33 => ?_)
      · exact absurd h33 (by decide)
      · refine J_aload_n C (dA DX8_write_0 20 rfl) rfl ?_
        refine J_iload C (dA DX8_write_0 21 rfl) rfl ?_
        refine V_X8_no C (c_X8_no l E 5 (by decide)) wM_RX8_106 (by decide) (dA DX8_write_0 22 rfl) rfl (Nat.le_of_ble_eq_true rfl) ?_
        exact J_iret C G (dA DX8_write_0 23 rfl) ⟨oi (by unfold aWrite; rw [if_neg (by rw [e]; decide), e] <;> rfl), by unfold eWrite; rw [if_neg (by rw [e]; decide), e]⟩
    · exact absurd h9 (by decide)
  · have na : nv (nI q) = q := nv_nI (by omega)
    have hZ2 := hZ
    obtain ⟨b, n, hb, hn, e0, e1, h0⟩ := hZ2 q hq
    have nn : nv (nI n) = n := nv_nI (by omega)
    have tn : (nI n).toInt = n := tI (by omega)
    refine J_aload_n C (dA DX8_write_0 0 rfl) rfl ?_
    refine J_iload_n C (dA DX8_write_0 1 rfl) rfl ?_
    refine V_X8_wrongSheet C (c_X8_wrongSheet l E _) wM_RX8_184 (by decide) (dA DX8_write_0 2 rfl) rfl (Nat.le_of_ble_eq_true rfl) ?_
    rw [e, show lk8 7 = (-1) from rfl]
    refine J_ist_4_5 C (dA DX8_write_0 3 rfl) rfl ?_
    refine J_iload C (dA DX8_write_0 4 rfl) rfl ?_
    refine J_if_ge (tgt := 31) C (dA DX8_write_0 5 rfl) (by decide) (fun h9 => ?_) (fun h9 => ?_)
    · exact absurd h9 (by decide)
    · refine J_iload_n C (dA DX8_write_0 6 rfl) rfl ?_
      refine J_iconst (v := nI 0) C (dA DX8_write_0 7 rfl) (by decide) ?_
      refine J_aload_n C (dA DX8_write_0 8 rfl) rfl ?_
      refine G_X8_sizes C wF_RX8_44 (dA DX8_write_0 9 rfl) ?_
      refine J_iload_n C (dA DX8_write_0 10 rfl) rfl ?_
      refine R_1 C (hk := rfl) rfl (by omega) (dA DX8_write_0 11 rfl) ?_
      rw [show M (1649 + q) = nI n from (sv8_1 hq).trans e1]
      refine J_iconst (v := nI 1) C (dA DX8_write_0 12 rfl) (by decide) ?_
      refine J_isub C (dA DX8_write_0 13 rfl) ?_
      refine V_X8_in1 C (c_X8_in1 l E _ _ _) wM_RX8_58 (by decide) (dA DX8_write_0 14 rfl) rfl (Nat.le_of_ble_eq_true rfl) ?_
      rw [show (nI 0).toInt = 0 from rfl, nI_prd n (by omega)]
      refine J_if_ne_b (tgt := 31) C (dA DX8_write_0 15 rfl) (by decide) (fun h25 => ?_) (fun h25 => ?_)
      · try have g25 := inr_t h25
        try have g25 := inr_f h25
        refine J_iload C (dA DX8_write_0 18 rfl) rfl ?_
        refine J_if_lt (tgt := 43) C (dA DX8_write_0 19 rfl) (by decide) (fun h33 => ?_) (fun h33 => ?_)
        · have g25 := inr_t h25
          obtain ⟨j, hj, rfl⟩ := toNI (x := i) (n := n) (by omega) (by omega)
          have nj : nv (nI j) = j := nv_nI (by omega)
          have hin : inr (nI j) 0 ((n : Int) - 1) = true := by rw [inr_n (by omega)]; exact decide_eq_true (by omega)
          refine J_aload_n C (dA DX8_write_0 24 rfl) rfl ?_
          refine G_X8_cells C wF_RX8_47 (dA DX8_write_0 25 rfl) ?_
          refine J_bipush (v := nI 40) C (dA DX8_write_0 26 rfl) (by decide) ?_
          refine J_iload_n C (dA DX8_write_0 27 rfl) rfl ?_
          first | refine J_imul_n C (dA DX8_write_0 28 rfl) ?_ | refine J_imul C (dA DX8_write_0 28 rfl) ?_
          refine J_iload_n C (dA DX8_write_0 29 rfl) rfl ?_
          first | refine J_iadd_n C (dA DX8_write_0 30 rfl) ?_ | refine J_iadd C (dA DX8_write_0 30 rfl) ?_
          refine J_aload_n C (dA DX8_write_0 31 rfl) rfl ?_
          refine G_X8_widths C wF_RX8_41 (dA DX8_write_0 32 rfl) ?_
          refine J_iload_n C (dA DX8_write_0 33 rfl) rfl ?_
          refine R_1 C (hk := rfl) rfl (by omega) (dA DX8_write_0 34 rfl) ?_
          rw [show M (1645 + q) = nI b from (sv8_0 hq).trans e0]
          refine J_bipush (v := nI 8) C (dA DX8_write_0 35 rfl) (by decide) ?_
          refine J_icmp_ne_n (tgt := 69) C (by omega) (by decide) (dA DX8_write_0 36 rfl) (by decide) (fun h61 => ?_) (fun h61 => ?_)
          · try have g61 := inr_t h61
            try have g61 := inr_f h61
            refine J_aload_n C (dA DX8_write_0 40 rfl) rfl ?_
            refine G_X8_widths C wF_RX8_41 (dA DX8_write_0 41 rfl) ?_
            refine J_iload_n C (dA DX8_write_0 42 rfl) rfl ?_
            refine R_1 C (hk := rfl) rfl (by omega) (dA DX8_write_0 43 rfl) ?_
            rw [show M (1645 + q) = nI b from (sv8_0 hq).trans e0]
            refine J_bipush (v := nI 16) C (dA DX8_write_0 44 rfl) (by decide) ?_
            refine J_icmp_ne_n (tgt := 85) C (by omega) (by decide) (dA DX8_write_0 45 rfl) (by decide) (fun h77 => ?_) (fun h77 => ?_)
            · try have g77 := inr_t h77
              try have g77 := inr_f h77
              refine J_iload_n C (dA DX8_write_0 49 rfl) rfl ?_
              have ec : cut (sv8 M q 0) v = v := by rw [e0]; exact (by unfold cut; rw [if_neg (fun z => h61 (by have z2 := congrArg Int32.toInt z; rw [tI (by omega), tI (by omega)] at z2; omega)), if_neg (fun z => h77 (by have z2 := congrArg Int32.toInt z; rw [tI (by omega), tI (by omega)] at z2; omega))])
              refine S_1 C (hk := rfl) (j := 40 * q + j) rfl (by omega) (dA DX8_write_0 50 rfl) ?_
              rw [w8_2 hq (by omega), ← ec]
              refine J_iconst (v := nI 1) C (dA DX8_write_0 51 rfl) (by decide) ?_
              exact J_iret C G (dA DX8_write_0 52 rfl) ⟨oi (by unfold aWrite; rw [if_pos e, na, e1, nn, if_pos hin]), by unfold eWrite wrq; rw [if_pos e, na, e1, nn, if_pos hin, nj]⟩
            · try have g77 := inr_t h77
              try have g77 := inr_f h77
              refine J_iload_n C (dA DX8_write_0 46 rfl) rfl ?_
              refine J_i2s C (dA DX8_write_0 47 rfl) ?_
              refine J_goto (tgt := 86) C (dA DX8_write_0 48 rfl) (by decide) ?_
              have hb8 : b = 16 := h77
              subst hb8
              have ec : cut (sv8 M q 0) v = v.toInt16.toInt32 := by rw [e0]; exact (rfl)
              refine S_1 C (hk := rfl) (j := 40 * q + j) rfl (by omega) (dA DX8_write_0 50 rfl) ?_
              rw [w8_2 hq (by omega), ← ec]
              refine J_iconst (v := nI 1) C (dA DX8_write_0 51 rfl) (by decide) ?_
              exact J_iret C G (dA DX8_write_0 52 rfl) ⟨oi (by unfold aWrite; rw [if_pos e, na, e1, nn, if_pos hin]), by unfold eWrite wrq; rw [if_pos e, na, e1, nn, if_pos hin, nj]⟩
          · try have g61 := inr_t h61
            try have g61 := inr_f h61
            refine J_iload_n C (dA DX8_write_0 37 rfl) rfl ?_
            refine J_i2b C (dA DX8_write_0 38 rfl) ?_
            refine J_goto (tgt := 86) C (dA DX8_write_0 39 rfl) (by decide) ?_
            have hb8 : b = 8 := h61
            subst hb8
            have ec : cut (sv8 M q 0) v = v.toInt8.toInt32 := by rw [e0]; exact (rfl)
            refine S_1 C (hk := rfl) (j := 40 * q + j) rfl (by omega) (dA DX8_write_0 50 rfl) ?_
            rw [w8_2 hq (by omega), ← ec]
            refine J_iconst (v := nI 1) C (dA DX8_write_0 51 rfl) (by decide) ?_
            exact J_iret C G (dA DX8_write_0 52 rfl) ⟨oi (by unfold aWrite; rw [if_pos e, na, e1, nn, if_pos hin]), by unfold eWrite wrq; rw [if_pos e, na, e1, nn, if_pos hin, nj]⟩
        · exact absurd h33 (by decide)
      · try have g25 := inr_t h25
        try have g25 := inr_f h25
        refine J_iconst (v := nI 0) C (dA DX8_write_0 16 rfl) (by decide) ?_
        refine J_ist_4_5 C (dA DX8_write_0 17 rfl) rfl ?_
        refine J_iload C (dA DX8_write_0 18 rfl) rfl ?_
        refine J_if_lt (tgt := 43) C (dA DX8_write_0 19 rfl) (by decide) (fun h33 => ?_) (fun h33 => ?_)
        · exact absurd h33 (by decide)
        · refine J_aload_n C (dA DX8_write_0 20 rfl) rfl ?_
          refine J_iload C (dA DX8_write_0 21 rfl) rfl ?_
          refine V_X8_no C (c_X8_no l E 0 (by decide)) wM_RX8_106 (by decide) (dA DX8_write_0 22 rfl) rfl (Nat.le_of_ble_eq_true rfl) ?_
          exact J_iret C G (dA DX8_write_0 23 rfl) ⟨oi (by unfold aWrite; rw [if_pos e, na, e1, nn, if_neg (by rw [h25]; decide)]; rfl), by unfold eWrite; rw [if_pos e, na, e1, nn, if_neg (by rw [h25]; decide)]⟩

end PA
