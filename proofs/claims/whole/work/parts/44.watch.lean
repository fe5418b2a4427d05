section PA
variable {M : jM}
set_option maxRecDepth 4000 in
theorem c_X2_busiestPond (l : Launch) (E : jE) {S : Nat → Int32} (hS : IS S) (n : Nat) (hn : n ≤ 40)  : K_X2_busiestPond l E [.ref (ja E 40), .ref (ja E (fo 1)), .int (nI n)] (dr M (minsS S 0)) (nI (bst (cW S n) 15)) (tn 406 (dr M (minsS S n)) (cW S n)) := by
  refine CT_intro (own := RX2) (by decide +kernel) rfl (by simp [Value.category]) (Nat.le_of_ble_eq_true rfl) rfl (fun X C G => ?_)
  show J E X 0 [some (.ref (ja E 40)), some (.ref (ja E (fo 1))), some (.int (nI n)), none, none] [] (dr M (minsS S 0))
  have loop : ∀ k i (o4 : Option Value), jok [some (.ref (ja E 40)), some (.ref (ja E (fo 1))), some (.int (nI n)), some (.int (nI i)), o4] 4 = true → i + k = n → J E X 6 [some (.ref (ja E 40)), some (.ref (ja E (fo 1))), some (.int (nI n)), some (.int (nI i)), o4] [] (tn 406 (dr M (minsS S i)) (cW S i)) := by
    intro k
    induction k with
    | zero =>
      intro i o4 k4 hi
      obtain rfl : n = i := by omega
      refine J_iload_n C (dA DX2_busiestPond_0 4 rfl) rfl ?_
      refine J_iload_n C (dA DX2_busiestPond_0 5 rfl) rfl ?_
      first | refine J_icmp_ge_n (tgt := 56) C (by omega) (by omega) (dA DX2_busiestPond_0 6 rfl) (by decide) (fun h8 => ?_) (fun h8 => ?_) | refine J_icmp_ge_c (tgt := 56) C (by omega) (dA DX2_busiestPond_0 6 rfl) (by decide) (fun h8 => ?_) (fun h8 => ?_) | refine J_icmp_ge_t (tgt := 56) C (dA DX2_busiestPond_0 6 rfl) (by decide) (fun h8 => ?_) (fun h8 => ?_)
      · refine J_aload_n C (dA DX2_busiestPond_0 29 rfl) rfl ?_
        refine V_X2_leastOfMost C (c_X2_leastOfMost l E (cW S n) (fun j hj => by have := cW_le hS j n; omega)) wM_RX2_28 (by decide) (dA DX2_busiestPond_0 30 rfl) rfl (Nat.le_of_ble_eq_true rfl) ?_
        exact J_iret C G (dA DX2_busiestPond_0 31 rfl) ⟨rfl, rfl⟩
      · exfalso; omega
    | succ k ih =>
      intro i o4 k4 hi
      have inner : ∀ m j, j + m = 16 → J E X 18 [some (.ref (ja E 40)), some (.ref (ja E (fo 1))), some (.int (nI n)), some (.int (nI i)), some (.int (nI j))] [] (tn 406 (dr M (minsS S (i + 1))) (cWi S i j)) := by
        intro m
        induction m with
        | zero =>
          intro j hj
          obtain rfl : 16 = j := by omega
          rw [cWi_e]
          refine J_iload C (dA DX2_busiestPond_0 11 rfl) rfl ?_
          refine J_bipush (v := nI 16) C (dA DX2_busiestPond_0 12 rfl) (by decide) ?_
          first | refine J_icmp_ge_n (tgt := 50) C (by omega) (by omega) (dA DX2_busiestPond_0 13 rfl) (by decide) (fun h22 => ?_) (fun h22 => ?_) | refine J_icmp_ge_c (tgt := 50) C (by omega) (dA DX2_busiestPond_0 13 rfl) (by decide) (fun h22 => ?_) (fun h22 => ?_) | refine J_icmp_ge_t (tgt := 50) C (dA DX2_busiestPond_0 13 rfl) (by decide) (fun h22 => ?_) (fun h22 => ?_)
          · first | refine J_inc1_3_5 C (dA DX2_busiestPond_0 27 rfl) rfl ?_ | refine J_iinc_3_5 C (dA DX2_busiestPond_0 27 rfl) rfl ?_
            refine J_goto (tgt := 6) C (dA DX2_busiestPond_0 28 rfl) (by decide) ?_
            exact ih (i + 1) _ rfl (by omega)
          · exfalso; omega
        | succ m ihm =>
          intro j hj
          have hmi := drT (M := M) hS (i + 1) (cWi S i j)
          have hI := hmi.2.1
          have hSi := (IS_mins hS (i + 1)).1
          refine J_iload C (dA DX2_busiestPond_0 11 rfl) rfl ?_
          refine J_bipush (v := nI 16) C (dA DX2_busiestPond_0 12 rfl) (by decide) ?_
          first | refine J_icmp_ge_n (tgt := 50) C (by omega) (by omega) (dA DX2_busiestPond_0 13 rfl) (by decide) (fun h22 => ?_) (fun h22 => ?_) | refine J_icmp_ge_c (tgt := 50) C (by omega) (dA DX2_busiestPond_0 13 rfl) (by decide) (fun h22 => ?_) (fun h22 => ?_) | refine J_icmp_ge_t (tgt := 50) C (dA DX2_busiestPond_0 13 rfl) (by decide) (fun h22 => ?_) (fun h22 => ?_)
          · exfalso; omega
          · refine J_aload_n C (dA DX2_busiestPond_0 14 rfl) rfl ?_
            refine G_X2_tally C wF_RX2_9 (dA DX2_busiestPond_0 15 rfl) ?_
            refine J_iload C (dA DX2_busiestPond_0 16 rfl) rfl ?_
            refine J_dup2 C (dA DX2_busiestPond_0 17 rfl) rfl rfl ?_
            refine R_1 C (hk := rfl) (j := j) rfl (by omega) (dA DX2_busiestPond_0 18 rfl) ?_
            rw [tn_at (by omega), cWi_at]
            refine J_aload_n C (dA DX2_busiestPond_0 19 rfl) rfl ?_
            refine J_iload C (dA DX2_busiestPond_0 20 rfl) rfl ?_
            refine V_X1_thingsSeenIn C (by decide) (c_X1_thingsSeenIn l E 1 (by decide) j (by omega) hI) wM_RX2_41 (by decide) (dA DX2_busiestPond_0 21 rfl) rfl (Nat.le_of_ble_eq_true rfl) ?_
            rw [hmi.1]
            refine V_J6_bitCount_0f7a4 C (c_bc l E _ (s16_in hSi _)) wM_RX2_51 (by decide) (dA DX2_busiestPond_0 22 rfl) rfl (Nat.le_of_ble_eq_true rfl) ?_
            refine J_iadd_n C (dA DX2_busiestPond_0 23 rfl) ?_
            refine S_1 C (hk := rfl) (j := j) rfl (by omega) (dA DX2_busiestPond_0 24 rfl) ?_
            first | refine J_inc1_4_5 C (dA DX2_busiestPond_0 25 rfl) rfl ?_ | refine J_iinc_4_5 C (dA DX2_busiestPond_0 25 rfl) rfl ?_
            refine J_goto (tgt := 18) C (dA DX2_busiestPond_0 26 rfl) (by decide) ?_
            rw [tn_upd (by omega), cWi_s]
            exact ihm (j + 1) (by omega)
      refine J_iload_n C (dA DX2_busiestPond_0 4 rfl) rfl ?_
      refine J_iload_n C (dA DX2_busiestPond_0 5 rfl) rfl ?_
      first | refine J_icmp_ge_n (tgt := 56) C (by omega) (by omega) (dA DX2_busiestPond_0 6 rfl) (by decide) (fun h8 => ?_) (fun h8 => ?_) | refine J_icmp_ge_c (tgt := 56) C (by omega) (dA DX2_busiestPond_0 6 rfl) (by decide) (fun h8 => ?_) (fun h8 => ?_) | refine J_icmp_ge_t (tgt := 56) C (dA DX2_busiestPond_0 6 rfl) (by decide) (fun h8 => ?_) (fun h8 => ?_)
      · exfalso; omega
      · refine J_aload_n C (dA DX2_busiestPond_0 7 rfl) rfl ?_
        refine V_X1_passMinute C (by decide) (c_drT l E hS i _) wM_RX2_21 (by decide) (dA DX2_busiestPond_0 8 rfl) rfl (Nat.le_of_ble_eq_true rfl) ?_
        refine J_iconst (v := nI 0) C (dA DX2_busiestPond_0 9 rfl) (by decide) ?_
        refine J_ist_4_5 C (dA DX2_busiestPond_0 10 rfl) k4 ?_
        rw [← cWi_0]
        exact inner 16 0 (Nat.zero_add _)
  refine J_aload_n C (dA DX2_busiestPond_0 0 rfl) rfl ?_
  refine V_X2_clearTally C (c_X2_clearTally l E) wM_RX2_25 (by decide) (dA DX2_busiestPond_0 1 rfl) rfl (Nat.le_of_ble_eq_true rfl) ?_
  refine J_iconst (v := nI 0) C (dA DX2_busiestPond_0 2 rfl) (by decide) ?_
  refine J_ist_3_5 C (dA DX2_busiestPond_0 3 rfl) rfl ?_
  exact loop n 0 none rfl (Nat.zero_add _)
set_option maxRecDepth 4000 in
theorem c_X7_watch (l : Launch) (E : jE) (a : Int32) (hS : IS (vb (fb 0) M))  : K_X7_watch l E [.ref (ja E 59), .int a] M (aWatch (vb (fb 0) M) a) (eWatch7 a M) := by
  refine CT_intro (own := RX7) (by decide +kernel) rfl (by simp [Value.category]) (Nat.le_of_ble_eq_true rfl) rfl (fun X C G => ?_)
  show J E X 0 [some (.ref (ja E 59)), some (.int a)] [] M
  refine J_iload_n C (dA DX7_watch_0 0 rfl) rfl ?_
  refine J_iconst (v := nI 1) C (dA DX7_watch_0 1 rfl) (by decide) ?_
  first | refine J_icmp_lt_n (tgt := 11) C (by omega) (by omega) (dA DX7_watch_0 2 rfl) (by decide) (fun h2 => ?_) (fun h2 => ?_) | refine J_icmp_lt_c (tgt := 11) C (by omega) (dA DX7_watch_0 2 rfl) (by decide) (fun h2 => ?_) (fun h2 => ?_) | refine J_icmp_lt_t (tgt := 11) C (dA DX7_watch_0 2 rfl) (by decide) (fun h2 => ?_) (fun h2 => ?_)
  · try have g2 := inr_t h2
    try have g2 := inr_f h2
    refine J_aload_n C (dA DX7_watch_0 6 rfl) rfl ?_
    refine J_ldc (v := (-1000001)) C wK_RX7_69 (dA DX7_watch_0 7 rfl) ?_
    refine V_X7_finding C (c_X7_finding l E 0 (by decide) _ (by decide)) wM_RX7_70 (by decide) (dA DX7_watch_0 8 rfl) rfl (Nat.le_of_ble_eq_true rfl) ?_
    exact J_iret C G (dA DX7_watch_0 9 rfl) ⟨oi (by unfold aWatch; rw [if_neg (fun z => by have z := inr_t z; omega)]; rfl), by unfold eWatch7; rw [if_neg (fun z => by have z := inr_t z; omega)]⟩
  · try have g2 := inr_t h2
    try have g2 := inr_f h2
    refine J_iload_n C (dA DX7_watch_0 3 rfl) rfl ?_
    refine J_bipush (v := nI 40) C (dA DX7_watch_0 4 rfl) (by decide) ?_
    first | refine J_icmp_le_n (tgt := 18) C (by omega) (by omega) (dA DX7_watch_0 5 rfl) (by decide) (fun h8 => ?_) (fun h8 => ?_) | refine J_icmp_le_c (tgt := 18) C (by omega) (dA DX7_watch_0 5 rfl) (by decide) (fun h8 => ?_) (fun h8 => ?_) | refine J_icmp_le_t (tgt := 18) C (dA DX7_watch_0 5 rfl) (by decide) (fun h8 => ?_) (fun h8 => ?_)
    · try have g8 := inr_t h8
      try have g8 := inr_f h8
      obtain ⟨p, hp, rfl⟩ := toNI (x := a) (n := 41) (by omega) (by omega)
      have ta := tI (n := p) (by omega)
      have na : nv (nI p) = p := nv_nI (by omega)
      refine J_aload_n C (dA DX7_watch_0 10 rfl) rfl ?_
      refine G_X7_draft C wF_RX7_16 (dA DX7_watch_0 11 rfl) ?_
      refine J_aload_n C (dA DX7_watch_0 12 rfl) rfl ?_
      refine G_X7_fen C wF_RX7_12 (dA DX7_watch_0 13 rfl) ?_
      refine V_X1_become C (by decide) (c_drb l E) wM_RX7_179 (by decide) (dA DX7_watch_0 14 rfl) rfl (Nat.le_of_ble_eq_true rfl) ?_
      refine J_aload_n C (dA DX7_watch_0 15 rfl) rfl ?_
      refine G_X7_foresight C wF_RX7_36 (dA DX7_watch_0 16 rfl) ?_
      refine J_aload_n C (dA DX7_watch_0 17 rfl) rfl ?_
      refine G_X7_draft C wF_RX7_16 (dA DX7_watch_0 18 rfl) ?_
      refine J_iload_n C (dA DX7_watch_0 19 rfl) rfl ?_
      refine V_X2_busiestPond C (c_X2_busiestPond l E hS p (by omega)) wM_RX7_224 (by decide) (dA DX7_watch_0 20 rfl) rfl (Nat.le_of_ble_eq_true rfl) ?_
      exact J_iret C G (dA DX7_watch_0 21 rfl) ⟨oi (by unfold aWatch; rw [if_pos (show inr (nI p) 1 40 = true from decide_eq_true (by omega)), na]), by unfold eWatch7; rw [if_pos (show inr (nI p) 1 40 = true from decide_eq_true (by omega)), na]⟩
    · try have g8 := inr_t h8
      try have g8 := inr_f h8
      refine J_aload_n C (dA DX7_watch_0 6 rfl) rfl ?_
      refine J_ldc (v := (-1000001)) C wK_RX7_69 (dA DX7_watch_0 7 rfl) ?_
      refine V_X7_finding C (c_X7_finding l E 0 (by decide) _ (by decide)) wM_RX7_70 (by decide) (dA DX7_watch_0 8 rfl) rfl (Nat.le_of_ble_eq_true rfl) ?_
      exact J_iret C G (dA DX7_watch_0 9 rfl) ⟨oi (by unfold aWatch; rw [if_neg (fun z => by have z := inr_t z; omega)]; rfl), by unfold eWatch7; rw [if_neg (fun z => by have z := inr_t z; omega)]⟩
set_option maxRecDepth 4000 in
theorem c_X8_watch (l : Launch) (E : jE) (a : Int32) (hS : IS (vb 1100 M))  : K_X8_watch l E [.ref (ja E 60), .int a] M (aWatch (vb 1100 M) a) (eWatch8 a M) := by
  refine CT_intro (own := RX8) (by decide +kernel) rfl (by simp [Value.category]) (Nat.le_of_ble_eq_true rfl) rfl (fun X C G => ?_)
  show J E X 0 [some (.ref (ja E 60)), some (.int a), none, none] [] M
  refine J_iload_n C (dA DX8_watch_0 0 rfl) rfl ?_
  refine J_iconst (v := nI 1) C (dA DX8_watch_0 1 rfl) (by decide) ?_
  refine J_bipush (v := nI 40) C (dA DX8_watch_0 2 rfl) (by decide) ?_
  refine V_X8_in1 C (c_X8_in1n l E _ _ _ (by decide) (by decide)) wM_RX8_58 (by decide) (dA DX8_watch_0 3 rfl) rfl (Nat.le_of_ble_eq_true rfl) ?_
  refine J_if_ne_b (tgt := 16) C (dA DX8_watch_0 4 rfl) (by decide) (fun h7 => ?_) (fun h7 => ?_)
  · try have g7 := inr_t h7
    try have g7 := inr_f h7
    obtain ⟨p, hp, rfl⟩ := toNI (x := a) (n := 41) (by omega) (by omega)
    have ta := tI (n := p) (by omega)
    have na : nv (nI p) = p := nv_nI (by omega)
    have loop : ∀ k i (o4 : Option Value), jok [some (.ref (ja E 60)), some (.int (nI p)), some (.int (nI i)), o4] 3 = true → i + k = p → J E X 26 [some (.ref (ja E 60)), some (.int (nI p)), some (.int (nI i)), o4] [] (tn 1509 (lay 1100 (asd M) (minsS (vb 1100 M) i)) (cW (vb 1100 M) i)) := by
      intro k
      induction k with
      | zero =>
        intro i o4 k4 hi
        obtain rfl : p = i := by omega
        refine J_iload_n C (dA DX8_watch_0 15 rfl) rfl ?_
        refine J_iload_n C (dA DX8_watch_0 16 rfl) rfl ?_
        first | refine J_icmp_ge_n (tgt := 72) C (by omega) (by omega) (dA DX8_watch_0 17 rfl) (by decide) (fun h28 => ?_) (fun h28 => ?_) | refine J_icmp_ge_c (tgt := 72) C (by omega) (dA DX8_watch_0 17 rfl) (by decide) (fun h28 => ?_) (fun h28 => ?_) | refine J_icmp_ge_t (tgt := 72) C (dA DX8_watch_0 17 rfl) (by decide) (fun h28 => ?_) (fun h28 => ?_)
        · try have g28 := inr_t h28
          try have g28 := inr_f h28
          refine J_aload_n C (dA DX8_watch_0 40 rfl) rfl ?_
          refine V_X8_laysBack C (c_X8_laysBack l E) wM_RX8_168 (by decide) (dA DX8_watch_0 41 rfl) rfl (Nat.le_of_ble_eq_true rfl) ?_
          rw [asd_bT]
          refine J_aload_n C (dA DX8_watch_0 42 rfl) rfl ?_
          refine V_X8_mostOf C (c_X8_mostOf l E (cW (vb 1100 M) p) (fun j hj => by have := cW_le hS j p; omega)) wM_RX8_178 (by decide) (dA DX8_watch_0 43 rfl) rfl (Nat.le_of_ble_eq_true rfl) ?_
          exact J_iret C G (dA DX8_watch_0 44 rfl) ⟨oi (by unfold aWatch; rw [if_pos (show inr (nI p) 1 40 = true from decide_eq_true (by omega)), na]), by unfold eWatch8; rw [if_pos (show inr (nI p) 1 40 = true from decide_eq_true (by omega)), na]⟩
        · exfalso; omega
      | succ k ih =>
        intro i o4 k4 hi
        have inner : ∀ m j, j + m = 16 → J E X 37 [some (.ref (ja E 60)), some (.int (nI p)), some (.int (nI i)), some (.int (nI j))] [] (tn 1509 (lay 1100 (asd M) (minsS (vb 1100 M) (i + 1))) (cWi (vb 1100 M) i j)) := by
          intro m
          induction m with
          | zero =>
            intro j hj
            obtain rfl : 16 = j := by omega
            rw [cWi_e]
            refine J_iload_n C (dA DX8_watch_0 22 rfl) rfl ?_
            refine J_bipush (v := nI 16) C (dA DX8_watch_0 23 rfl) (by decide) ?_
            first | refine J_icmp_ge_n (tgt := 66) C (by omega) (by omega) (dA DX8_watch_0 24 rfl) (by decide) (fun h40 => ?_) (fun h40 => ?_) | refine J_icmp_ge_c (tgt := 66) C (by omega) (dA DX8_watch_0 24 rfl) (by decide) (fun h40 => ?_) (fun h40 => ?_) | refine J_icmp_ge_t (tgt := 66) C (dA DX8_watch_0 24 rfl) (by decide) (fun h40 => ?_) (fun h40 => ?_)
            · try have g40 := inr_t h40
              try have g40 := inr_f h40
              first | refine J_inc1_2_4 C (dA DX8_watch_0 38 rfl) rfl ?_ | refine J_iinc_2_4 C (dA DX8_watch_0 38 rfl) rfl ?_
              refine J_goto (tgt := 26) C (dA DX8_watch_0 39 rfl) (by decide) ?_
              exact ih (i + 1) _ rfl (by omega)
            · exfalso; omega
          | succ m ihm =>
            intro j hj
            have hmi := miT (M := asd M) hS (i + 1) (cWi (vb 1100 M) i j)
            have hI := hmi.2.1
            have hSi := (IS_mins hS (i + 1)).1
            refine J_iload_n C (dA DX8_watch_0 22 rfl) rfl ?_
            refine J_bipush (v := nI 16) C (dA DX8_watch_0 23 rfl) (by decide) ?_
            first | refine J_icmp_ge_n (tgt := 66) C (by omega) (by omega) (dA DX8_watch_0 24 rfl) (by decide) (fun h40 => ?_) (fun h40 => ?_) | refine J_icmp_ge_c (tgt := 66) C (by omega) (dA DX8_watch_0 24 rfl) (by decide) (fun h40 => ?_) (fun h40 => ?_) | refine J_icmp_ge_t (tgt := 66) C (dA DX8_watch_0 24 rfl) (by decide) (fun h40 => ?_) (fun h40 => ?_)
            · exfalso; omega
            · try have g40 := inr_t h40
              try have g40 := inr_f h40
              refine J_aload_n C (dA DX8_watch_0 25 rfl) rfl ?_
              refine G_X8_counts C wF_RX8_22 (dA DX8_watch_0 26 rfl) ?_
              refine J_iload_n C (dA DX8_watch_0 27 rfl) rfl ?_
              refine J_dup2 C (dA DX8_watch_0 28 rfl) rfl rfl ?_
              refine R_1 C (hk := rfl) (j := j) rfl (by omega) (dA DX8_watch_0 29 rfl) ?_
              rw [tn_at (by omega), cWi_at]
              refine J_aload_n C (dA DX8_watch_0 30 rfl) rfl ?_
              refine J_iload_n C (dA DX8_watch_0 31 rfl) rfl ?_
              refine V_X8_seenIn C (c_X8_seenIn l E j (by omega) hI) wM_RX8_73 (by decide) (dA DX8_watch_0 32 rfl) rfl (Nat.le_of_ble_eq_true rfl) ?_
              rw [hmi.1]
              refine V_X8_bits C (c_bx l E _ (s16_in hSi _)) wM_RX8_159 (by decide) (dA DX8_watch_0 33 rfl) rfl (Nat.le_of_ble_eq_true rfl) ?_
              refine J_iadd_n C (dA DX8_watch_0 34 rfl) ?_
              refine S_1 C (hk := rfl) (j := j) rfl (by omega) (dA DX8_watch_0 35 rfl) ?_
              first | refine J_inc1_3_4 C (dA DX8_watch_0 36 rfl) rfl ?_ | refine J_iinc_3_4 C (dA DX8_watch_0 36 rfl) rfl ?_
              refine J_goto (tgt := 37) C (dA DX8_watch_0 37 rfl) (by decide) ?_
              rw [tn_upd (by omega), cWi_s]
              exact ihm (j + 1) (by omega)
        refine J_iload_n C (dA DX8_watch_0 15 rfl) rfl ?_
        refine J_iload_n C (dA DX8_watch_0 16 rfl) rfl ?_
        first | refine J_icmp_ge_n (tgt := 72) C (by omega) (by omega) (dA DX8_watch_0 17 rfl) (by decide) (fun h28 => ?_) (fun h28 => ?_) | refine J_icmp_ge_c (tgt := 72) C (by omega) (dA DX8_watch_0 17 rfl) (by decide) (fun h28 => ?_) (fun h28 => ?_) | refine J_icmp_ge_t (tgt := 72) C (dA DX8_watch_0 17 rfl) (by decide) (fun h28 => ?_) (fun h28 => ?_)
        · exfalso; omega
        · try have g28 := inr_t h28
          try have g28 := inr_f h28
          refine J_aload_n C (dA DX8_watch_0 18 rfl) rfl ?_
          refine V_X8_minute C (c_miT l E hS i _) wM_RX8_119 (by decide) (dA DX8_watch_0 19 rfl) rfl (Nat.le_of_ble_eq_true rfl) ?_
          refine J_iconst (v := nI 0) C (dA DX8_watch_0 20 rfl) (by decide) ?_
          refine J_ist_3_4 C (dA DX8_watch_0 21 rfl) k4 ?_
          rw [← cWi_0]
          exact inner 16 0 (Nat.zero_add _)
    refine J_aload_n C (dA DX8_watch_0 9 rfl) rfl ?_
    refine V_X8_setsAside C (c_X8_setsAside l E) wM_RX8_165 (by decide) (dA DX8_watch_0 10 rfl) rfl (Nat.le_of_ble_eq_true rfl) ?_
    refine J_aload_n C (dA DX8_watch_0 11 rfl) rfl ?_
    refine V_X8_countsNone C (c_X8_countsNone l E) wM_RX8_175 (by decide) (dA DX8_watch_0 12 rfl) rfl (Nat.le_of_ble_eq_true rfl) ?_
    refine J_iconst (v := nI 0) C (dA DX8_watch_0 13 rfl) (by decide) ?_
    refine J_ist_2_4 C (dA DX8_watch_0 14 rfl) rfl ?_
    have h := loop p 0 none rfl (Nat.zero_add _)
    rw [show lay 1100 (asd M) (minsS (vb 1100 M) 0) = asd M by rw [← vb_asd (M := M)]; exact lay_vb] at h
    exact h
  · try have g7 := inr_t h7
    try have g7 := inr_f h7
    refine J_aload_n C (dA DX8_watch_0 5 rfl) rfl ?_
    refine J_iconst (v := nI 0) C (dA DX8_watch_0 6 rfl) (by decide) ?_
    refine V_X8_no C (c_X8_no l E _ (by decide)) wM_RX8_106 (by decide) (dA DX8_watch_0 7 rfl) rfl (Nat.le_of_ble_eq_true rfl) ?_
    exact J_iret C G (dA DX8_watch_0 8 rfl) ⟨oi (by unfold aWatch; rw [if_neg (fun z => by have z := inr_t z; omega)]; rfl), by unfold eWatch8; rw [if_neg (fun z => by have z := inr_t z; omega)]⟩
end PA
