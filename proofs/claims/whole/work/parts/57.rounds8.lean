section PA
variable {M : jM}
set_option maxRecDepth 4000 in
theorem c_X7_before (l : Launch) (E : jE) (a : Int32) (hS : IS (vb (fb 0) M))  : K_X7_before l E [.ref (ja E 59), .int a] M (aBefore (vb (fb 0) M) a) (eRnd 1076 a M) := by
  refine CT_intro (own := RX7) (by decide +kernel) rfl (by simp [Value.category]) (Nat.le_of_ble_eq_true rfl) rfl (fun X C G => ?_)
  show J E X 0 [some (.ref (ja E 59)), some (.int a), none, none] [] M
  refine J_iload_n C (dA DX7_before_0 0 rfl) rfl ?_
  refine V_X7_isPond C (c_X7_isPond l E _) wM_RX7_65 (by decide) (dA DX7_before_0 1 rfl) rfl (Nat.le_of_ble_eq_true rfl) ?_
  refine J_if_ne_b (tgt := 14) C (dA DX7_before_0 2 rfl) (by decide) (fun h4 => ?_) (fun h4 => ?_)
  · try have g4 := inr_t h4
    try have g4 := inr_f h4
    obtain ⟨p, hp, rfl⟩ := toNI (x := a) (n := 16) (by omega) (by omega)
    have ta := tI (n := p) (by omega)
    have na : nv (nI p) = p := nv_nI (by omega)
    have loop : ∀ n i, i + n = 16 → (∀ j, j < i → rlS (vb (fb 0) M) (itr (vb (fb 0) M) j p) = 0) → J E X 18 [some (.ref (ja E 59)), some (.int (nI p)), some (.int (nI (itr (vb (fb 0) M) i p))), some (.int (nI i))] [] M := by
      intro n
      induction n with
      | zero =>
        intro i hi hg
        obtain rfl : 16 = i := by omega
        refine J_iload_n C (dA DX7_before_0 11 rfl) rfl ?_
        refine J_bipush (v := nI 16) C (dA DX7_before_0 12 rfl) (by decide) ?_
        first | refine J_icmp_ge_n (tgt := 53) C (by omega) (by omega) (dA DX7_before_0 13 rfl) (by decide) (fun h21 => ?_) (fun h21 => ?_) | refine J_icmp_ge_c (tgt := 53) C (by omega) (dA DX7_before_0 13 rfl) (by decide) (fun h21 => ?_) (fun h21 => ?_) | refine J_icmp_ge_t (tgt := 53) C (dA DX7_before_0 13 rfl) (by decide) (fun h21 => ?_) (fun h21 => ?_)
        · refine J_iload_n C (dA DX7_before_0 29 rfl) rfl ?_
          have ef : befN (vb (fb 0) M) p = 16 := firstN_no (fun k hk => decide_eq_false (fun z => z (hg k hk)))
          exact J_iret C G (dA DX7_before_0 30 rfl) ⟨oi (by unfold aBefore; rw [if_pos (show inr (nI p) 0 15 = true from decide_eq_true (by omega)), na, ef]), by unfold eRnd; rw [if_pos (show inr (nI p) 0 15 = true from decide_eq_true (by omega))]⟩
        · exfalso; omega
      | succ n ih =>
        intro i hi hg
        have hl := itr_lt hS i (show p < 16 by omega)
        have hrl : rlS (vb (fb 0) M) (itr (vb (fb 0) M) i p) < 2 ^ 31 := Nat.lt_of_le_of_lt (rlS_le _ _) (by decide)
        refine J_iload_n C (dA DX7_before_0 11 rfl) rfl ?_
        refine J_bipush (v := nI 16) C (dA DX7_before_0 12 rfl) (by decide) ?_
        first | refine J_icmp_ge_n (tgt := 53) C (by omega) (by omega) (dA DX7_before_0 13 rfl) (by decide) (fun h21 => ?_) (fun h21 => ?_) | refine J_icmp_ge_c (tgt := 53) C (by omega) (dA DX7_before_0 13 rfl) (by decide) (fun h21 => ?_) (fun h21 => ?_) | refine J_icmp_ge_t (tgt := 53) C (dA DX7_before_0 13 rfl) (by decide) (fun h21 => ?_) (fun h21 => ?_)
        · exfalso; omega
        · refine J_aload_n C (dA DX7_before_0 14 rfl) rfl ?_
          refine G_X7_fen C wF_RX7_12 (dA DX7_before_0 15 rfl) ?_
          refine J_iload_n C (dA DX7_before_0 16 rfl) rfl ?_
          refine V_X1_roundLength C (by decide) (c_X1_roundLength l E 0 (by decide) _ hl hS) wM_RX7_170 (by decide) (dA DX7_before_0 17 rfl) rfl (Nat.le_of_ble_eq_true rfl) ?_
          refine J_if_ne_n (tgt := 53) C hrl (dA DX7_before_0 18 rfl) (by decide) (fun h32 => ?_) (fun h32 => ?_)
          · refine J_iload_n C (dA DX7_before_0 29 rfl) rfl ?_
            have ef : befN (vb (fb 0) M) p = i := firstN_eq (by omega) (fun k hk => decide_eq_false (fun z => z (hg k hk))) (decide_eq_true (by omega))
            exact J_iret C G (dA DX7_before_0 30 rfl) ⟨oi (by unfold aBefore; rw [if_pos (show inr (nI p) 0 15 = true from decide_eq_true (by omega)), na, ef]), by unfold eRnd; rw [if_pos (show inr (nI p) 0 15 = true from decide_eq_true (by omega))]⟩
          · refine J_aload_n C (dA DX7_before_0 19 rfl) rfl ?_
            refine G_X7_fen C wF_RX7_12 (dA DX7_before_0 20 rfl) ?_
            refine G_X1_ponds C (by decide) wF_RX7_80 (dA DX7_before_0 21 rfl) ?_
            refine J_iconst (v := nI 0) C (dA DX7_before_0 22 rfl) (by decide) ?_
            refine R_fp C (by decide) rfl (by omega) (dA DX7_before_0 23 rfl) ?_
            refine J_iload_n C (dA DX7_before_0 24 rfl) rfl ?_
            refine Q_fr C (by decide) hS (by decide) rfl hl (dA DX7_before_0 25 rfl) ?_
            refine J_ist_2_4 C (dA DX7_before_0 26 rfl) rfl ?_
            first | refine J_inc1_3_4 C (dA DX7_before_0 27 rfl) rfl ?_ | refine J_iinc_3_4 C (dA DX7_before_0 27 rfl) rfl ?_
            refine J_goto (tgt := 18) C (dA DX7_before_0 28 rfl) (by decide) ?_
            exact ih (i + 1) (by omega) (fun j hj => by
              rcases Nat.lt_or_ge j i with z | z
              · exact hg j z
              · rw [show j = i by omega]; omega)
    refine J_iload_n C (dA DX7_before_0 7 rfl) rfl ?_
    refine J_ist_2_4 C (dA DX7_before_0 8 rfl) rfl ?_
    refine J_iconst (v := nI 0) C (dA DX7_before_0 9 rfl) (by decide) ?_
    refine J_ist_3_4 C (dA DX7_before_0 10 rfl) rfl ?_
    exact loop 16 0 (Nat.zero_add _) (fun j hj => by omega)
  · try have g4 := inr_t h4
    try have g4 := inr_f h4
    refine J_aload_n C (dA DX7_before_0 3 rfl) rfl ?_
    refine J_ldc (v := (-1000001)) C wK_RX7_69 (dA DX7_before_0 4 rfl) ?_
    refine V_X7_finding C (c_X7_finding l E 0 (by decide) _ (by decide)) wM_RX7_70 (by decide) (dA DX7_before_0 5 rfl) rfl (Nat.le_of_ble_eq_true rfl) ?_
    exact J_iret C G (dA DX7_before_0 6 rfl) ⟨oi (by unfold aBefore; rw [if_neg (fun z => by have z := inr_t z; omega)]; rfl), by unfold eRnd; rw [if_neg (fun z => by have z := inr_t z; omega)]⟩
set_option maxRecDepth 4000 in
theorem c_X7_rounds (l : Launch) (E : jE) (hS : IS (vb (fb 0) M))  : K_X7_rounds l E [.ref (ja E 59)] M (nI (cnt 16 (llS (vb (fb 0) M)))) (M) := by
  refine CT_intro (own := RX7) (by decide +kernel) rfl (by simp [Value.category]) (Nat.le_of_ble_eq_true rfl) rfl (fun X C G => ?_)
  show J E X 0 [some (.ref (ja E 59)), none, none] [] M
  have loop : ∀ n i, i + n = 16 → J E X 4 [some (.ref (ja E 59)), some (.int (nI (cnt i (llS (vb (fb 0) M))))), some (.int (nI i))] [] M := by
    intro n
    induction n with
    | zero =>
      intro i hi
      obtain rfl : 16 = i := by omega
      refine J_iload_n C (dA DX7_rounds_0 4 rfl) rfl ?_
      refine J_bipush (v := nI 16) C (dA DX7_rounds_0 5 rfl) (by decide) ?_
      refine J_icmp_ge_n (tgt := 30) C (by omega) (by omega) (dA DX7_rounds_0 6 rfl) (by decide) (fun h7 => ?_) (fun h7 => ?_)
      · refine J_iload_n C (dA DX7_rounds_0 15 rfl) rfl ?_
        exact J_iret C G (dA DX7_rounds_0 16 rfl) ⟨rfl, rfl⟩
      · exfalso; omega
    | succ n ih =>
      intro i hi
      have hc := cnt_le (llS (vb (fb 0) M)) i
      refine J_iload_n C (dA DX7_rounds_0 4 rfl) rfl ?_
      refine J_bipush (v := nI 16) C (dA DX7_rounds_0 5 rfl) (by decide) ?_
      refine J_icmp_ge_n (tgt := 30) C (by omega) (by omega) (dA DX7_rounds_0 6 rfl) (by decide) (fun h7 => ?_) (fun h7 => ?_)
      · exfalso; omega
      · refine J_aload_n C (dA DX7_rounds_0 7 rfl) rfl ?_
        refine G_X7_fen C wF_RX7_12 (dA DX7_rounds_0 8 rfl) ?_
        refine J_iload_n C (dA DX7_rounds_0 9 rfl) rfl ?_
        refine V_X1_isLeastOfRound C (by decide) (c_X1_isLeastOfRound l E 0 (by decide) i (by omega) hS) wM_RX7_173 (by decide) (dA DX7_rounds_0 10 rfl) rfl (Nat.le_of_ble_eq_true rfl) ?_
        refine J_if_eq_b (tgt := 24) C (dA DX7_rounds_0 11 rfl) (by decide) (fun h18 => ?_) (fun h18 => ?_)
        · first | refine J_inc1_2_3 C (dA DX7_rounds_0 13 rfl) rfl ?_ | refine J_iinc_2_3 C (dA DX7_rounds_0 13 rfl) rfl ?_
          refine J_goto (tgt := 4) C (dA DX7_rounds_0 14 rfl) (by decide) ?_
          have h := ih (i + 1) (by omega)
          rw [cnt_f (Bool.eq_false_iff.mpr (fun z => by rw [z] at h18; exact absurd h18 (by decide)))] at h
          exact h
        · first | refine J_inc1_1_3 C (dA DX7_rounds_0 12 rfl) rfl ?_ | refine J_iinc_1_3 C (dA DX7_rounds_0 12 rfl) rfl ?_
          first | refine J_inc1_2_3 C (dA DX7_rounds_0 13 rfl) rfl ?_ | refine J_iinc_2_3 C (dA DX7_rounds_0 13 rfl) rfl ?_
          refine J_goto (tgt := 4) C (dA DX7_rounds_0 14 rfl) (by decide) ?_
          have h := ih (i + 1) (by omega)
          rw [cnt_t (by first | exact h18 | exact Classical.byContradiction (fun z => h18 (Bool.eq_false_iff.mpr z)))] at h
          exact h
  refine J_iconst (v := nI 0) C (dA DX7_rounds_0 0 rfl) (by decide) ?_
  refine J_ist_1_3 C (dA DX7_rounds_0 1 rfl) rfl ?_
  refine J_iconst (v := nI 0) C (dA DX7_rounds_0 2 rfl) (by decide) ?_
  refine J_ist_2_3 C (dA DX7_rounds_0 3 rfl) rfl ?_
  exact loop 16 0 (Nat.zero_add _)
set_option maxRecDepth 4000 in
theorem c_X8_isRound (l : Launch) (E : jE) (p : Nat) (hp : p < 16) (hS : IS (vb 1100 M))  : K_X8_isRound l E [.ref (ja E 60), .int (nI p)] M (jb (decide (¬ rlS (vb 1100 M) p = 0))) (M) := by
  refine CT_intro (own := RX8) (by decide +kernel) rfl (by simp [Value.category]) (Nat.le_of_ble_eq_true rfl) rfl (fun X C G => ?_)
  show J E X 0 [some (.ref (ja E 60)), some (.int (nI p)), none, none] [] M
  have hy : ∀ i, 1 ≤ i → i ≤ 16 → itr (vb 1100 M) i p = p → ¬ rlS (vb 1100 M) p = 0 := fun i h0 h1 e => rl_pos.mpr ⟨i - 1, by omega, by rw [show i - 1 + 1 = i by omega]; exact e⟩
  have loop : ∀ n i, i + n = 16 → 1 ≤ i → (∀ k, 1 ≤ k → k < i → ¬ itr (vb 1100 M) k p = p) → J E X 9 [some (.ref (ja E 60)), some (.int (nI p)), some (.int (nI (itr (vb 1100 M) i p))), some (.int (nI i))] [] M := by
    intro n
    induction n with
    | zero =>
      intro i hi h1 hg
      obtain rfl : 16 = i := by omega
      have hl := itr_lt hS 16 hp
      have hn : ¬ itr (vb 1100 M) 16 p = p → rlS (vb 1100 M) p = 0 := fun z => Classical.byContradiction (fun w => by
        obtain ⟨j, hj, e⟩ := rl_pos.mp w
        rcases Nat.lt_or_ge (j + 1) 16 with y | y
        · exact hg (j + 1) (by omega) y e
        · exact z (by rw [show 16 = j + 1 by omega]; exact e))
      refine J_iload_n C (dA DX8_isRound_0 7 rfl) rfl ?_
      refine J_bipush (v := nI 16) C (dA DX8_isRound_0 8 rfl) (by decide) ?_
      refine J_icmp_ge_n (tgt := 33) C (by omega) (by omega) (dA DX8_isRound_0 9 rfl) (by decide) (fun h12 => ?_) (fun h12 => ?_)
      · refine J_iload_n C (dA DX8_isRound_0 20 rfl) rfl ?_
        refine J_iload_n C (dA DX8_isRound_0 21 rfl) rfl ?_
        refine J_icmp_ne_n (tgt := 42) C (by omega) (by omega) (dA DX8_isRound_0 22 rfl) (by decide) (fun h35 => ?_) (fun h35 => ?_)
        · refine J_iconst (v := nI 0) C (dA DX8_isRound_0 25 rfl) (by decide) ?_
          first | exact J_zret C G rfl (dA DX8_isRound_0 26 rfl) ⟨oi (zt (hy _ h1 (by omega) h35)), rfl⟩ | exact J_zret C G rfl (dA DX8_isRound_0 26 rfl) ⟨oi (zf (fun z => z (hn h35))), rfl⟩
        · refine J_iconst (v := nI 1) C (dA DX8_isRound_0 23 rfl) (by decide) ?_
          refine J_goto (tgt := 43) C (dA DX8_isRound_0 24 rfl) (by decide) ?_
          first | exact J_zret C G rfl (dA DX8_isRound_0 26 rfl) ⟨oi (zt (hy _ h1 (by omega) h35)), rfl⟩ | exact J_zret C G rfl (dA DX8_isRound_0 26 rfl) ⟨oi (zf (fun z => z (hn h35))), rfl⟩
      · exfalso; omega
    | succ n ih =>
      intro i hi h1 hg
      have hl := itr_lt hS i hp
      refine J_iload_n C (dA DX8_isRound_0 7 rfl) rfl ?_
      refine J_bipush (v := nI 16) C (dA DX8_isRound_0 8 rfl) (by decide) ?_
      refine J_icmp_ge_n (tgt := 33) C (by omega) (by omega) (dA DX8_isRound_0 9 rfl) (by decide) (fun h12 => ?_) (fun h12 => ?_)
      · exfalso; omega
      · refine J_iload_n C (dA DX8_isRound_0 10 rfl) rfl ?_
        refine J_iload_n C (dA DX8_isRound_0 11 rfl) rfl ?_
        refine J_icmp_eq_n (tgt := 33) C (by omega) (by omega) (dA DX8_isRound_0 12 rfl) (by decide) (fun h17 => ?_) (fun h17 => ?_)
        · refine J_iload_n C (dA DX8_isRound_0 20 rfl) rfl ?_
          refine J_iload_n C (dA DX8_isRound_0 21 rfl) rfl ?_
          refine J_icmp_ne_n (tgt := 42) C (by omega) (by omega) (dA DX8_isRound_0 22 rfl) (by decide) (fun h35 => ?_) (fun h35 => ?_)
          · exfalso; omega
          · refine J_iconst (v := nI 1) C (dA DX8_isRound_0 23 rfl) (by decide) ?_
            refine J_goto (tgt := 43) C (dA DX8_isRound_0 24 rfl) (by decide) ?_
            exact J_zret C G rfl (dA DX8_isRound_0 26 rfl) ⟨oi (zt (hy _ h1 (by omega) h17)), rfl⟩
        · refine J_aload_n C (dA DX8_isRound_0 13 rfl) rfl ?_
          refine J_iload_n C (dA DX8_isRound_0 14 rfl) rfl ?_
          refine J_iconst (v := nI 0) C (dA DX8_isRound_0 15 rfl) (by decide) ?_
          refine V_X8_of1 C (c_X8_of1 l E _ 0 hl (by omega) hS) wM_RX8_66 (by decide) (dA DX8_isRound_0 16 rfl) rfl (Nat.le_of_ble_eq_true rfl) ?_
          refine J_ist_2_4 C (dA DX8_isRound_0 17 rfl) rfl ?_
          first | refine J_inc1_3_4 C (dA DX8_isRound_0 18 rfl) rfl ?_ | refine J_iinc_3_4 C (dA DX8_isRound_0 18 rfl) rfl ?_
          refine J_goto (tgt := 9) C (dA DX8_isRound_0 19 rfl) (by decide) ?_
          exact ih (i + 1) (by omega) (by omega) (fun k k1 k2 => by
            rcases Nat.lt_or_ge k i with z | z
            · exact hg k k1 z
            · rw [show k = i by omega]; exact h17)
  refine J_aload_n C (dA DX8_isRound_0 0 rfl) rfl ?_
  refine J_iload_n C (dA DX8_isRound_0 1 rfl) rfl ?_
  refine J_iconst (v := nI 0) C (dA DX8_isRound_0 2 rfl) (by decide) ?_
  refine V_X8_of1 C (c_X8_of1 l E p 0 hp (by omega) hS) wM_RX8_66 (by decide) (dA DX8_isRound_0 3 rfl) rfl (Nat.le_of_ble_eq_true rfl) ?_
  refine J_ist_2_4 C (dA DX8_isRound_0 4 rfl) rfl ?_
  refine J_iconst (v := nI 1) C (dA DX8_isRound_0 5 rfl) (by decide) ?_
  refine J_ist_3_4 C (dA DX8_isRound_0 6 rfl) rfl ?_
  exact loop 15 1 (by omega) (by omega) (fun k h1 h2 => by omega)
set_option maxRecDepth 4000 in
theorem c_X8_aheadOf (l : Launch) (E : jE) (p : Nat) (hp : p < 16) (hS : IS (vb 1100 M))  : K_X8_aheadOf l E [.ref (ja E 60), .int (nI p)] M (nI (befN (vb 1100 M) p)) (M) := by
  refine CT_intro (own := RX8) (by decide +kernel) rfl (by simp [Value.category]) (Nat.le_of_ble_eq_true rfl) rfl (fun X C G => ?_)
  show J E X 0 [some (.ref (ja E 60)), some (.int (nI p)), none, none] [] M
  have hb := bef_lt hS hp
  have hb1 := (firstN_lt (n := 16) hb).1
  have hb2 := of_decide_eq_true (firstN_lt (n := 16) hb).2
  have loop : ∀ n i, i + n = befN (vb 1100 M) p → J E X 4 [some (.ref (ja E 60)), some (.int (nI p)), some (.int (nI i)), some (.int (nI (itr (vb 1100 M) i p)))] [] M := by
    intro n
    induction n with
    | zero =>
      intro i hi
      obtain rfl : befN (vb 1100 M) p = i := by omega
      have hl := itr_lt hS (befN (vb 1100 M) p) hp
      refine J_aload_n C (dA DX8_aheadOf_0 4 rfl) rfl ?_
      refine J_iload_n C (dA DX8_aheadOf_0 5 rfl) rfl ?_
      refine V_X8_isRound C (c_X8_isRound l E _ hl hS) wM_RX8_153 (by decide) (dA DX8_aheadOf_0 6 rfl) rfl (Nat.le_of_ble_eq_true rfl) ?_
      refine J_if_ne_b (tgt := 25) C (dA DX8_aheadOf_0 7 rfl) (by decide) (fun h9 => ?_) (fun h9 => ?_)
      · refine J_iload_n C (dA DX8_aheadOf_0 15 rfl) rfl ?_
        exact J_iret C G (dA DX8_aheadOf_0 16 rfl) ⟨rfl, rfl⟩
      · exact absurd h9 (by rw [decide_eq_true (show ¬ rlS (vb 1100 M) (itr (vb 1100 M) (befN (vb 1100 M) p) p) = 0 from hb2)]; decide)
    | succ n ih =>
      intro i hi
      have hl := itr_lt hS i hp
      have hz : rlS (vb 1100 M) (itr (vb 1100 M) i p) = 0 := Classical.byContradiction (fun z => of_decide_eq_false (hb1 i (show i < befN (vb 1100 M) p by omega)) z)
      refine J_aload_n C (dA DX8_aheadOf_0 4 rfl) rfl ?_
      refine J_iload_n C (dA DX8_aheadOf_0 5 rfl) rfl ?_
      refine V_X8_isRound C (c_X8_isRound l E _ hl hS) wM_RX8_153 (by decide) (dA DX8_aheadOf_0 6 rfl) rfl (Nat.le_of_ble_eq_true rfl) ?_
      refine J_if_ne_b (tgt := 25) C (dA DX8_aheadOf_0 7 rfl) (by decide) (fun h9 => ?_) (fun h9 => ?_)
      · exact absurd h9 (by rw [hz]; decide)
      · refine J_aload_n C (dA DX8_aheadOf_0 8 rfl) rfl ?_
        refine J_iload_n C (dA DX8_aheadOf_0 9 rfl) rfl ?_
        refine J_iconst (v := nI 0) C (dA DX8_aheadOf_0 10 rfl) (by decide) ?_
        refine V_X8_of1 C (c_X8_of1 l E _ 0 hl (by omega) hS) wM_RX8_66 (by decide) (dA DX8_aheadOf_0 11 rfl) rfl (Nat.le_of_ble_eq_true rfl) ?_
        refine J_ist_3_4 C (dA DX8_aheadOf_0 12 rfl) rfl ?_
        first | refine J_inc1_2_4 C (dA DX8_aheadOf_0 13 rfl) rfl ?_ | refine J_iinc_2_4 C (dA DX8_aheadOf_0 13 rfl) rfl ?_
        refine J_goto (tgt := 4) C (dA DX8_aheadOf_0 14 rfl) (by decide) ?_
        exact ih (i + 1) (by omega)
  refine J_iconst (v := nI 0) C (dA DX8_aheadOf_0 0 rfl) (by decide) ?_
  refine J_ist_2_4 C (dA DX8_aheadOf_0 1 rfl) rfl ?_
  refine J_iload_n C (dA DX8_aheadOf_0 2 rfl) rfl ?_
  refine J_ist_3_4 C (dA DX8_aheadOf_0 3 rfl) rfl ?_
  exact loop _ 0 (Nat.zero_add _)
set_option maxRecDepth 4000 in
theorem c_X8_roundOf (l : Launch) (E : jE) (p : Nat) (hp : p < 16) (hS : IS (vb 1100 M))  : K_X8_roundOf l E [.ref (ja E 60), .int (nI p)] M (orL 16 (rdP (vb 1100 M) p)) (M) := by
  refine CT_intro (own := RX8) (by decide +kernel) rfl (by simp [Value.category]) (Nat.le_of_ble_eq_true rfl) rfl (fun X C G => ?_)
  show J E X 0 [some (.ref (ja E 60)), some (.int (nI p)), none, none, none] [] M
  have loop2 : ∀ n i, i + n = 16 → J E X 28 [some (.ref (ja E 60)), some (.int (nI p)), some (.int (nI (itr (vb 1100 M) (16 + i) p))), some (.int (orV i (fun k => itr (vb 1100 M) (16 + k) p))), some (.int (nI i))] [] M := by
    intro n
    induction n with
    | zero =>
      intro i hi
      obtain rfl : 16 = i := by omega
      refine J_iload C (dA DX8_roundOf_0 18 rfl) rfl ?_
      refine J_bipush (v := nI 16) C (dA DX8_roundOf_0 19 rfl) (by decide) ?_
      refine J_icmp_ge_n (tgt := 54) C (by omega) (by omega) (dA DX8_roundOf_0 20 rfl) (by decide) (fun h32 => ?_) (fun h32 => ?_)
      · refine J_iload_n C (dA DX8_roundOf_0 34 rfl) rfl ?_
        exact J_iret C G (dA DX8_roundOf_0 35 rfl) ⟨oi (rd_orV hS hp), rfl⟩
      · exfalso; omega
    | succ n ih =>
      intro i hi
      have hl := itr_lt hS (16 + i) hp
      refine J_iload C (dA DX8_roundOf_0 18 rfl) rfl ?_
      refine J_bipush (v := nI 16) C (dA DX8_roundOf_0 19 rfl) (by decide) ?_
      refine J_icmp_ge_n (tgt := 54) C (by omega) (by omega) (dA DX8_roundOf_0 20 rfl) (by decide) (fun h32 => ?_) (fun h32 => ?_)
      · exfalso; omega
      · refine J_iload_n C (dA DX8_roundOf_0 21 rfl) rfl ?_
        refine J_iconst (v := nI 1) C (dA DX8_roundOf_0 22 rfl) (by decide) ?_
        refine J_iload_n C (dA DX8_roundOf_0 23 rfl) rfl ?_
        refine J_ishl C (dA DX8_roundOf_0 24 rfl) ?_
        refine J_ior C (dA DX8_roundOf_0 25 rfl) ?_
        refine J_ist_3_5 C (dA DX8_roundOf_0 26 rfl) rfl ?_
        refine J_aload_n C (dA DX8_roundOf_0 27 rfl) rfl ?_
        refine J_iload_n C (dA DX8_roundOf_0 28 rfl) rfl ?_
        refine J_iconst (v := nI 0) C (dA DX8_roundOf_0 29 rfl) (by decide) ?_
        refine V_X8_of1 C (c_X8_of1 l E _ 0 hl (by omega) hS) wM_RX8_66 (by decide) (dA DX8_roundOf_0 30 rfl) rfl (Nat.le_of_ble_eq_true rfl) ?_
        refine J_ist_2_5 C (dA DX8_roundOf_0 31 rfl) rfl ?_
        first | refine J_inc1_4_5 C (dA DX8_roundOf_0 32 rfl) rfl ?_ | refine J_iinc_4_5 C (dA DX8_roundOf_0 32 rfl) rfl ?_
        refine J_goto (tgt := 28) C (dA DX8_roundOf_0 33 rfl) (by decide) ?_
        exact ih (i + 1) (by omega)
  have loop : ∀ n i, i + n = 16 → J E X 4 [some (.ref (ja E 60)), some (.int (nI p)), some (.int (nI (itr (vb 1100 M) i p))), some (.int (nI i)), none] [] M := by
    intro n
    induction n with
    | zero =>
      intro i hi
      obtain rfl : 16 = i := by omega
      refine J_iload_n C (dA DX8_roundOf_0 4 rfl) rfl ?_
      refine J_bipush (v := nI 16) C (dA DX8_roundOf_0 5 rfl) (by decide) ?_
      refine J_icmp_ge_n (tgt := 23) C (by omega) (by omega) (dA DX8_roundOf_0 6 rfl) (by decide) (fun h7 => ?_) (fun h7 => ?_)
      · refine J_iconst (v := nI 0) C (dA DX8_roundOf_0 14 rfl) (by decide) ?_
        refine J_ist_3_5 C (dA DX8_roundOf_0 15 rfl) rfl ?_
        refine J_iconst (v := nI 0) C (dA DX8_roundOf_0 16 rfl) (by decide) ?_
        refine J_ist_4_5 C (dA DX8_roundOf_0 17 rfl) rfl ?_
        exact loop2 16 0 (Nat.zero_add _)
      · exfalso; omega
    | succ n ih =>
      intro i hi
      have hl := itr_lt hS i hp
      refine J_iload_n C (dA DX8_roundOf_0 4 rfl) rfl ?_
      refine J_bipush (v := nI 16) C (dA DX8_roundOf_0 5 rfl) (by decide) ?_
      refine J_icmp_ge_n (tgt := 23) C (by omega) (by omega) (dA DX8_roundOf_0 6 rfl) (by decide) (fun h7 => ?_) (fun h7 => ?_)
      · exfalso; omega
      · refine J_aload_n C (dA DX8_roundOf_0 7 rfl) rfl ?_
        refine J_iload_n C (dA DX8_roundOf_0 8 rfl) rfl ?_
        refine J_iconst (v := nI 0) C (dA DX8_roundOf_0 9 rfl) (by decide) ?_
        refine V_X8_of1 C (c_X8_of1 l E _ 0 hl (by omega) hS) wM_RX8_66 (by decide) (dA DX8_roundOf_0 10 rfl) rfl (Nat.le_of_ble_eq_true rfl) ?_
        refine J_ist_2_5 C (dA DX8_roundOf_0 11 rfl) rfl ?_
        first | refine J_inc1_3_5 C (dA DX8_roundOf_0 12 rfl) rfl ?_ | refine J_iinc_3_5 C (dA DX8_roundOf_0 12 rfl) rfl ?_
        refine J_goto (tgt := 4) C (dA DX8_roundOf_0 13 rfl) (by decide) ?_
        exact ih (i + 1) (by omega)
  refine J_iload_n C (dA DX8_roundOf_0 0 rfl) rfl ?_
  refine J_ist_2_5 C (dA DX8_roundOf_0 1 rfl) rfl ?_
  refine J_iconst (v := nI 0) C (dA DX8_roundOf_0 2 rfl) (by decide) ?_
  refine J_ist_3_5 C (dA DX8_roundOf_0 3 rfl) rfl ?_
  exact loop 16 0 (Nat.zero_add _)
set_option maxRecDepth 4000 in
theorem c_X8_round (l : Launch) (E : jE) (a : Int32) (hS : IS (vb 1100 M))  : K_X8_round l E [.ref (ja E 60), .int a] M (aRound (vb 1100 M) a) (eRnd 1502 a M) := by
  refine CT_intro (own := RX8) (by decide +kernel) rfl (by simp [Value.category]) (Nat.le_of_ble_eq_true rfl) rfl (fun X C G => ?_)
  show J E X 0 [some (.ref (ja E 60)), some (.int a)] [] M
  refine J_iload_n C (dA DX8_round_0 0 rfl) rfl ?_
  refine V_X8_isPond C (c_X8_isPond l E _) wM_RX8_102 (by decide) (dA DX8_round_0 1 rfl) rfl (Nat.le_of_ble_eq_true rfl) ?_
  refine J_if_eq_b (tgt := 18) C (dA DX8_round_0 2 rfl) (by decide) (fun h4 => ?_) (fun h4 => ?_)
  · try have g4 := inr_t h4
    try have g4 := inr_f h4
    refine J_aload_n C (dA DX8_round_0 8 rfl) rfl ?_
    refine J_iconst (v := nI 0) C (dA DX8_round_0 9 rfl) (by decide) ?_
    refine V_X8_no C (c_X8_no l E 0 (by decide)) wM_RX8_106 (by decide) (dA DX8_round_0 10 rfl) rfl (Nat.le_of_ble_eq_true rfl) ?_
    exact J_iret C G (dA DX8_round_0 11 rfl) ⟨oi (by unfold aRound; rw [if_neg (fun z => by have z := inr_t z; omega)]; rfl), by unfold eRnd; rw [if_neg (fun z => by have z := inr_t z; omega)]⟩
  · try have g4 := inr_t h4
    try have g4 := inr_f h4
    obtain ⟨p, hp, rfl⟩ := toNI (x := a) (n := 16) (by omega) (by omega)
    have ta := tI (n := p) (by omega)
    have na : nv (nI p) = p := nv_nI (by omega)
    refine J_aload_n C (dA DX8_round_0 3 rfl) rfl ?_
    refine J_iload_n C (dA DX8_round_0 4 rfl) rfl ?_
    refine V_X8_roundOf C (c_X8_roundOf l E p (by omega) hS) wM_RX8_156 (by decide) (dA DX8_round_0 5 rfl) rfl (Nat.le_of_ble_eq_true rfl) ?_
    rw [orL_mk (by decide)]
    have hm := mk_lt (rdP (vb 1100 M) p) 16
    refine V_X8_bits C (c_X8_bits l E _ (by omega)) wM_RX8_159 (by decide) (dA DX8_round_0 6 rfl) rfl (Nat.le_of_ble_eq_true rfl) ?_
    refine J_goto (tgt := 23) C (dA DX8_round_0 7 rfl) (by decide) ?_
    exact J_iret C G (dA DX8_round_0 11 rfl) ⟨oi (by unfold aRound; rw [if_pos (show inr (nI p) 0 15 = true from decide_eq_true (by omega)), na, mk_pc _ 16 (by decide), rd_cnt hS (by omega)]), by unfold eRnd; rw [if_pos (show inr (nI p) 0 15 = true from decide_eq_true (by omega))]⟩
set_option maxRecDepth 4000 in
theorem c_X8_before (l : Launch) (E : jE) (a : Int32) (hS : IS (vb 1100 M))  : K_X8_before l E [.ref (ja E 60), .int a] M (aBefore (vb 1100 M) a) (eRnd 1502 a M) := by
  refine CT_intro (own := RX8) (by decide +kernel) rfl (by simp [Value.category]) (Nat.le_of_ble_eq_true rfl) rfl (fun X C G => ?_)
  show J E X 0 [some (.ref (ja E 60)), some (.int a)] [] M
  refine J_iload_n C (dA DX8_before_0 0 rfl) rfl ?_
  refine V_X8_isPond C (c_X8_isPond l E _) wM_RX8_102 (by decide) (dA DX8_before_0 1 rfl) rfl (Nat.le_of_ble_eq_true rfl) ?_
  refine J_if_eq_b (tgt := 15) C (dA DX8_before_0 2 rfl) (by decide) (fun h4 => ?_) (fun h4 => ?_)
  · try have g4 := inr_t h4
    try have g4 := inr_f h4
    refine J_aload_n C (dA DX8_before_0 7 rfl) rfl ?_
    refine J_iconst (v := nI 0) C (dA DX8_before_0 8 rfl) (by decide) ?_
    refine V_X8_no C (c_X8_no l E 0 (by decide)) wM_RX8_106 (by decide) (dA DX8_before_0 9 rfl) rfl (Nat.le_of_ble_eq_true rfl) ?_
    exact J_iret C G (dA DX8_before_0 10 rfl) ⟨oi (by unfold aBefore; rw [if_neg (fun z => by have z := inr_t z; omega)]; rfl), by unfold eRnd; rw [if_neg (fun z => by have z := inr_t z; omega)]⟩
  · try have g4 := inr_t h4
    try have g4 := inr_f h4
    obtain ⟨p, hp, rfl⟩ := toNI (x := a) (n := 16) (by omega) (by omega)
    have ta := tI (n := p) (by omega)
    have na : nv (nI p) = p := nv_nI (by omega)
    refine J_aload_n C (dA DX8_before_0 3 rfl) rfl ?_
    refine J_iload_n C (dA DX8_before_0 4 rfl) rfl ?_
    refine V_X8_aheadOf C (c_X8_aheadOf l E p (by omega) hS) wM_RX8_162 (by decide) (dA DX8_before_0 5 rfl) rfl (Nat.le_of_ble_eq_true rfl) ?_
    refine J_goto (tgt := 20) C (dA DX8_before_0 6 rfl) (by decide) ?_
    exact J_iret C G (dA DX8_before_0 10 rfl) ⟨oi (by unfold aBefore; rw [if_pos (show inr (nI p) 0 15 = true from decide_eq_true (by omega)), na]), by unfold eRnd; rw [if_pos (show inr (nI p) 0 15 = true from decide_eq_true (by omega))]⟩
set_option maxRecDepth 4000 in
theorem c_X8_rounds (l : Launch) (E : jE) (hS : IS (vb 1100 M))  : K_X8_rounds l E [.ref (ja E 60)] M (nI (cnt 16 (llS (vb 1100 M)))) (M) := by
  refine CT_intro (own := RX8) (by decide +kernel) rfl (by simp [Value.category]) (Nat.le_of_ble_eq_true rfl) rfl (fun X C G => ?_)
  show J E X 0 [some (.ref (ja E 60)), none, none, none] [] M
  have loop : ∀ n i (o : Option Value), (∀ x y : Int32, jok [some (.ref (ja E 60)), some (.int x), some (.int y), o] 3 = true) → i + n = 16 → J E X 4 [some (.ref (ja E 60)), some (.int (nI (cnt i (llS (vb 1100 M))))), some (.int (nI i)), o] [] M := by
    intro n
    induction n with
    | zero =>
      intro i o k3 hi
      obtain rfl : 16 = i := by omega
      refine J_iload_n C (dA DX8_rounds_0 4 rfl) rfl ?_
      refine J_bipush (v := nI 16) C (dA DX8_rounds_0 5 rfl) (by decide) ?_
      refine J_icmp_ge_n (tgt := 48) C (by omega) (by omega) (dA DX8_rounds_0 6 rfl) (by decide) (fun h7 => ?_) (fun h7 => ?_)
      · refine J_iload_n C (dA DX8_rounds_0 31 rfl) rfl ?_
        exact J_iret C G (dA DX8_rounds_0 32 rfl) ⟨rfl, rfl⟩
      · exfalso; omega
    | succ n ih =>
      intro i o k3 hi
      have hc := cnt_le (llS (vb 1100 M)) i
      have hll := ll_iff hS (show i < 16 by omega)
      have hz := low_z (P := rdP (vb 1100 M) i) (show i < 16 by omega)
      refine J_iload_n C (dA DX8_rounds_0 4 rfl) rfl ?_
      refine J_bipush (v := nI 16) C (dA DX8_rounds_0 5 rfl) (by decide) ?_
      refine J_icmp_ge_n (tgt := 48) C (by omega) (by omega) (dA DX8_rounds_0 6 rfl) (by decide) (fun h7 => ?_) (fun h7 => ?_)
      · exfalso; omega
      · refine J_aload_n C (dA DX8_rounds_0 7 rfl) rfl ?_
        refine J_iload_n C (dA DX8_rounds_0 8 rfl) rfl ?_
        refine V_X8_roundOf C (c_X8_roundOf l E i (by omega) hS) wM_RX8_156 (by decide) (dA DX8_rounds_0 9 rfl) rfl (Nat.le_of_ble_eq_true rfl) ?_
        refine J_iconst (v := nI 1) C (dA DX8_rounds_0 10 rfl) (by decide) ?_
        refine J_iload_n C (dA DX8_rounds_0 11 rfl) rfl ?_
        refine J_ishl C (dA DX8_rounds_0 12 rfl) ?_
        refine J_iconst (v := nI 1) C (dA DX8_rounds_0 13 rfl) (by decide) ?_
        refine J_isub C (dA DX8_rounds_0 14 rfl) ?_
        refine J_iand C (dA DX8_rounds_0 15 rfl) ?_
        refine J_ist_3_4 C (dA DX8_rounds_0 16 rfl) (k3 _ _) ?_
        refine J_iload_n C (dA DX8_rounds_0 17 rfl) rfl ?_
        refine J_aload_n C (dA DX8_rounds_0 18 rfl) rfl ?_
        refine J_iload_n C (dA DX8_rounds_0 19 rfl) rfl ?_
        refine V_X8_isRound C (c_X8_isRound l E i (by omega) hS) wM_RX8_153 (by decide) (dA DX8_rounds_0 20 rfl) rfl (Nat.le_of_ble_eq_true rfl) ?_
        refine J_if_eq_b (tgt := 39) C (dA DX8_rounds_0 21 rfl) (by decide) (fun h28 => ?_) (fun h28 => ?_)
        · refine J_iconst (v := nI 0) C (dA DX8_rounds_0 26 rfl) (by decide) ?_
          first | refine J_iadd_n C (dA DX8_rounds_0 27 rfl) ?_ | refine J_iadd C (dA DX8_rounds_0 27 rfl) ?_
          refine J_ist_1_4 C (dA DX8_rounds_0 28 rfl) rfl ?_
          first | refine J_inc1_2_4 C (dA DX8_rounds_0 29 rfl) rfl ?_ | refine J_iinc_2_4 C (dA DX8_rounds_0 29 rfl) rfl ?_
          refine J_goto (tgt := 4) C (dA DX8_rounds_0 30 rfl) (by decide) ?_
          have h := ih (i + 1) (some (.int (orL 16 (rdP (vb 1100 M) i) &&& (b1 i - nI 1)))) (fun _ _ => rfl) (by omega)
          rw [cnt_f (Bool.eq_false_iff.mpr (fun z => (of_decide_eq_false h28) (hll.mp z).1))] at h
          exact h
        · refine J_iload_n C (dA DX8_rounds_0 22 rfl) rfl ?_
          refine J_if_ne (tgt := 39) C (dA DX8_rounds_0 23 rfl) (by decide) (fun h32 => ?_) (fun h32 => ?_)
          · refine J_iconst (v := nI 0) C (dA DX8_rounds_0 26 rfl) (by decide) ?_
            first | refine J_iadd_n C (dA DX8_rounds_0 27 rfl) ?_ | refine J_iadd C (dA DX8_rounds_0 27 rfl) ?_
            refine J_ist_1_4 C (dA DX8_rounds_0 28 rfl) rfl ?_
            first | refine J_inc1_2_4 C (dA DX8_rounds_0 29 rfl) rfl ?_ | refine J_iinc_2_4 C (dA DX8_rounds_0 29 rfl) rfl ?_
            refine J_goto (tgt := 4) C (dA DX8_rounds_0 30 rfl) (by decide) ?_
            have h := ih (i + 1) (some (.int (orL 16 (rdP (vb 1100 M) i) &&& (b1 i - nI 1)))) (fun _ _ => rfl) (by omega)
            rw [cnt_f (Bool.eq_false_iff.mpr (fun z => h32 (hz.mpr (hll.mp z).2)))] at h
            exact h
          · refine J_iconst (v := nI 1) C (dA DX8_rounds_0 24 rfl) (by decide) ?_
            refine J_goto (tgt := 40) C (dA DX8_rounds_0 25 rfl) (by decide) ?_
            first | refine J_iadd_n C (dA DX8_rounds_0 27 rfl) ?_ | refine J_iadd C (dA DX8_rounds_0 27 rfl) ?_
            refine J_ist_1_4 C (dA DX8_rounds_0 28 rfl) rfl ?_
            first | refine J_inc1_2_4 C (dA DX8_rounds_0 29 rfl) rfl ?_ | refine J_iinc_2_4 C (dA DX8_rounds_0 29 rfl) rfl ?_
            refine J_goto (tgt := 4) C (dA DX8_rounds_0 30 rfl) (by decide) ?_
            have h := ih (i + 1) (some (.int (orL 16 (rdP (vb 1100 M) i) &&& (b1 i - nI 1)))) (fun _ _ => rfl) (by omega)
            rw [cnt_t (hll.mpr ⟨of_decide_eq_true h28, hz.mp (by first | exact h32 | exact Classical.byContradiction h32)⟩)] at h
            exact h
  refine J_iconst (v := nI 0) C (dA DX8_rounds_0 0 rfl) (by decide) ?_
  refine J_ist_1_4 C (dA DX8_rounds_0 1 rfl) rfl ?_
  refine J_iconst (v := nI 0) C (dA DX8_rounds_0 2 rfl) (by decide) ?_
  refine J_ist_2_4 C (dA DX8_rounds_0 3 rfl) rfl ?_
  exact loop 16 0 none (fun _ _ => rfl) (Nat.zero_add _)
end PA
