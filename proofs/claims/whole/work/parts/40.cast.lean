def zrN (g : Nat → Int32) (i : Nat) : Nat → Int32 := fun j => if j < i then nI 0 else g j
theorem zrN_s {g : Nat → Int32} {i : Nat} : upd (zrN g i) i (nI 0) = zrN g (i + 1) := by
  funext j
  unfold upd zrN
  by_cases e : j = i
  · rw [if_pos e, if_pos (by omega)]
  · rw [if_neg e]
    by_cases e2 : j < i
    · rw [if_pos e2, if_pos (by omega)]
    · rw [if_neg e2, if_neg (by omega)]
theorem zrN_0 {g : Nat → Int32} : zrN g 0 = g := by funext j; unfold zrN; rw [if_neg (by omega)]
/-- a row of 16 natural counts at b -/
def tn (b : Nat) (M : jM) (c : Nat → Nat) : jM := tl b M (fun j => nI (c j))
theorem tn_z {b : Nat} {M : jM} : tl b M (zrN (fun j => M (b + j)) 16) = tn b M (fun _ => 0) := tl_cong (fun j hj => by unfold zrN; rw [if_pos hj])
theorem tn_at {b j : Nat} {M : jM} {c : Nat → Nat} (h : j < 16) : tn b M c (b + j) = nI (c j) := tl_at h
theorem tn_upd {b j x : Nat} {M : jM} {c : Nat → Nat} (h : j < 16) : upd (tn b M c) (b + j) (nI x) = tn b M (fun k => if k = j then x else c k) := by
  unfold tn
  rw [tl_upd h]
  congr 1
  funext k
  show (if k = j then nI x else nI (c k)) = nI (if k = j then x else c k)
  split <;> rfl
theorem vb_tn {b b' : Nat} {M : jM} {c : Nat → Nat} (h : b' + 134 ≤ b ∨ b + 16 ≤ b') : vb b' (tn b M c) = vb b' M := vb_tl h
theorem lay_tn {b b' : Nat} {M : jM} {c : Nat → Nat} {T : Nat → Int32} (h : b' + 134 ≤ b ∨ b + 16 ≤ b') : lay b' (tn b M c) T = tn b (lay b' M T) c := lay_tl h
theorem cT_s (S : Nat → Int32) (t n : Nat) : (fun k => if k = f3 (minsS S (n + 1)) t 1 then cT S t n (f3 (minsS S (n + 1)) t 1) + 1 else cT S t n k) = cT S t (n + 1) := by
  funext k
  show _ = cT S t n k + _
  by_cases e : k = f3 (minsS S (n + 1)) t 1
  · subst e; rw [if_pos rfl, if_pos rfl]
  · rw [if_neg e, if_neg (fun z => e z.symm)]; rfl
section PA
variable {M : jM}
theorem c_drT (l : Launch) (E : jE) {S : Nat → Int32} (hS : IS S) (i : Nat) (c : Nat → Nat) : K_X1_passMinute l E [.ref (ja E (fo 1))] (tn 406 (dr M (minsS S i)) c) (tn 406 (dr M (minsS S (i + 1))) c) := by
  have h := IS_mins hS i
  have hv : vb (fb 1) (tn 406 (dr M (minsS S i)) c) = minsS S i := (vb_tn (by unfold fb; omega)).trans (vb_lay h.1.1)
  have h2 := c_X1_passMinute (M := tn 406 (dr M (minsS S i)) c) l E 1 (by decide) (by rw [hv]; exact h.1)
  rw [hv, lay_tn (by unfold fb; omega)] at h2
  unfold dr at h2 ⊢
  rw [lay_lay] at h2
  exact h2
theorem c_miT (l : Launch) (E : jE) {S : Nat → Int32} (hS : IS S) (i : Nat) (c : Nat → Nat) : K_X8_minute l E [.ref (ja E 60)] (tn 1509 (lay 1100 M (minsS S i)) c) (tn 1509 (lay 1100 M (minsS S (i + 1))) c) := by
  have h := IS_mins hS i
  have hv : vb 1100 (tn 1509 (lay 1100 M (minsS S i)) c) = minsS S i := (vb_tn (by omega)).trans (vb_lay h.1.1)
  have h2 := c_X8_minute (M := tn 1509 (lay 1100 M (minsS S i)) c) l E (by rw [hv]; exact h.1)
  rw [hv, lay_tn (by omega), lay_lay] at h2
  exact h2
theorem drT {S : Nat → Int32} (hS : IS S) (i : Nat) (c : Nat → Nat) : vb (fb 1) (tn 406 (dr M (minsS S i)) c) = minsS S i ∧ IS (vb (fb 1) (tn 406 (dr M (minsS S i)) c)) ∧ iN (minsS S i) = iN S := by
  have h := IS_mins hS i
  have hv : vb (fb 1) (tn 406 (dr M (minsS S i)) c) = minsS S i := (vb_tn (by unfold fb; omega)).trans (vb_lay h.1.1)
  exact ⟨hv, by rw [hv]; exact h.1, h.2⟩
theorem miT {S : Nat → Int32} (hS : IS S) (i : Nat) (c : Nat → Nat) : vb 1100 (tn 1509 (lay 1100 M (minsS S i)) c) = minsS S i ∧ IS (vb 1100 (tn 1509 (lay 1100 M (minsS S i)) c)) ∧ iN (minsS S i) = iN S := by
  have h := IS_mins hS i
  have hv : vb 1100 (tn 1509 (lay 1100 M (minsS S i)) c) = minsS S i := (vb_tn (by omega)).trans (vb_lay h.1.1)
  exact ⟨hv, by rw [hv]; exact h.1, h.2⟩
theorem asd_bT {T : Nat → Int32} {c : Nat → Nat} : lay 1100 (tn 1509 (lay 1100 (asd M) T) c) (vb 1368 (tn 1509 (lay 1100 (asd M) T) c)) = tn 1509 (asd M) c := by
  rw [vb_tn (by omega), lay_tn (by omega), asd_back]
set_option maxRecDepth 4000 in
theorem c_X2_clearTally (l : Launch) (E : jE)  : K_X2_clearTally l E [.ref (ja E 40)] M (tn 406 M (fun _ => 0)) := by
  refine CT_intro (own := RX2) (by decide +kernel) rfl (by simp [Value.category]) (Nat.le_of_ble_eq_true rfl) rfl (fun X C G => ?_)
  show J E X 0 [some (.ref (ja E 40)), none] [] M
  have loop : ∀ k i, i + k = 16 → J E X 2 [some (.ref (ja E 40)), some (.int (nI i))] [] (tl 406 M (zrN (fun j => M (406 + j)) i)) := by
    intro k
    induction k with
    | zero =>
      intro i hi
      obtain rfl : 16 = i := by omega
      refine J_iload_n C (dA DX2_clearTally_0 2 rfl) rfl ?_
      refine J_bipush (v := nI 16) C (dA DX2_clearTally_0 3 rfl) (by decide) ?_
      first | refine J_icmp_ge_n (tgt := 21) C (by omega) (by omega) (dA DX2_clearTally_0 4 rfl) (by decide) (fun h5 => ?_) (fun h5 => ?_) | refine J_icmp_ge_c (tgt := 21) C (by omega) (dA DX2_clearTally_0 4 rfl) (by decide) (fun h5 => ?_) (fun h5 => ?_) | refine J_icmp_ge_t (tgt := 21) C (dA DX2_clearTally_0 4 rfl) (by decide) (fun h5 => ?_) (fun h5 => ?_)
      · exact J_vret C G (dA DX2_clearTally_0 12 rfl) ⟨rfl, tn_z⟩
      · exfalso; omega
    | succ k ih =>
      intro i hi
      refine J_iload_n C (dA DX2_clearTally_0 2 rfl) rfl ?_
      refine J_bipush (v := nI 16) C (dA DX2_clearTally_0 3 rfl) (by decide) ?_
      first | refine J_icmp_ge_n (tgt := 21) C (by omega) (by omega) (dA DX2_clearTally_0 4 rfl) (by decide) (fun h5 => ?_) (fun h5 => ?_) | refine J_icmp_ge_c (tgt := 21) C (by omega) (dA DX2_clearTally_0 4 rfl) (by decide) (fun h5 => ?_) (fun h5 => ?_) | refine J_icmp_ge_t (tgt := 21) C (dA DX2_clearTally_0 4 rfl) (by decide) (fun h5 => ?_) (fun h5 => ?_)
      · exfalso; omega
      · refine J_aload_n C (dA DX2_clearTally_0 5 rfl) rfl ?_
        refine G_X2_tally C wF_RX2_9 (dA DX2_clearTally_0 6 rfl) ?_
        refine J_iload_n C (dA DX2_clearTally_0 7 rfl) rfl ?_
        refine J_iconst (v := nI 0) C (dA DX2_clearTally_0 8 rfl) (by decide) ?_
        refine S_1 C (hk := rfl) rfl (by omega) (dA DX2_clearTally_0 9 rfl) ?_
        first | refine J_inc1_1_2 C (dA DX2_clearTally_0 10 rfl) rfl ?_ | refine J_iinc_1_2 C (dA DX2_clearTally_0 10 rfl) rfl ?_
        refine J_goto (tgt := 2) C (dA DX2_clearTally_0 11 rfl) (by decide) ?_
        rw [tl_upd (by omega), zrN_s]
        exact ih (i + 1) (by omega)
  refine J_iconst (v := nI 0) C (dA DX2_clearTally_0 0 rfl) (by decide) ?_
  refine J_ist_1_2 C (dA DX2_clearTally_0 1 rfl) rfl ?_
  have h := loop 16 0 (Nat.zero_add _)
  rw [zrN_0, tl_self] at h
  exact h
set_option maxRecDepth 4000 in
theorem c_X2_leastOfMost (l : Launch) (E : jE) (c : Nat → Nat) (hc : ∀ j, j < 16 → c j < 2 ^ 31)  : K_X2_leastOfMost l E [.ref (ja E 40)] (tn 406 M c) (nI (bst c 15)) (tn 406 M c) := by
  refine CT_intro (own := RX2) (by decide +kernel) rfl (by simp [Value.category]) (Nat.le_of_ble_eq_true rfl) rfl (fun X C G => ?_)
  show J E X 0 [some (.ref (ja E 40)), none, none] [] (tn 406 M c)
  have hb := bst_le c
  have loop : ∀ k i, i + k = 15 → J E X 4 [some (.ref (ja E 40)), some (.int (nI (bst c i))), some (.int (nI (i + 1)))] [] (tn 406 M c) := by
    intro k
    induction k with
    | zero =>
      intro i hi
      obtain rfl : 15 = i := by omega
      refine J_iload_n C (dA DX2_leastOfMost_0 4 rfl) rfl ?_
      refine J_bipush (v := nI 16) C (dA DX2_leastOfMost_0 5 rfl) (by decide) ?_
      first | refine J_icmp_ge_n (tgt := 33) C (by omega) (by omega) (dA DX2_leastOfMost_0 6 rfl) (by decide) (fun h7 => ?_) (fun h7 => ?_) | refine J_icmp_ge_c (tgt := 33) C (by omega) (dA DX2_leastOfMost_0 6 rfl) (by decide) (fun h7 => ?_) (fun h7 => ?_) | refine J_icmp_ge_t (tgt := 33) C (dA DX2_leastOfMost_0 6 rfl) (by decide) (fun h7 => ?_) (fun h7 => ?_)
      · refine J_iload_n C (dA DX2_leastOfMost_0 20 rfl) rfl ?_
        exact J_iret C G (dA DX2_leastOfMost_0 21 rfl) ⟨rfl, rfl⟩
      · exfalso; omega
    | succ k ih =>
      intro i hi
      have hbi := hb i
      have c1 := hc (i + 1) (by omega)
      have c2 := hc (bst c i) (by omega)
      refine J_iload_n C (dA DX2_leastOfMost_0 4 rfl) rfl ?_
      refine J_bipush (v := nI 16) C (dA DX2_leastOfMost_0 5 rfl) (by decide) ?_
      first | refine J_icmp_ge_n (tgt := 33) C (by omega) (by omega) (dA DX2_leastOfMost_0 6 rfl) (by decide) (fun h7 => ?_) (fun h7 => ?_) | refine J_icmp_ge_c (tgt := 33) C (by omega) (dA DX2_leastOfMost_0 6 rfl) (by decide) (fun h7 => ?_) (fun h7 => ?_) | refine J_icmp_ge_t (tgt := 33) C (dA DX2_leastOfMost_0 6 rfl) (by decide) (fun h7 => ?_) (fun h7 => ?_)
      · exfalso; omega
      · refine J_aload_n C (dA DX2_leastOfMost_0 7 rfl) rfl ?_
        refine G_X2_tally C wF_RX2_9 (dA DX2_leastOfMost_0 8 rfl) ?_
        refine J_iload_n C (dA DX2_leastOfMost_0 9 rfl) rfl ?_
        refine R_1 C (hk := rfl) (j := i + 1) rfl (by omega) (dA DX2_leastOfMost_0 10 rfl) ?_
        rw [tn_at (by omega)]
        refine J_aload_n C (dA DX2_leastOfMost_0 11 rfl) rfl ?_
        refine G_X2_tally C wF_RX2_9 (dA DX2_leastOfMost_0 12 rfl) ?_
        refine J_iload_n C (dA DX2_leastOfMost_0 13 rfl) rfl ?_
        refine R_1 C (hk := rfl) (j := bst c i) rfl (by omega) (dA DX2_leastOfMost_0 14 rfl) ?_
        rw [tn_at (by omega)]
        refine J_icmp_le_n (tgt := 27) C (by omega) (by omega) (dA DX2_leastOfMost_0 15 rfl) (by decide) (fun h22 => ?_) (fun h22 => ?_)
        · first | refine J_inc1_2_3 C (dA DX2_leastOfMost_0 18 rfl) rfl ?_ | refine J_iinc_2_3 C (dA DX2_leastOfMost_0 18 rfl) rfl ?_
          refine J_goto (tgt := 4) C (dA DX2_leastOfMost_0 19 rfl) (by decide) ?_
          have e : bst c (i + 1) = bst c i := if_neg (show ¬ c (bst c i) < c (i + 1) by omega)
          have h := ih (i + 1) (by omega)
          rw [e] at h
          exact h
        · refine J_iload_n C (dA DX2_leastOfMost_0 16 rfl) rfl ?_
          refine J_ist_1_3 C (dA DX2_leastOfMost_0 17 rfl) rfl ?_
          first | refine J_inc1_2_3 C (dA DX2_leastOfMost_0 18 rfl) rfl ?_ | refine J_iinc_2_3 C (dA DX2_leastOfMost_0 18 rfl) rfl ?_
          refine J_goto (tgt := 4) C (dA DX2_leastOfMost_0 19 rfl) (by decide) ?_
          have e : bst c (i + 1) = i + 1 := if_pos (show c (bst c i) < c (i + 1) by omega)
          have h := ih (i + 1) (by omega)
          rw [e] at h
          exact h
  refine J_iconst (v := nI 0) C (dA DX2_leastOfMost_0 0 rfl) (by decide) ?_
  refine J_ist_1_3 C (dA DX2_leastOfMost_0 1 rfl) rfl ?_
  refine J_iconst (v := nI 1) C (dA DX2_leastOfMost_0 2 rfl) (by decide) ?_
  refine J_ist_2_3 C (dA DX2_leastOfMost_0 3 rfl) rfl ?_
  exact loop 15 0 (Nat.zero_add _)
set_option maxRecDepth 4000 in
theorem c_X8_countsNone (l : Launch) (E : jE)  : K_X8_countsNone l E [.ref (ja E 60)] M (tn 1509 M (fun _ => 0)) := by
  refine CT_intro (own := RX8) (by decide +kernel) rfl (by simp [Value.category]) (Nat.le_of_ble_eq_true rfl) rfl (fun X C G => ?_)
  show J E X 0 [some (.ref (ja E 60)), none] [] M
  have loop : ∀ k i, i + k = 16 → J E X 2 [some (.ref (ja E 60)), some (.int (nI i))] [] (tl 1509 M (zrN (fun j => M (1509 + j)) i)) := by
    intro k
    induction k with
    | zero =>
      intro i hi
      obtain rfl : 16 = i := by omega
      refine J_iload_n C (dA DX8_countsNone_0 2 rfl) rfl ?_
      refine J_bipush (v := nI 16) C (dA DX8_countsNone_0 3 rfl) (by decide) ?_
      first | refine J_icmp_ge_n (tgt := 21) C (by omega) (by omega) (dA DX8_countsNone_0 4 rfl) (by decide) (fun h5 => ?_) (fun h5 => ?_) | refine J_icmp_ge_c (tgt := 21) C (by omega) (dA DX8_countsNone_0 4 rfl) (by decide) (fun h5 => ?_) (fun h5 => ?_) | refine J_icmp_ge_t (tgt := 21) C (dA DX8_countsNone_0 4 rfl) (by decide) (fun h5 => ?_) (fun h5 => ?_)
      · try have g5 := inr_t h5
        try have g5 := inr_f h5
        exact J_vret C G (dA DX8_countsNone_0 12 rfl) ⟨rfl, tn_z⟩
      · exfalso; omega
    | succ k ih =>
      intro i hi
      refine J_iload_n C (dA DX8_countsNone_0 2 rfl) rfl ?_
      refine J_bipush (v := nI 16) C (dA DX8_countsNone_0 3 rfl) (by decide) ?_
      first | refine J_icmp_ge_n (tgt := 21) C (by omega) (by omega) (dA DX8_countsNone_0 4 rfl) (by decide) (fun h5 => ?_) (fun h5 => ?_) | refine J_icmp_ge_c (tgt := 21) C (by omega) (dA DX8_countsNone_0 4 rfl) (by decide) (fun h5 => ?_) (fun h5 => ?_) | refine J_icmp_ge_t (tgt := 21) C (dA DX8_countsNone_0 4 rfl) (by decide) (fun h5 => ?_) (fun h5 => ?_)
      · exfalso; omega
      · try have g5 := inr_t h5
        try have g5 := inr_f h5
        refine J_aload_n C (dA DX8_countsNone_0 5 rfl) rfl ?_
        refine G_X8_counts C wF_RX8_22 (dA DX8_countsNone_0 6 rfl) ?_
        refine J_iload_n C (dA DX8_countsNone_0 7 rfl) rfl ?_
        refine J_iconst (v := nI 0) C (dA DX8_countsNone_0 8 rfl) (by decide) ?_
        refine S_1 C (hk := rfl) rfl (by omega) (dA DX8_countsNone_0 9 rfl) ?_
        first | refine J_inc1_1_2 C (dA DX8_countsNone_0 10 rfl) rfl ?_ | refine J_iinc_1_2 C (dA DX8_countsNone_0 10 rfl) rfl ?_
        refine J_goto (tgt := 2) C (dA DX8_countsNone_0 11 rfl) (by decide) ?_
        rw [tl_upd (by omega), zrN_s]
        exact ih (i + 1) (by omega)
  refine J_iconst (v := nI 0) C (dA DX8_countsNone_0 0 rfl) (by decide) ?_
  refine J_ist_1_2 C (dA DX8_countsNone_0 1 rfl) rfl ?_
  have h := loop 16 0 (Nat.zero_add _)
  rw [zrN_0, tl_self] at h
  exact h
set_option maxRecDepth 4000 in
theorem c_X8_mostOf (l : Launch) (E : jE) (c : Nat → Nat) (hc : ∀ j, j < 16 → c j < 2 ^ 31)  : K_X8_mostOf l E [.ref (ja E 60)] (tn 1509 M c) (nI (bst c 15)) (tn 1509 M c) := by
  refine CT_intro (own := RX8) (by decide +kernel) rfl (by simp [Value.category]) (Nat.le_of_ble_eq_true rfl) rfl (fun X C G => ?_)
  show J E X 0 [some (.ref (ja E 60)), none, none] [] (tn 1509 M c)
  have hb := bst_le c
  have loop : ∀ k i, i + k = 15 → J E X 4 [some (.ref (ja E 60)), some (.int (nI (bst c i))), some (.int (nI (i + 1)))] [] (tn 1509 M c) := by
    intro k
    induction k with
    | zero =>
      intro i hi
      obtain rfl : 15 = i := by omega
      refine J_iload_n C (dA DX8_mostOf_0 4 rfl) rfl ?_
      refine J_bipush (v := nI 16) C (dA DX8_mostOf_0 5 rfl) (by decide) ?_
      first | refine J_icmp_ge_n (tgt := 37) C (by omega) (by omega) (dA DX8_mostOf_0 6 rfl) (by decide) (fun h7 => ?_) (fun h7 => ?_) | refine J_icmp_ge_c (tgt := 37) C (by omega) (dA DX8_mostOf_0 6 rfl) (by decide) (fun h7 => ?_) (fun h7 => ?_) | refine J_icmp_ge_t (tgt := 37) C (dA DX8_mostOf_0 6 rfl) (by decide) (fun h7 => ?_) (fun h7 => ?_)
      · try have g7 := inr_t h7
        try have g7 := inr_f h7
        refine J_iload_n C (dA DX8_mostOf_0 22 rfl) rfl ?_
        exact J_iret C G (dA DX8_mostOf_0 23 rfl) ⟨rfl, rfl⟩
      · exfalso; omega
    | succ k ih =>
      intro i hi
      have hbi := hb i
      have c1 := hc (i + 1) (by omega)
      have c2 := hc (bst c i) (by omega)
      refine J_iload_n C (dA DX8_mostOf_0 4 rfl) rfl ?_
      refine J_bipush (v := nI 16) C (dA DX8_mostOf_0 5 rfl) (by decide) ?_
      first | refine J_icmp_ge_n (tgt := 37) C (by omega) (by omega) (dA DX8_mostOf_0 6 rfl) (by decide) (fun h7 => ?_) (fun h7 => ?_) | refine J_icmp_ge_c (tgt := 37) C (by omega) (dA DX8_mostOf_0 6 rfl) (by decide) (fun h7 => ?_) (fun h7 => ?_) | refine J_icmp_ge_t (tgt := 37) C (dA DX8_mostOf_0 6 rfl) (by decide) (fun h7 => ?_) (fun h7 => ?_)
      · exfalso; omega
      · try have g7 := inr_t h7
        try have g7 := inr_f h7
        refine J_aload_n C (dA DX8_mostOf_0 7 rfl) rfl ?_
        refine G_X8_counts C wF_RX8_22 (dA DX8_mostOf_0 8 rfl) ?_
        refine J_iload_n C (dA DX8_mostOf_0 9 rfl) rfl ?_
        refine R_1 C (hk := rfl) (j := i + 1) rfl (by omega) (dA DX8_mostOf_0 10 rfl) ?_
        rw [tn_at (by omega)]
        refine J_aload_n C (dA DX8_mostOf_0 11 rfl) rfl ?_
        refine G_X8_counts C wF_RX8_22 (dA DX8_mostOf_0 12 rfl) ?_
        refine J_iload_n C (dA DX8_mostOf_0 13 rfl) rfl ?_
        refine R_1 C (hk := rfl) (j := bst c i) rfl (by omega) (dA DX8_mostOf_0 14 rfl) ?_
        rw [tn_at (by omega)]
        refine J_icmp_le_n (tgt := 29) C (by omega) (by omega) (dA DX8_mostOf_0 15 rfl) (by decide) (fun h22 => ?_) (fun h22 => ?_)
        · try have g22 := inr_t h22
          try have g22 := inr_f h22
          refine J_iload_n C (dA DX8_mostOf_0 18 rfl) rfl ?_
          refine J_ist_1_3 C (dA DX8_mostOf_0 19 rfl) rfl ?_
          first | refine J_inc1_2_3 C (dA DX8_mostOf_0 20 rfl) rfl ?_ | refine J_iinc_2_3 C (dA DX8_mostOf_0 20 rfl) rfl ?_
          refine J_goto (tgt := 4) C (dA DX8_mostOf_0 21 rfl) (by decide) ?_
          have e : bst c (i + 1) = bst c i := if_neg (show ¬ c (bst c i) < c (i + 1) by omega)
          have h := ih (i + 1) (by omega)
          rw [e] at h
          exact h
        · try have g22 := inr_t h22
          try have g22 := inr_f h22
          refine J_iload_n C (dA DX8_mostOf_0 16 rfl) rfl ?_
          refine J_goto (tgt := 30) C (dA DX8_mostOf_0 17 rfl) (by decide) ?_
          refine J_ist_1_3 C (dA DX8_mostOf_0 19 rfl) rfl ?_
          first | refine J_inc1_2_3 C (dA DX8_mostOf_0 20 rfl) rfl ?_ | refine J_iinc_2_3 C (dA DX8_mostOf_0 20 rfl) rfl ?_
          refine J_goto (tgt := 4) C (dA DX8_mostOf_0 21 rfl) (by decide) ?_
          have e : bst c (i + 1) = i + 1 := if_pos (show c (bst c i) < c (i + 1) by omega)
          have h := ih (i + 1) (by omega)
          rw [e] at h
          exact h
  refine J_iconst (v := nI 0) C (dA DX8_mostOf_0 0 rfl) (by decide) ?_
  refine J_ist_1_3 C (dA DX8_mostOf_0 1 rfl) rfl ?_
  refine J_iconst (v := nI 1) C (dA DX8_mostOf_0 2 rfl) (by decide) ?_
  refine J_ist_2_3 C (dA DX8_mostOf_0 3 rfl) rfl ?_
  exact loop 15 0 (Nat.zero_add _)
set_option maxRecDepth 4000 in
theorem c_X2_usualPond (l : Launch) (E : jE) {S : Nat → Int32} (hS : IS S) (t n : Nat) (ht : t < iN S) (hn : n ≤ 100)  : K_X2_usualPond l E [.ref (ja E 40), .ref (ja E (fo 1)), .int (nI t), .int (nI n)] (dr M (minsS S 0)) (nI (bst (cT S t n) 15)) (tn 406 (dr M (minsS S n)) (cT S t n)) := by
  refine CT_intro (own := RX2) (by decide +kernel) rfl (by simp [Value.category]) (Nat.le_of_ble_eq_true rfl) rfl (fun X C G => ?_)
  show J E X 0 [some (.ref (ja E 40)), some (.ref (ja E (fo 1))), some (.int (nI t)), some (.int (nI n)), none] [] (dr M (minsS S 0))
  have hN := leN hS
  have loop : ∀ k i, i + k = n → J E X 7 [some (.ref (ja E 40)), some (.ref (ja E (fo 1))), some (.int (nI t)), some (.int (nI n)), some (.int (nI i))] [] (tn 406 (dr M (minsS S i)) (cT S t i)) := by
    intro k
    induction k with
    | zero =>
      intro i hi
      obtain rfl : n = i := by omega
      refine J_iload C (dA DX2_usualPond_0 4 rfl) rfl ?_
      refine J_iload_n C (dA DX2_usualPond_0 5 rfl) rfl ?_
      first | refine J_icmp_ge_n (tgt := 40) C (by omega) (by omega) (dA DX2_usualPond_0 6 rfl) (by decide) (fun h10 => ?_) (fun h10 => ?_) | refine J_icmp_ge_c (tgt := 40) C (by omega) (dA DX2_usualPond_0 6 rfl) (by decide) (fun h10 => ?_) (fun h10 => ?_) | refine J_icmp_ge_t (tgt := 40) C (dA DX2_usualPond_0 6 rfl) (by decide) (fun h10 => ?_) (fun h10 => ?_)
      · refine J_aload_n C (dA DX2_usualPond_0 24 rfl) rfl ?_
        refine V_X2_leastOfMost C (c_X2_leastOfMost l E (cT S t n) (fun j hj => by have := cT_le S t j n; omega)) wM_RX2_28 (by decide) (dA DX2_usualPond_0 25 rfl) rfl (Nat.le_of_ble_eq_true rfl) ?_
        exact J_iret C G (dA DX2_usualPond_0 26 rfl) ⟨rfl, rfl⟩
      · exfalso; omega
    | succ k ih =>
      intro i hi
      have hmi := drT (M := M) hS (i + 1) (cT S t i)
      have hI := hmi.2.1
      have h31 := lt31 hI (k := t) (by omega)
      have h31b := h31
      rw [hmi.1] at h31b
      have hcl := cT_le S t (f3 (minsS S (i + 1)) t 1) i
      refine J_iload C (dA DX2_usualPond_0 4 rfl) rfl ?_
      refine J_iload_n C (dA DX2_usualPond_0 5 rfl) rfl ?_
      first | refine J_icmp_ge_n (tgt := 40) C (by omega) (by omega) (dA DX2_usualPond_0 6 rfl) (by decide) (fun h10 => ?_) (fun h10 => ?_) | refine J_icmp_ge_c (tgt := 40) C (by omega) (dA DX2_usualPond_0 6 rfl) (by decide) (fun h10 => ?_) (fun h10 => ?_) | refine J_icmp_ge_t (tgt := 40) C (dA DX2_usualPond_0 6 rfl) (by decide) (fun h10 => ?_) (fun h10 => ?_)
      · exfalso; omega
      · refine J_aload_n C (dA DX2_usualPond_0 7 rfl) rfl ?_
        refine V_X1_passMinute C (by decide) (c_drT l E hS i _) wM_RX2_21 (by decide) (dA DX2_usualPond_0 8 rfl) rfl (Nat.le_of_ble_eq_true rfl) ?_
        refine J_aload_n C (dA DX2_usualPond_0 9 rfl) rfl ?_
        refine G_X2_tally C wF_RX2_9 (dA DX2_usualPond_0 10 rfl) ?_
        refine J_aload_n C (dA DX2_usualPond_0 11 rfl) rfl ?_
        refine G_X1_things C (by decide) wF_RX2_15 (dA DX2_usualPond_0 12 rfl) ?_
        refine J_iconst (v := nI 1) C (dA DX2_usualPond_0 13 rfl) (by decide) ?_
        refine R_ft C (by decide) rfl (by omega) (dA DX2_usualPond_0 14 rfl) ?_
        refine J_iload_n C (dA DX2_usualPond_0 15 rfl) rfl ?_
        refine Q_fk C (by decide) hI (by decide) rfl (by omega) (dA DX2_usualPond_0 16 rfl) ?_
        rw [hmi.1]
        refine J_dup2 C (dA DX2_usualPond_0 17 rfl) rfl rfl ?_
        refine R_1 C (hk := rfl) (j := f3 (minsS S (i + 1)) t 1) rfl h31b (dA DX2_usualPond_0 18 rfl) ?_
        rw [tn_at h31b]
        refine J_iconst (v := nI 1) C (dA DX2_usualPond_0 19 rfl) (by decide) ?_
        refine J_iadd_n C (dA DX2_usualPond_0 20 rfl) ?_
        refine S_1 C (hk := rfl) (j := f3 (minsS S (i + 1)) t 1) rfl h31b (dA DX2_usualPond_0 21 rfl) ?_
        first | refine J_inc1_4_5 C (dA DX2_usualPond_0 22 rfl) rfl ?_ | refine J_iinc_4_5 C (dA DX2_usualPond_0 22 rfl) rfl ?_
        refine J_goto (tgt := 7) C (dA DX2_usualPond_0 23 rfl) (by decide) ?_
        rw [tn_upd h31b, cT_s]
        exact ih (i + 1) (by omega)
  refine J_aload_n C (dA DX2_usualPond_0 0 rfl) rfl ?_
  refine V_X2_clearTally C (c_X2_clearTally l E) wM_RX2_25 (by decide) (dA DX2_usualPond_0 1 rfl) rfl (Nat.le_of_ble_eq_true rfl) ?_
  refine J_iconst (v := nI 0) C (dA DX2_usualPond_0 2 rfl) (by decide) ?_
  refine J_ist_4_5 C (dA DX2_usualPond_0 3 rfl) rfl ?_
  exact loop n 0 (Nat.zero_add _)
def eCast7 (a b : Int32) (M : jM) : jM := if inr a 0 ((iN (vb (fb 0) M) : Int) - 1) = true ∧ inr b 1 100 = true then tn 406 (dr M (minsS (vb (fb 0) M) (nv b))) (cT (vb (fb 0) M) (nv a) (nv b)) else Fl 1076 0 M
def eCast8 (a b : Int32) (M : jM) : jM := if inr a 0 ((iN (vb 1100 M) : Int) - 1) = true ∧ inr b 1 100 = true then tn 1509 (asd M) (cT (vb 1100 M) (nv a) (nv b)) else Fl 1502 0 M
set_option maxRecDepth 4000 in
theorem c_X7_cast (l : Launch) (E : jE) (a b : Int32) (hS : IS (vb (fb 0) M))  : K_X7_cast l E [.ref (ja E 59), .int a, .int b] M (aCast (vb (fb 0) M) a b) (eCast7 a b M) := by
  refine CT_intro (own := RX7) (by decide +kernel) rfl (by simp [Value.category]) (Nat.le_of_ble_eq_true rfl) rfl (fun X C G => ?_)
  show J E X 0 [some (.ref (ja E 59)), some (.int a), some (.int b)] [] M
  have hN := leN hS
  refine J_aload_n C (dA DX7_cast_0 0 rfl) rfl ?_
  refine G_X7_fen C wF_RX7_12 (dA DX7_cast_0 1 rfl) ?_
  refine J_iload_n C (dA DX7_cast_0 2 rfl) rfl ?_
  refine V_X1_has C (by decide) (c_X1_has l E _ (by decide) _ hS) wM_RX7_100 (by decide) (dA DX7_cast_0 3 rfl) rfl (Nat.le_of_ble_eq_true rfl) ?_
  refine J_if_eq_b (tgt := 22) C (dA DX7_cast_0 4 rfl) (by decide) (fun h8 => ?_) (fun h8 => ?_)
  · try have g8 := inr_t h8
    try have g8 := inr_f h8
    refine J_aload_n C (dA DX7_cast_0 11 rfl) rfl ?_
    refine J_ldc (v := (-1000001)) C wK_RX7_69 (dA DX7_cast_0 12 rfl) ?_
    refine V_X7_finding C (c_X7_finding l E 0 (by decide) _ (by decide)) wM_RX7_70 (by decide) (dA DX7_cast_0 13 rfl) rfl (Nat.le_of_ble_eq_true rfl) ?_
    exact J_iret C G (dA DX7_cast_0 14 rfl) ⟨oi (by unfold aCast; rw [if_neg (by rintro ⟨z1, z2⟩; try have z1 := inr_t z1; try have z2 := inr_t z2; omega)]; rfl), by unfold eCast7; rw [if_neg (by rintro ⟨z1, z2⟩; try have z1 := inr_t z1; try have z2 := inr_t z2; omega)]⟩
  · try have g8 := inr_t h8
    try have g8 := inr_f h8
    refine J_iload_n C (dA DX7_cast_0 5 rfl) rfl ?_
    refine J_iconst (v := nI 1) C (dA DX7_cast_0 6 rfl) (by decide) ?_
    first | refine J_icmp_lt_n (tgt := 22) C (by omega) (by omega) (dA DX7_cast_0 7 rfl) (by decide) (fun h13 => ?_) (fun h13 => ?_) | refine J_icmp_lt_c (tgt := 22) C (by omega) (dA DX7_cast_0 7 rfl) (by decide) (fun h13 => ?_) (fun h13 => ?_) | refine J_icmp_lt_t (tgt := 22) C (dA DX7_cast_0 7 rfl) (by decide) (fun h13 => ?_) (fun h13 => ?_)
    · try have g13 := inr_t h13
      try have g13 := inr_f h13
      refine J_aload_n C (dA DX7_cast_0 11 rfl) rfl ?_
      refine J_ldc (v := (-1000001)) C wK_RX7_69 (dA DX7_cast_0 12 rfl) ?_
      refine V_X7_finding C (c_X7_finding l E 0 (by decide) _ (by decide)) wM_RX7_70 (by decide) (dA DX7_cast_0 13 rfl) rfl (Nat.le_of_ble_eq_true rfl) ?_
      exact J_iret C G (dA DX7_cast_0 14 rfl) ⟨oi (by unfold aCast; rw [if_neg (by rintro ⟨z1, z2⟩; try have z1 := inr_t z1; try have z2 := inr_t z2; omega)]; rfl), by unfold eCast7; rw [if_neg (by rintro ⟨z1, z2⟩; try have z1 := inr_t z1; try have z2 := inr_t z2; omega)]⟩
    · try have g13 := inr_t h13
      try have g13 := inr_f h13
      refine J_iload_n C (dA DX7_cast_0 8 rfl) rfl ?_
      refine J_bipush (v := nI 100) C (dA DX7_cast_0 9 rfl) (by decide) ?_
      first | refine J_icmp_le_n (tgt := 29) C (by omega) (by omega) (dA DX7_cast_0 10 rfl) (by decide) (fun h19 => ?_) (fun h19 => ?_) | refine J_icmp_le_c (tgt := 29) C (by omega) (dA DX7_cast_0 10 rfl) (by decide) (fun h19 => ?_) (fun h19 => ?_) | refine J_icmp_le_t (tgt := 29) C (dA DX7_cast_0 10 rfl) (by decide) (fun h19 => ?_) (fun h19 => ?_)
      · try have g19 := inr_t h19
        try have g19 := inr_f h19
        obtain ⟨p, hp, rfl⟩ := toNI (x := a) (n := (iN (vb (fb 0) M))) (by omega) (by omega)
        have ta := tI (n := p) (by omega)
        have na : nv (nI p) = p := nv_nI (by omega)
        obtain ⟨w, hw, rfl⟩ := toNI (x := b) (n := 101) (by omega) (by omega)
        have tb := tI (n := w) (by omega)
        have nb : nv (nI w) = w := nv_nI (by omega)
        refine J_aload_n C (dA DX7_cast_0 15 rfl) rfl ?_
        refine G_X7_draft C wF_RX7_16 (dA DX7_cast_0 16 rfl) ?_
        refine J_aload_n C (dA DX7_cast_0 17 rfl) rfl ?_
        refine G_X7_fen C wF_RX7_12 (dA DX7_cast_0 18 rfl) ?_
        refine V_X1_become C (by decide) (c_drb l E) wM_RX7_179 (by decide) (dA DX7_cast_0 19 rfl) rfl (Nat.le_of_ble_eq_true rfl) ?_
        refine J_aload_n C (dA DX7_cast_0 20 rfl) rfl ?_
        refine G_X7_foresight C wF_RX7_36 (dA DX7_cast_0 21 rfl) ?_
        refine J_aload_n C (dA DX7_cast_0 22 rfl) rfl ?_
        refine G_X7_draft C wF_RX7_16 (dA DX7_cast_0 23 rfl) ?_
        refine J_iload_n C (dA DX7_cast_0 24 rfl) rfl ?_
        refine J_iload_n C (dA DX7_cast_0 25 rfl) rfl ?_
        refine V_X2_usualPond C (c_X2_usualPond l E hS p w (by omega) (by omega)) wM_RX7_192 (by decide) (dA DX7_cast_0 26 rfl) rfl (Nat.le_of_ble_eq_true rfl) ?_
        exact J_iret C G (dA DX7_cast_0 27 rfl) ⟨oi (by unfold aCast; rw [if_pos ⟨decide_eq_true (by omega), decide_eq_true (by omega)⟩, na, nb]), by unfold eCast7; rw [if_pos ⟨decide_eq_true (by omega), decide_eq_true (by omega)⟩, na, nb]⟩
      · try have g19 := inr_t h19
        try have g19 := inr_f h19
        refine J_aload_n C (dA DX7_cast_0 11 rfl) rfl ?_
        refine J_ldc (v := (-1000001)) C wK_RX7_69 (dA DX7_cast_0 12 rfl) ?_
        refine V_X7_finding C (c_X7_finding l E 0 (by decide) _ (by decide)) wM_RX7_70 (by decide) (dA DX7_cast_0 13 rfl) rfl (Nat.le_of_ble_eq_true rfl) ?_
        exact J_iret C G (dA DX7_cast_0 14 rfl) ⟨oi (by unfold aCast; rw [if_neg (by rintro ⟨z1, z2⟩; try have z1 := inr_t z1; try have z2 := inr_t z2; omega)]; rfl), by unfold eCast7; rw [if_neg (by rintro ⟨z1, z2⟩; try have z1 := inr_t z1; try have z2 := inr_t z2; omega)]⟩
set_option maxRecDepth 4000 in
theorem c_X8_cast (l : Launch) (E : jE) (a b : Int32) (hS : IS (vb 1100 M))  : K_X8_cast l E [.ref (ja E 60), .int a, .int b] M (aCast (vb 1100 M) a b) (eCast8 a b M) := by
  refine CT_intro (own := RX8) (by decide +kernel) rfl (by simp [Value.category]) (Nat.le_of_ble_eq_true rfl) rfl (fun X C G => ?_)
  show J E X 0 [some (.ref (ja E 60)), some (.int a), some (.int b), none] [] M
  have hN := leN hS
  refine J_aload_n C (dA DX8_cast_0 0 rfl) rfl ?_
  refine J_iload_n C (dA DX8_cast_0 1 rfl) rfl ?_
  refine V_X8_isThing C (c_X8_isThing l E _ hS) wM_RX8_116 (by decide) (dA DX8_cast_0 2 rfl) rfl (Nat.le_of_ble_eq_true rfl) ?_
  refine J_if_eq_b (tgt := 18) C (dA DX8_cast_0 3 rfl) (by decide) (fun h5 => ?_) (fun h5 => ?_)
  · try have g5 := inr_t h5
    try have g5 := inr_f h5
    refine J_aload_n C (dA DX8_cast_0 9 rfl) rfl ?_
    refine J_iconst (v := nI 0) C (dA DX8_cast_0 10 rfl) (by decide) ?_
    refine V_X8_no C (c_X8_no l E _ (by decide)) wM_RX8_106 (by decide) (dA DX8_cast_0 11 rfl) rfl (Nat.le_of_ble_eq_true rfl) ?_
    exact J_iret C G (dA DX8_cast_0 12 rfl) ⟨oi (by unfold aCast; rw [if_neg (by rintro ⟨z1, z2⟩; try have z1 := inr_t z1; try have z2 := inr_t z2; omega)]; rfl), by unfold eCast8; rw [if_neg (by rintro ⟨z1, z2⟩; try have z1 := inr_t z1; try have z2 := inr_t z2; omega)]⟩
  · try have g5 := inr_t h5
    try have g5 := inr_f h5
    refine J_iload_n C (dA DX8_cast_0 4 rfl) rfl ?_
    refine J_iconst (v := nI 1) C (dA DX8_cast_0 5 rfl) (by decide) ?_
    refine J_bipush (v := nI 100) C (dA DX8_cast_0 6 rfl) (by decide) ?_
    refine V_X8_in1 C (c_X8_in1n l E _ _ _ (by decide) (by decide)) wM_RX8_58 (by decide) (dA DX8_cast_0 7 rfl) rfl (Nat.le_of_ble_eq_true rfl) ?_
    refine J_if_ne_b (tgt := 24) C (dA DX8_cast_0 8 rfl) (by decide) (fun h15 => ?_) (fun h15 => ?_)
    · try have g15 := inr_t h15
      try have g15 := inr_f h15
      obtain ⟨p, hp, rfl⟩ := toNI (x := a) (n := (iN (vb 1100 M))) (by omega) (by omega)
      have ta := tI (n := p) (by omega)
      have na : nv (nI p) = p := nv_nI (by omega)
      obtain ⟨w, hw, rfl⟩ := toNI (x := b) (n := 101) (by omega) (by omega)
      have tb := tI (n := w) (by omega)
      have nb : nv (nI w) = w := nv_nI (by omega)
      have loop : ∀ k i, i + k = w → J E X 34 [some (.ref (ja E 60)), some (.int (nI p)), some (.int (nI w)), some (.int (nI i))] [] (tn 1509 (lay 1100 (asd M) (minsS (vb 1100 M) i)) (cT (vb 1100 M) p i)) := by
        intro k
        induction k with
        | zero =>
          intro i hi
          obtain rfl : w = i := by omega
          refine J_iload_n C (dA DX8_cast_0 19 rfl) rfl ?_
          refine J_iload_n C (dA DX8_cast_0 20 rfl) rfl ?_
          first | refine J_icmp_ge_n (tgt := 64) C (by omega) (by omega) (dA DX8_cast_0 21 rfl) (by decide) (fun h36 => ?_) (fun h36 => ?_) | refine J_icmp_ge_c (tgt := 64) C (by omega) (dA DX8_cast_0 21 rfl) (by decide) (fun h36 => ?_) (fun h36 => ?_) | refine J_icmp_ge_t (tgt := 64) C (dA DX8_cast_0 21 rfl) (by decide) (fun h36 => ?_) (fun h36 => ?_)
          · try have g36 := inr_t h36
            try have g36 := inr_f h36
            refine J_aload_n C (dA DX8_cast_0 37 rfl) rfl ?_
            refine V_X8_laysBack C (c_X8_laysBack l E) wM_RX8_168 (by decide) (dA DX8_cast_0 38 rfl) rfl (Nat.le_of_ble_eq_true rfl) ?_
            rw [asd_bT]
            refine J_aload_n C (dA DX8_cast_0 39 rfl) rfl ?_
            refine V_X8_mostOf C (c_X8_mostOf l E (cT (vb 1100 M) p w) (fun j hj => by have := cT_le (vb 1100 M) p j w; omega)) wM_RX8_178 (by decide) (dA DX8_cast_0 40 rfl) rfl (Nat.le_of_ble_eq_true rfl) ?_
            exact J_iret C G (dA DX8_cast_0 41 rfl) ⟨oi (by unfold aCast; rw [if_pos ⟨decide_eq_true (by omega), decide_eq_true (by omega)⟩, na, nb]), by unfold eCast8; rw [if_pos ⟨decide_eq_true (by omega), decide_eq_true (by omega)⟩, na, nb]⟩
          · exfalso; omega
        | succ k ih =>
          intro i hi
          have hmi := miT (M := asd M) hS (i + 1) (cT (vb 1100 M) p i)
          have hI := hmi.2.1
          have h31 := lt31 hI (k := p) (by omega)
          have h31b := h31
          rw [hmi.1] at h31b
          have hcl := cT_le (vb 1100 M) p (f3 (minsS (vb 1100 M) (i + 1)) p 1) i
          refine J_iload_n C (dA DX8_cast_0 19 rfl) rfl ?_
          refine J_iload_n C (dA DX8_cast_0 20 rfl) rfl ?_
          first | refine J_icmp_ge_n (tgt := 64) C (by omega) (by omega) (dA DX8_cast_0 21 rfl) (by decide) (fun h36 => ?_) (fun h36 => ?_) | refine J_icmp_ge_c (tgt := 64) C (by omega) (dA DX8_cast_0 21 rfl) (by decide) (fun h36 => ?_) (fun h36 => ?_) | refine J_icmp_ge_t (tgt := 64) C (dA DX8_cast_0 21 rfl) (by decide) (fun h36 => ?_) (fun h36 => ?_)
          · exfalso; omega
          · try have g36 := inr_t h36
            try have g36 := inr_f h36
            refine J_aload_n C (dA DX8_cast_0 22 rfl) rfl ?_
            refine V_X8_minute C (c_miT l E hS i _) wM_RX8_119 (by decide) (dA DX8_cast_0 23 rfl) rfl (Nat.le_of_ble_eq_true rfl) ?_
            refine J_aload_n C (dA DX8_cast_0 24 rfl) rfl ?_
            refine G_X8_counts C wF_RX8_22 (dA DX8_cast_0 25 rfl) ?_
            refine J_aload_n C (dA DX8_cast_0 26 rfl) rfl ?_
            refine J_iload_n C (dA DX8_cast_0 27 rfl) rfl ?_
            refine J_iconst (v := nI 1) C (dA DX8_cast_0 28 rfl) (by decide) ?_
            refine V_X8_get C (c_X8_get l E p 1 (by omega) (by decide) hI) wM_RX8_62 (by decide) (dA DX8_cast_0 29 rfl) rfl (Nat.le_of_ble_eq_true rfl) ?_
            rw [hmi.1]
            refine J_dup2 C (dA DX8_cast_0 30 rfl) rfl rfl ?_
            refine R_1 C (hk := rfl) (j := f3 (minsS (vb 1100 M) (i + 1)) p 1) rfl h31b (dA DX8_cast_0 31 rfl) ?_
            rw [tn_at h31b]
            refine J_iconst (v := nI 1) C (dA DX8_cast_0 32 rfl) (by decide) ?_
            refine J_iadd_n C (dA DX8_cast_0 33 rfl) ?_
            refine S_1 C (hk := rfl) (j := f3 (minsS (vb 1100 M) (i + 1)) p 1) rfl h31b (dA DX8_cast_0 34 rfl) ?_
            first | refine J_inc1_3_4 C (dA DX8_cast_0 35 rfl) rfl ?_ | refine J_iinc_3_4 C (dA DX8_cast_0 35 rfl) rfl ?_
            refine J_goto (tgt := 34) C (dA DX8_cast_0 36 rfl) (by decide) ?_
            rw [tn_upd h31b, cT_s]
            exact ih (i + 1) (by omega)
      refine J_aload_n C (dA DX8_cast_0 13 rfl) rfl ?_
      refine V_X8_setsAside C (c_X8_setsAside l E) wM_RX8_165 (by decide) (dA DX8_cast_0 14 rfl) rfl (Nat.le_of_ble_eq_true rfl) ?_
      refine J_aload_n C (dA DX8_cast_0 15 rfl) rfl ?_
      refine V_X8_countsNone C (c_X8_countsNone l E) wM_RX8_175 (by decide) (dA DX8_cast_0 16 rfl) rfl (Nat.le_of_ble_eq_true rfl) ?_
      refine J_iconst (v := nI 0) C (dA DX8_cast_0 17 rfl) (by decide) ?_
      refine J_ist_3_4 C (dA DX8_cast_0 18 rfl) rfl ?_
      have h := loop w 0 (Nat.zero_add _)
      rw [show lay 1100 (asd M) (minsS (vb 1100 M) 0) = asd M by rw [← vb_asd (M := M)]; exact lay_vb] at h
      exact h
    · try have g15 := inr_t h15
      try have g15 := inr_f h15
      refine J_aload_n C (dA DX8_cast_0 9 rfl) rfl ?_
      refine J_iconst (v := nI 0) C (dA DX8_cast_0 10 rfl) (by decide) ?_
      refine V_X8_no C (c_X8_no l E _ (by decide)) wM_RX8_106 (by decide) (dA DX8_cast_0 11 rfl) rfl (Nat.le_of_ble_eq_true rfl) ?_
      exact J_iret C G (dA DX8_cast_0 12 rfl) ⟨oi (by unfold aCast; rw [if_neg (by rintro ⟨z1, z2⟩; try have z1 := inr_t z1; try have z2 := inr_t z2; omega)]; rfl), by unfold eCast8; rw [if_neg (by rintro ⟨z1, z2⟩; try have z1 := inr_t z1; try have z2 := inr_t z2; omega)]⟩
end PA
