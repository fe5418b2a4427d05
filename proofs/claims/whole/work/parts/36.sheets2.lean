theorem clr7 {M : jM} {q : Nat} {x n y : Int32} (hq : q < 4) (hy : y = if x = 0 then nI 0 else n) : upd (upd (qs7 M (clN (sv7 M) q 40)) (sb q) x) (sb q + 1) y = qs7 M (clq (sv7 M) q x n) :=
  (congrArg (fun m => upd m (sb q + 1) y) (qs7_u (k := 0) hq (by decide))).trans ((qs7_u (k := 1) hq (by decide)).trans (congrArg (qs7 M) (clq_7 hy)))
theorem Qc_clq {Z : Nat → Nat → Int32} (h : Qc Z) {q : Nat} (hq : q < 4) {x n : Int32} : Qc (clq Z q x n) := fun q' k z => by
  unfold clq
  rw [if_neg (fun e => z ⟨by omega, by omega⟩)]
  exact h q' k z
theorem clq_l7 {M : jM} {q : Nat} {x n : Int32} (hq : q < 4) : (qs7 M (clq (sv7 M) q x n)) (sb q + 1) = if x = 0 then nI 0 else n := by
  rw [sv7_at (M := qs7 M (clq (sv7 M) q x n)) hq (by decide), sv7_qs (Qc_clq (Qc_sv7 M) hq)]
  unfold clq
  rw [if_pos ⟨rfl, by decide⟩, if_neg (by decide), if_pos rfl]
theorem clq_l8 {M : jM} {q : Nat} {x n : Int32} (hq : q < 4) : (qs8 M (clq (sv8 M) q x n)) (1649 + q) = if x = 0 then nI 0 else n := by
  rw [sv8_1 (M := qs8 M (clq (sv8 M) q x n)) hq, sv8_qs (Qc_clq (Qc_sv8 M) hq)]
  unfold clq
  rw [if_pos ⟨rfl, by decide⟩, if_neg (by decide), if_pos rfl]
theorem w7_u {M : jM} {q k : Nat} {x : Int32} (hq : q < 4) (hk : k < 42) : upd M (sb q + k) x = qs7 M (updq (sv7 M) q k x) := by
  have h := qs7_u (M := M) (Z := sv7 M) (x := x) hq hk
  rw [qs7_sv] at h
  exact h
theorem w8_0 {M : jM} {q : Nat} {x : Int32} (hq : q < 4) : upd M (1645 + q) x = qs8 M (updq (sv8 M) q 0 x) := by
  have h := qs8_u0 (M := M) (Z := sv8 M) (x := x) hq
  rw [qs8_sv] at h
  exact h
theorem w8_2 {M : jM} {q j : Nat} {x : Int32} (hq : q < 4) (hj : j < 40) : upd M (1653 + (40 * q + j)) x = qs8 M (updq (sv8 M) q (2 + j) x) := by
  have h := qs8_u2 (M := M) (Z := sv8 M) (x := x) hq hj
  rw [qs8_sv] at h
  exact h
theorem nI_prd : ∀ n, n < 41 → (nI n - nI 1).toInt = (n : Int) - 1 := by decide +kernel
def eSheet (F : Nat) (a b n : Int32) (W M : jM) : jM := if inr a 0 3 = true ∧ isB b = true then (if inr n 0 40 = true then W else if n.toInt < 0 then Fl F 6 M else Fl F 0 M) else Fl F 0 M
def aWrite (Z : Nat → Nat → Int32) (a i : Int32) : Int32 := if lkS Z a = 7 then (if inr i 0 ((nv (Z (nv a) 1) : Int) - 1) = true then nI 1 else fi 0) else fi (lkS Z a)
def eWrite (Z : Nat → Nat → Int32) (F : Nat) (a i : Int32) (W M : jM) : jM := if lkS Z a = 7 then (if inr i 0 ((nv (Z (nv a) 1) : Int) - 1) = true then W else Fl F 0 M) else Fl F (lkS Z a) M
def wrq (Z : Nat → Nat → Int32) (a i v : Int32) : Nat → Nat → Int32 := updq Z (nv a) (2 + nv i) (cut (Z (nv a) 0) v)
section PA
variable {M : jM}
set_option maxRecDepth 4000 in
theorem c_X3_isMissing (l : Launch) (E : jE) (q : Nat) (hq : q < 4)  : K_X3_isMissing l E [.ref (ja E (so q))] M (jb (decide (sv7 M q 0 = 0))) (M) := by
  refine CT_intro (own := RX3) (by decide +kernel) rfl (by simp [Value.category]) (Nat.le_of_ble_eq_true rfl) rfl (fun X C G => ?_)
  show J E X 0 [some (.ref (ja E (so q)))] [] M
  have e0 : M (sb q) = sv7 M q 0 := sv7_at (k := 0) hq (by decide)
  refine J_aload_n C (dA DX3_isMissing_0 0 rfl) rfl ?_
  refine G_X3_bits C hq wF_RX3_15 (dA DX3_isMissing_0 1 rfl) ?_
  rw [e0]
  refine J_if_ne (tgt := 11) C (dA DX3_isMissing_0 2 rfl) (by decide) (fun h4 => ?_) (fun h4 => ?_)
  · refine J_iconst (v := nI 0) C (dA DX3_isMissing_0 5 rfl) (by decide) ?_
    exact J_zret C G rfl (dA DX3_isMissing_0 6 rfl) ⟨oi (zf h4), rfl⟩
  · refine J_iconst (v := nI 1) C (dA DX3_isMissing_0 3 rfl) (by decide) ?_
    refine J_goto (tgt := 12) C (dA DX3_isMissing_0 4 rfl) (by decide) ?_
    exact J_zret C G rfl (dA DX3_isMissing_0 6 rfl) ⟨oi (zt (by first | exact h4 | exact Classical.byContradiction h4)), rfl⟩
set_option maxRecDepth 4000 in
theorem c_X3_clear (l : Launch) (E : jE) (q : Nat) (hq : q < 4) (x n : Int32)  : K_X3_clear l E [.ref (ja E (so q)), .int x, .int n] M (qs7 M (clq (sv7 M) q x n)) := by
  refine CT_intro (own := RX3) (by decide +kernel) rfl (by simp [Value.category]) (Nat.le_of_ble_eq_true rfl) rfl (fun X C G => ?_)
  show J E X 0 [some (.ref (ja E (so q))), some (.int x), some (.int n), none] [] M
  have loop : ∀ k i, i + k = 40 → J E X 2 [some (.ref (ja E (so q))), some (.int x), some (.int n), some (.int (nI i))] [] (qs7 M (clN (sv7 M) q i)) := by
    intro k
    induction k with
    | zero =>
      intro i hi
      obtain rfl : 40 = i := by omega
      refine J_iload_n C (dA DX3_clear_0 2 rfl) rfl ?_
      refine J_bipush (v := nI 40) C (dA DX3_clear_0 3 rfl) (by decide) ?_
      first | refine J_icmp_ge_n (tgt := 21) C (by omega) (by omega) (dA DX3_clear_0 4 rfl) (by decide) (fun h5 => ?_) (fun h5 => ?_) | refine J_icmp_ge_c (tgt := 21) C (by omega) (dA DX3_clear_0 4 rfl) (by decide) (fun h5 => ?_) (fun h5 => ?_) | refine J_icmp_ge_t (tgt := 21) C (dA DX3_clear_0 4 rfl) (by decide) (fun h5 => ?_) (fun h5 => ?_)
      · try have g5 := inr_t h5
        try have g5 := inr_f h5
        refine J_aload_n C (dA DX3_clear_0 12 rfl) rfl ?_
        refine J_iload_n C (dA DX3_clear_0 13 rfl) rfl ?_
        refine P_X3_bits C hq wF_RX3_15 (dA DX3_clear_0 14 rfl) ?_
        refine J_aload_n C (dA DX3_clear_0 15 rfl) rfl ?_
        refine J_iload_n C (dA DX3_clear_0 16 rfl) rfl ?_
        refine J_if_ne (tgt := 35) C (dA DX3_clear_0 17 rfl) (by decide) (fun h28 => ?_) (fun h28 => ?_)
        · refine J_iload_n C (dA DX3_clear_0 20 rfl) rfl ?_
          refine P_X3_length C hq wF_RX3_19 (dA DX3_clear_0 21 rfl) ?_
          exact J_vret C G (dA DX3_clear_0 22 rfl) ⟨rfl, clr7 hq (if_neg h28).symm⟩
        · refine J_iconst (v := nI 0) C (dA DX3_clear_0 18 rfl) (by decide) ?_
          refine J_goto (tgt := 36) C (dA DX3_clear_0 19 rfl) (by decide) ?_
          refine P_X3_length C hq wF_RX3_19 (dA DX3_clear_0 21 rfl) ?_
          exact J_vret C G (dA DX3_clear_0 22 rfl) ⟨rfl, clr7 hq (if_pos (by first | exact h28 | exact Classical.byContradiction h28)).symm⟩
      · exfalso; omega
    | succ k ih =>
      intro i hi
      refine J_iload_n C (dA DX3_clear_0 2 rfl) rfl ?_
      refine J_bipush (v := nI 40) C (dA DX3_clear_0 3 rfl) (by decide) ?_
      first | refine J_icmp_ge_n (tgt := 21) C (by omega) (by omega) (dA DX3_clear_0 4 rfl) (by decide) (fun h5 => ?_) (fun h5 => ?_) | refine J_icmp_ge_c (tgt := 21) C (by omega) (dA DX3_clear_0 4 rfl) (by decide) (fun h5 => ?_) (fun h5 => ?_) | refine J_icmp_ge_t (tgt := 21) C (dA DX3_clear_0 4 rfl) (by decide) (fun h5 => ?_) (fun h5 => ?_)
      · exfalso; omega
      · try have g5 := inr_t h5
        try have g5 := inr_f h5
        refine J_aload_n C (dA DX3_clear_0 5 rfl) rfl ?_
        refine G_X3_numbers C hq wF_RX3_9 (dA DX3_clear_0 6 rfl) ?_
        refine J_iload_n C (dA DX3_clear_0 7 rfl) rfl ?_
        refine J_iconst (v := nI 0) C (dA DX3_clear_0 8 rfl) (by decide) ?_
        refine S_sn C hq rfl (by omega) (dA DX3_clear_0 9 rfl) ?_
        first | refine J_inc1_3_4 C (dA DX3_clear_0 10 rfl) rfl ?_ | refine J_iinc_3_4 C (dA DX3_clear_0 10 rfl) rfl ?_
        refine J_goto (tgt := 2) C (dA DX3_clear_0 11 rfl) (by decide) ?_
        rw [qs7_u hq (by omega), clN_s]
        exact ih (i + 1) (by omega)
  refine J_iconst (v := nI 0) C (dA DX3_clear_0 0 rfl) (by decide) ?_
  refine J_ist_3_4 C (dA DX3_clear_0 1 rfl) rfl ?_
  have h := loop 40 0 (Nat.zero_add _)
  rw [clN_0, qs7_sv] at h
  exact h
set_option maxRecDepth 4000 in
theorem c_X3_put (l : Launch) (E : jE) (q : Nat) (hq : q < 4) (j : Nat) (hj : j < 40) (v : Int32) (hZ : QS (sv7 M))  : K_X3_put l E [.ref (ja E (so q)), .int (nI j), .int v] M (qs7 M (updq (sv7 M) q (2 + j) (cut (sv7 M q 0) v))) := by
  refine CT_intro (own := RX3) (by decide +kernel) rfl (by simp [Value.category]) (Nat.le_of_ble_eq_true rfl) rfl (fun X C G => ?_)
  show J E X 0 [some (.ref (ja E (so q))), some (.int (nI j)), some (.int v)] [] M
  obtain ⟨b, n, hb, hn, e0, e1, h0⟩ := hZ q hq
  have e0r : M (sb q) = sv7 M q 0 := sv7_at (k := 0) hq (by decide)
  refine J_aload_n C (dA DX3_put_0 0 rfl) rfl ?_
  refine G_X3_bits C hq wF_RX3_15 (dA DX3_put_0 1 rfl) ?_
  rw [e0r, e0]
  rcases hb with rfl | rfl | rfl | rfl
  · refine J_lookup C (dA DX3_put_0 2 rfl) (by decide) (off := 50) (by decide) (tgt := 54) (by decide) ?_
    refine J_aload_n C (dA DX3_put_0 17 rfl) rfl ?_
    refine G_X3_numbers C hq wF_RX3_9 (dA DX3_put_0 18 rfl) ?_
    refine J_iload_n C (dA DX3_put_0 19 rfl) rfl ?_
    refine J_iload_n C (dA DX3_put_0 20 rfl) rfl ?_
    refine S_sn C hq rfl (by omega) (dA DX3_put_0 21 rfl) ?_
    exact J_vret C G (dA DX3_put_0 22 rfl) ⟨rfl, by rw [w7_u hq (by omega), e0]; rfl⟩
  · refine J_lookup C (dA DX3_put_0 2 rfl) (by decide) (off := 28) (by decide) (tgt := 32) (by decide) ?_
    refine J_aload_n C (dA DX3_put_0 3 rfl) rfl ?_
    refine G_X3_numbers C hq wF_RX3_9 (dA DX3_put_0 4 rfl) ?_
    refine J_iload_n C (dA DX3_put_0 5 rfl) rfl ?_
    refine J_iload_n C (dA DX3_put_0 6 rfl) rfl ?_
    refine J_i2b C (dA DX3_put_0 7 rfl) ?_
    refine S_sn C hq rfl (by omega) (dA DX3_put_0 8 rfl) ?_
    refine J_goto (tgt := 61) C (dA DX3_put_0 9 rfl) (by decide) ?_
    exact J_vret C G (dA DX3_put_0 22 rfl) ⟨rfl, by rw [w7_u hq (by omega), e0]; rfl⟩
  · refine J_lookup C (dA DX3_put_0 2 rfl) (by decide) (off := 39) (by decide) (tgt := 43) (by decide) ?_
    refine J_aload_n C (dA DX3_put_0 10 rfl) rfl ?_
    refine G_X3_numbers C hq wF_RX3_9 (dA DX3_put_0 11 rfl) ?_
    refine J_iload_n C (dA DX3_put_0 12 rfl) rfl ?_
    refine J_iload_n C (dA DX3_put_0 13 rfl) rfl ?_
    refine J_i2s C (dA DX3_put_0 14 rfl) ?_
    refine S_sn C hq rfl (by omega) (dA DX3_put_0 15 rfl) ?_
    refine J_goto (tgt := 61) C (dA DX3_put_0 16 rfl) (by decide) ?_
    exact J_vret C G (dA DX3_put_0 22 rfl) ⟨rfl, by rw [w7_u hq (by omega), e0]; rfl⟩
  · refine J_lookup C (dA DX3_put_0 2 rfl) (by decide) (off := 50) (by decide) (tgt := 54) (by decide) ?_
    refine J_aload_n C (dA DX3_put_0 17 rfl) rfl ?_
    refine G_X3_numbers C hq wF_RX3_9 (dA DX3_put_0 18 rfl) ?_
    refine J_iload_n C (dA DX3_put_0 19 rfl) rfl ?_
    refine J_iload_n C (dA DX3_put_0 20 rfl) rfl ?_
    refine S_sn C hq rfl (by omega) (dA DX3_put_0 21 rfl) ?_
    exact J_vret C G (dA DX3_put_0 22 rfl) ⟨rfl, by rw [w7_u hq (by omega), e0]; rfl⟩
set_option maxRecDepth 4000 in
theorem c_X7_lackOfSheet (l : Launch) (E : jE) (a : Int32)  : K_X7_lackOfSheet l E [.ref (ja E 59), .int a] M (lk7 (lkS (sv7 M) a)) (M) := by
  refine CT_intro (own := RX7) (by decide +kernel) rfl (by simp [Value.category]) (Nat.le_of_ble_eq_true rfl) rfl (fun X C G => ?_)
  show J E X 0 [some (.ref (ja E 59)), some (.int a)] [] M
  refine J_iload_n C (dA DX7_lackOfSheet_0 0 rfl) rfl ?_
  refine V_X7_isSheet C (c_X7_isSheet l E _) wM_RX7_254 (by decide) (dA DX7_lackOfSheet_0 1 rfl) rfl (Nat.le_of_ble_eq_true rfl) ?_
  refine J_if_ne_b (tgt := 10) C (dA DX7_lackOfSheet_0 2 rfl) (by decide) (fun h4 => ?_) (fun h4 => ?_)
  · try have g4 := inr_t h4
    try have g4 := inr_f h4
    obtain ⟨q, hq, rfl⟩ := toNI (x := a) (n := 4) (by have := inr_t h4; omega) (by have := inr_t h4; omega)
    have na : nv (nI q) = q := nv_nI (by omega)
    refine J_aload_n C (dA DX7_lackOfSheet_0 5 rfl) rfl ?_
    refine G_X7_sheets C wF_RX7_57 (dA DX7_lackOfSheet_0 6 rfl) ?_
    refine J_iload_n C (dA DX7_lackOfSheet_0 7 rfl) rfl ?_
    refine R_sh C rfl (by omega) (dA DX7_lackOfSheet_0 8 rfl) ?_
    refine V_X3_isMissing C hq (c_X3_isMissing l E q hq) wM_RX7_269 (by decide) (dA DX7_lackOfSheet_0 9 rfl) rfl (Nat.le_of_ble_eq_true rfl) ?_
    refine J_if_eq_b (tgt := 27) C (dA DX7_lackOfSheet_0 10 rfl) (by decide) (fun h19 => ?_) (fun h19 => ?_)
    · try have g19 := inr_t h19
      try have g19 := inr_f h19
      refine J_iconst (v := nI 0) C (dA DX7_lackOfSheet_0 13 rfl) (by decide) ?_
      exact J_iret C G (dA DX7_lackOfSheet_0 14 rfl) ⟨oi (by unfold lkS; rw [if_pos h4, na, if_neg (of_decide_eq_false h19)]; rfl), rfl⟩
    · try have g19 := inr_t h19
      try have g19 := inr_f h19
      refine J_ldc (v := (-1000006)) C wK_RX7_249 (dA DX7_lackOfSheet_0 11 rfl) ?_
      refine J_goto (tgt := 28) C (dA DX7_lackOfSheet_0 12 rfl) (by decide) ?_
      exact J_iret C G (dA DX7_lackOfSheet_0 14 rfl) ⟨oi (by unfold lkS; rw [if_pos h4, na, if_pos (of_decide_eq_true h19)]; rfl), rfl⟩
  · try have g4 := inr_t h4
    try have g4 := inr_f h4
    refine J_ldc (v := (-1000001)) C wK_RX7_69 (dA DX7_lackOfSheet_0 3 rfl) ?_
    exact J_iret C G (dA DX7_lackOfSheet_0 4 rfl) ⟨oi (by unfold lkS; rw [if_neg (by rw [h4]; decide)]; rfl), rfl⟩
set_option maxRecDepth 4000 in
theorem c_X8_wrongSheet (l : Launch) (E : jE) (a : Int32)  : K_X8_wrongSheet l E [.ref (ja E 60), .int a] M (lk8 (lkS (sv8 M) a)) (M) := by
  refine CT_intro (own := RX8) (by decide +kernel) rfl (by simp [Value.category]) (Nat.le_of_ble_eq_true rfl) rfl (fun X C G => ?_)
  show J E X 0 [some (.ref (ja E 60)), some (.int a)] [] M
  refine J_iload_n C (dA DX8_wrongSheet_0 0 rfl) rfl ?_
  refine V_X8_isSheet C (c_X8_isSheet l E _) wM_RX8_181 (by decide) (dA DX8_wrongSheet_0 1 rfl) rfl (Nat.le_of_ble_eq_true rfl) ?_
  refine J_if_ne_b (tgt := 11) C (dA DX8_wrongSheet_0 2 rfl) (by decide) (fun h4 => ?_) (fun h4 => ?_)
  · try have g4 := inr_t h4
    try have g4 := inr_f h4
    obtain ⟨q, hq, rfl⟩ := toNI (x := a) (n := 4) (by have := inr_t h4; omega) (by have := inr_t h4; omega)
    have na : nv (nI q) = q := nv_nI (by omega)
    refine J_aload_n C (dA DX8_wrongSheet_0 5 rfl) rfl ?_
    refine G_X8_widths C wF_RX8_41 (dA DX8_wrongSheet_0 6 rfl) ?_
    refine J_iload_n C (dA DX8_wrongSheet_0 7 rfl) rfl ?_
    refine R_1 C (hk := rfl) rfl (by omega) (dA DX8_wrongSheet_0 8 rfl) ?_
    rw [sv8_0 (M := M) hq]
    refine J_if_ne (tgt := 24) C (dA DX8_wrongSheet_0 9 rfl) (by decide) (fun h17 => ?_) (fun h17 => ?_)
    · refine J_iconst (v := (-1)) C (dA DX8_wrongSheet_0 12 rfl) (by decide) ?_
      exact J_iret C G (dA DX8_wrongSheet_0 13 rfl) ⟨oi (by unfold lkS; rw [if_pos h4, na, if_neg h17]; rfl), rfl⟩
    · refine J_iconst (v := nI 5) C (dA DX8_wrongSheet_0 10 rfl) (by decide) ?_
      refine J_goto (tgt := 25) C (dA DX8_wrongSheet_0 11 rfl) (by decide) ?_
      exact J_iret C G (dA DX8_wrongSheet_0 13 rfl) ⟨oi (by unfold lkS; rw [if_pos h4, na, if_pos (by first | exact h17 | exact Classical.byContradiction h17)]; rfl), rfl⟩
  · try have g4 := inr_t h4
    try have g4 := inr_f h4
    refine J_iconst (v := nI 0) C (dA DX8_wrongSheet_0 3 rfl) (by decide) ?_
    refine J_goto (tgt := 25) C (dA DX8_wrongSheet_0 4 rfl) (by decide) ?_
    exact J_iret C G (dA DX8_wrongSheet_0 13 rfl) ⟨oi (by unfold lkS; rw [if_neg (by rw [h4]; decide)]; rfl), rfl⟩
set_option maxRecDepth 4000 in
theorem c_X7_lackOfSight (l : Launch) (E : jE) (a p : Int32)  : K_X7_lackOfSight l E [.ref (ja E 59), .int a, .int p] M (lk7 (lkP (sv7 M) a p)) (M) := by
  refine CT_intro (own := RX7) (by decide +kernel) rfl (by simp [Value.category]) (Nat.le_of_ble_eq_true rfl) rfl (fun X C G => ?_)
  show J E X 0 [some (.ref (ja E 59)), some (.int a), some (.int p), none] [] M
  rcases lkS_c (Z := sv7 M) (a := a) with ⟨hi, e⟩ | ⟨q, hq, rfl, hz, e⟩ | ⟨q, hq, rfl, hz, e⟩
  · refine J_aload_n C (dA DX7_lackOfSight_0 0 rfl) rfl ?_
    refine J_iload_n C (dA DX7_lackOfSight_0 1 rfl) rfl ?_
    refine V_X7_lackOfSheet C (c_X7_lackOfSheet l E _) wM_RX7_214 (by decide) (dA DX7_lackOfSight_0 2 rfl) rfl (Nat.le_of_ble_eq_true rfl) ?_
    rw [e]
    refine J_ist_3_4 C (dA DX7_lackOfSight_0 3 rfl) rfl ?_
    refine J_iload_n C (dA DX7_lackOfSight_0 4 rfl) rfl ?_
    refine J_if_ne (tgt := 22) C (dA DX7_lackOfSight_0 5 rfl) (by decide) (fun h7 => ?_) (fun h7 => ?_)
    · refine J_iload_n C (dA DX7_lackOfSight_0 11 rfl) rfl ?_
      exact J_iret C G (dA DX7_lackOfSight_0 12 rfl) ⟨oi (by unfold lkP; rw [if_neg (by rw [e]; decide), e] <;> rfl), rfl⟩
    · exact absurd h7 (by decide)
  · refine J_aload_n C (dA DX7_lackOfSight_0 0 rfl) rfl ?_
    refine J_iload_n C (dA DX7_lackOfSight_0 1 rfl) rfl ?_
    refine V_X7_lackOfSheet C (c_X7_lackOfSheet l E _) wM_RX7_214 (by decide) (dA DX7_lackOfSight_0 2 rfl) rfl (Nat.le_of_ble_eq_true rfl) ?_
    rw [e]
    refine J_ist_3_4 C (dA DX7_lackOfSight_0 3 rfl) rfl ?_
    refine J_iload_n C (dA DX7_lackOfSight_0 4 rfl) rfl ?_
    refine J_if_ne (tgt := 22) C (dA DX7_lackOfSight_0 5 rfl) (by decide) (fun h7 => ?_) (fun h7 => ?_)
    · refine J_iload_n C (dA DX7_lackOfSight_0 11 rfl) rfl ?_
      exact J_iret C G (dA DX7_lackOfSight_0 12 rfl) ⟨oi (by unfold lkP; rw [if_neg (by rw [e]; decide), e] <;> rfl), rfl⟩
    · exact absurd h7 (by decide)
  · refine J_aload_n C (dA DX7_lackOfSight_0 0 rfl) rfl ?_
    refine J_iload_n C (dA DX7_lackOfSight_0 1 rfl) rfl ?_
    refine V_X7_lackOfSheet C (c_X7_lackOfSheet l E _) wM_RX7_214 (by decide) (dA DX7_lackOfSight_0 2 rfl) rfl (Nat.le_of_ble_eq_true rfl) ?_
    rw [e]
    refine J_ist_3_4 C (dA DX7_lackOfSight_0 3 rfl) rfl ?_
    refine J_iload_n C (dA DX7_lackOfSight_0 4 rfl) rfl ?_
    refine J_if_ne (tgt := 22) C (dA DX7_lackOfSight_0 5 rfl) (by decide) (fun h7 => ?_) (fun h7 => ?_)
    · exact absurd rfl h7
    · refine J_iload_n C (dA DX7_lackOfSight_0 6 rfl) rfl ?_
      refine V_X7_isPond C (c_X7_isPond l E _) wM_RX7_65 (by decide) (dA DX7_lackOfSight_0 7 rfl) rfl (Nat.le_of_ble_eq_true rfl) ?_
      refine J_if_ne_b (tgt := 22) C (dA DX7_lackOfSight_0 8 rfl) (by decide) (fun h14 => ?_) (fun h14 => ?_)
      · try have g14 := inr_t h14
        try have g14 := inr_f h14
        refine J_iload_n C (dA DX7_lackOfSight_0 11 rfl) rfl ?_
        exact J_iret C G (dA DX7_lackOfSight_0 12 rfl) ⟨oi (by unfold lkP; rw [if_pos e, if_pos h14] <;> rfl), rfl⟩
      · try have g14 := inr_t h14
        try have g14 := inr_f h14
        refine J_ldc (v := (-1000001)) C wK_RX7_69 (dA DX7_lackOfSight_0 9 rfl) ?_
        refine J_goto (tgt := 23) C (dA DX7_lackOfSight_0 10 rfl) (by decide) ?_
        exact J_iret C G (dA DX7_lackOfSight_0 12 rfl) ⟨oi (by unfold lkP; rw [if_pos e, if_neg (by rw [h14]; decide)] <;> rfl), rfl⟩

set_option maxRecDepth 4000 in
theorem c_X8_wrongSight (l : Launch) (E : jE) (a p : Int32)  : K_X8_wrongSight l E [.ref (ja E 60), .int a, .int p] M (lk8 (lkP (sv8 M) a p)) (M) := by
  refine CT_intro (own := RX8) (by decide +kernel) rfl (by simp [Value.category]) (Nat.le_of_ble_eq_true rfl) rfl (fun X C G => ?_)
  show J E X 0 [some (.ref (ja E 60)), some (.int a), some (.int p), none] [] M
  rcases lkS_c (Z := sv8 M) (a := a) with ⟨hi, e⟩ | ⟨q, hq, rfl, hz, e⟩ | ⟨q, hq, rfl, hz, e⟩
  · refine J_aload_n C (dA DX8_wrongSight_0 0 rfl) rfl ?_
    refine J_iload_n C (dA DX8_wrongSight_0 1 rfl) rfl ?_
    refine V_X8_wrongSheet C (c_X8_wrongSheet l E _) wM_RX8_184 (by decide) (dA DX8_wrongSight_0 2 rfl) rfl (Nat.le_of_ble_eq_true rfl) ?_
    rw [e]
    refine J_ist_3_4 C (dA DX8_wrongSight_0 3 rfl) rfl ?_
    refine J_iload_n C (dA DX8_wrongSight_0 4 rfl) rfl ?_
    refine J_if_lt (tgt := 14) C (dA DX8_wrongSight_0 5 rfl) (by decide) (fun h7 => ?_) (fun h7 => ?_)
    · exact absurd h7 (by decide)
    · refine J_iload_n C (dA DX8_wrongSight_0 6 rfl) rfl ?_
      refine J_goto (tgt := 26) C (dA DX8_wrongSight_0 7 rfl) (by decide) ?_
      exact J_iret C G (dA DX8_wrongSight_0 14 rfl) ⟨oi (by unfold lkP; rw [if_neg (by rw [e]; decide), e] <;> rfl), rfl⟩
  · refine J_aload_n C (dA DX8_wrongSight_0 0 rfl) rfl ?_
    refine J_iload_n C (dA DX8_wrongSight_0 1 rfl) rfl ?_
    refine V_X8_wrongSheet C (c_X8_wrongSheet l E _) wM_RX8_184 (by decide) (dA DX8_wrongSight_0 2 rfl) rfl (Nat.le_of_ble_eq_true rfl) ?_
    rw [e]
    refine J_ist_3_4 C (dA DX8_wrongSight_0 3 rfl) rfl ?_
    refine J_iload_n C (dA DX8_wrongSight_0 4 rfl) rfl ?_
    refine J_if_lt (tgt := 14) C (dA DX8_wrongSight_0 5 rfl) (by decide) (fun h7 => ?_) (fun h7 => ?_)
    · exact absurd h7 (by decide)
    · refine J_iload_n C (dA DX8_wrongSight_0 6 rfl) rfl ?_
      refine J_goto (tgt := 26) C (dA DX8_wrongSight_0 7 rfl) (by decide) ?_
      exact J_iret C G (dA DX8_wrongSight_0 14 rfl) ⟨oi (by unfold lkP; rw [if_neg (by rw [e]; decide), e] <;> rfl), rfl⟩
  · refine J_aload_n C (dA DX8_wrongSight_0 0 rfl) rfl ?_
    refine J_iload_n C (dA DX8_wrongSight_0 1 rfl) rfl ?_
    refine V_X8_wrongSheet C (c_X8_wrongSheet l E _) wM_RX8_184 (by decide) (dA DX8_wrongSight_0 2 rfl) rfl (Nat.le_of_ble_eq_true rfl) ?_
    rw [e]
    refine J_ist_3_4 C (dA DX8_wrongSight_0 3 rfl) rfl ?_
    refine J_iload_n C (dA DX8_wrongSight_0 4 rfl) rfl ?_
    refine J_if_lt (tgt := 14) C (dA DX8_wrongSight_0 5 rfl) (by decide) (fun h7 => ?_) (fun h7 => ?_)
    · refine J_iload_n C (dA DX8_wrongSight_0 8 rfl) rfl ?_
      refine V_X8_isPond C (c_X8_isPond l E _) wM_RX8_102 (by decide) (dA DX8_wrongSight_0 9 rfl) rfl (Nat.le_of_ble_eq_true rfl) ?_
      refine J_if_eq_b (tgt := 25) C (dA DX8_wrongSight_0 10 rfl) (by decide) (fun h18 => ?_) (fun h18 => ?_)
      · try have g18 := inr_t h18
        try have g18 := inr_f h18
        refine J_iconst (v := nI 0) C (dA DX8_wrongSight_0 13 rfl) (by decide) ?_
        exact J_iret C G (dA DX8_wrongSight_0 14 rfl) ⟨oi (by unfold lkP; rw [if_pos e, if_neg (by rw [show inr p 0 15 = false from h18]; decide)] <;> rfl), rfl⟩
      · try have g18 := inr_t h18
        try have g18 := inr_f h18
        refine J_iconst (v := (-1)) C (dA DX8_wrongSight_0 11 rfl) (by decide) ?_
        refine J_goto (tgt := 26) C (dA DX8_wrongSight_0 12 rfl) (by decide) ?_
        exact J_iret C G (dA DX8_wrongSight_0 14 rfl) ⟨oi (by unfold lkP; rw [if_pos e, if_pos h18] <;> rfl), rfl⟩
    · exact absurd h7 (by decide)

set_option maxRecDepth 4000 in
theorem c_X8_told (l : Launch) (E : jE) (q j : Nat) (hq : q < 4) (hj : j < 40)  : K_X8_told l E [.ref (ja E 60), .int (nI q), .int (nI j)] M (sv8 M q (2 + j)) (M) := by
  refine CT_intro (own := RX8) (by decide +kernel) rfl (by simp [Value.category]) (Nat.le_of_ble_eq_true rfl) rfl (fun X C G => ?_)
  show J E X 0 [some (.ref (ja E 60)), some (.int (nI q)), some (.int (nI j))] [] M
  refine J_aload_n C (dA DX8_told_0 0 rfl) rfl ?_
  refine G_X8_cells C wF_RX8_47 (dA DX8_told_0 1 rfl) ?_
  refine J_bipush (v := nI 40) C (dA DX8_told_0 2 rfl) (by decide) ?_
  refine J_iload_n C (dA DX8_told_0 3 rfl) rfl ?_
  first | refine J_imul_n C (dA DX8_told_0 4 rfl) ?_ | refine J_imul C (dA DX8_told_0 4 rfl) ?_
  refine J_iload_n C (dA DX8_told_0 5 rfl) rfl ?_
  first | refine J_iadd_n C (dA DX8_told_0 6 rfl) ?_ | refine J_iadd C (dA DX8_told_0 6 rfl) ?_
  refine R_1 C (hk := rfl) (j := 40 * q + j) rfl (by omega) (dA DX8_told_0 7 rfl) ?_
  rw [sv8_2 (M := M) hq hj]
  exact J_iret C G (dA DX8_told_0 8 rfl) ⟨rfl, rfl⟩
end PA
