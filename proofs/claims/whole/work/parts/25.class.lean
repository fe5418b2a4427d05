/-- the finding of number k -/
def fi (k : Nat) : Int32 := (-1000001) - nI k
section MM
variable {M : jM}
set_option maxRecDepth 4000 in
theorem c_X7_isPond (l : Launch) (E : jE) (x : Int32)  : K_X7_isPond l E [.int x] M (jb (inr x 0 15)) (M) := by
  refine CT_intro (own := RX7) (by decide +kernel) rfl (by simp [Value.category]) (Nat.le_of_ble_eq_true rfl) rfl (fun X C G => ?_)
  show J E X 0 [some (.int x)] [] M
  refine J_iload_n C (dA DX7_isPond_0 0 rfl) rfl ?_
  first | refine J_if_lt_n (tgt := 14) C (by omega) (dA DX7_isPond_0 1 rfl) (by decide) (fun h1 => ?_) (fun h1 => ?_) | refine J_if_lt_t (tgt := 14) C (dA DX7_isPond_0 1 rfl) (by decide) (fun h1 => ?_) (fun h1 => ?_)
  · refine J_iconst (v := nI 0) C (dA DX7_isPond_0 7 rfl) (by decide) ?_
    first | exact J_zret C G rfl (dA DX7_isPond_0 8 rfl) ⟨oi (zt (by omega)), rfl⟩ | exact J_zret C G rfl (dA DX7_isPond_0 8 rfl) ⟨oi (zf (by omega)), rfl⟩
  · refine J_iload_n C (dA DX7_isPond_0 2 rfl) rfl ?_
    refine J_bipush (v := nI 16) C (dA DX7_isPond_0 3 rfl) (by decide) ?_
    first | refine J_icmp_ge_n (tgt := 14) C (by omega) (by omega) (dA DX7_isPond_0 4 rfl) (by decide) (fun h7 => ?_) (fun h7 => ?_) | refine J_icmp_ge_c (tgt := 14) C (by omega) (dA DX7_isPond_0 4 rfl) (by decide) (fun h7 => ?_) (fun h7 => ?_) | refine J_icmp_ge_t (tgt := 14) C (dA DX7_isPond_0 4 rfl) (by decide) (fun h7 => ?_) (fun h7 => ?_)
    · refine J_iconst (v := nI 0) C (dA DX7_isPond_0 7 rfl) (by decide) ?_
      first | exact J_zret C G rfl (dA DX7_isPond_0 8 rfl) ⟨oi (zt (by omega)), rfl⟩ | exact J_zret C G rfl (dA DX7_isPond_0 8 rfl) ⟨oi (zf (by omega)), rfl⟩
    · refine J_iconst (v := nI 1) C (dA DX7_isPond_0 5 rfl) (by decide) ?_
      refine J_goto (tgt := 15) C (dA DX7_isPond_0 6 rfl) (by decide) ?_
      first | exact J_zret C G rfl (dA DX7_isPond_0 8 rfl) ⟨oi (zt (by omega)), rfl⟩ | exact J_zret C G rfl (dA DX7_isPond_0 8 rfl) ⟨oi (zf (by omega)), rfl⟩
set_option maxRecDepth 4000 in
theorem c_X7_isKind (l : Launch) (E : jE) (x : Int32)  : K_X7_isKind l E [.int x] M (jb (inr x 0 6)) (M) := by
  refine CT_intro (own := RX7) (by decide +kernel) rfl (by simp [Value.category]) (Nat.le_of_ble_eq_true rfl) rfl (fun X C G => ?_)
  show J E X 0 [some (.int x)] [] M
  refine J_iload_n C (dA DX7_isKind_0 0 rfl) rfl ?_
  first | refine J_if_lt_n (tgt := 14) C (by omega) (dA DX7_isKind_0 1 rfl) (by decide) (fun h1 => ?_) (fun h1 => ?_) | refine J_if_lt_t (tgt := 14) C (dA DX7_isKind_0 1 rfl) (by decide) (fun h1 => ?_) (fun h1 => ?_)
  · refine J_iconst (v := nI 0) C (dA DX7_isKind_0 7 rfl) (by decide) ?_
    first | exact J_zret C G rfl (dA DX7_isKind_0 8 rfl) ⟨oi (zt (by omega)), rfl⟩ | exact J_zret C G rfl (dA DX7_isKind_0 8 rfl) ⟨oi (zf (by omega)), rfl⟩
  · refine J_iload_n C (dA DX7_isKind_0 2 rfl) rfl ?_
    refine J_bipush (v := nI 7) C (dA DX7_isKind_0 3 rfl) (by decide) ?_
    first | refine J_icmp_ge_n (tgt := 14) C (by omega) (by omega) (dA DX7_isKind_0 4 rfl) (by decide) (fun h7 => ?_) (fun h7 => ?_) | refine J_icmp_ge_c (tgt := 14) C (by omega) (dA DX7_isKind_0 4 rfl) (by decide) (fun h7 => ?_) (fun h7 => ?_) | refine J_icmp_ge_t (tgt := 14) C (dA DX7_isKind_0 4 rfl) (by decide) (fun h7 => ?_) (fun h7 => ?_)
    · refine J_iconst (v := nI 0) C (dA DX7_isKind_0 7 rfl) (by decide) ?_
      first | exact J_zret C G rfl (dA DX7_isKind_0 8 rfl) ⟨oi (zt (by omega)), rfl⟩ | exact J_zret C G rfl (dA DX7_isKind_0 8 rfl) ⟨oi (zf (by omega)), rfl⟩
    · refine J_iconst (v := nI 1) C (dA DX7_isKind_0 5 rfl) (by decide) ?_
      refine J_goto (tgt := 15) C (dA DX7_isKind_0 6 rfl) (by decide) ?_
      first | exact J_zret C G rfl (dA DX7_isKind_0 8 rfl) ⟨oi (zt (by omega)), rfl⟩ | exact J_zret C G rfl (dA DX7_isKind_0 8 rfl) ⟨oi (zf (by omega)), rfl⟩
set_option maxRecDepth 4000 in
theorem c_X7_isSpot (l : Launch) (E : jE) (x : Int32)  : K_X7_isSpot l E [.int x] M (jb (inr x 0 9)) (M) := by
  refine CT_intro (own := RX7) (by decide +kernel) rfl (by simp [Value.category]) (Nat.le_of_ble_eq_true rfl) rfl (fun X C G => ?_)
  show J E X 0 [some (.int x)] [] M
  refine J_iload_n C (dA DX7_isSpot_0 0 rfl) rfl ?_
  first | refine J_if_lt_n (tgt := 14) C (by omega) (dA DX7_isSpot_0 1 rfl) (by decide) (fun h1 => ?_) (fun h1 => ?_) | refine J_if_lt_t (tgt := 14) C (dA DX7_isSpot_0 1 rfl) (by decide) (fun h1 => ?_) (fun h1 => ?_)
  · refine J_iconst (v := nI 0) C (dA DX7_isSpot_0 7 rfl) (by decide) ?_
    first | exact J_zret C G rfl (dA DX7_isSpot_0 8 rfl) ⟨oi (zt (by omega)), rfl⟩ | exact J_zret C G rfl (dA DX7_isSpot_0 8 rfl) ⟨oi (zf (by omega)), rfl⟩
  · refine J_iload_n C (dA DX7_isSpot_0 2 rfl) rfl ?_
    refine J_bipush (v := nI 10) C (dA DX7_isSpot_0 3 rfl) (by decide) ?_
    first | refine J_icmp_ge_n (tgt := 14) C (by omega) (by omega) (dA DX7_isSpot_0 4 rfl) (by decide) (fun h7 => ?_) (fun h7 => ?_) | refine J_icmp_ge_c (tgt := 14) C (by omega) (dA DX7_isSpot_0 4 rfl) (by decide) (fun h7 => ?_) (fun h7 => ?_) | refine J_icmp_ge_t (tgt := 14) C (dA DX7_isSpot_0 4 rfl) (by decide) (fun h7 => ?_) (fun h7 => ?_)
    · refine J_iconst (v := nI 0) C (dA DX7_isSpot_0 7 rfl) (by decide) ?_
      first | exact J_zret C G rfl (dA DX7_isSpot_0 8 rfl) ⟨oi (zt (by omega)), rfl⟩ | exact J_zret C G rfl (dA DX7_isSpot_0 8 rfl) ⟨oi (zf (by omega)), rfl⟩
    · refine J_iconst (v := nI 1) C (dA DX7_isSpot_0 5 rfl) (by decide) ?_
      refine J_goto (tgt := 15) C (dA DX7_isSpot_0 6 rfl) (by decide) ?_
      first | exact J_zret C G rfl (dA DX7_isSpot_0 8 rfl) ⟨oi (zt (by omega)), rfl⟩ | exact J_zret C G rfl (dA DX7_isSpot_0 8 rfl) ⟨oi (zf (by omega)), rfl⟩
set_option maxRecDepth 4000 in
theorem c_X7_isSheet (l : Launch) (E : jE) (x : Int32)  : K_X7_isSheet l E [.int x] M (jb (inr x 0 3)) (M) := by
  refine CT_intro (own := RX7) (by decide +kernel) rfl (by simp [Value.category]) (Nat.le_of_ble_eq_true rfl) rfl (fun X C G => ?_)
  show J E X 0 [some (.int x)] [] M
  refine J_iload_n C (dA DX7_isSheet_0 0 rfl) rfl ?_
  first | refine J_if_lt_n (tgt := 13) C (by omega) (dA DX7_isSheet_0 1 rfl) (by decide) (fun h1 => ?_) (fun h1 => ?_) | refine J_if_lt_t (tgt := 13) C (dA DX7_isSheet_0 1 rfl) (by decide) (fun h1 => ?_) (fun h1 => ?_)
  · refine J_iconst (v := nI 0) C (dA DX7_isSheet_0 7 rfl) (by decide) ?_
    first | exact J_zret C G rfl (dA DX7_isSheet_0 8 rfl) ⟨oi (zt (by omega)), rfl⟩ | exact J_zret C G rfl (dA DX7_isSheet_0 8 rfl) ⟨oi (zf (by omega)), rfl⟩
  · refine J_iload_n C (dA DX7_isSheet_0 2 rfl) rfl ?_
    refine J_iconst (v := nI 4) C (dA DX7_isSheet_0 3 rfl) (by decide) ?_
    first | refine J_icmp_ge_n (tgt := 13) C (by omega) (by omega) (dA DX7_isSheet_0 4 rfl) (by decide) (fun h6 => ?_) (fun h6 => ?_) | refine J_icmp_ge_c (tgt := 13) C (by omega) (dA DX7_isSheet_0 4 rfl) (by decide) (fun h6 => ?_) (fun h6 => ?_) | refine J_icmp_ge_t (tgt := 13) C (dA DX7_isSheet_0 4 rfl) (by decide) (fun h6 => ?_) (fun h6 => ?_)
    · refine J_iconst (v := nI 0) C (dA DX7_isSheet_0 7 rfl) (by decide) ?_
      first | exact J_zret C G rfl (dA DX7_isSheet_0 8 rfl) ⟨oi (zt (by omega)), rfl⟩ | exact J_zret C G rfl (dA DX7_isSheet_0 8 rfl) ⟨oi (zf (by omega)), rfl⟩
    · refine J_iconst (v := nI 1) C (dA DX7_isSheet_0 5 rfl) (by decide) ?_
      refine J_goto (tgt := 14) C (dA DX7_isSheet_0 6 rfl) (by decide) ?_
      first | exact J_zret C G rfl (dA DX7_isSheet_0 8 rfl) ⟨oi (zt (by omega)), rfl⟩ | exact J_zret C G rfl (dA DX7_isSheet_0 8 rfl) ⟨oi (zf (by omega)), rfl⟩
set_option maxRecDepth 4000 in
theorem c_X7_isSteps (l : Launch) (E : jE) (x : Int32)  : K_X7_isSteps l E [.int x] M (jb (inr x 0 16)) (M) := by
  refine CT_intro (own := RX7) (by decide +kernel) rfl (by simp [Value.category]) (Nat.le_of_ble_eq_true rfl) rfl (fun X C G => ?_)
  show J E X 0 [some (.int x)] [] M
  refine J_iload_n C (dA DX7_isSteps_0 0 rfl) rfl ?_
  first | refine J_if_lt_n (tgt := 14) C (by omega) (dA DX7_isSteps_0 1 rfl) (by decide) (fun h1 => ?_) (fun h1 => ?_) | refine J_if_lt_t (tgt := 14) C (dA DX7_isSteps_0 1 rfl) (by decide) (fun h1 => ?_) (fun h1 => ?_)
  · refine J_iconst (v := nI 0) C (dA DX7_isSteps_0 7 rfl) (by decide) ?_
    first | exact J_zret C G rfl (dA DX7_isSteps_0 8 rfl) ⟨oi (zt (by omega)), rfl⟩ | exact J_zret C G rfl (dA DX7_isSteps_0 8 rfl) ⟨oi (zf (by omega)), rfl⟩
  · refine J_iload_n C (dA DX7_isSteps_0 2 rfl) rfl ?_
    refine J_bipush (v := nI 16) C (dA DX7_isSteps_0 3 rfl) (by decide) ?_
    first | refine J_icmp_gt_n (tgt := 14) C (by omega) (by omega) (dA DX7_isSteps_0 4 rfl) (by decide) (fun h7 => ?_) (fun h7 => ?_) | refine J_icmp_gt_c (tgt := 14) C (by omega) (dA DX7_isSteps_0 4 rfl) (by decide) (fun h7 => ?_) (fun h7 => ?_) | refine J_icmp_gt_t (tgt := 14) C (dA DX7_isSteps_0 4 rfl) (by decide) (fun h7 => ?_) (fun h7 => ?_)
    · refine J_iconst (v := nI 0) C (dA DX7_isSteps_0 7 rfl) (by decide) ?_
      first | exact J_zret C G rfl (dA DX7_isSteps_0 8 rfl) ⟨oi (zt (by omega)), rfl⟩ | exact J_zret C G rfl (dA DX7_isSteps_0 8 rfl) ⟨oi (zf (by omega)), rfl⟩
    · refine J_iconst (v := nI 1) C (dA DX7_isSteps_0 5 rfl) (by decide) ?_
      refine J_goto (tgt := 15) C (dA DX7_isSteps_0 6 rfl) (by decide) ?_
      first | exact J_zret C G rfl (dA DX7_isSteps_0 8 rfl) ⟨oi (zt (by omega)), rfl⟩ | exact J_zret C G rfl (dA DX7_isSteps_0 8 rfl) ⟨oi (zf (by omega)), rfl⟩
set_option maxRecDepth 4000 in
theorem c_X8_isSheet (l : Launch) (E : jE) (x : Int32)  : K_X8_isSheet l E [.int x] M (jb (inr x 0 3)) (M) := by
  refine CT_intro (own := RX8) (by decide +kernel) rfl (by simp [Value.category]) (Nat.le_of_ble_eq_true rfl) rfl (fun X C G => ?_)
  show J E X 0 [some (.int x)] [] M
  refine J_iload_n C (dA DX8_isSheet_0 0 rfl) rfl ?_
  refine J_iconst (v := nI 0) C (dA DX8_isSheet_0 1 rfl) (by decide) ?_
  refine J_iconst (v := nI 3) C (dA DX8_isSheet_0 2 rfl) (by decide) ?_
  refine V_X8_in1 C (c_X8_in1 l E _ _ _) wM_RX8_58 (by decide) (dA DX8_isSheet_0 3 rfl) rfl (Nat.le_of_ble_eq_true rfl) ?_
  exact J_zret C G (jb_z _) (dA DX8_isSheet_0 4 rfl) ⟨rfl, rfl⟩
set_option maxRecDepth 4000 in
theorem c_X8_isSpot (l : Launch) (E : jE) (x : Int32)  : K_X8_isSpot l E [.int x] M (jb (inr x 0 9)) (M) := by
  refine CT_intro (own := RX8) (by decide +kernel) rfl (by simp [Value.category]) (Nat.le_of_ble_eq_true rfl) rfl (fun X C G => ?_)
  show J E X 0 [some (.int x)] [] M
  refine J_iload_n C (dA DX8_isSpot_0 0 rfl) rfl ?_
  refine J_iconst (v := nI 0) C (dA DX8_isSpot_0 1 rfl) (by decide) ?_
  refine J_bipush (v := nI 9) C (dA DX8_isSpot_0 2 rfl) (by decide) ?_
  refine V_X8_in1 C (c_X8_in1 l E _ _ _) wM_RX8_58 (by decide) (dA DX8_isSpot_0 3 rfl) rfl (Nat.le_of_ble_eq_true rfl) ?_
  exact J_zret C G (jb_z _) (dA DX8_isSpot_0 4 rfl) ⟨rfl, rfl⟩
theorem c_X8_in1n (l : Launch) (E : jE) (x : Int32) (a b : Nat) (ha : a < 2 ^ 31) (hb : b < 2 ^ 31) : K_X8_in1 l E [.int x, .int (nI a), .int (nI b)] M (jb (inr x (a : Int) (b : Int))) M := by
  have h := c_X8_in1 (M := M) l E x (nI a) (nI b)
  rw [tI ha, tI hb] at h
  exact h
set_option maxRecDepth 4000 in
theorem c_X7_isBits (l : Launch) (E : jE) (x : Int32)  : K_X7_isBits l E [.int x] M (jb (decide (x = 0 ∨ x.toInt = 8 ∨ x.toInt = 16 ∨ x.toInt = 32))) (M) := by
  refine CT_intro (own := RX7) (by decide +kernel) rfl (by simp [Value.category]) (Nat.le_of_ble_eq_true rfl) rfl (fun X C G => ?_)
  show J E X 0 [some (.int x)] [] M
  refine J_iload_n C (dA DX7_isBits_0 0 rfl) rfl ?_
  refine J_if_eq (tgt := 22) C (dA DX7_isBits_0 1 rfl) (by decide) (fun h1 => ?_) (fun h1 => ?_)
  · refine J_iconst (v := nI 1) C (dA DX7_isBits_0 11 rfl) (by decide) ?_
    refine J_goto (tgt := 27) C (dA DX7_isBits_0 12 rfl) (by decide) ?_
    exact J_zret C G rfl (dA DX7_isBits_0 14 rfl) ⟨oi (by first | exact zt (Or.inl h1) | exact zt (Or.inr (by omega)) | exact zf (fun z => z.elim h1 (fun z => by omega))), rfl⟩
  · refine J_iload_n C (dA DX7_isBits_0 2 rfl) rfl ?_
    refine J_bipush (v := nI 8) C (dA DX7_isBits_0 3 rfl) (by decide) ?_
    refine J_icmp_eq_c (tgt := 22) C (by decide) (dA DX7_isBits_0 4 rfl) (by decide) (fun h7 => ?_) (fun h7 => ?_)
    · refine J_iconst (v := nI 1) C (dA DX7_isBits_0 11 rfl) (by decide) ?_
      refine J_goto (tgt := 27) C (dA DX7_isBits_0 12 rfl) (by decide) ?_
      exact J_zret C G rfl (dA DX7_isBits_0 14 rfl) ⟨oi (by first | exact zt (Or.inl h1) | exact zt (Or.inr (by omega)) | exact zf (fun z => z.elim h1 (fun z => by omega))), rfl⟩
    · refine J_iload_n C (dA DX7_isBits_0 5 rfl) rfl ?_
      refine J_bipush (v := nI 16) C (dA DX7_isBits_0 6 rfl) (by decide) ?_
      refine J_icmp_eq_c (tgt := 22) C (by decide) (dA DX7_isBits_0 7 rfl) (by decide) (fun h13 => ?_) (fun h13 => ?_)
      · refine J_iconst (v := nI 1) C (dA DX7_isBits_0 11 rfl) (by decide) ?_
        refine J_goto (tgt := 27) C (dA DX7_isBits_0 12 rfl) (by decide) ?_
        exact J_zret C G rfl (dA DX7_isBits_0 14 rfl) ⟨oi (by first | exact zt (Or.inl h1) | exact zt (Or.inr (by omega)) | exact zf (fun z => z.elim h1 (fun z => by omega))), rfl⟩
      · refine J_iload_n C (dA DX7_isBits_0 8 rfl) rfl ?_
        refine J_bipush (v := nI 32) C (dA DX7_isBits_0 9 rfl) (by decide) ?_
        refine J_icmp_ne_c (tgt := 26) C (by decide) (dA DX7_isBits_0 10 rfl) (by decide) (fun h19 => ?_) (fun h19 => ?_)
        · refine J_iconst (v := nI 0) C (dA DX7_isBits_0 13 rfl) (by decide) ?_
          exact J_zret C G rfl (dA DX7_isBits_0 14 rfl) ⟨oi (by first | exact zt (Or.inl h1) | exact zt (Or.inr (by omega)) | exact zf (fun z => z.elim h1 (fun z => by omega))), rfl⟩
        · refine J_iconst (v := nI 1) C (dA DX7_isBits_0 11 rfl) (by decide) ?_
          refine J_goto (tgt := 27) C (dA DX7_isBits_0 12 rfl) (by decide) ?_
          exact J_zret C G rfl (dA DX7_isBits_0 14 rfl) ⟨oi (by first | exact zt (Or.inl h1) | exact zt (Or.inr (by omega)) | exact zf (fun z => z.elim h1 (fun z => by omega))), rfl⟩
def okP (p w v : Int32) : Bool := inr w 0 5 && (inr v ((jtV 0).getD (nv w) 0).toInt ((jtV 1).getD (nv w) 0).toInt && !(decide (w = 0) && decide (v = p)))
def okT (w v : Int32) : Bool := inr w 0 2 && inr v ((jtV 2).getD (nv w) 0).toInt ((jtV 3).getD (nv w) 0).toInt
theorem inr_c {x : Int32} {a b : Int} : inr x a b = decide (a ≤ x.toInt ∧ x.toInt ≤ b) := rfl
theorem nI_eq0 {n : Nat} (h : n < 2 ^ 31) : nI n = 0 ↔ n = 0 := by rw [← nI_0]; exact nI_eq h (by decide)
set_option maxRecDepth 4000 in
theorem c_X7_fitsPond (l : Launch) (E : jE) (p w v : Int32)  : K_X7_fitsPond l E [.int p, .int w, .int v] M (jb (okP p w v)) (M) := by
  refine CT_intro (own := RX7) (by decide +kernel) rfl (by simp [Value.category]) (Nat.le_of_ble_eq_true rfl) rfl (fun X C G => ?_)
  show J E X 0 [some (.int p), some (.int w), some (.int v)] [] M
  refine J_iload_n C (dA DX7_fitsPond_0 0 rfl) rfl ?_
  refine J_if_lt_t (tgt := 9) C (dA DX7_fitsPond_0 1 rfl) (by decide) (fun h1 => ?_) (fun h1 => ?_)
  · refine J_iconst (v := nI 0) C (dA DX7_fitsPond_0 5 rfl) (by decide) ?_
    exact J_zret C G rfl (dA DX7_fitsPond_0 6 rfl) ⟨oi (bt_f (by unfold okP; rw [inr_c (x := w), decide_eq_false (by omega)]; rfl)), rfl⟩
  · refine J_iload_n C (dA DX7_fitsPond_0 2 rfl) rfl ?_
    refine J_iconst (v := nI 5) C (dA DX7_fitsPond_0 3 rfl) (by decide) ?_
    refine J_icmp_le_c (tgt := 11) C (by decide) (dA DX7_fitsPond_0 4 rfl) (by decide) (fun h6 => ?_) (fun h6 => ?_)
    · obtain ⟨j, hj, rfl⟩ := toNI (x := w) (n := 6) (by omega) (by omega)
      have hjn : nv (nI j) = j := nv_nI (by omega)
      have q1 : inr (nI j) 0 5 = true := by rw [inr_n (by omega)]; exact decide_eq_true (by omega)
      refine J_iload_n C (dA DX7_fitsPond_0 7 rfl) rfl ?_
      refine J_if_ne_n (tgt := 22) C (by omega) (dA DX7_fitsPond_0 8 rfl) (by decide) (fun h12 => ?_) (fun h12 => ?_)
      · refine J_iload_n C (dA DX7_fitsPond_0 14 rfl) rfl ?_
        refine J_gets C (k := 0) (by decide) wF_RX7_298 (dA DX7_fitsPond_0 15 rfl) ?_
        refine J_iload_n C (dA DX7_fitsPond_0 16 rfl) rfl ?_
        refine J_tab C (k := 0) (j := j) (by decide) rfl (by simpa [jtV] using hj) (dA DX7_fitsPond_0 17 rfl) ?_
        refine J_icmp_lt_t (tgt := 44) C (dA DX7_fitsPond_0 18 rfl) (by decide) (fun h28 => ?_) (fun h28 => ?_)
        · refine J_iconst (v := nI 0) C (dA DX7_fitsPond_0 26 rfl) (by decide) ?_
          exact J_zret C G rfl (dA DX7_fitsPond_0 27 rfl) ⟨oi (bt_f (by unfold okP; rw [q1, hjn, inr_c (x := v), decide_eq_false (by omega)]; rfl)), rfl⟩
        · refine J_iload_n C (dA DX7_fitsPond_0 19 rfl) rfl ?_
          refine J_gets C (k := 1) (by decide) wF_RX7_301 (dA DX7_fitsPond_0 20 rfl) ?_
          refine J_iload_n C (dA DX7_fitsPond_0 21 rfl) rfl ?_
          refine J_tab C (k := 1) (j := j) (by decide) rfl (by simpa [jtV] using hj) (dA DX7_fitsPond_0 22 rfl) ?_
          refine J_icmp_gt_t (tgt := 44) C (dA DX7_fitsPond_0 23 rfl) (by decide) (fun h37 => ?_) (fun h37 => ?_)
          · refine J_iconst (v := nI 0) C (dA DX7_fitsPond_0 26 rfl) (by decide) ?_
            exact J_zret C G rfl (dA DX7_fitsPond_0 27 rfl) ⟨oi (bt_f (by unfold okP; rw [q1, hjn, inr_c (x := v), decide_eq_false (by omega)]; rfl)), rfl⟩
          · refine J_iconst (v := nI 1) C (dA DX7_fitsPond_0 24 rfl) (by decide) ?_
            refine J_goto (tgt := 45) C (dA DX7_fitsPond_0 25 rfl) (by decide) ?_
            exact J_zret C G rfl (dA DX7_fitsPond_0 27 rfl) ⟨oi (bt_t (by unfold okP; rw [q1, hjn, inr_c (x := v), decide_eq_true ⟨by omega, by omega⟩, decide_eq_false (p := nI j = 0) (by rw [nI_eq0 (by omega)]; omega)]; rfl)), rfl⟩
      · refine J_iload_n C (dA DX7_fitsPond_0 9 rfl) rfl ?_
        refine J_iload_n C (dA DX7_fitsPond_0 10 rfl) rfl ?_
        refine J_icmp_ne (tgt := 22) C (dA DX7_fitsPond_0 11 rfl) (by decide) (fun h17 => ?_) (fun h17 => ?_)
        · refine J_iload_n C (dA DX7_fitsPond_0 14 rfl) rfl ?_
          refine J_gets C (k := 0) (by decide) wF_RX7_298 (dA DX7_fitsPond_0 15 rfl) ?_
          refine J_iload_n C (dA DX7_fitsPond_0 16 rfl) rfl ?_
          refine J_tab C (k := 0) (j := j) (by decide) rfl (by simpa [jtV] using hj) (dA DX7_fitsPond_0 17 rfl) ?_
          refine J_icmp_lt_t (tgt := 44) C (dA DX7_fitsPond_0 18 rfl) (by decide) (fun h28 => ?_) (fun h28 => ?_)
          · refine J_iconst (v := nI 0) C (dA DX7_fitsPond_0 26 rfl) (by decide) ?_
            exact J_zret C G rfl (dA DX7_fitsPond_0 27 rfl) ⟨oi (bt_f (by unfold okP; rw [q1, hjn, inr_c (x := v), decide_eq_false (by omega)]; rfl)), rfl⟩
          · refine J_iload_n C (dA DX7_fitsPond_0 19 rfl) rfl ?_
            refine J_gets C (k := 1) (by decide) wF_RX7_301 (dA DX7_fitsPond_0 20 rfl) ?_
            refine J_iload_n C (dA DX7_fitsPond_0 21 rfl) rfl ?_
            refine J_tab C (k := 1) (j := j) (by decide) rfl (by simpa [jtV] using hj) (dA DX7_fitsPond_0 22 rfl) ?_
            refine J_icmp_gt_t (tgt := 44) C (dA DX7_fitsPond_0 23 rfl) (by decide) (fun h37 => ?_) (fun h37 => ?_)
            · refine J_iconst (v := nI 0) C (dA DX7_fitsPond_0 26 rfl) (by decide) ?_
              exact J_zret C G rfl (dA DX7_fitsPond_0 27 rfl) ⟨oi (bt_f (by unfold okP; rw [q1, hjn, inr_c (x := v), decide_eq_false (by omega)]; rfl)), rfl⟩
            · refine J_iconst (v := nI 1) C (dA DX7_fitsPond_0 24 rfl) (by decide) ?_
              refine J_goto (tgt := 45) C (dA DX7_fitsPond_0 25 rfl) (by decide) ?_
              exact J_zret C G rfl (dA DX7_fitsPond_0 27 rfl) ⟨oi (bt_t (by unfold okP; rw [q1, hjn, inr_c (x := v), decide_eq_true ⟨by omega, by omega⟩, decide_eq_false (p := v = p) h17, Bool.and_false]; rfl)), rfl⟩
        · refine J_iconst (v := nI 0) C (dA DX7_fitsPond_0 12 rfl) (by decide) ?_
          exact J_zret C G rfl (dA DX7_fitsPond_0 13 rfl) ⟨oi (bt_f (by unfold okP; rw [q1, hjn, h17, show j = 0 by omega]; simp; intro _; decide)), rfl⟩
    · refine J_iconst (v := nI 0) C (dA DX7_fitsPond_0 5 rfl) (by decide) ?_
      exact J_zret C G rfl (dA DX7_fitsPond_0 6 rfl) ⟨oi (bt_f (by unfold okP; rw [inr_c (x := w), decide_eq_false (by omega)]; rfl)), rfl⟩
set_option maxRecDepth 4000 in
theorem c_X7_fitsThing (l : Launch) (E : jE) (w v : Int32)  : K_X7_fitsThing l E [.int w, .int v] M (jb (okT w v)) (M) := by
  refine CT_intro (own := RX7) (by decide +kernel) rfl (by simp [Value.category]) (Nat.le_of_ble_eq_true rfl) rfl (fun X C G => ?_)
  show J E X 0 [some (.int w), some (.int v)] [] M
  refine J_iload_n C (dA DX7_fitsThing_0 0 rfl) rfl ?_
  refine J_if_lt_t (tgt := 9) C (dA DX7_fitsThing_0 1 rfl) (by decide) (fun h1 => ?_) (fun h1 => ?_)
  · refine J_iconst (v := nI 0) C (dA DX7_fitsThing_0 5 rfl) (by decide) ?_
    exact J_zret C G rfl (dA DX7_fitsThing_0 6 rfl) ⟨oi (bt_f (by unfold okT; rw [inr_c (x := w), decide_eq_false (by omega)]; rfl)), rfl⟩
  · refine J_iload_n C (dA DX7_fitsThing_0 2 rfl) rfl ?_
    refine J_iconst (v := nI 2) C (dA DX7_fitsThing_0 3 rfl) (by decide) ?_
    refine J_icmp_le_c (tgt := 11) C (by decide) (dA DX7_fitsThing_0 4 rfl) (by decide) (fun h6 => ?_) (fun h6 => ?_)
    · obtain ⟨j, hj, rfl⟩ := toNI (x := w) (n := 3) (by omega) (by omega)
      have hjn : nv (nI j) = j := nv_nI (by omega)
      have q1 : inr (nI j) 0 2 = true := by rw [inr_n (by omega)]; exact decide_eq_true (by omega)
      refine J_iload_n C (dA DX7_fitsThing_0 7 rfl) rfl ?_
      refine J_gets C (k := 2) (by decide) wF_RX7_304 (dA DX7_fitsThing_0 8 rfl) ?_
      refine J_iload_n C (dA DX7_fitsThing_0 9 rfl) rfl ?_
      refine J_tab C (k := 2) (j := j) (by decide) rfl (by simpa [jtV] using hj) (dA DX7_fitsThing_0 10 rfl) ?_
      refine J_icmp_lt_t (tgt := 33) C (dA DX7_fitsThing_0 11 rfl) (by decide) (fun h17 => ?_) (fun h17 => ?_)
      · refine J_iconst (v := nI 0) C (dA DX7_fitsThing_0 19 rfl) (by decide) ?_
        exact J_zret C G rfl (dA DX7_fitsThing_0 20 rfl) ⟨oi (bt_f (by unfold okT; rw [q1, hjn, inr_c (x := v), decide_eq_false (by omega)]; rfl)), rfl⟩
      · refine J_iload_n C (dA DX7_fitsThing_0 12 rfl) rfl ?_
        refine J_gets C (k := 3) (by decide) wF_RX7_307 (dA DX7_fitsThing_0 13 rfl) ?_
        refine J_iload_n C (dA DX7_fitsThing_0 14 rfl) rfl ?_
        refine J_tab C (k := 3) (j := j) (by decide) rfl (by simpa [jtV] using hj) (dA DX7_fitsThing_0 15 rfl) ?_
        refine J_icmp_gt_t (tgt := 33) C (dA DX7_fitsThing_0 16 rfl) (by decide) (fun h26 => ?_) (fun h26 => ?_)
        · refine J_iconst (v := nI 0) C (dA DX7_fitsThing_0 19 rfl) (by decide) ?_
          exact J_zret C G rfl (dA DX7_fitsThing_0 20 rfl) ⟨oi (bt_f (by unfold okT; rw [q1, hjn, inr_c (x := v), decide_eq_false (by omega)]; rfl)), rfl⟩
        · refine J_iconst (v := nI 1) C (dA DX7_fitsThing_0 17 rfl) (by decide) ?_
          refine J_goto (tgt := 34) C (dA DX7_fitsThing_0 18 rfl) (by decide) ?_
          exact J_zret C G rfl (dA DX7_fitsThing_0 20 rfl) ⟨oi (bt_t (by unfold okT; rw [q1, hjn, inr_c (x := v), decide_eq_true ⟨by omega, by omega⟩]; rfl)), rfl⟩
    · refine J_iconst (v := nI 0) C (dA DX7_fitsThing_0 5 rfl) (by decide) ?_
      exact J_zret C G rfl (dA DX7_fitsThing_0 6 rfl) ⟨oi (bt_f (by unfold okT; rw [inr_c (x := w), decide_eq_false (by omega)]; rfl)), rfl⟩
set_option maxRecDepth 4000 in
theorem c_X7_fitsDepth (l : Launch) (E : jE) (p v : Int32)  : K_X7_fitsDepth l E [.int p, .int v] M (jb (inr p 0 15 && inr v 0 99)) (M) := by
  refine CT_intro (own := RX7) (by decide +kernel) rfl (by simp [Value.category]) (Nat.le_of_ble_eq_true rfl) rfl (fun X C G => ?_)
  show J E X 0 [some (.int p), some (.int v)] [] M
  refine J_iload_n C (dA DX7_fitsDepth_0 0 rfl) rfl ?_
  refine V_X7_isPond C (c_X7_isPond l E _) wM_RX7_65 (by decide) (dA DX7_fitsDepth_0 1 rfl) rfl (Nat.le_of_ble_eq_true rfl) ?_
  first | refine J_if_eq_b (tgt := 20) C (dA DX7_fitsDepth_0 2 rfl) (by decide) (fun h4 => ?_) (fun h4 => ?_) | refine J_if_eq_n (tgt := 20) C (by omega) (dA DX7_fitsDepth_0 2 rfl) (by decide) (fun h4 => ?_) (fun h4 => ?_) | refine J_if_eq_t (tgt := 20) C (dA DX7_fitsDepth_0 2 rfl) (by decide) (fun h4 => ?_) (fun h4 => ?_)
  · refine J_iconst (v := nI 0) C (dA DX7_fitsDepth_0 10 rfl) (by decide) ?_
    exact J_zret C G rfl (dA DX7_fitsDepth_0 11 rfl) ⟨oi (bt_f (by rw [h4]; rfl)), rfl⟩
  · refine J_iload_n C (dA DX7_fitsDepth_0 3 rfl) rfl ?_
    refine J_iconst (v := nI 5) C (dA DX7_fitsDepth_0 4 rfl) (by decide) ?_
    refine J_iload_n C (dA DX7_fitsDepth_0 5 rfl) rfl ?_
    refine V_X7_fitsPond C (c_X7_fitsPond l E _ _ _) wM_RX7_84 (by decide) (dA DX7_fitsDepth_0 6 rfl) rfl (Nat.le_of_ble_eq_true rfl) ?_
    first | refine J_if_eq_b (tgt := 20) C (dA DX7_fitsDepth_0 7 rfl) (by decide) (fun h13 => ?_) (fun h13 => ?_) | refine J_if_eq_n (tgt := 20) C (by omega) (dA DX7_fitsDepth_0 7 rfl) (by decide) (fun h13 => ?_) (fun h13 => ?_) | refine J_if_eq_t (tgt := 20) C (dA DX7_fitsDepth_0 7 rfl) (by decide) (fun h13 => ?_) (fun h13 => ?_)
    · refine J_iconst (v := nI 0) C (dA DX7_fitsDepth_0 10 rfl) (by decide) ?_
      exact J_zret C G rfl (dA DX7_fitsDepth_0 11 rfl) ⟨oi (bt_f (by rw [h4]; rw [← h13]; unfold okP; simp [inr_n, nv_nI, jtV, nI_eq0])), rfl⟩
    · refine J_iconst (v := nI 1) C (dA DX7_fitsDepth_0 8 rfl) (by decide) ?_
      refine J_goto (tgt := 21) C (dA DX7_fitsDepth_0 9 rfl) (by decide) ?_
      exact J_zret C G rfl (dA DX7_fitsDepth_0 11 rfl) ⟨oi (bt_t (by rw [h4]; rw [← h13]; unfold okP; simp [inr_n, nv_nI, jtV, nI_eq0])), rfl⟩
set_option maxRecDepth 4000 in
theorem c_X7_finding (l : Launch) (E : jE) (k : Nat) (hk : k < 7) (x : Int32) (hx : x = fi k)  : K_X7_finding l E [.ref (ja E 59), .int x] M (x) (Fl 1076 k M) := by
  refine CT_intro (own := RX7) (by decide +kernel) rfl (by simp [Value.category]) (Nat.le_of_ble_eq_true rfl) rfl (fun X C G => ?_)
  show J E X 0 [some (.ref (ja E 59)), some (.int x), none] [] M
  have e : (-1000001) - x = nI k := by rw [hx]; exact (by decide +kernel : ∀ k, k < 7 → (-1000001) - fi k = nI k) k hk
  refine J_ldc (v := (-1000001)) C wK_RX7_69 (dA DX7_finding_0 0 rfl) ?_
  refine J_iload_n C (dA DX7_finding_0 1 rfl) rfl ?_
  refine J_isub C (dA DX7_finding_0 2 rfl) ?_
  rw [e]
  refine J_ist_2_3 C (dA DX7_finding_0 3 rfl) rfl ?_
  refine J_iload_n C (dA DX7_finding_0 4 rfl) rfl ?_
  refine J_if_lt_n (tgt := 25) C (by omega) (dA DX7_finding_0 5 rfl) (by decide) (fun h6 => ?_) (fun h6 => ?_)
  · exfalso; omega
  · refine J_iload_n C (dA DX7_finding_0 6 rfl) rfl ?_
    refine J_bipush (v := nI 7) C (dA DX7_finding_0 7 rfl) (by decide) ?_
    refine J_icmp_ge_n (tgt := 25) C (by omega) (by decide) (dA DX7_finding_0 8 rfl) (by decide) (fun h12 => ?_) (fun h12 => ?_)
    · exfalso; omega
    · refine J_aload_n C (dA DX7_finding_0 9 rfl) rfl ?_
      refine G_X7_found C wF_RX7_61 (dA DX7_finding_0 10 rfl) ?_
      refine J_iload_n C (dA DX7_finding_0 11 rfl) rfl ?_
      refine J_dup2 C (dA DX7_finding_0 12 rfl) rfl rfl ?_
      refine R_1 C (hk := rfl) rfl (by omega) (dA DX7_finding_0 13 rfl) ?_
      refine J_iconst (v := nI 1) C (dA DX7_finding_0 14 rfl) (by decide) ?_
      refine J_iadd C (dA DX7_finding_0 15 rfl) ?_
      refine S_1 C (hk := rfl) rfl (by omega) (dA DX7_finding_0 16 rfl) ?_
      refine J_iload_n C (dA DX7_finding_0 17 rfl) rfl ?_
      exact J_iret C G (dA DX7_finding_0 18 rfl) ⟨rfl, rfl⟩
set_option maxRecDepth 4000 in
theorem c_X7_findingOrAnswer (l : Launch) (E : jE) (x : Int32)  : K_X7_findingOrAnswer l E [.ref (ja E 59), .int x] M (x) (if x = -1000004 then Fl 1076 3 M else M) := by
  refine CT_intro (own := RX7) (by decide +kernel) rfl (by simp [Value.category]) (Nat.le_of_ble_eq_true rfl) rfl (fun X C G => ?_)
  show J E X 0 [some (.ref (ja E 59)), some (.int x)] [] M
  refine J_iload_n C (dA DX7_findingOrAnswer_0 0 rfl) rfl ?_
  refine J_ldc (v := (-1000004)) C wK_RX7_165 (dA DX7_findingOrAnswer_0 1 rfl) ?_
  refine J_icmp_ne (tgt := 15) C (dA DX7_findingOrAnswer_0 2 rfl) (by decide) (fun h3 => ?_) (fun h3 => ?_)
  · refine J_iload_n C (dA DX7_findingOrAnswer_0 7 rfl) rfl ?_
    exact J_iret C G (dA DX7_findingOrAnswer_0 8 rfl) ⟨oi rfl, by rw [if_neg h3]⟩
  · refine J_aload_n C (dA DX7_findingOrAnswer_0 3 rfl) rfl ?_
    refine J_ldc (v := (-1000004)) C wK_RX7_165 (dA DX7_findingOrAnswer_0 4 rfl) ?_
    refine V_X7_finding C (c_X7_finding l E 3 (by decide) _ rfl) wM_RX7_70 (by decide) (dA DX7_findingOrAnswer_0 5 rfl) rfl (Nat.le_of_ble_eq_true rfl) ?_
    refine J_goto (tgt := 16) C (dA DX7_findingOrAnswer_0 6 rfl) (by decide) ?_
    exact J_iret C G (dA DX7_findingOrAnswer_0 8 rfl) ⟨oi h3.symm, by rw [if_pos h3]⟩
def fmD (x : Int32) : Int32 := if 0 ≤ (x ^^^ nI 4).toInt then x - x / nI 4 * nI 4 else if (x - x / nI 4 * nI 4).toInt = 0 then x - x / nI 4 * nI 4 else x - x / nI 4 * nI 4 + nI 4
theorem fmD_sub : ∀ t, t < 4 → ∀ u, u < 4 → fmD (nI t - nI u) = nI ((t + (4 - u)) % 4) := by decide +kernel
theorem fmD_add : ∀ t, t < 4 → ∀ u, u < 4 → fmD (nI (t + u)) = nI ((t + u) % 4) := by decide +kernel
set_option maxRecDepth 4000 in
theorem c_J9_floorMod (l : Launch) (E : jE) (x : Int32)  : K_J9_floorMod_7cf53 l E [.int x, .int (nI 4)] M (fmD x) (M) := by
  refine CT_intro (own := RJ9) (by decide +kernel) rfl (by simp [Value.category]) (Nat.le_of_ble_eq_true rfl) rfl (fun X C G => ?_)
  show J E X 0 [some (.int x), some (.int (nI 4)), none] [] M
  refine J_iload_n C (dA DJ9_floorMod_7cf53_0 0 rfl) rfl ?_
  refine J_iload_n C (dA DJ9_floorMod_7cf53_0 1 rfl) rfl ?_
  refine J_irem C (dA DJ9_floorMod_7cf53_0 2 rfl) (by decide) ?_
  refine J_ist_2_3 C (dA DJ9_floorMod_7cf53_0 3 rfl) rfl ?_
  refine J_iload_n C (dA DJ9_floorMod_7cf53_0 4 rfl) rfl ?_
  refine J_iload_n C (dA DJ9_floorMod_7cf53_0 5 rfl) rfl ?_
  refine J_ixor C (dA DJ9_floorMod_7cf53_0 6 rfl) ?_
  refine J_if_ge_t (tgt := 18) C (dA DJ9_floorMod_7cf53_0 7 rfl) (by decide) (fun h7 => ?_) (fun h7 => ?_)
  · refine J_iload_n C (dA DJ9_floorMod_7cf53_0 14 rfl) rfl ?_
    exact J_iret C G (dA DJ9_floorMod_7cf53_0 15 rfl) ⟨oi (by unfold fmD; rw [if_pos (by omega)]), rfl⟩
  · refine J_iload_n C (dA DJ9_floorMod_7cf53_0 8 rfl) rfl ?_
    refine J_if_eq_t (tgt := 18) C (dA DJ9_floorMod_7cf53_0 9 rfl) (by decide) (fun h11 => ?_) (fun h11 => ?_)
    · refine J_iload_n C (dA DJ9_floorMod_7cf53_0 14 rfl) rfl ?_
      exact J_iret C G (dA DJ9_floorMod_7cf53_0 15 rfl) ⟨oi (by unfold fmD; rw [if_neg (by omega), if_pos (by omega)]), rfl⟩
    · refine J_iload_n C (dA DJ9_floorMod_7cf53_0 10 rfl) rfl ?_
      refine J_iload_n C (dA DJ9_floorMod_7cf53_0 11 rfl) rfl ?_
      refine J_iadd C (dA DJ9_floorMod_7cf53_0 12 rfl) ?_
      exact J_iret C G (dA DJ9_floorMod_7cf53_0 13 rfl) ⟨oi (by unfold fmD; rw [if_neg (by omega), if_neg (by omega)]), rfl⟩
set_option maxRecDepth 4000 in
theorem c_X0_begin (l : Launch) (E : jE) (p : Int32)  : K_X0_begin l E [.ref (ja E 39), .int p] M (l4 402 M p (nI 81) (nI 0) (nI 0)) := by
  refine CT_intro (own := RX0) (by decide +kernel) rfl (by simp [Value.category]) (Nat.le_of_ble_eq_true rfl) rfl (fun X C G => ?_)
  show J E X 0 [some (.ref (ja E 39)), some (.int p)] [] M
  refine J_aload_n C (dA DX0_begin_0 0 rfl) rfl ?_
  refine J_iload_n C (dA DX0_begin_0 1 rfl) rfl ?_
  refine P_X0_end C wF_RX0_9 (dA DX0_begin_0 2 rfl) ?_
  refine J_aload_n C (dA DX0_begin_0 3 rfl) rfl ?_
  refine J_bipush (v := nI 81) C (dA DX0_begin_0 4 rfl) (by decide) ?_
  refine P_X0_size C wF_RX0_15 (dA DX0_begin_0 5 rfl) ?_
  refine J_aload_n C (dA DX0_begin_0 6 rfl) rfl ?_
  refine J_iconst (v := nI 0) C (dA DX0_begin_0 7 rfl) (by decide) ?_
  refine P_X0_turned C wF_RX0_18 (dA DX0_begin_0 8 rfl) ?_
  refine J_aload_n C (dA DX0_begin_0 9 rfl) rfl ?_
  refine J_iconst (v := nI 0) C (dA DX0_begin_0 10 rfl) (by decide) ?_
  refine P_X0_flipped C wF_RX0_21 (dA DX0_begin_0 11 rfl) ?_
  exact J_vret C G (dA DX0_begin_0 12 rfl) ⟨rfl, rfl⟩
set_option maxRecDepth 4000 in
theorem c_X0_step (l : Launch) (E : jE) (g p z t f : Nat) (hg : g < 3) (hp : p < 16) (hz : z ≤ 99999) (ht : t < 4) (hf : f < 2) (hS : IS (vb (fb g) M))  : K_X0_step l E [.ref (ja E 39), .ref (ja E (fo g))] (l4 402 M (nI p) (nI z) (nI t) (nI f)) (l4 402 M (nI (f6 (vb (fb g) M) p 0)) (nI (min (z * f6 (vb (fb g) M) p 1 / 3) 99999)) (nI ((t + (if f = 0 then f6 (vb (fb g) M) p 2 else 4 - f6 (vb (fb g) M) p 2)) % 4)) (nI ((f + f6 (vb (fb g) M) p 3) % 2))) := by
  refine CT_intro (own := RX0) (by decide +kernel) rfl (by simp [Value.category]) (Nat.le_of_ble_eq_true rfl) rfl (fun X C G => ?_)
  show J E X 0 [some (.ref (ja E 39)), some (.ref (ja E (fo g))), none] [] (l4 402 M (nI p) (nI z) (nI t) (nI f))
  have hS4 : ∀ {e z t f : Int32}, IS (vb (fb g) (l4 402 M e z t f)) := fun {e z t f} => by rw [vb_l4 (by unfold fb; omega)]; exact hS
  have hv : ∀ {e z t f : Int32}, vb (fb g) (l4 402 M e z t f) = vb (fb g) M := fun {e z t f} => vb_l4 (by unfold fb; omega)
  have k1 := le6 hS hp (w := 1) (by decide)
  have k2 := le6 hS hp (w := 2) (by decide)
  have k3 := le6 hS hp (w := 3) (by decide)
  have m1 : mx6 1 = 9 := rfl
  have m2 : mx6 2 = 3 := rfl
  have m3 : mx6 3 = 1 := rfl
  have hmul : z * f6 (vb (fb g) M) p 1 ≤ 99999 * 9 := Nat.mul_le_mul hz (by omega)
  refine J_aload_n C (dA DX0_step_0 0 rfl) rfl ?_
  refine G_X1_ponds C hg wF_RX0_24 (dA DX0_step_0 1 rfl) ?_
  refine J_iconst (v := nI 2) C (dA DX0_step_0 2 rfl) (by decide) ?_
  refine R_fp C hg rfl (by omega) (dA DX0_step_0 3 rfl) ?_
  refine J_aload_n C (dA DX0_step_0 4 rfl) rfl ?_
  refine G_X0_end C wF_RX0_9 (dA DX0_step_0 5 rfl) ?_
  rw [l4_0]
  refine Q_fr C hg hS4 (by decide) rfl hp (dA DX0_step_0 6 rfl) ?_
  rw [hv]
  refine J_ist_2_3 C (dA DX0_step_0 7 rfl) rfl ?_
  refine J_aload_n C (dA DX0_step_0 8 rfl) rfl ?_
  refine J_aload_n C (dA DX0_step_0 9 rfl) rfl ?_
  refine G_X0_size C wF_RX0_15 (dA DX0_step_0 10 rfl) ?_
  rw [show (403 : Nat) = 402 + 1 from rfl, l4_1]
  refine J_aload_n C (dA DX0_step_0 11 rfl) rfl ?_
  refine G_X1_ponds C hg wF_RX0_24 (dA DX0_step_0 12 rfl) ?_
  refine J_iconst (v := nI 1) C (dA DX0_step_0 13 rfl) (by decide) ?_
  refine R_fp C hg rfl (by omega) (dA DX0_step_0 14 rfl) ?_
  refine J_aload_n C (dA DX0_step_0 15 rfl) rfl ?_
  refine G_X0_end C wF_RX0_9 (dA DX0_step_0 16 rfl) ?_
  rw [l4_0]
  refine Q_fr C hg hS4 (by decide) rfl hp (dA DX0_step_0 17 rfl) ?_
  rw [hv]
  first | refine J_imul_n C (dA DX0_step_0 18 rfl) ?_ | refine J_imul C (dA DX0_step_0 18 rfl) ?_
  refine J_iconst (v := nI 3) C (dA DX0_step_0 19 rfl) (by decide) ?_
  refine J_idiv_n C (by omega) (by omega) (by omega) (dA DX0_step_0 20 rfl) ?_
  refine J_ldc (v := nI 99999) C wK_RX0_30 (dA DX0_step_0 21 rfl) ?_
  refine J_min_n C wM_RX0_31 (by omega) (by decide) (by decide) (dA DX0_step_0 22 rfl) rfl (Nat.le_of_ble_eq_true rfl) ?_
  refine P_X0_size C wF_RX0_15 (dA DX0_step_0 23 rfl) ?_
  rw [show (403 : Nat) = 402 + 1 from rfl, l4_u1]
  refine J_aload_n C (dA DX0_step_0 24 rfl) rfl ?_
  refine J_aload_n C (dA DX0_step_0 25 rfl) rfl ?_
  refine G_X0_flipped C wF_RX0_21 (dA DX0_step_0 26 rfl) ?_
  rw [show (405 : Nat) = 402 + 3 from rfl, l4_3]
  refine J_iconst (v := nI 1) C (dA DX0_step_0 27 rfl) (by decide) ?_
  refine J_icmp_ne_n (tgt := 57) C (by omega) (by decide) (dA DX0_step_0 28 rfl) (by decide) (fun h45 => ?_) (fun h45 => ?_)
  · refine J_aload_n C (dA DX0_step_0 34 rfl) rfl ?_
    refine G_X0_turned C wF_RX0_18 (dA DX0_step_0 35 rfl) ?_
    rw [show (404 : Nat) = 402 + 2 from rfl, l4_2]
    refine J_iload_n C (dA DX0_step_0 36 rfl) rfl ?_
    first | refine J_iadd_n C (dA DX0_step_0 37 rfl) ?_ | refine J_iadd C (dA DX0_step_0 37 rfl) ?_
    refine J_iconst (v := nI 4) C (dA DX0_step_0 38 rfl) (by decide) ?_
    refine V_J9_floorMod_7cf53 C (c_J9_floorMod l E _) wM_RX0_37 (by decide) (dA DX0_step_0 39 rfl) rfl (Nat.le_of_ble_eq_true rfl) ?_
    rw [fmD_add _ ht _ (by omega)]
    refine P_X0_turned C wF_RX0_18 (dA DX0_step_0 40 rfl) ?_
    rw [show (404 : Nat) = 402 + 2 from rfl, l4_u2]
    refine J_aload_n C (dA DX0_step_0 41 rfl) rfl ?_
    refine J_dup C (dA DX0_step_0 42 rfl) rfl ?_
    refine G_X0_flipped C wF_RX0_21 (dA DX0_step_0 43 rfl) ?_
    rw [show (405 : Nat) = 402 + 3 from rfl, l4_3]
    refine J_aload_n C (dA DX0_step_0 44 rfl) rfl ?_
    refine G_X1_ponds C hg wF_RX0_24 (dA DX0_step_0 45 rfl) ?_
    refine J_iconst (v := nI 3) C (dA DX0_step_0 46 rfl) (by decide) ?_
    refine R_fp C hg rfl (by omega) (dA DX0_step_0 47 rfl) ?_
    refine J_aload_n C (dA DX0_step_0 48 rfl) rfl ?_
    refine G_X0_end C wF_RX0_9 (dA DX0_step_0 49 rfl) ?_
    rw [l4_0]
    refine Q_fr C hg hS4 (by decide) rfl hp (dA DX0_step_0 50 rfl) ?_
    rw [hv]
    refine J_ixor C (dA DX0_step_0 51 rfl) ?_
    rw [x2 _ hf _ (by omega)]
    refine P_X0_flipped C wF_RX0_21 (dA DX0_step_0 52 rfl) ?_
    rw [show (405 : Nat) = 402 + 3 from rfl, l4_u3]
    refine J_aload_n C (dA DX0_step_0 53 rfl) rfl ?_
    refine J_aload_n C (dA DX0_step_0 54 rfl) rfl ?_
    refine G_X1_ponds C hg wF_RX0_24 (dA DX0_step_0 55 rfl) ?_
    refine J_iconst (v := nI 0) C (dA DX0_step_0 56 rfl) (by decide) ?_
    refine R_fp C hg rfl (by omega) (dA DX0_step_0 57 rfl) ?_
    refine J_aload_n C (dA DX0_step_0 58 rfl) rfl ?_
    refine G_X0_end C wF_RX0_9 (dA DX0_step_0 59 rfl) ?_
    rw [l4_0]
    refine Q_fr C hg hS4 (by decide) rfl hp (dA DX0_step_0 60 rfl) ?_
    rw [hv]
    refine P_X0_end C wF_RX0_9 (dA DX0_step_0 61 rfl) ?_
    exact J_vret C G (dA DX0_step_0 62 rfl) ⟨rfl, by rw [l4_u0]; congr 2; simp only [if_pos (show f = 0 by omega)]⟩
  · refine J_aload_n C (dA DX0_step_0 29 rfl) rfl ?_
    refine G_X0_turned C wF_RX0_18 (dA DX0_step_0 30 rfl) ?_
    rw [show (404 : Nat) = 402 + 2 from rfl, l4_2]
    refine J_iload_n C (dA DX0_step_0 31 rfl) rfl ?_
    refine J_isub C (dA DX0_step_0 32 rfl) ?_
    refine J_goto (tgt := 63) C (dA DX0_step_0 33 rfl) (by decide) ?_
    refine J_iconst (v := nI 4) C (dA DX0_step_0 38 rfl) (by decide) ?_
    refine V_J9_floorMod_7cf53 C (c_J9_floorMod l E _) wM_RX0_37 (by decide) (dA DX0_step_0 39 rfl) rfl (Nat.le_of_ble_eq_true rfl) ?_
    rw [fmD_sub _ ht _ (by omega)]
    refine P_X0_turned C wF_RX0_18 (dA DX0_step_0 40 rfl) ?_
    rw [show (404 : Nat) = 402 + 2 from rfl, l4_u2]
    refine J_aload_n C (dA DX0_step_0 41 rfl) rfl ?_
    refine J_dup C (dA DX0_step_0 42 rfl) rfl ?_
    refine G_X0_flipped C wF_RX0_21 (dA DX0_step_0 43 rfl) ?_
    rw [show (405 : Nat) = 402 + 3 from rfl, l4_3]
    refine J_aload_n C (dA DX0_step_0 44 rfl) rfl ?_
    refine G_X1_ponds C hg wF_RX0_24 (dA DX0_step_0 45 rfl) ?_
    refine J_iconst (v := nI 3) C (dA DX0_step_0 46 rfl) (by decide) ?_
    refine R_fp C hg rfl (by omega) (dA DX0_step_0 47 rfl) ?_
    refine J_aload_n C (dA DX0_step_0 48 rfl) rfl ?_
    refine G_X0_end C wF_RX0_9 (dA DX0_step_0 49 rfl) ?_
    rw [l4_0]
    refine Q_fr C hg hS4 (by decide) rfl hp (dA DX0_step_0 50 rfl) ?_
    rw [hv]
    refine J_ixor C (dA DX0_step_0 51 rfl) ?_
    rw [x2 _ hf _ (by omega)]
    refine P_X0_flipped C wF_RX0_21 (dA DX0_step_0 52 rfl) ?_
    rw [show (405 : Nat) = 402 + 3 from rfl, l4_u3]
    refine J_aload_n C (dA DX0_step_0 53 rfl) rfl ?_
    refine J_aload_n C (dA DX0_step_0 54 rfl) rfl ?_
    refine G_X1_ponds C hg wF_RX0_24 (dA DX0_step_0 55 rfl) ?_
    refine J_iconst (v := nI 0) C (dA DX0_step_0 56 rfl) (by decide) ?_
    refine R_fp C hg rfl (by omega) (dA DX0_step_0 57 rfl) ?_
    refine J_aload_n C (dA DX0_step_0 58 rfl) rfl ?_
    refine G_X0_end C wF_RX0_9 (dA DX0_step_0 59 rfl) ?_
    rw [l4_0]
    refine Q_fr C hg hS4 (by decide) rfl hp (dA DX0_step_0 60 rfl) ?_
    rw [hv]
    refine P_X0_end C wF_RX0_9 (dA DX0_step_0 61 rfl) ?_
    exact J_vret C G (dA DX0_step_0 62 rfl) ⟨rfl, by rw [l4_u0]; congr 2; simp only [if_neg (show ¬ f = 0 by omega)]⟩
theorem l4_l4 {b : Nat} {M : jM} {e z t f e' z' t' f' : Int32} : l4 b (l4 b M e z t f) e' z' t' f' = l4 b M e' z' t' f' := by
  funext a
  unfold l4 upd
  repeat' split
  all_goals first | rfl | (exfalso; omega)
set_option maxRecDepth 4000 in
theorem c_X0_take (l : Launch) (E : jE) (g p m : Nat) (hg : g < 3) (hp : p < 16) (hm : m ≤ 16) (hS : IS (vb (fb g) M))  : K_X0_take l E [.ref (ja E 39), .ref (ja E (fo g)), .int (nI p), .int (nI m)] M (chM 402 (vb (fb g) M) p m M) := by
  refine CT_intro (own := RX0) (by decide +kernel) rfl (by simp [Value.category]) (Nat.le_of_ble_eq_true rfl) rfl (fun X C G => ?_)
  show J E X 0 [some (.ref (ja E 39)), some (.ref (ja E (fo g))), some (.int (nI p)), some (.int (nI m)), none] [] M
  have loop : ∀ n i, i + n = m → J E X 8 [some (.ref (ja E 39)), some (.ref (ja E (fo g))), some (.int (nI p)), some (.int (nI m)), some (.int (nI i))] [] (chM 402 (vb (fb g) M) p i M) := by
    intro n
    induction n with
    | zero =>
      intro i hi
      refine J_iload C (dA DX0_take_0 5 rfl) rfl ?_
      refine J_iload_n C (dA DX0_take_0 6 rfl) rfl ?_
      first | refine J_icmp_ge_n (tgt := 25) C (by omega) (by omega) (dA DX0_take_0 7 rfl) (by decide) (fun h11 => ?_) (fun h11 => ?_) | refine J_icmp_ge_c (tgt := 25) C (by omega) (dA DX0_take_0 7 rfl) (by decide) (fun h11 => ?_) (fun h11 => ?_) | refine J_icmp_ge_t (tgt := 25) C (dA DX0_take_0 7 rfl) (by decide) (fun h11 => ?_) (fun h11 => ?_)
      · exact J_vret C G (dA DX0_take_0 13 rfl) ⟨rfl, by rw [show i = m by omega]⟩
      · exfalso; omega
    | succ n ih =>
      intro i hi
      refine J_iload C (dA DX0_take_0 5 rfl) rfl ?_
      refine J_iload_n C (dA DX0_take_0 6 rfl) rfl ?_
      first | refine J_icmp_ge_n (tgt := 25) C (by omega) (by omega) (dA DX0_take_0 7 rfl) (by decide) (fun h11 => ?_) (fun h11 => ?_) | refine J_icmp_ge_c (tgt := 25) C (by omega) (dA DX0_take_0 7 rfl) (by decide) (fun h11 => ?_) (fun h11 => ?_) | refine J_icmp_ge_t (tgt := 25) C (dA DX0_take_0 7 rfl) (by decide) (fun h11 => ?_) (fun h11 => ?_)
      · exfalso; omega
      · refine J_aload_n C (dA DX0_take_0 8 rfl) rfl ?_
        refine J_aload_n C (dA DX0_take_0 9 rfl) rfl ?_
        refine V_X0_step C (c_X0_step l E g _ _ _ _ hg (itr_lt hS i hp) (chZ_le _ _ i) (chT_lt _ _ i) (chF_lt _ _ i) hS) wM_RX0_44 (by decide) (dA DX0_take_0 10 rfl) rfl (Nat.le_of_ble_eq_true rfl) ?_
        first | refine J_inc1_4_5 C (dA DX0_take_0 11 rfl) rfl ?_ | refine J_iinc_4_5 C (dA DX0_take_0 11 rfl) rfl ?_
        refine J_goto (tgt := 8) C (dA DX0_take_0 12 rfl) (by decide) ?_
        exact ih (i + 1) (by omega)
  refine J_aload_n C (dA DX0_take_0 0 rfl) rfl ?_
  refine J_iload_n C (dA DX0_take_0 1 rfl) rfl ?_
  refine V_X0_begin C (c_X0_begin l E _) wM_RX0_40 (by decide) (dA DX0_take_0 2 rfl) rfl (Nat.le_of_ble_eq_true rfl) ?_
  refine J_iconst (v := nI 0) C (dA DX0_take_0 3 rfl) (by decide) ?_
  refine J_ist_4_5 C (dA DX0_take_0 4 rfl) rfl ?_
  exact loop _ 0 (Nat.zero_add _)
set_option maxRecDepth 4000 in
theorem c_X8_goesThrough (l : Launch) (E : jE) (p m : Nat) (hp : p < 16) (hm : m ≤ 16) (hS : IS (vb 1100 M))  : K_X8_goesThrough l E [.ref (ja E 60), .int (nI p), .int (nI m)] M (chM 1854 (vb 1100 M) p m M) := by
  refine CT_intro (own := RX8) (by decide +kernel) rfl (by simp [Value.category]) (Nat.le_of_ble_eq_true rfl) rfl (fun X C G => ?_)
  show J E X 0 [some (.ref (ja E 60)), some (.int (nI p)), some (.int (nI m)), none] [] M
  have loop : ∀ n i, i + n = m → J E X 7 [some (.ref (ja E 60)), some (.int (nI p)), some (.int (nI m)), some (.int (nI i))] [] (chM 1854 (vb 1100 M) p i M) := by
    intro n
    induction n with
    | zero =>
      intro i hi
      refine J_iload_n C (dA DX8_goesThrough_0 5 rfl) rfl ?_
      refine J_iload_n C (dA DX8_goesThrough_0 6 rfl) rfl ?_
      first | refine J_icmp_ge_n (tgt := 22) C (by omega) (by omega) (dA DX8_goesThrough_0 7 rfl) (by decide) (fun h9 => ?_) (fun h9 => ?_) | refine J_icmp_ge_c (tgt := 22) C (by omega) (dA DX8_goesThrough_0 7 rfl) (by decide) (fun h9 => ?_) (fun h9 => ?_) | refine J_icmp_ge_t (tgt := 22) C (dA DX8_goesThrough_0 7 rfl) (by decide) (fun h9 => ?_) (fun h9 => ?_)
      · exact J_vret C G (dA DX8_goesThrough_0 12 rfl) ⟨rfl, by rw [show i = m by omega]⟩
      · exfalso; omega
    | succ n ih =>
      intro i hi
      refine J_iload_n C (dA DX8_goesThrough_0 5 rfl) rfl ?_
      refine J_iload_n C (dA DX8_goesThrough_0 6 rfl) rfl ?_
      first | refine J_icmp_ge_n (tgt := 22) C (by omega) (by omega) (dA DX8_goesThrough_0 7 rfl) (by decide) (fun h9 => ?_) (fun h9 => ?_) | refine J_icmp_ge_c (tgt := 22) C (by omega) (dA DX8_goesThrough_0 7 rfl) (by decide) (fun h9 => ?_) (fun h9 => ?_) | refine J_icmp_ge_t (tgt := 22) C (dA DX8_goesThrough_0 7 rfl) (by decide) (fun h9 => ?_) (fun h9 => ?_)
      · exfalso; omega
      · refine J_aload_n C (dA DX8_goesThrough_0 8 rfl) rfl ?_
        refine V_X8_steps C (c_X8_steps l E _ _ _ _ (itr_lt hS i hp) (chZ_le _ _ i) (chT_lt _ _ i) (chF_lt _ _ i) hS) wM_RX8_147 (by decide) (dA DX8_goesThrough_0 9 rfl) rfl (Nat.le_of_ble_eq_true rfl) ?_
        first | refine J_inc1_3_4 C (dA DX8_goesThrough_0 10 rfl) rfl ?_ | refine J_iinc_3_4 C (dA DX8_goesThrough_0 10 rfl) rfl ?_
        refine J_goto (tgt := 7) C (dA DX8_goesThrough_0 11 rfl) (by decide) ?_
        exact ih (i + 1) (by omega)
  refine J_aload_n C (dA DX8_goesThrough_0 0 rfl) rfl ?_
  refine J_iload_n C (dA DX8_goesThrough_0 1 rfl) rfl ?_
  refine V_X8_begins C (c_X8_begins l E _) wM_RX8_143 (by decide) (dA DX8_goesThrough_0 2 rfl) rfl (Nat.le_of_ble_eq_true rfl) ?_
  refine J_iconst (v := nI 0) C (dA DX8_goesThrough_0 3 rfl) (by decide) ?_
  refine J_ist_3_4 C (dA DX8_goesThrough_0 4 rfl) rfl ?_
  exact loop _ 0 (Nat.zero_add _)
end MM
