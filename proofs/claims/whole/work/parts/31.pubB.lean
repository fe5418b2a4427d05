def aNow (S : Nat → Int32) (a : Int32) : Int32 := if inr a 0 4 = true then (if nv a = 0 then nI (iM S) else if nv a = 1 then fillS S else if nv a = 2 then sightS S else if nv a = 3 then nI (iR S) else nI (lenS S)) else fi 0
def eNow (F : Nat) (a : Int32) (M : jM) : jM := if inr a 0 4 = true then M else Fl F 0 M
theorem lenS_le {S : Nat → Int32} (h : IS S) : lenS S ≤ 800 := by
  have hN := leN h
  have := smS_le (f := fun k => f3 S k 2) (c := 99) (iN S) (fun k hk => le3 h (w := 2) (by omega) (by decide))
  unfold lenS
  omega
def vCh (S : Nat → Int32) (p i w : Nat) : Int32 := if w = 0 then nI (itr S i p) else if w = 1 then nI (chZ S p i) else if w = 2 then nI (chT S p i) else nI (chF S p i)
def aChain (S : Nat → Int32) (a b c : Int32) : Int32 := if inr a 0 15 = true ∧ inr b 0 16 = true ∧ inr c 0 3 = true then vCh S (nv a) (nv b) (nv c) else fi 0
def eChain (B W F : Nat) (a b c : Int32) (M : jM) : jM := if inr a 0 15 = true ∧ inr b 0 16 = true ∧ inr c 0 3 = true then chM W (vb B M) (nv a) (nv b) M else Fl F 0 M
theorem chM_0 {b p i : Nat} {S : Nat → Int32} {M : jM} : chM b S p i M b = nI (itr S i p) := l4_0
theorem chM_1 {b p i : Nat} {S : Nat → Int32} {M : jM} : chM b S p i M (b + 1) = nI (chZ S p i) := l4_1
theorem chM_2 {b p i : Nat} {S : Nat → Int32} {M : jM} : chM b S p i M (b + 2) = nI (chT S p i) := l4_2
theorem chM_3 {b p i : Nat} {S : Nat → Int32} {M : jM} : chM b S p i M (b + 3) = nI (chF S p i) := l4_3
theorem vb_chM {b b' p i : Nat} {S : Nat → Int32} {M : jM} (h : b' + 134 ≤ b ∨ b + 4 ≤ b') : vb b' (chM b S p i M) = vb b' M := vb_l4 h
def thN (S : Nat → Int32) (p t : Nat) : Nat := firstN 16 (fun i => decide (itr S (i + 1) p = f3 S t 1))
def aThrough (S : Nat → Int32) (a b : Int32) : Int32 := if inr a 0 15 = true ∧ inr b 0 ((iN S : Int) - 1) = true then (if thN S (nv a) (nv b) < 16 then nI (thN S (nv a) (nv b) + 1) else fi 3) else fi 0
def eThrough (B W F : Nat) (a b : Int32) (M : jM) : jM := if inr a 0 15 = true ∧ inr b 0 ((iN (vb B M) : Int) - 1) = true then (if thN (vb B M) (nv a) (nv b) < 16 then chM W (vb B M) (nv a) (thN (vb B M) (nv a) (nv b) + 1) M else Fl F 3 (chM W (vb B M) (nv a) 16 M)) else Fl F 0 M
def upN (S : Nat → Int32) (p : Nat) : Nat := firstN 16 (fun i => decide (chT S p (i + 1) = 0 ∧ chF S p (i + 1) = 0))
def aUp (S : Nat → Int32) (a : Int32) : Int32 := if inr a 0 15 = true then (if upN S (nv a) < 16 then nI (upN S (nv a) + 1) else fi 3) else fi 0
def eUp (B W F : Nat) (a : Int32) (M : jM) : jM := if inr a 0 15 = true then (if upN (vb B M) (nv a) < 16 then chM W (vb B M) (nv a) (upN (vb B M) (nv a) + 1) M else Fl F 3 (chM W (vb B M) (nv a) 16 M)) else Fl F 0 M
def aLarge (S : Nat → Int32) (a b c : Int32) : Int32 := if inr a 0 15 = true ∧ inr b 0 16 = true ∧ inr c 0 ((iN S : Int) - 1) = true then (if itr S (nv b) (nv a) = f3 S (nv c) 1 then nI (f3 S (nv c) 2 * chZ S (nv a) (nv b) / 81) else fi 4) else fi 0
def eLarge (B W F : Nat) (a b c : Int32) (M : jM) : jM := if inr a 0 15 = true ∧ inr b 0 16 = true ∧ inr c 0 ((iN (vb B M) : Int) - 1) = true then (if itr (vb B M) (nv b) (nv a) = f3 (vb B M) (nv c) 1 then chM W (vb B M) (nv a) (nv b) M else Fl F 4 (chM W (vb B M) (nv a) (nv b) M)) else Fl F 0 M
def aShown (S : Nat → Int32) (a : Int32) : Int32 := if inr a 0 15 = true then orL 16 (fun q => cmS S q (nv a)) else fi 0
def eShown (F : Nat) (a : Int32) (M : jM) : jM := if inr a 0 15 = true then M else Fl F 0 M
section PA
variable {M : jM}
set_option maxRecDepth 4000 in
theorem c_X7_now (l : Launch) (E : jE) (a : Int32) (hS : IS (vb (fb 0) M))  : K_X7_now l E [.ref (ja E 59), .int a] M (aNow (vb (fb 0) M) a) (eNow 1076 a M) := by
  refine CT_intro (own := RX7) (by decide +kernel) rfl (by simp [Value.category]) (Nat.le_of_ble_eq_true rfl) rfl (fun X C G => ?_)
  show J E X 0 [some (.ref (ja E 59)), some (.int a)] [] M
  by_cases hv : inr a 0 4 = true
  · have hv2 := inr_t hv
    obtain ⟨p, hp, rfl⟩ := toNI (x := a) (n := 5) (by omega) (by omega)
    rcases (show p = 0 ∨ p = 1 ∨ p = 2 ∨ p = 3 ∨ p = 4 by omega) with rfl | rfl | rfl | rfl | rfl
    · refine J_iload_n C (dA DX7_now_0 0 rfl) rfl ?_
      refine J_tabIn C (dA DX7_now_0 1 rfl) (by decide) (by decide) (off := 35) rfl (tgt := 36) (by decide) ?_
      refine J_aload_n C (dA DX7_now_0 2 rfl) rfl ?_
      refine G_X7_fen C wF_RX7_12 (dA DX7_now_0 3 rfl) ?_
      refine H_X1_minute C (by decide) hS wF_RX7_120 (dA DX7_now_0 4 rfl) ?_
      exact J_iret C G (dA DX7_now_0 5 rfl) ⟨oi (by unfold aNow; rw [if_pos (show inr (nI 0) 0 4 = true from by decide), show nv (nI 0) = 0 from rfl]; rfl), by unfold eNow; rw [if_pos (show inr (nI 0) 0 4 = true from by decide)]⟩
    · refine J_iload_n C (dA DX7_now_0 0 rfl) rfl ?_
      refine J_tabIn C (dA DX7_now_0 1 rfl) (by decide) (by decide) (off := 43) rfl (tgt := 44) (by decide) ?_
      refine J_aload_n C (dA DX7_now_0 6 rfl) rfl ?_
      refine G_X7_fen C wF_RX7_12 (dA DX7_now_0 7 rfl) ?_
      refine V_X1_pondsWithThings C (by decide) (c_X1_pondsWithThings l E _ (by decide) hS) wM_RX7_128 (by decide) (dA DX7_now_0 8 rfl) rfl (Nat.le_of_ble_eq_true rfl) ?_
      exact J_iret C G (dA DX7_now_0 9 rfl) ⟨oi (by unfold aNow; rw [if_pos (show inr (nI 1) 0 4 = true from by decide), show nv (nI 1) = 1 from rfl]; rfl), by unfold eNow; rw [if_pos (show inr (nI 1) 0 4 = true from by decide)]⟩
    · refine J_iload_n C (dA DX7_now_0 0 rfl) rfl ?_
      refine J_tabIn C (dA DX7_now_0 1 rfl) (by decide) (by decide) (off := 51) rfl (tgt := 52) (by decide) ?_
      refine J_aload_n C (dA DX7_now_0 10 rfl) rfl ?_
      refine G_X7_fen C wF_RX7_12 (dA DX7_now_0 11 rfl) ?_
      refine V_X1_pondsWithSights C (by decide) (c_X1_pondsWithSights l E _ (by decide) hS) wM_RX7_132 (by decide) (dA DX7_now_0 12 rfl) rfl (Nat.le_of_ble_eq_true rfl) ?_
      exact J_iret C G (dA DX7_now_0 13 rfl) ⟨oi (by unfold aNow; rw [if_pos (show inr (nI 2) 0 4 = true from by decide), show nv (nI 2) = 2 from rfl]; rfl), by unfold eNow; rw [if_pos (show inr (nI 2) 0 4 = true from by decide)]⟩
    · refine J_iload_n C (dA DX7_now_0 0 rfl) rfl ?_
      refine J_tabIn C (dA DX7_now_0 1 rfl) (by decide) (by decide) (off := 59) rfl (tgt := 60) (by decide) ?_
      refine J_aload_n C (dA DX7_now_0 14 rfl) rfl ?_
      refine G_X7_fen C wF_RX7_12 (dA DX7_now_0 15 rfl) ?_
      refine H_X1_rain C (by decide) hS wF_RX7_116 (dA DX7_now_0 16 rfl) ?_
      exact J_iret C G (dA DX7_now_0 17 rfl) ⟨oi (by unfold aNow; rw [if_pos (show inr (nI 3) 0 4 = true from by decide), show nv (nI 3) = 3 from rfl]; rfl), by unfold eNow; rw [if_pos (show inr (nI 3) 0 4 = true from by decide)]⟩
    · refine J_iload_n C (dA DX7_now_0 0 rfl) rfl ?_
      refine J_tabIn C (dA DX7_now_0 1 rfl) (by decide) (by decide) (off := 67) rfl (tgt := 68) (by decide) ?_
      refine J_aload_n C (dA DX7_now_0 18 rfl) rfl ?_
      refine G_X7_fen C wF_RX7_12 (dA DX7_now_0 19 rfl) ?_
      refine V_X1_lengths C (by decide) (c_X1_lengths l E _ (by decide) hS) wM_RX7_135 (by decide) (dA DX7_now_0 20 rfl) rfl (Nat.le_of_ble_eq_true rfl) ?_
      exact J_iret C G (dA DX7_now_0 21 rfl) ⟨oi (by unfold aNow; rw [if_pos (show inr (nI 4) 0 4 = true from by decide), show nv (nI 4) = 4 from rfl]; rfl), by unfold eNow; rw [if_pos (show inr (nI 4) 0 4 = true from by decide)]⟩
  · refine J_iload_n C (dA DX7_now_0 0 rfl) rfl ?_
    refine J_tabOut C (dA DX7_now_0 1 rfl) (by have := inr_f (Bool.eq_false_iff.mpr hv); omega) (tgt := 76) (by decide) ?_
    refine J_aload_n C (dA DX7_now_0 22 rfl) rfl ?_
    refine J_ldc (v := (-1000001)) C wK_RX7_69 (dA DX7_now_0 23 rfl) ?_
    refine V_X7_finding C (c_X7_finding l E 0 (by decide) _ (by decide)) wM_RX7_70 (by decide) (dA DX7_now_0 24 rfl) rfl (Nat.le_of_ble_eq_true rfl) ?_
    exact J_iret C G (dA DX7_now_0 25 rfl) ⟨oi (by unfold aNow; rw [if_neg hv]; rfl), by unfold eNow; rw [if_neg hv]⟩

set_option maxRecDepth 4000 in
theorem c_X8_now (l : Launch) (E : jE) (a : Int32) (hS : IS (vb 1100 M))  : K_X8_now l E [.ref (ja E 60), .int a] M (aNow (vb 1100 M) a) (eNow 1502 a M) := by
  refine CT_intro (own := RX8) (by decide +kernel) rfl (by simp [Value.category]) (Nat.le_of_ble_eq_true rfl) rfl (fun X C G => ?_)
  show J E X 0 [some (.ref (ja E 60)), some (.int a)] [] M
  by_cases hv : inr a 0 4 = true
  · have hv2 := inr_t hv
    obtain ⟨p, hp, rfl⟩ := toNI (x := a) (n := 5) (by omega) (by omega)
    rcases (show p = 0 ∨ p = 1 ∨ p = 2 ∨ p = 3 ∨ p = 4 by omega) with rfl | rfl | rfl | rfl | rfl
    · refine J_iload_n C (dA DX8_now_0 0 rfl) rfl ?_
      refine J_tabIn C (dA DX8_now_0 1 rfl) (by decide) (by decide) (off := 35) rfl (tgt := 36) (by decide) ?_
      refine J_aload_n C (dA DX8_now_0 2 rfl) rfl ?_
      refine G_X8_s C wF_RX8_9 (dA DX8_now_0 3 rfl) ?_
      refine J_iconst (v := nI 0) C (dA DX8_now_0 4 rfl) (by decide) ?_
      refine Q_s0 C hS (dA DX8_now_0 5 rfl) ?_
      exact J_iret C G (dA DX8_now_0 6 rfl) ⟨oi (by unfold aNow; rw [if_pos (show inr (nI 0) 0 4 = true from by decide), show nv (nI 0) = 0 from rfl]; rfl), by unfold eNow; rw [if_pos (show inr (nI 0) 0 4 = true from by decide)]⟩
    · refine J_iload_n C (dA DX8_now_0 0 rfl) rfl ?_
      refine J_tabIn C (dA DX8_now_0 1 rfl) (by decide) (by decide) (off := 42) rfl (tgt := 43) (by decide) ?_
      refine J_aload_n C (dA DX8_now_0 7 rfl) rfl ?_
      refine J_iconst (v := nI 0) C (dA DX8_now_0 8 rfl) (by decide) ?_
      refine V_X8_pondsWith C (c_X8_pondsWith_f l E hS) wM_RX8_122 (by decide) (dA DX8_now_0 9 rfl) rfl (Nat.le_of_ble_eq_true rfl) ?_
      exact J_iret C G (dA DX8_now_0 10 rfl) ⟨oi (by unfold aNow; rw [if_pos (show inr (nI 1) 0 4 = true from by decide), show nv (nI 1) = 1 from rfl]; rfl), by unfold eNow; rw [if_pos (show inr (nI 1) 0 4 = true from by decide)]⟩
    · refine J_iload_n C (dA DX8_now_0 0 rfl) rfl ?_
      refine J_tabIn C (dA DX8_now_0 1 rfl) (by decide) (by decide) (off := 48) rfl (tgt := 49) (by decide) ?_
      refine J_aload_n C (dA DX8_now_0 11 rfl) rfl ?_
      refine J_iconst (v := nI 1) C (dA DX8_now_0 12 rfl) (by decide) ?_
      refine V_X8_pondsWith C (c_X8_pondsWith_t l E hS) wM_RX8_122 (by decide) (dA DX8_now_0 13 rfl) rfl (Nat.le_of_ble_eq_true rfl) ?_
      exact J_iret C G (dA DX8_now_0 14 rfl) ⟨oi (by unfold aNow; rw [if_pos (show inr (nI 2) 0 4 = true from by decide), show nv (nI 2) = 2 from rfl]; rfl), by unfold eNow; rw [if_pos (show inr (nI 2) 0 4 = true from by decide)]⟩
    · refine J_iload_n C (dA DX8_now_0 0 rfl) rfl ?_
      refine J_tabIn C (dA DX8_now_0 1 rfl) (by decide) (by decide) (off := 54) rfl (tgt := 55) (by decide) ?_
      refine J_aload_n C (dA DX8_now_0 15 rfl) rfl ?_
      refine G_X8_s C wF_RX8_9 (dA DX8_now_0 16 rfl) ?_
      refine J_iconst (v := nI 3) C (dA DX8_now_0 17 rfl) (by decide) ?_
      refine Q_s3 C hS (dA DX8_now_0 18 rfl) ?_
      exact J_iret C G (dA DX8_now_0 19 rfl) ⟨oi (by unfold aNow; rw [if_pos (show inr (nI 3) 0 4 = true from by decide), show nv (nI 3) = 3 from rfl]; rfl), by unfold eNow; rw [if_pos (show inr (nI 3) 0 4 = true from by decide)]⟩
    · refine J_iload_n C (dA DX8_now_0 0 rfl) rfl ?_
      refine J_tabIn C (dA DX8_now_0 1 rfl) (by decide) (by decide) (off := 61) rfl (tgt := 62) (by decide) ?_
      refine J_aload_n C (dA DX8_now_0 20 rfl) rfl ?_
      refine V_X8_lengths C (c_X8_lengths l E hS) wM_RX8_126 (by decide) (dA DX8_now_0 21 rfl) rfl (Nat.le_of_ble_eq_true rfl) ?_
      exact J_iret C G (dA DX8_now_0 22 rfl) ⟨oi (by unfold aNow; rw [if_pos (show inr (nI 4) 0 4 = true from by decide), show nv (nI 4) = 4 from rfl]; rfl), by unfold eNow; rw [if_pos (show inr (nI 4) 0 4 = true from by decide)]⟩
  · refine J_iload_n C (dA DX8_now_0 0 rfl) rfl ?_
    refine J_tabOut C (dA DX8_now_0 1 rfl) (by have := inr_f (Bool.eq_false_iff.mpr hv); omega) (tgt := 67) (by decide) ?_
    refine J_aload_n C (dA DX8_now_0 23 rfl) rfl ?_
    refine J_iconst (v := nI 0) C (dA DX8_now_0 24 rfl) (by decide) ?_
    refine V_X8_no C (c_X8_no l E _ (by decide)) wM_RX8_106 (by decide) (dA DX8_now_0 25 rfl) rfl (Nat.le_of_ble_eq_true rfl) ?_
    exact J_iret C G (dA DX8_now_0 26 rfl) ⟨oi (by unfold aNow; rw [if_neg hv]; rfl), by unfold eNow; rw [if_neg hv]⟩

set_option maxRecDepth 4000 in
theorem c_X7_chain (l : Launch) (E : jE) (a b c : Int32) (hS : IS (vb (fb 0) M))  : K_X7_chain l E [.ref (ja E 59), .int a, .int b, .int c] M (aChain (vb (fb 0) M) a b c) (eChain (fb 0) 402 1076 a b c M) := by
  refine CT_intro (own := RX7) (by decide +kernel) rfl (by simp [Value.category]) (Nat.le_of_ble_eq_true rfl) rfl (fun X C G => ?_)
  show J E X 0 [some (.ref (ja E 59)), some (.int a), some (.int b), some (.int c)] [] M
  refine J_iload_n C (dA DX7_chain_0 0 rfl) rfl ?_
  refine V_X7_isPond C (c_X7_isPond l E _) wM_RX7_65 (by decide) (dA DX7_chain_0 1 rfl) rfl (Nat.le_of_ble_eq_true rfl) ?_
  refine J_if_eq_b (tgt := 23) C (dA DX7_chain_0 2 rfl) (by decide) (fun h4 => ?_) (fun h4 => ?_)
  · try have g4 := inr_t h4
    try have g4 := inr_f h4
    refine J_aload_n C (dA DX7_chain_0 11 rfl) rfl ?_
    refine J_ldc (v := (-1000001)) C wK_RX7_69 (dA DX7_chain_0 12 rfl) ?_
    refine V_X7_finding C (c_X7_finding l E 0 (by decide) _ (by decide)) wM_RX7_70 (by decide) (dA DX7_chain_0 13 rfl) rfl (Nat.le_of_ble_eq_true rfl) ?_
    exact J_iret C G (dA DX7_chain_0 14 rfl) ⟨oi (by unfold aChain; rw [if_neg (by rintro ⟨z1, z2, z3⟩; try have z1 := inr_t z1; try have z2 := inr_t z2; try have z3 := inr_t z3; omega)]; rfl), by unfold eChain; rw [if_neg (by rintro ⟨z1, z2, z3⟩; try have z1 := inr_t z1; try have z2 := inr_t z2; try have z3 := inr_t z3; omega)]⟩
  · try have g4 := inr_t h4
    try have g4 := inr_f h4
    refine J_iload_n C (dA DX7_chain_0 3 rfl) rfl ?_
    refine V_X7_isSteps C (c_X7_isSteps l E _) wM_RX7_138 (by decide) (dA DX7_chain_0 4 rfl) rfl (Nat.le_of_ble_eq_true rfl) ?_
    refine J_if_eq_b (tgt := 23) C (dA DX7_chain_0 5 rfl) (by decide) (fun h11 => ?_) (fun h11 => ?_)
    · try have g11 := inr_t h11
      try have g11 := inr_f h11
      refine J_aload_n C (dA DX7_chain_0 11 rfl) rfl ?_
      refine J_ldc (v := (-1000001)) C wK_RX7_69 (dA DX7_chain_0 12 rfl) ?_
      refine V_X7_finding C (c_X7_finding l E 0 (by decide) _ (by decide)) wM_RX7_70 (by decide) (dA DX7_chain_0 13 rfl) rfl (Nat.le_of_ble_eq_true rfl) ?_
      exact J_iret C G (dA DX7_chain_0 14 rfl) ⟨oi (by unfold aChain; rw [if_neg (by rintro ⟨z1, z2, z3⟩; try have z1 := inr_t z1; try have z2 := inr_t z2; try have z3 := inr_t z3; omega)]; rfl), by unfold eChain; rw [if_neg (by rintro ⟨z1, z2, z3⟩; try have z1 := inr_t z1; try have z2 := inr_t z2; try have z3 := inr_t z3; omega)]⟩
    · try have g11 := inr_t h11
      try have g11 := inr_f h11
      refine J_iload_n C (dA DX7_chain_0 6 rfl) rfl ?_
      first | refine J_if_lt_n (tgt := 23) C (by omega) (dA DX7_chain_0 7 rfl) (by decide) (fun h15 => ?_) (fun h15 => ?_) | refine J_if_lt_t (tgt := 23) C (dA DX7_chain_0 7 rfl) (by decide) (fun h15 => ?_) (fun h15 => ?_)
      · try have g15 := inr_t h15
        try have g15 := inr_f h15
        refine J_aload_n C (dA DX7_chain_0 11 rfl) rfl ?_
        refine J_ldc (v := (-1000001)) C wK_RX7_69 (dA DX7_chain_0 12 rfl) ?_
        refine V_X7_finding C (c_X7_finding l E 0 (by decide) _ (by decide)) wM_RX7_70 (by decide) (dA DX7_chain_0 13 rfl) rfl (Nat.le_of_ble_eq_true rfl) ?_
        exact J_iret C G (dA DX7_chain_0 14 rfl) ⟨oi (by unfold aChain; rw [if_neg (by rintro ⟨z1, z2, z3⟩; try have z1 := inr_t z1; try have z2 := inr_t z2; try have z3 := inr_t z3; omega)]; rfl), by unfold eChain; rw [if_neg (by rintro ⟨z1, z2, z3⟩; try have z1 := inr_t z1; try have z2 := inr_t z2; try have z3 := inr_t z3; omega)]⟩
      · try have g15 := inr_t h15
        try have g15 := inr_f h15
        refine J_iload_n C (dA DX7_chain_0 8 rfl) rfl ?_
        refine J_iconst (v := nI 3) C (dA DX7_chain_0 9 rfl) (by decide) ?_
        first | refine J_icmp_le_n (tgt := 30) C (by omega) (by omega) (dA DX7_chain_0 10 rfl) (by decide) (fun h20 => ?_) (fun h20 => ?_) | refine J_icmp_le_c (tgt := 30) C (by omega) (dA DX7_chain_0 10 rfl) (by decide) (fun h20 => ?_) (fun h20 => ?_) | refine J_icmp_le_t (tgt := 30) C (dA DX7_chain_0 10 rfl) (by decide) (fun h20 => ?_) (fun h20 => ?_)
        · try have g20 := inr_t h20
          try have g20 := inr_f h20
          obtain ⟨p, hp, rfl⟩ := toNI (x := a) (n := 16) (by omega) (by omega)
          have ta := tI (n := p) (by omega)
          have na : nv (nI p) = p := nv_nI (by omega)
          obtain ⟨w, hw, rfl⟩ := toNI (x := b) (n := 17) (by omega) (by omega)
          have tb := tI (n := w) (by omega)
          have nb : nv (nI w) = w := nv_nI (by omega)
          obtain ⟨u, hu, rfl⟩ := toNI (x := c) (n := 4) (by omega) (by omega)
          have tc := tI (n := u) (by omega)
          have nc : nv (nI u) = u := nv_nI (by omega)
          refine J_aload_n C (dA DX7_chain_0 15 rfl) rfl ?_
          refine G_X7_walk C wF_RX7_29 (dA DX7_chain_0 16 rfl) ?_
          refine J_aload_n C (dA DX7_chain_0 17 rfl) rfl ?_
          refine G_X7_fen C wF_RX7_12 (dA DX7_chain_0 18 rfl) ?_
          refine J_iload_n C (dA DX7_chain_0 19 rfl) rfl ?_
          refine J_iload_n C (dA DX7_chain_0 20 rfl) rfl ?_
          refine V_X0_take C (c_X0_take l E 0 p w (by decide) hp (by omega) hS) wM_RX7_141 (by decide) (dA DX7_chain_0 21 rfl) rfl (Nat.le_of_ble_eq_true rfl) ?_
          refine J_iload_n C (dA DX7_chain_0 22 rfl) rfl ?_
          rcases (show u = 0 ∨ u = 1 ∨ u = 2 ∨ u = 3 by omega) with rfl | rfl | rfl | rfl
          · refine J_tabIn C (dA DX7_chain_0 23 rfl) (by decide) (by decide) (off := 28) rfl (tgt := 72) (by decide) ?_
            refine J_aload_n C (dA DX7_chain_0 24 rfl) rfl ?_
            refine G_X7_walk C wF_RX7_29 (dA DX7_chain_0 25 rfl) ?_
            refine G_X0_end C wF_RX7_145 (dA DX7_chain_0 26 rfl) ?_
            rw [chM_0]
            exact J_iret C G (dA DX7_chain_0 27 rfl) ⟨oi (by unfold aChain; rw [if_pos ⟨decide_eq_true (by omega), decide_eq_true (by omega), decide_eq_true (by omega)⟩, na, nb, nc]; unfold vCh; (repeat' split) <;> first | rfl | (exfalso; omega)), by unfold eChain; rw [if_pos ⟨decide_eq_true (by omega), decide_eq_true (by omega), decide_eq_true (by omega)⟩, na, nb]⟩
          · refine J_tabIn C (dA DX7_chain_0 23 rfl) (by decide) (by decide) (off := 36) rfl (tgt := 80) (by decide) ?_
            refine J_aload_n C (dA DX7_chain_0 28 rfl) rfl ?_
            refine G_X7_walk C wF_RX7_29 (dA DX7_chain_0 29 rfl) ?_
            refine G_X0_size C wF_RX7_148 (dA DX7_chain_0 30 rfl) ?_
            rw [show (403 : Nat) = 402 + 1 from rfl, chM_1]
            exact J_iret C G (dA DX7_chain_0 31 rfl) ⟨oi (by unfold aChain; rw [if_pos ⟨decide_eq_true (by omega), decide_eq_true (by omega), decide_eq_true (by omega)⟩, na, nb, nc]; unfold vCh; (repeat' split) <;> first | rfl | (exfalso; omega)), by unfold eChain; rw [if_pos ⟨decide_eq_true (by omega), decide_eq_true (by omega), decide_eq_true (by omega)⟩, na, nb]⟩
          · refine J_tabIn C (dA DX7_chain_0 23 rfl) (by decide) (by decide) (off := 44) rfl (tgt := 88) (by decide) ?_
            refine J_aload_n C (dA DX7_chain_0 32 rfl) rfl ?_
            refine G_X7_walk C wF_RX7_29 (dA DX7_chain_0 33 rfl) ?_
            refine G_X0_turned C wF_RX7_151 (dA DX7_chain_0 34 rfl) ?_
            rw [show (404 : Nat) = 402 + 2 from rfl, chM_2]
            exact J_iret C G (dA DX7_chain_0 35 rfl) ⟨oi (by unfold aChain; rw [if_pos ⟨decide_eq_true (by omega), decide_eq_true (by omega), decide_eq_true (by omega)⟩, na, nb, nc]; unfold vCh; (repeat' split) <;> first | rfl | (exfalso; omega)), by unfold eChain; rw [if_pos ⟨decide_eq_true (by omega), decide_eq_true (by omega), decide_eq_true (by omega)⟩, na, nb]⟩
          · refine J_tabOut C (dA DX7_chain_0 23 rfl) (by decide) (tgt := 96) (by decide) ?_
            refine J_aload_n C (dA DX7_chain_0 36 rfl) rfl ?_
            refine G_X7_walk C wF_RX7_29 (dA DX7_chain_0 37 rfl) ?_
            refine G_X0_flipped C wF_RX7_154 (dA DX7_chain_0 38 rfl) ?_
            rw [show (405 : Nat) = 402 + 3 from rfl, chM_3]
            exact J_iret C G (dA DX7_chain_0 39 rfl) ⟨oi (by unfold aChain; rw [if_pos ⟨decide_eq_true (by omega), decide_eq_true (by omega), decide_eq_true (by omega)⟩, na, nb, nc]; unfold vCh; (repeat' split) <;> first | rfl | (exfalso; omega)), by unfold eChain; rw [if_pos ⟨decide_eq_true (by omega), decide_eq_true (by omega), decide_eq_true (by omega)⟩, na, nb]⟩
        · try have g20 := inr_t h20
          try have g20 := inr_f h20
          refine J_aload_n C (dA DX7_chain_0 11 rfl) rfl ?_
          refine J_ldc (v := (-1000001)) C wK_RX7_69 (dA DX7_chain_0 12 rfl) ?_
          refine V_X7_finding C (c_X7_finding l E 0 (by decide) _ (by decide)) wM_RX7_70 (by decide) (dA DX7_chain_0 13 rfl) rfl (Nat.le_of_ble_eq_true rfl) ?_
          exact J_iret C G (dA DX7_chain_0 14 rfl) ⟨oi (by unfold aChain; rw [if_neg (by rintro ⟨z1, z2, z3⟩; try have z1 := inr_t z1; try have z2 := inr_t z2; try have z3 := inr_t z3; omega)]; rfl), by unfold eChain; rw [if_neg (by rintro ⟨z1, z2, z3⟩; try have z1 := inr_t z1; try have z2 := inr_t z2; try have z3 := inr_t z3; omega)]⟩
set_option maxRecDepth 4000 in
theorem c_X8_chain (l : Launch) (E : jE) (a b c : Int32) (hS : IS (vb 1100 M))  : K_X8_chain l E [.ref (ja E 60), .int a, .int b, .int c] M (aChain (vb 1100 M) a b c) (eChain 1100 1854 1502 a b c M) := by
  refine CT_intro (own := RX8) (by decide +kernel) rfl (by simp [Value.category]) (Nat.le_of_ble_eq_true rfl) rfl (fun X C G => ?_)
  show J E X 0 [some (.ref (ja E 60)), some (.int a), some (.int b), some (.int c)] [] M
  refine J_iload_n C (dA DX8_chain_0 0 rfl) rfl ?_
  refine V_X8_isPond C (c_X8_isPond l E _) wM_RX8_102 (by decide) (dA DX8_chain_0 1 rfl) rfl (Nat.le_of_ble_eq_true rfl) ?_
  refine J_if_eq_b (tgt := 26) C (dA DX8_chain_0 2 rfl) (by decide) (fun h4 => ?_) (fun h4 => ?_)
  · try have g4 := inr_t h4
    try have g4 := inr_f h4
    refine J_aload_n C (dA DX8_chain_0 13 rfl) rfl ?_
    refine J_iconst (v := nI 0) C (dA DX8_chain_0 14 rfl) (by decide) ?_
    refine V_X8_no C (c_X8_no l E _ (by decide)) wM_RX8_106 (by decide) (dA DX8_chain_0 15 rfl) rfl (Nat.le_of_ble_eq_true rfl) ?_
    exact J_iret C G (dA DX8_chain_0 16 rfl) ⟨oi (by unfold aChain; rw [if_neg (by rintro ⟨z1, z2, z3⟩; try have z1 := inr_t z1; try have z2 := inr_t z2; try have z3 := inr_t z3; omega)]; rfl), by unfold eChain; rw [if_neg (by rintro ⟨z1, z2, z3⟩; try have z1 := inr_t z1; try have z2 := inr_t z2; try have z3 := inr_t z3; omega)]⟩
  · try have g4 := inr_t h4
    try have g4 := inr_f h4
    refine J_iload_n C (dA DX8_chain_0 3 rfl) rfl ?_
    refine J_iconst (v := nI 0) C (dA DX8_chain_0 4 rfl) (by decide) ?_
    refine J_bipush (v := nI 16) C (dA DX8_chain_0 5 rfl) (by decide) ?_
    refine V_X8_in1 C (c_X8_in1n l E _ _ _ (by omega) (by omega)) wM_RX8_58 (by decide) (dA DX8_chain_0 6 rfl) rfl (Nat.le_of_ble_eq_true rfl) ?_
    refine J_if_eq_b (tgt := 26) C (dA DX8_chain_0 7 rfl) (by decide) (fun h14 => ?_) (fun h14 => ?_)
    · try have g14 := inr_t h14
      try have g14 := inr_f h14
      refine J_aload_n C (dA DX8_chain_0 13 rfl) rfl ?_
      refine J_iconst (v := nI 0) C (dA DX8_chain_0 14 rfl) (by decide) ?_
      refine V_X8_no C (c_X8_no l E _ (by decide)) wM_RX8_106 (by decide) (dA DX8_chain_0 15 rfl) rfl (Nat.le_of_ble_eq_true rfl) ?_
      exact J_iret C G (dA DX8_chain_0 16 rfl) ⟨oi (by unfold aChain; rw [if_neg (by rintro ⟨z1, z2, z3⟩; try have z1 := inr_t z1; try have z2 := inr_t z2; try have z3 := inr_t z3; omega)]; rfl), by unfold eChain; rw [if_neg (by rintro ⟨z1, z2, z3⟩; try have z1 := inr_t z1; try have z2 := inr_t z2; try have z3 := inr_t z3; omega)]⟩
    · try have g14 := inr_t h14
      try have g14 := inr_f h14
      refine J_iload_n C (dA DX8_chain_0 8 rfl) rfl ?_
      refine J_iconst (v := nI 0) C (dA DX8_chain_0 9 rfl) (by decide) ?_
      refine J_iconst (v := nI 3) C (dA DX8_chain_0 10 rfl) (by decide) ?_
      refine V_X8_in1 C (c_X8_in1n l E _ _ _ (by omega) (by omega)) wM_RX8_58 (by decide) (dA DX8_chain_0 11 rfl) rfl (Nat.le_of_ble_eq_true rfl) ?_
      refine J_if_ne_b (tgt := 32) C (dA DX8_chain_0 12 rfl) (by decide) (fun h23 => ?_) (fun h23 => ?_)
      · try have g23 := inr_t h23
        try have g23 := inr_f h23
        obtain ⟨p, hp, rfl⟩ := toNI (x := a) (n := 16) (by omega) (by omega)
        have ta := tI (n := p) (by omega)
        have na : nv (nI p) = p := nv_nI (by omega)
        obtain ⟨w, hw, rfl⟩ := toNI (x := b) (n := 17) (by omega) (by omega)
        have tb := tI (n := w) (by omega)
        have nb : nv (nI w) = w := nv_nI (by omega)
        obtain ⟨u, hu, rfl⟩ := toNI (x := c) (n := 4) (by omega) (by omega)
        have tc := tI (n := u) (by omega)
        have nc : nv (nI u) = u := nv_nI (by omega)
        refine J_aload_n C (dA DX8_chain_0 17 rfl) rfl ?_
        refine J_iload_n C (dA DX8_chain_0 18 rfl) rfl ?_
        refine J_iload_n C (dA DX8_chain_0 19 rfl) rfl ?_
        refine V_X8_goesThrough C (c_X8_goesThrough l E p w hp (by omega) hS) wM_RX8_150 (by decide) (dA DX8_chain_0 20 rfl) rfl (Nat.le_of_ble_eq_true rfl) ?_
        refine J_iload_n C (dA DX8_chain_0 21 rfl) rfl ?_
        first | refine J_if_ne_b (tgt := 49) C (dA DX8_chain_0 22 rfl) (by decide) (fun h39 => ?_) (fun h39 => ?_) | refine J_if_ne_n (tgt := 49) C (by omega) (dA DX8_chain_0 22 rfl) (by decide) (fun h39 => ?_) (fun h39 => ?_) | refine J_if_ne_t (tgt := 49) C (dA DX8_chain_0 22 rfl) (by decide) (fun h39 => ?_) (fun h39 => ?_)
        · try have g39 := inr_t h39
          try have g39 := inr_f h39
          refine J_iload_n C (dA DX8_chain_0 26 rfl) rfl ?_
          refine J_iconst (v := nI 1) C (dA DX8_chain_0 27 rfl) (by decide) ?_
          first | refine J_icmp_ne_n (tgt := 61) C (by omega) (by omega) (dA DX8_chain_0 28 rfl) (by decide) (fun h51 => ?_) (fun h51 => ?_) | refine J_icmp_ne_c (tgt := 61) C (by omega) (dA DX8_chain_0 28 rfl) (by decide) (fun h51 => ?_) (fun h51 => ?_) | refine J_icmp_ne_t (tgt := 61) C (dA DX8_chain_0 28 rfl) (by decide) (fun h51 => ?_) (fun h51 => ?_)
          · try have g51 := inr_t h51
            try have g51 := inr_f h51
            refine J_iload_n C (dA DX8_chain_0 32 rfl) rfl ?_
            refine J_iconst (v := nI 2) C (dA DX8_chain_0 33 rfl) (by decide) ?_
            first | refine J_icmp_ne_n (tgt := 73) C (by omega) (by omega) (dA DX8_chain_0 34 rfl) (by decide) (fun h63 => ?_) (fun h63 => ?_) | refine J_icmp_ne_c (tgt := 73) C (by omega) (dA DX8_chain_0 34 rfl) (by decide) (fun h63 => ?_) (fun h63 => ?_) | refine J_icmp_ne_t (tgt := 73) C (dA DX8_chain_0 34 rfl) (by decide) (fun h63 => ?_) (fun h63 => ?_)
            · try have g63 := inr_t h63
              try have g63 := inr_f h63
              refine J_aload_n C (dA DX8_chain_0 38 rfl) rfl ?_
              refine G_X8_flipped C wF_RX8_140 (dA DX8_chain_0 39 rfl) ?_
              rw [show (1857 : Nat) = 1854 + 3 from rfl, chM_3]
              exact J_iret C G (dA DX8_chain_0 40 rfl) ⟨oi (by unfold aChain; rw [if_pos ⟨decide_eq_true (by omega), decide_eq_true (by omega), decide_eq_true (by omega)⟩, na, nb, nc]; unfold vCh; (repeat' split) <;> first | rfl | (exfalso; omega)), by unfold eChain; rw [if_pos ⟨decide_eq_true (by omega), decide_eq_true (by omega), decide_eq_true (by omega)⟩, na, nb]⟩
            · try have g63 := inr_t h63
              try have g63 := inr_f h63
              refine J_aload_n C (dA DX8_chain_0 35 rfl) rfl ?_
              refine G_X8_turned C wF_RX8_137 (dA DX8_chain_0 36 rfl) ?_
              rw [show (1856 : Nat) = 1854 + 2 from rfl, chM_2]
              refine J_goto (tgt := 77) C (dA DX8_chain_0 37 rfl) (by decide) ?_
              skip
              exact J_iret C G (dA DX8_chain_0 40 rfl) ⟨oi (by unfold aChain; rw [if_pos ⟨decide_eq_true (by omega), decide_eq_true (by omega), decide_eq_true (by omega)⟩, na, nb, nc]; unfold vCh; (repeat' split) <;> first | rfl | (exfalso; omega)), by unfold eChain; rw [if_pos ⟨decide_eq_true (by omega), decide_eq_true (by omega), decide_eq_true (by omega)⟩, na, nb]⟩
          · try have g51 := inr_t h51
            try have g51 := inr_f h51
            refine J_aload_n C (dA DX8_chain_0 29 rfl) rfl ?_
            refine G_X8_size C wF_RX8_134 (dA DX8_chain_0 30 rfl) ?_
            rw [show (1855 : Nat) = 1854 + 1 from rfl, chM_1]
            refine J_goto (tgt := 77) C (dA DX8_chain_0 31 rfl) (by decide) ?_
            skip
            exact J_iret C G (dA DX8_chain_0 40 rfl) ⟨oi (by unfold aChain; rw [if_pos ⟨decide_eq_true (by omega), decide_eq_true (by omega), decide_eq_true (by omega)⟩, na, nb, nc]; unfold vCh; (repeat' split) <;> first | rfl | (exfalso; omega)), by unfold eChain; rw [if_pos ⟨decide_eq_true (by omega), decide_eq_true (by omega), decide_eq_true (by omega)⟩, na, nb]⟩
        · try have g39 := inr_t h39
          try have g39 := inr_f h39
          refine J_aload_n C (dA DX8_chain_0 23 rfl) rfl ?_
          refine G_X8_ends C wF_RX8_130 (dA DX8_chain_0 24 rfl) ?_
          rw [chM_0]
          refine J_goto (tgt := 77) C (dA DX8_chain_0 25 rfl) (by decide) ?_
          skip
          exact J_iret C G (dA DX8_chain_0 40 rfl) ⟨oi (by unfold aChain; rw [if_pos ⟨decide_eq_true (by omega), decide_eq_true (by omega), decide_eq_true (by omega)⟩, na, nb, nc]; unfold vCh; (repeat' split) <;> first | rfl | (exfalso; omega)), by unfold eChain; rw [if_pos ⟨decide_eq_true (by omega), decide_eq_true (by omega), decide_eq_true (by omega)⟩, na, nb]⟩
      · try have g23 := inr_t h23
        try have g23 := inr_f h23
        refine J_aload_n C (dA DX8_chain_0 13 rfl) rfl ?_
        refine J_iconst (v := nI 0) C (dA DX8_chain_0 14 rfl) (by decide) ?_
        refine V_X8_no C (c_X8_no l E _ (by decide)) wM_RX8_106 (by decide) (dA DX8_chain_0 15 rfl) rfl (Nat.le_of_ble_eq_true rfl) ?_
        exact J_iret C G (dA DX8_chain_0 16 rfl) ⟨oi (by unfold aChain; rw [if_neg (by rintro ⟨z1, z2, z3⟩; try have z1 := inr_t z1; try have z2 := inr_t z2; try have z3 := inr_t z3; omega)]; rfl), by unfold eChain; rw [if_neg (by rintro ⟨z1, z2, z3⟩; try have z1 := inr_t z1; try have z2 := inr_t z2; try have z3 := inr_t z3; omega)]⟩
set_option maxRecDepth 4000 in
theorem c_X7_through (l : Launch) (E : jE) (a b : Int32) (hS : IS (vb (fb 0) M))  : K_X7_through l E [.ref (ja E 59), .int a, .int b] M (aThrough (vb (fb 0) M) a b) (eThrough (fb 0) 402 1076 a b M) := by
  refine CT_intro (own := RX7) (by decide +kernel) rfl (by simp [Value.category]) (Nat.le_of_ble_eq_true rfl) rfl (fun X C G => ?_)
  show J E X 0 [some (.ref (ja E 59)), some (.int a), some (.int b), none] [] M
  have hN := leN hS
  refine J_iload_n C (dA DX7_through_0 0 rfl) rfl ?_
  refine V_X7_isPond C (c_X7_isPond l E _) wM_RX7_65 (by decide) (dA DX7_through_0 1 rfl) rfl (Nat.le_of_ble_eq_true rfl) ?_
  refine J_if_eq_b (tgt := 18) C (dA DX7_through_0 2 rfl) (by decide) (fun h4 => ?_) (fun h4 => ?_)
  · try have g4 := inr_t h4
    try have g4 := inr_f h4
    refine J_aload_n C (dA DX7_through_0 8 rfl) rfl ?_
    refine J_ldc (v := (-1000001)) C wK_RX7_69 (dA DX7_through_0 9 rfl) ?_
    refine V_X7_finding C (c_X7_finding l E 0 (by decide) _ (by decide)) wM_RX7_70 (by decide) (dA DX7_through_0 10 rfl) rfl (Nat.le_of_ble_eq_true rfl) ?_
    exact J_iret C G (dA DX7_through_0 11 rfl) ⟨oi (by unfold aThrough; rw [if_neg (by rintro ⟨z1, z2⟩; try have z1 := inr_t z1; try have z2 := inr_t z2; omega)]; rfl), by unfold eThrough; rw [if_neg (by rintro ⟨z1, z2⟩; try have z1 := inr_t z1; try have z2 := inr_t z2; omega)]⟩
  · try have g4 := inr_t h4
    try have g4 := inr_f h4
    refine J_aload_n C (dA DX7_through_0 3 rfl) rfl ?_
    refine G_X7_fen C wF_RX7_12 (dA DX7_through_0 4 rfl) ?_
    refine J_iload_n C (dA DX7_through_0 5 rfl) rfl ?_
    refine V_X1_has C (by decide) (c_X1_has l E _ (by decide) _ hS) wM_RX7_100 (by decide) (dA DX7_through_0 6 rfl) rfl (Nat.le_of_ble_eq_true rfl) ?_
    refine J_if_ne_b (tgt := 25) C (dA DX7_through_0 7 rfl) (by decide) (fun h15 => ?_) (fun h15 => ?_)
    · try have g15 := inr_t h15
      try have g15 := inr_f h15
      obtain ⟨p, hp, rfl⟩ := toNI (x := a) (n := 16) (by omega) (by omega)
      have ta := tI (n := p) (by omega)
      have na : nv (nI p) = p := nv_nI (by omega)
      obtain ⟨w, hw, rfl⟩ := toNI (x := b) (n := (iN (vb (fb 0) M))) (by omega) (by omega)
      have tb := tI (n := w) (by omega)
      have nb : nv (nI w) = w := nv_nI (by omega)
      have loop : ∀ n i, i + n = 16 → (∀ k, k < i → (fun i => decide (itr (vb (fb 0) M) (i + 1) p = f3 (vb (fb 0) M) w 1)) k = false) → J E X 35 [some (.ref (ja E 59)), some (.int (nI p)), some (.int (nI w)), some (.int (nI (i + 1)))] [] (chM 402 (vb (fb 0) M) p i M) := by
        intro n
        induction n with
        | zero =>
          intro i hi hno
          obtain rfl : i = 16 := by omega
          have e : thN (vb (fb 0) M) p w = 16 := firstN_no hno
          refine J_iload_n C (dA DX7_through_0 18 rfl) rfl ?_
          refine J_bipush (v := nI 16) C (dA DX7_through_0 19 rfl) (by decide) ?_
          first | refine J_icmp_gt_n (tgt := 81) C (by omega) (by omega) (dA DX7_through_0 20 rfl) (by decide) (fun h38 => ?_) (fun h38 => ?_) | refine J_icmp_gt_c (tgt := 81) C (by omega) (dA DX7_through_0 20 rfl) (by decide) (fun h38 => ?_) (fun h38 => ?_) | refine J_icmp_gt_t (tgt := 81) C (dA DX7_through_0 20 rfl) (by decide) (fun h38 => ?_) (fun h38 => ?_)
          · try have g38 := inr_t h38
            try have g38 := inr_f h38
            refine J_aload_n C (dA DX7_through_0 41 rfl) rfl ?_
            refine J_ldc (v := (-1000004)) C wK_RX7_165 (dA DX7_through_0 42 rfl) ?_
            refine V_X7_finding C (c_X7_finding l E 3 (by decide) _ (by decide)) wM_RX7_70 (by decide) (dA DX7_through_0 43 rfl) rfl (Nat.le_of_ble_eq_true rfl) ?_
            exact J_iret C G (dA DX7_through_0 44 rfl) ⟨oi (by unfold aThrough; rw [if_pos ⟨decide_eq_true (by omega), decide_eq_true (by omega)⟩, na, nb, e, if_neg (by omega)]; rfl), by unfold eThrough; rw [if_pos ⟨decide_eq_true (by omega), decide_eq_true (by omega)⟩, na, nb, e, if_neg (by omega)]⟩
          · exfalso; omega
        | succ n ih =>
          intro i hi hno
          have hS2 : IS (vb (fb 0) (chM 402 (vb (fb 0) M) p (i + 1) M)) := by rw [vb_chM (by unfold fb; omega)]; exact hS
          have hl := itr_lt hS (i + 1) hp
          have hT := chT_lt (vb (fb 0) M) p (i + 1)
          have hFl := chF_lt (vb (fb 0) M) p (i + 1)
          have h31 := lt31 hS (k := w) (by omega)
          have hv2 : vb (fb 0) (chM 402 (vb (fb 0) M) p (i + 1) M) = (vb (fb 0) M) := vb_chM (by unfold fb; omega)
          refine J_iload_n C (dA DX7_through_0 18 rfl) rfl ?_
          refine J_bipush (v := nI 16) C (dA DX7_through_0 19 rfl) (by decide) ?_
          first | refine J_icmp_gt_n (tgt := 81) C (by omega) (by omega) (dA DX7_through_0 20 rfl) (by decide) (fun h38 => ?_) (fun h38 => ?_) | refine J_icmp_gt_c (tgt := 81) C (by omega) (dA DX7_through_0 20 rfl) (by decide) (fun h38 => ?_) (fun h38 => ?_) | refine J_icmp_gt_t (tgt := 81) C (dA DX7_through_0 20 rfl) (by decide) (fun h38 => ?_) (fun h38 => ?_)
          · exfalso; omega
          · try have g38 := inr_t h38
            try have g38 := inr_f h38
            refine J_aload_n C (dA DX7_through_0 21 rfl) rfl ?_
            refine G_X7_walk C wF_RX7_29 (dA DX7_through_0 22 rfl) ?_
            refine J_aload_n C (dA DX7_through_0 23 rfl) rfl ?_
            refine G_X7_fen C wF_RX7_12 (dA DX7_through_0 24 rfl) ?_
            refine V_X0_step C (c_X0_step l E 0 _ _ _ _ (by decide) (itr_lt hS i hp) (chZ_le _ _ i) (chT_lt _ _ i) (chF_lt _ _ i) hS) wM_RX7_161 (by decide) (dA DX7_through_0 25 rfl) rfl (Nat.le_of_ble_eq_true rfl) ?_
            show J E X _ _ _ (chM 402 (vb (fb 0) M) p (i + 1) M)
            refine J_aload_n C (dA DX7_through_0 26 rfl) rfl ?_
            refine G_X7_walk C wF_RX7_29 (dA DX7_through_0 27 rfl) ?_
            refine G_X0_end C wF_RX7_145 (dA DX7_through_0 28 rfl) ?_
            rw [chM_0]
            refine J_aload_n C (dA DX7_through_0 29 rfl) rfl ?_
            refine G_X7_fen C wF_RX7_12 (dA DX7_through_0 30 rfl) ?_
            refine G_X1_things C (by decide) wF_RX7_106 (dA DX7_through_0 31 rfl) ?_
            refine J_iconst (v := nI 1) C (dA DX7_through_0 32 rfl) (by decide) ?_
            first | refine R_fp C (by decide) rfl (by omega) (dA DX7_through_0 33 rfl) ?_ | refine R_ft C (by decide) rfl (by omega) (dA DX7_through_0 33 rfl) ?_ | refine R_sh C rfl (by omega) (dA DX7_through_0 33 rfl) ?_
            refine J_iload_n C (dA DX7_through_0 34 rfl) rfl ?_
            refine Q_fk C (by decide) hS2 (by decide) rfl (by omega) (dA DX7_through_0 35 rfl) ?_
            rw [hv2]
            first | refine J_icmp_ne_n (tgt := 75) C (by omega) (by omega) (dA DX7_through_0 36 rfl) (by decide) (fun h70 => ?_) (fun h70 => ?_) | refine J_icmp_ne_c (tgt := 75) C (by omega) (dA DX7_through_0 36 rfl) (by decide) (fun h70 => ?_) (fun h70 => ?_) | refine J_icmp_ne_t (tgt := 75) C (dA DX7_through_0 36 rfl) (by decide) (fun h70 => ?_) (fun h70 => ?_)
            · try have g70 := inr_t h70
              try have g70 := inr_f h70
              first | refine J_inc1_3_4 C (dA DX7_through_0 39 rfl) rfl ?_ | refine J_iinc_3_4 C (dA DX7_through_0 39 rfl) rfl ?_
              refine J_goto (tgt := 35) C (dA DX7_through_0 40 rfl) (by decide) ?_
              refine ih (i + 1) (by omega) (fun k hk => ?_)
              by_cases e : k = i
              · subst e; exact decide_eq_false h70
              · exact hno k (by omega)
            · try have g70 := inr_t h70
              try have g70 := inr_f h70
              refine J_iload_n C (dA DX7_through_0 37 rfl) rfl ?_
              have e : thN (vb (fb 0) M) p w = i := firstN_eq (by omega) hno (decide_eq_true h70)
              exact J_iret C G (dA DX7_through_0 38 rfl) ⟨oi (by unfold aThrough; rw [if_pos ⟨decide_eq_true (by omega), decide_eq_true (by omega)⟩, na, nb, e, if_pos (by omega)]), by unfold eThrough; rw [if_pos ⟨decide_eq_true (by omega), decide_eq_true (by omega)⟩, na, nb, e, if_pos (by omega)]⟩
      refine J_aload_n C (dA DX7_through_0 12 rfl) rfl ?_
      refine G_X7_walk C wF_RX7_29 (dA DX7_through_0 13 rfl) ?_
      refine J_iload_n C (dA DX7_through_0 14 rfl) rfl ?_
      refine V_X0_begin C (c_X0_begin l E _) wM_RX7_157 (by decide) (dA DX7_through_0 15 rfl) rfl (Nat.le_of_ble_eq_true rfl) ?_
      refine J_iconst (v := nI 1) C (dA DX7_through_0 16 rfl) (by decide) ?_
      refine J_ist_3_4 C (dA DX7_through_0 17 rfl) rfl ?_
      exact loop _ 0 (Nat.zero_add _) (fun k hk => by omega)
    · try have g15 := inr_t h15
      try have g15 := inr_f h15
      refine J_aload_n C (dA DX7_through_0 8 rfl) rfl ?_
      refine J_ldc (v := (-1000001)) C wK_RX7_69 (dA DX7_through_0 9 rfl) ?_
      refine V_X7_finding C (c_X7_finding l E 0 (by decide) _ (by decide)) wM_RX7_70 (by decide) (dA DX7_through_0 10 rfl) rfl (Nat.le_of_ble_eq_true rfl) ?_
      exact J_iret C G (dA DX7_through_0 11 rfl) ⟨oi (by unfold aThrough; rw [if_neg (by rintro ⟨z1, z2⟩; try have z1 := inr_t z1; try have z2 := inr_t z2; omega)]; rfl), by unfold eThrough; rw [if_neg (by rintro ⟨z1, z2⟩; try have z1 := inr_t z1; try have z2 := inr_t z2; omega)]⟩
set_option maxRecDepth 4000 in
theorem c_X8_through (l : Launch) (E : jE) (a b : Int32) (hS : IS (vb 1100 M))  : K_X8_through l E [.ref (ja E 60), .int a, .int b] M (aThrough (vb 1100 M) a b) (eThrough 1100 1854 1502 a b M) := by
  refine CT_intro (own := RX8) (by decide +kernel) rfl (by simp [Value.category]) (Nat.le_of_ble_eq_true rfl) rfl (fun X C G => ?_)
  show J E X 0 [some (.ref (ja E 60)), some (.int a), some (.int b), none] [] M
  have hN := leN hS
  refine J_iload_n C (dA DX8_through_0 0 rfl) rfl ?_
  refine V_X8_isPond C (c_X8_isPond l E _) wM_RX8_102 (by decide) (dA DX8_through_0 1 rfl) rfl (Nat.le_of_ble_eq_true rfl) ?_
  refine J_if_eq_b (tgt := 15) C (dA DX8_through_0 2 rfl) (by decide) (fun h4 => ?_) (fun h4 => ?_)
  · try have g4 := inr_t h4
    try have g4 := inr_f h4
    refine J_aload_n C (dA DX8_through_0 7 rfl) rfl ?_
    refine J_iconst (v := nI 0) C (dA DX8_through_0 8 rfl) (by decide) ?_
    refine V_X8_no C (c_X8_no l E _ (by decide)) wM_RX8_106 (by decide) (dA DX8_through_0 9 rfl) rfl (Nat.le_of_ble_eq_true rfl) ?_
    exact J_iret C G (dA DX8_through_0 10 rfl) ⟨oi (by unfold aThrough; rw [if_neg (by rintro ⟨z1, z2⟩; try have z1 := inr_t z1; try have z2 := inr_t z2; omega)]; rfl), by unfold eThrough; rw [if_neg (by rintro ⟨z1, z2⟩; try have z1 := inr_t z1; try have z2 := inr_t z2; omega)]⟩
  · try have g4 := inr_t h4
    try have g4 := inr_f h4
    refine J_aload_n C (dA DX8_through_0 3 rfl) rfl ?_
    refine J_iload_n C (dA DX8_through_0 4 rfl) rfl ?_
    refine V_X8_isThing C (c_X8_isThing l E _ hS) wM_RX8_116 (by decide) (dA DX8_through_0 5 rfl) rfl (Nat.le_of_ble_eq_true rfl) ?_
    refine J_if_ne_b (tgt := 21) C (dA DX8_through_0 6 rfl) (by decide) (fun h12 => ?_) (fun h12 => ?_)
    · try have g12 := inr_t h12
      try have g12 := inr_f h12
      obtain ⟨p, hp, rfl⟩ := toNI (x := a) (n := 16) (by omega) (by omega)
      have ta := tI (n := p) (by omega)
      have na : nv (nI p) = p := nv_nI (by omega)
      obtain ⟨w, hw, rfl⟩ := toNI (x := b) (n := (iN (vb 1100 M))) (by omega) (by omega)
      have tb := tI (n := w) (by omega)
      have nb : nv (nI w) = w := nv_nI (by omega)
      have loop : ∀ n i, i + n = 16 → (∀ k, k < i → (fun i => decide (itr (vb 1100 M) (i + 1) p = f3 (vb 1100 M) w 1)) k = false) → J E X 28 [some (.ref (ja E 60)), some (.int (nI p)), some (.int (nI w)), some (.int (nI (i + 1)))] [] (chM 1854 (vb 1100 M) p i M) := by
        intro n
        induction n with
        | zero =>
          intro i hi hno
          obtain rfl : i = 16 := by omega
          have e : thN (vb 1100 M) p w = 16 := firstN_no hno
          refine J_iload_n C (dA DX8_through_0 16 rfl) rfl ?_
          refine J_bipush (v := nI 16) C (dA DX8_through_0 17 rfl) (by decide) ?_
          first | refine J_icmp_gt_n (tgt := 59) C (by omega) (by omega) (dA DX8_through_0 18 rfl) (by decide) (fun h31 => ?_) (fun h31 => ?_) | refine J_icmp_gt_c (tgt := 59) C (by omega) (dA DX8_through_0 18 rfl) (by decide) (fun h31 => ?_) (fun h31 => ?_) | refine J_icmp_gt_t (tgt := 59) C (dA DX8_through_0 18 rfl) (by decide) (fun h31 => ?_) (fun h31 => ?_)
          · try have g31 := inr_t h31
            try have g31 := inr_f h31
            refine J_aload_n C (dA DX8_through_0 32 rfl) rfl ?_
            refine J_iconst (v := nI 3) C (dA DX8_through_0 33 rfl) (by decide) ?_
            refine V_X8_no C (c_X8_no l E _ (by decide)) wM_RX8_106 (by decide) (dA DX8_through_0 34 rfl) rfl (Nat.le_of_ble_eq_true rfl) ?_
            exact J_iret C G (dA DX8_through_0 35 rfl) ⟨oi (by unfold aThrough; rw [if_pos ⟨decide_eq_true (by omega), decide_eq_true (by omega)⟩, na, nb, e, if_neg (by omega)]; rfl), by unfold eThrough; rw [if_pos ⟨decide_eq_true (by omega), decide_eq_true (by omega)⟩, na, nb, e, if_neg (by omega)]⟩
          · exfalso; omega
        | succ n ih =>
          intro i hi hno
          have hS2 : IS (vb 1100 (chM 1854 (vb 1100 M) p (i + 1) M)) := by rw [vb_chM (by omega)]; exact hS
          have hl := itr_lt hS (i + 1) hp
          have hT := chT_lt (vb 1100 M) p (i + 1)
          have hFl := chF_lt (vb 1100 M) p (i + 1)
          have h31 := lt31 hS (k := w) (by omega)
          have hv2 : vb 1100 (chM 1854 (vb 1100 M) p (i + 1) M) = (vb 1100 M) := vb_chM (by omega)
          refine J_iload_n C (dA DX8_through_0 16 rfl) rfl ?_
          refine J_bipush (v := nI 16) C (dA DX8_through_0 17 rfl) (by decide) ?_
          first | refine J_icmp_gt_n (tgt := 59) C (by omega) (by omega) (dA DX8_through_0 18 rfl) (by decide) (fun h31 => ?_) (fun h31 => ?_) | refine J_icmp_gt_c (tgt := 59) C (by omega) (dA DX8_through_0 18 rfl) (by decide) (fun h31 => ?_) (fun h31 => ?_) | refine J_icmp_gt_t (tgt := 59) C (dA DX8_through_0 18 rfl) (by decide) (fun h31 => ?_) (fun h31 => ?_)
          · exfalso; omega
          · try have g31 := inr_t h31
            try have g31 := inr_f h31
            refine J_aload_n C (dA DX8_through_0 19 rfl) rfl ?_
            refine V_X8_steps C (c_X8_steps l E _ _ _ _ (itr_lt hS i hp) (chZ_le _ _ i) (chT_lt _ _ i) (chF_lt _ _ i) hS) wM_RX8_147 (by decide) (dA DX8_through_0 20 rfl) rfl (Nat.le_of_ble_eq_true rfl) ?_
            show J E X _ _ _ (chM 1854 (vb 1100 M) p (i + 1) M)
            refine J_aload_n C (dA DX8_through_0 21 rfl) rfl ?_
            refine G_X8_ends C wF_RX8_130 (dA DX8_through_0 22 rfl) ?_
            rw [chM_0]
            refine J_aload_n C (dA DX8_through_0 23 rfl) rfl ?_
            refine J_iload_n C (dA DX8_through_0 24 rfl) rfl ?_
            refine J_iconst (v := nI 1) C (dA DX8_through_0 25 rfl) (by decide) ?_
            refine V_X8_get C (c_X8_get l E _ _ (by omega) (by omega) hS2) wM_RX8_62 (by decide) (dA DX8_through_0 26 rfl) rfl (Nat.le_of_ble_eq_true rfl) ?_
            rw [hv2]
            first | refine J_icmp_ne_n (tgt := 53) C (by omega) (by omega) (dA DX8_through_0 27 rfl) (by decide) (fun h48 => ?_) (fun h48 => ?_) | refine J_icmp_ne_c (tgt := 53) C (by omega) (dA DX8_through_0 27 rfl) (by decide) (fun h48 => ?_) (fun h48 => ?_) | refine J_icmp_ne_t (tgt := 53) C (dA DX8_through_0 27 rfl) (by decide) (fun h48 => ?_) (fun h48 => ?_)
            · try have g48 := inr_t h48
              try have g48 := inr_f h48
              first | refine J_inc1_3_4 C (dA DX8_through_0 30 rfl) rfl ?_ | refine J_iinc_3_4 C (dA DX8_through_0 30 rfl) rfl ?_
              refine J_goto (tgt := 28) C (dA DX8_through_0 31 rfl) (by decide) ?_
              refine ih (i + 1) (by omega) (fun k hk => ?_)
              by_cases e : k = i
              · subst e; exact decide_eq_false h48
              · exact hno k (by omega)
            · try have g48 := inr_t h48
              try have g48 := inr_f h48
              refine J_iload_n C (dA DX8_through_0 28 rfl) rfl ?_
              have e : thN (vb 1100 M) p w = i := firstN_eq (by omega) hno (decide_eq_true h48)
              exact J_iret C G (dA DX8_through_0 29 rfl) ⟨oi (by unfold aThrough; rw [if_pos ⟨decide_eq_true (by omega), decide_eq_true (by omega)⟩, na, nb, e, if_pos (by omega)]), by unfold eThrough; rw [if_pos ⟨decide_eq_true (by omega), decide_eq_true (by omega)⟩, na, nb, e, if_pos (by omega)]⟩
      refine J_aload_n C (dA DX8_through_0 11 rfl) rfl ?_
      refine J_iload_n C (dA DX8_through_0 12 rfl) rfl ?_
      refine V_X8_begins C (c_X8_begins l E _) wM_RX8_143 (by decide) (dA DX8_through_0 13 rfl) rfl (Nat.le_of_ble_eq_true rfl) ?_
      refine J_iconst (v := nI 1) C (dA DX8_through_0 14 rfl) (by decide) ?_
      refine J_ist_3_4 C (dA DX8_through_0 15 rfl) rfl ?_
      exact loop _ 0 (Nat.zero_add _) (fun k hk => by omega)
    · try have g12 := inr_t h12
      try have g12 := inr_f h12
      refine J_aload_n C (dA DX8_through_0 7 rfl) rfl ?_
      refine J_iconst (v := nI 0) C (dA DX8_through_0 8 rfl) (by decide) ?_
      refine V_X8_no C (c_X8_no l E _ (by decide)) wM_RX8_106 (by decide) (dA DX8_through_0 9 rfl) rfl (Nat.le_of_ble_eq_true rfl) ?_
      exact J_iret C G (dA DX8_through_0 10 rfl) ⟨oi (by unfold aThrough; rw [if_neg (by rintro ⟨z1, z2⟩; try have z1 := inr_t z1; try have z2 := inr_t z2; omega)]; rfl), by unfold eThrough; rw [if_neg (by rintro ⟨z1, z2⟩; try have z1 := inr_t z1; try have z2 := inr_t z2; omega)]⟩
set_option maxRecDepth 4000 in
theorem c_X7_upright (l : Launch) (E : jE) (a : Int32) (hS : IS (vb (fb 0) M))  : K_X7_upright l E [.ref (ja E 59), .int a] M (aUp (vb (fb 0) M) a) (eUp (fb 0) 402 1076 a M) := by
  refine CT_intro (own := RX7) (by decide +kernel) rfl (by simp [Value.category]) (Nat.le_of_ble_eq_true rfl) rfl (fun X C G => ?_)
  show J E X 0 [some (.ref (ja E 59)), some (.int a), none] [] M
  have hN := leN hS
  refine J_iload_n C (dA DX7_upright_0 0 rfl) rfl ?_
  refine V_X7_isPond C (c_X7_isPond l E _) wM_RX7_65 (by decide) (dA DX7_upright_0 1 rfl) rfl (Nat.le_of_ble_eq_true rfl) ?_
  refine J_if_ne_b (tgt := 14) C (dA DX7_upright_0 2 rfl) (by decide) (fun h4 => ?_) (fun h4 => ?_)
  · try have g4 := inr_t h4
    try have g4 := inr_f h4
    obtain ⟨p, hp, rfl⟩ := toNI (x := a) (n := 16) (by omega) (by omega)
    have ta := tI (n := p) (by omega)
    have na : nv (nI p) = p := nv_nI (by omega)
    have loop : ∀ n i, i + n = 16 → (∀ k, k < i → (fun i => decide (chT (vb (fb 0) M) p (i + 1) = 0 ∧ chF (vb (fb 0) M) p (i + 1) = 0)) k = false) → J E X 24 [some (.ref (ja E 59)), some (.int (nI p)), some (.int (nI (i + 1)))] [] (chM 402 (vb (fb 0) M) p i M) := by
      intro n
      induction n with
      | zero =>
        intro i hi hno
        obtain rfl : i = 16 := by omega
        have e : upN (vb (fb 0) M) p = 16 := firstN_no hno
        refine J_iload_n C (dA DX7_upright_0 13 rfl) rfl ?_
        refine J_bipush (v := nI 16) C (dA DX7_upright_0 14 rfl) (by decide) ?_
        first | refine J_icmp_gt_n (tgt := 69) C (by omega) (by omega) (dA DX7_upright_0 15 rfl) (by decide) (fun h27 => ?_) (fun h27 => ?_) | refine J_icmp_gt_c (tgt := 69) C (by omega) (dA DX7_upright_0 15 rfl) (by decide) (fun h27 => ?_) (fun h27 => ?_) | refine J_icmp_gt_t (tgt := 69) C (dA DX7_upright_0 15 rfl) (by decide) (fun h27 => ?_) (fun h27 => ?_)
        · try have g27 := inr_t h27
          try have g27 := inr_f h27
          refine J_aload_n C (dA DX7_upright_0 33 rfl) rfl ?_
          refine J_ldc (v := (-1000004)) C wK_RX7_165 (dA DX7_upright_0 34 rfl) ?_
          refine V_X7_finding C (c_X7_finding l E 3 (by decide) _ (by decide)) wM_RX7_70 (by decide) (dA DX7_upright_0 35 rfl) rfl (Nat.le_of_ble_eq_true rfl) ?_
          exact J_iret C G (dA DX7_upright_0 36 rfl) ⟨oi (by unfold aUp; rw [if_pos (show inr (nI p) 0 15 = true from decide_eq_true (by omega)), na, e, if_neg (by omega)]; rfl), by unfold eUp; rw [if_pos (show inr (nI p) 0 15 = true from decide_eq_true (by omega)), na, e, if_neg (by omega)]⟩
        · exfalso; omega
      | succ n ih =>
        intro i hi hno
        have hS2 : IS (vb (fb 0) (chM 402 (vb (fb 0) M) p (i + 1) M)) := by rw [vb_chM (by unfold fb; omega)]; exact hS
        have hl := itr_lt hS (i + 1) hp
        have hT := chT_lt (vb (fb 0) M) p (i + 1)
        have hFl := chF_lt (vb (fb 0) M) p (i + 1)
        refine J_iload_n C (dA DX7_upright_0 13 rfl) rfl ?_
        refine J_bipush (v := nI 16) C (dA DX7_upright_0 14 rfl) (by decide) ?_
        first | refine J_icmp_gt_n (tgt := 69) C (by omega) (by omega) (dA DX7_upright_0 15 rfl) (by decide) (fun h27 => ?_) (fun h27 => ?_) | refine J_icmp_gt_c (tgt := 69) C (by omega) (dA DX7_upright_0 15 rfl) (by decide) (fun h27 => ?_) (fun h27 => ?_) | refine J_icmp_gt_t (tgt := 69) C (dA DX7_upright_0 15 rfl) (by decide) (fun h27 => ?_) (fun h27 => ?_)
        · exfalso; omega
        · try have g27 := inr_t h27
          try have g27 := inr_f h27
          refine J_aload_n C (dA DX7_upright_0 16 rfl) rfl ?_
          refine G_X7_walk C wF_RX7_29 (dA DX7_upright_0 17 rfl) ?_
          refine J_aload_n C (dA DX7_upright_0 18 rfl) rfl ?_
          refine G_X7_fen C wF_RX7_12 (dA DX7_upright_0 19 rfl) ?_
          refine V_X0_step C (c_X0_step l E 0 _ _ _ _ (by decide) (itr_lt hS i hp) (chZ_le _ _ i) (chT_lt _ _ i) (chF_lt _ _ i) hS) wM_RX7_161 (by decide) (dA DX7_upright_0 20 rfl) rfl (Nat.le_of_ble_eq_true rfl) ?_
          show J E X _ _ _ (chM 402 (vb (fb 0) M) p (i + 1) M)
          refine J_aload_n C (dA DX7_upright_0 21 rfl) rfl ?_
          refine G_X7_walk C wF_RX7_29 (dA DX7_upright_0 22 rfl) ?_
          refine G_X0_turned C wF_RX7_151 (dA DX7_upright_0 23 rfl) ?_
          rw [show (404 : Nat) = 402 + 2 from rfl, chM_2]
          first | refine J_if_ne_n (tgt := 63) C (by omega) (dA DX7_upright_0 24 rfl) (by decide) (fun h48 => ?_) (fun h48 => ?_) | refine J_if_ne_t (tgt := 63) C (dA DX7_upright_0 24 rfl) (by decide) (fun h48 => ?_) (fun h48 => ?_)
          · try have g48 := inr_t h48
            try have g48 := inr_f h48
            first | refine J_inc1_2_3 C (dA DX7_upright_0 31 rfl) rfl ?_ | refine J_iinc_2_3 C (dA DX7_upright_0 31 rfl) rfl ?_
            refine J_goto (tgt := 24) C (dA DX7_upright_0 32 rfl) (by decide) ?_
            refine ih (i + 1) (by omega) (fun k hk => ?_)
            by_cases e : k = i
            · subst e; exact decide_eq_false (by omega)
            · exact hno k (by omega)
          · try have g48 := inr_t h48
            try have g48 := inr_f h48
            refine J_aload_n C (dA DX7_upright_0 25 rfl) rfl ?_
            refine G_X7_walk C wF_RX7_29 (dA DX7_upright_0 26 rfl) ?_
            refine G_X0_flipped C wF_RX7_154 (dA DX7_upright_0 27 rfl) ?_
            rw [show (405 : Nat) = 402 + 3 from rfl, chM_3]
            first | refine J_if_ne_n (tgt := 63) C (by omega) (dA DX7_upright_0 28 rfl) (by decide) (fun h58 => ?_) (fun h58 => ?_) | refine J_if_ne_t (tgt := 63) C (dA DX7_upright_0 28 rfl) (by decide) (fun h58 => ?_) (fun h58 => ?_)
            · try have g58 := inr_t h58
              try have g58 := inr_f h58
              first | refine J_inc1_2_3 C (dA DX7_upright_0 31 rfl) rfl ?_ | refine J_iinc_2_3 C (dA DX7_upright_0 31 rfl) rfl ?_
              refine J_goto (tgt := 24) C (dA DX7_upright_0 32 rfl) (by decide) ?_
              refine ih (i + 1) (by omega) (fun k hk => ?_)
              by_cases e : k = i
              · subst e; exact decide_eq_false (by omega)
              · exact hno k (by omega)
            · try have g58 := inr_t h58
              try have g58 := inr_f h58
              refine J_iload_n C (dA DX7_upright_0 29 rfl) rfl ?_
              have e : upN (vb (fb 0) M) p = i := firstN_eq (by omega) hno (decide_eq_true ⟨by omega, by omega⟩)
              exact J_iret C G (dA DX7_upright_0 30 rfl) ⟨oi (by unfold aUp; rw [if_pos (show inr (nI p) 0 15 = true from decide_eq_true (by omega)), na, e, if_pos (by omega)]), by unfold eUp; rw [if_pos (show inr (nI p) 0 15 = true from decide_eq_true (by omega)), na, e, if_pos (by omega)]⟩
    refine J_aload_n C (dA DX7_upright_0 7 rfl) rfl ?_
    refine G_X7_walk C wF_RX7_29 (dA DX7_upright_0 8 rfl) ?_
    refine J_iload_n C (dA DX7_upright_0 9 rfl) rfl ?_
    refine V_X0_begin C (c_X0_begin l E _) wM_RX7_157 (by decide) (dA DX7_upright_0 10 rfl) rfl (Nat.le_of_ble_eq_true rfl) ?_
    refine J_iconst (v := nI 1) C (dA DX7_upright_0 11 rfl) (by decide) ?_
    refine J_ist_2_3 C (dA DX7_upright_0 12 rfl) rfl ?_
    exact loop _ 0 (Nat.zero_add _) (fun k hk => by omega)
  · try have g4 := inr_t h4
    try have g4 := inr_f h4
    refine J_aload_n C (dA DX7_upright_0 3 rfl) rfl ?_
    refine J_ldc (v := (-1000001)) C wK_RX7_69 (dA DX7_upright_0 4 rfl) ?_
    refine V_X7_finding C (c_X7_finding l E 0 (by decide) _ (by decide)) wM_RX7_70 (by decide) (dA DX7_upright_0 5 rfl) rfl (Nat.le_of_ble_eq_true rfl) ?_
    exact J_iret C G (dA DX7_upright_0 6 rfl) ⟨oi (by unfold aUp; rw [if_neg (fun z => by have z := inr_t z; omega)]; rfl), by unfold eUp; rw [if_neg (fun z => by have z := inr_t z; omega)]⟩
set_option maxRecDepth 4000 in
theorem c_X8_upright (l : Launch) (E : jE) (a : Int32) (hS : IS (vb 1100 M))  : K_X8_upright l E [.ref (ja E 60), .int a] M (aUp (vb 1100 M) a) (eUp 1100 1854 1502 a M) := by
  refine CT_intro (own := RX8) (by decide +kernel) rfl (by simp [Value.category]) (Nat.le_of_ble_eq_true rfl) rfl (fun X C G => ?_)
  show J E X 0 [some (.ref (ja E 60)), some (.int a), none] [] M
  have hN := leN hS
  refine J_iload_n C (dA DX8_upright_0 0 rfl) rfl ?_
  refine V_X8_isPond C (c_X8_isPond l E _) wM_RX8_102 (by decide) (dA DX8_upright_0 1 rfl) rfl (Nat.le_of_ble_eq_true rfl) ?_
  refine J_if_ne_b (tgt := 13) C (dA DX8_upright_0 2 rfl) (by decide) (fun h4 => ?_) (fun h4 => ?_)
  · try have g4 := inr_t h4
    try have g4 := inr_f h4
    obtain ⟨p, hp, rfl⟩ := toNI (x := a) (n := 16) (by omega) (by omega)
    have ta := tI (n := p) (by omega)
    have na : nv (nI p) = p := nv_nI (by omega)
    have loop : ∀ n i, i + n = 16 → (∀ k, k < i → (fun i => decide (chT (vb 1100 M) p (i + 1) = 0 ∧ chF (vb 1100 M) p (i + 1) = 0)) k = false) → J E X 20 [some (.ref (ja E 60)), some (.int (nI p)), some (.int (nI (i + 1)))] [] (chM 1854 (vb 1100 M) p i M) := by
      intro n
      induction n with
      | zero =>
        intro i hi hno
        obtain rfl : i = 16 := by omega
        have e : upN (vb 1100 M) p = 16 := firstN_no hno
        refine J_iload_n C (dA DX8_upright_0 12 rfl) rfl ?_
        refine J_bipush (v := nI 16) C (dA DX8_upright_0 13 rfl) (by decide) ?_
        first | refine J_icmp_gt_n (tgt := 52) C (by omega) (by omega) (dA DX8_upright_0 14 rfl) (by decide) (fun h23 => ?_) (fun h23 => ?_) | refine J_icmp_gt_c (tgt := 52) C (by omega) (dA DX8_upright_0 14 rfl) (by decide) (fun h23 => ?_) (fun h23 => ?_) | refine J_icmp_gt_t (tgt := 52) C (dA DX8_upright_0 14 rfl) (by decide) (fun h23 => ?_) (fun h23 => ?_)
        · try have g23 := inr_t h23
          try have g23 := inr_f h23
          refine J_aload_n C (dA DX8_upright_0 27 rfl) rfl ?_
          refine J_iconst (v := nI 3) C (dA DX8_upright_0 28 rfl) (by decide) ?_
          refine V_X8_no C (c_X8_no l E _ (by decide)) wM_RX8_106 (by decide) (dA DX8_upright_0 29 rfl) rfl (Nat.le_of_ble_eq_true rfl) ?_
          exact J_iret C G (dA DX8_upright_0 30 rfl) ⟨oi (by unfold aUp; rw [if_pos (show inr (nI p) 0 15 = true from decide_eq_true (by omega)), na, e, if_neg (by omega)]; rfl), by unfold eUp; rw [if_pos (show inr (nI p) 0 15 = true from decide_eq_true (by omega)), na, e, if_neg (by omega)]⟩
        · exfalso; omega
      | succ n ih =>
        intro i hi hno
        have hS2 : IS (vb 1100 (chM 1854 (vb 1100 M) p (i + 1) M)) := by rw [vb_chM (by omega)]; exact hS
        have hl := itr_lt hS (i + 1) hp
        have hT := chT_lt (vb 1100 M) p (i + 1)
        have hFl := chF_lt (vb 1100 M) p (i + 1)
        refine J_iload_n C (dA DX8_upright_0 12 rfl) rfl ?_
        refine J_bipush (v := nI 16) C (dA DX8_upright_0 13 rfl) (by decide) ?_
        first | refine J_icmp_gt_n (tgt := 52) C (by omega) (by omega) (dA DX8_upright_0 14 rfl) (by decide) (fun h23 => ?_) (fun h23 => ?_) | refine J_icmp_gt_c (tgt := 52) C (by omega) (dA DX8_upright_0 14 rfl) (by decide) (fun h23 => ?_) (fun h23 => ?_) | refine J_icmp_gt_t (tgt := 52) C (dA DX8_upright_0 14 rfl) (by decide) (fun h23 => ?_) (fun h23 => ?_)
        · exfalso; omega
        · try have g23 := inr_t h23
          try have g23 := inr_f h23
          refine J_aload_n C (dA DX8_upright_0 15 rfl) rfl ?_
          refine V_X8_steps C (c_X8_steps l E _ _ _ _ (itr_lt hS i hp) (chZ_le _ _ i) (chT_lt _ _ i) (chF_lt _ _ i) hS) wM_RX8_147 (by decide) (dA DX8_upright_0 16 rfl) rfl (Nat.le_of_ble_eq_true rfl) ?_
          show J E X _ _ _ (chM 1854 (vb 1100 M) p (i + 1) M)
          refine J_aload_n C (dA DX8_upright_0 17 rfl) rfl ?_
          refine G_X8_turned C wF_RX8_137 (dA DX8_upright_0 18 rfl) ?_
          rw [show (1856 : Nat) = 1854 + 2 from rfl, chM_2]
          first | refine J_if_ne_n (tgt := 46) C (by omega) (dA DX8_upright_0 19 rfl) (by decide) (fun h34 => ?_) (fun h34 => ?_) | refine J_if_ne_t (tgt := 46) C (dA DX8_upright_0 19 rfl) (by decide) (fun h34 => ?_) (fun h34 => ?_)
          · try have g34 := inr_t h34
            try have g34 := inr_f h34
            first | refine J_inc1_2_3 C (dA DX8_upright_0 25 rfl) rfl ?_ | refine J_iinc_2_3 C (dA DX8_upright_0 25 rfl) rfl ?_
            refine J_goto (tgt := 20) C (dA DX8_upright_0 26 rfl) (by decide) ?_
            refine ih (i + 1) (by omega) (fun k hk => ?_)
            by_cases e : k = i
            · subst e; exact decide_eq_false (by omega)
            · exact hno k (by omega)
          · try have g34 := inr_t h34
            try have g34 := inr_f h34
            refine J_aload_n C (dA DX8_upright_0 20 rfl) rfl ?_
            refine G_X8_flipped C wF_RX8_140 (dA DX8_upright_0 21 rfl) ?_
            rw [show (1857 : Nat) = 1854 + 3 from rfl, chM_3]
            first | refine J_if_ne_n (tgt := 46) C (by omega) (dA DX8_upright_0 22 rfl) (by decide) (fun h41 => ?_) (fun h41 => ?_) | refine J_if_ne_t (tgt := 46) C (dA DX8_upright_0 22 rfl) (by decide) (fun h41 => ?_) (fun h41 => ?_)
            · try have g41 := inr_t h41
              try have g41 := inr_f h41
              first | refine J_inc1_2_3 C (dA DX8_upright_0 25 rfl) rfl ?_ | refine J_iinc_2_3 C (dA DX8_upright_0 25 rfl) rfl ?_
              refine J_goto (tgt := 20) C (dA DX8_upright_0 26 rfl) (by decide) ?_
              refine ih (i + 1) (by omega) (fun k hk => ?_)
              by_cases e : k = i
              · subst e; exact decide_eq_false (by omega)
              · exact hno k (by omega)
            · try have g41 := inr_t h41
              try have g41 := inr_f h41
              refine J_iload_n C (dA DX8_upright_0 23 rfl) rfl ?_
              have e : upN (vb 1100 M) p = i := firstN_eq (by omega) hno (decide_eq_true ⟨by omega, by omega⟩)
              exact J_iret C G (dA DX8_upright_0 24 rfl) ⟨oi (by unfold aUp; rw [if_pos (show inr (nI p) 0 15 = true from decide_eq_true (by omega)), na, e, if_pos (by omega)]), by unfold eUp; rw [if_pos (show inr (nI p) 0 15 = true from decide_eq_true (by omega)), na, e, if_pos (by omega)]⟩
    refine J_aload_n C (dA DX8_upright_0 7 rfl) rfl ?_
    refine J_iload_n C (dA DX8_upright_0 8 rfl) rfl ?_
    refine V_X8_begins C (c_X8_begins l E _) wM_RX8_143 (by decide) (dA DX8_upright_0 9 rfl) rfl (Nat.le_of_ble_eq_true rfl) ?_
    refine J_iconst (v := nI 1) C (dA DX8_upright_0 10 rfl) (by decide) ?_
    refine J_ist_2_3 C (dA DX8_upright_0 11 rfl) rfl ?_
    exact loop _ 0 (Nat.zero_add _) (fun k hk => by omega)
  · try have g4 := inr_t h4
    try have g4 := inr_f h4
    refine J_aload_n C (dA DX8_upright_0 3 rfl) rfl ?_
    refine J_iconst (v := nI 0) C (dA DX8_upright_0 4 rfl) (by decide) ?_
    refine V_X8_no C (c_X8_no l E _ (by decide)) wM_RX8_106 (by decide) (dA DX8_upright_0 5 rfl) rfl (Nat.le_of_ble_eq_true rfl) ?_
    exact J_iret C G (dA DX8_upright_0 6 rfl) ⟨oi (by unfold aUp; rw [if_neg (fun z => by have z := inr_t z; omega)]; rfl), by unfold eUp; rw [if_neg (fun z => by have z := inr_t z; omega)]⟩
set_option maxRecDepth 4000 in
theorem c_X7_large (l : Launch) (E : jE) (a b c : Int32) (hS : IS (vb (fb 0) M))  : K_X7_large l E [.ref (ja E 59), .int a, .int b, .int c] M (aLarge (vb (fb 0) M) a b c) (eLarge (fb 0) 402 1076 a b c M) := by
  refine CT_intro (own := RX7) (by decide +kernel) rfl (by simp [Value.category]) (Nat.le_of_ble_eq_true rfl) rfl (fun X C G => ?_)
  show J E X 0 [some (.ref (ja E 59)), some (.int a), some (.int b), some (.int c)] [] M
  have hN := leN hS
  refine J_iload_n C (dA DX7_large_0 0 rfl) rfl ?_
  refine V_X7_isPond C (c_X7_isPond l E _) wM_RX7_65 (by decide) (dA DX7_large_0 1 rfl) rfl (Nat.le_of_ble_eq_true rfl) ?_
  refine J_if_eq_b (tgt := 25) C (dA DX7_large_0 2 rfl) (by decide) (fun h4 => ?_) (fun h4 => ?_)
  · try have g4 := inr_t h4
    try have g4 := inr_f h4
    refine J_aload_n C (dA DX7_large_0 11 rfl) rfl ?_
    refine J_ldc (v := (-1000001)) C wK_RX7_69 (dA DX7_large_0 12 rfl) ?_
    refine V_X7_finding C (c_X7_finding l E 0 (by decide) _ (by decide)) wM_RX7_70 (by decide) (dA DX7_large_0 13 rfl) rfl (Nat.le_of_ble_eq_true rfl) ?_
    exact J_iret C G (dA DX7_large_0 14 rfl) ⟨oi (by unfold aLarge; rw [if_neg (by rintro ⟨z1, z2, z3⟩; try have z1 := inr_t z1; try have z2 := inr_t z2; try have z3 := inr_t z3; omega)]; rfl), by unfold eLarge; rw [if_neg (by rintro ⟨z1, z2, z3⟩; try have z1 := inr_t z1; try have z2 := inr_t z2; try have z3 := inr_t z3; omega)]⟩
  · try have g4 := inr_t h4
    try have g4 := inr_f h4
    refine J_iload_n C (dA DX7_large_0 3 rfl) rfl ?_
    refine V_X7_isSteps C (c_X7_isSteps l E _) wM_RX7_138 (by decide) (dA DX7_large_0 4 rfl) rfl (Nat.le_of_ble_eq_true rfl) ?_
    refine J_if_eq_b (tgt := 25) C (dA DX7_large_0 5 rfl) (by decide) (fun h11 => ?_) (fun h11 => ?_)
    · try have g11 := inr_t h11
      try have g11 := inr_f h11
      refine J_aload_n C (dA DX7_large_0 11 rfl) rfl ?_
      refine J_ldc (v := (-1000001)) C wK_RX7_69 (dA DX7_large_0 12 rfl) ?_
      refine V_X7_finding C (c_X7_finding l E 0 (by decide) _ (by decide)) wM_RX7_70 (by decide) (dA DX7_large_0 13 rfl) rfl (Nat.le_of_ble_eq_true rfl) ?_
      exact J_iret C G (dA DX7_large_0 14 rfl) ⟨oi (by unfold aLarge; rw [if_neg (by rintro ⟨z1, z2, z3⟩; try have z1 := inr_t z1; try have z2 := inr_t z2; try have z3 := inr_t z3; omega)]; rfl), by unfold eLarge; rw [if_neg (by rintro ⟨z1, z2, z3⟩; try have z1 := inr_t z1; try have z2 := inr_t z2; try have z3 := inr_t z3; omega)]⟩
    · try have g11 := inr_t h11
      try have g11 := inr_f h11
      refine J_aload_n C (dA DX7_large_0 6 rfl) rfl ?_
      refine G_X7_fen C wF_RX7_12 (dA DX7_large_0 7 rfl) ?_
      refine J_iload_n C (dA DX7_large_0 8 rfl) rfl ?_
      refine V_X1_has C (by decide) (c_X1_has l E _ (by decide) _ hS) wM_RX7_100 (by decide) (dA DX7_large_0 9 rfl) rfl (Nat.le_of_ble_eq_true rfl) ?_
      refine J_if_ne_b (tgt := 32) C (dA DX7_large_0 10 rfl) (by decide) (fun h22 => ?_) (fun h22 => ?_)
      · try have g22 := inr_t h22
        try have g22 := inr_f h22
        obtain ⟨p, hp, rfl⟩ := toNI (x := a) (n := 16) (by omega) (by omega)
        have ta := tI (n := p) (by omega)
        have na : nv (nI p) = p := nv_nI (by omega)
        obtain ⟨w, hw, rfl⟩ := toNI (x := b) (n := 17) (by omega) (by omega)
        have tb := tI (n := w) (by omega)
        have nb : nv (nI w) = w := nv_nI (by omega)
        obtain ⟨u, hu, rfl⟩ := toNI (x := c) (n := (iN (vb (fb 0) M))) (by omega) (by omega)
        have tc := tI (n := u) (by omega)
        have nc : nv (nI u) = u := nv_nI (by omega)
        refine J_aload_n C (dA DX7_large_0 15 rfl) rfl ?_
        refine G_X7_walk C wF_RX7_29 (dA DX7_large_0 16 rfl) ?_
        refine J_aload_n C (dA DX7_large_0 17 rfl) rfl ?_
        refine G_X7_fen C wF_RX7_12 (dA DX7_large_0 18 rfl) ?_
        refine J_iload_n C (dA DX7_large_0 19 rfl) rfl ?_
        refine J_iload_n C (dA DX7_large_0 20 rfl) rfl ?_
        refine V_X0_take C (c_X0_take l E 0 p w (by decide) hp (by omega) hS) wM_RX7_141 (by decide) (dA DX7_large_0 21 rfl) rfl (Nat.le_of_ble_eq_true rfl) ?_
        have hS2 : IS (vb (fb 0) (chM 402 (vb (fb 0) M) p w M)) := by rw [vb_chM (by unfold fb; omega)]; exact hS
        have hv2 : vb (fb 0) (chM 402 (vb (fb 0) M) p w M) = (vb (fb 0) M) := vb_chM (by unfold fb; omega)
        have hl := itr_lt hS w hp
        have h31 := lt31 hS (k := u) (by omega)
        have h32 := le3 hS (k := u) (w := 2) (by omega) (by decide)
        have e32 : mx3 2 = 99 := rfl
        have hz := chZ_le (vb (fb 0) M) p w
        have hmul : f3 (vb (fb 0) M) u 2 * chZ (vb (fb 0) M) p w ≤ 99 * 99999 := Nat.mul_le_mul (by omega) hz
        refine J_aload_n C (dA DX7_large_0 22 rfl) rfl ?_
        refine G_X7_walk C wF_RX7_29 (dA DX7_large_0 23 rfl) ?_
        refine G_X0_end C wF_RX7_145 (dA DX7_large_0 24 rfl) ?_
        rw [chM_0]
        refine J_aload_n C (dA DX7_large_0 25 rfl) rfl ?_
        refine G_X7_fen C wF_RX7_12 (dA DX7_large_0 26 rfl) ?_
        refine G_X1_things C (by decide) wF_RX7_106 (dA DX7_large_0 27 rfl) ?_
        refine J_iconst (v := nI 1) C (dA DX7_large_0 28 rfl) (by decide) ?_
        first | refine R_fp C (by decide) rfl (by omega) (dA DX7_large_0 29 rfl) ?_ | refine R_ft C (by decide) rfl (by omega) (dA DX7_large_0 29 rfl) ?_ | refine R_sh C rfl (by omega) (dA DX7_large_0 29 rfl) ?_
        refine J_iload_n C (dA DX7_large_0 30 rfl) rfl ?_
        refine Q_fk C (by decide) hS2 (by decide) rfl (by omega) (dA DX7_large_0 31 rfl) ?_
        rw [hv2]
        first | refine J_icmp_eq_n (tgt := 73) C (by omega) (by omega) (dA DX7_large_0 32 rfl) (by decide) (fun h63 => ?_) (fun h63 => ?_) | refine J_icmp_eq_c (tgt := 73) C (by omega) (dA DX7_large_0 32 rfl) (by decide) (fun h63 => ?_) (fun h63 => ?_) | refine J_icmp_eq_t (tgt := 73) C (dA DX7_large_0 32 rfl) (by decide) (fun h63 => ?_) (fun h63 => ?_)
        · try have g63 := inr_t h63
          try have g63 := inr_f h63
          refine J_aload_n C (dA DX7_large_0 37 rfl) rfl ?_
          refine G_X7_fen C wF_RX7_12 (dA DX7_large_0 38 rfl) ?_
          refine G_X1_things C (by decide) wF_RX7_106 (dA DX7_large_0 39 rfl) ?_
          refine J_iconst (v := nI 2) C (dA DX7_large_0 40 rfl) (by decide) ?_
          first | refine R_fp C (by decide) rfl (by omega) (dA DX7_large_0 41 rfl) ?_ | refine R_ft C (by decide) rfl (by omega) (dA DX7_large_0 41 rfl) ?_ | refine R_sh C rfl (by omega) (dA DX7_large_0 41 rfl) ?_
          refine J_iload_n C (dA DX7_large_0 42 rfl) rfl ?_
          refine Q_fk C (by decide) hS2 (by decide) rfl (by omega) (dA DX7_large_0 43 rfl) ?_
          rw [hv2]
          refine J_aload_n C (dA DX7_large_0 44 rfl) rfl ?_
          refine G_X7_walk C wF_RX7_29 (dA DX7_large_0 45 rfl) ?_
          refine G_X0_size C wF_RX7_148 (dA DX7_large_0 46 rfl) ?_
          rw [show (403 : Nat) = 402 + 1 from rfl, chM_1]
          first | refine J_imul_n C (dA DX7_large_0 47 rfl) ?_ | refine J_imul C (dA DX7_large_0 47 rfl) ?_
          refine J_bipush (v := nI 81) C (dA DX7_large_0 48 rfl) (by decide) ?_
          refine J_idiv_n C (by omega) (by omega) (by omega) (dA DX7_large_0 49 rfl) ?_
          exact J_iret C G (dA DX7_large_0 50 rfl) ⟨oi (by unfold aLarge; rw [if_pos ⟨decide_eq_true (by omega), decide_eq_true (by omega), decide_eq_true (by omega)⟩, na, nb, nc, if_pos (by omega)]), by unfold eLarge; rw [if_pos ⟨decide_eq_true (by omega), decide_eq_true (by omega), decide_eq_true (by omega)⟩, na, nb, nc, if_pos (by omega)]⟩
        · try have g63 := inr_t h63
          try have g63 := inr_f h63
          refine J_aload_n C (dA DX7_large_0 33 rfl) rfl ?_
          refine J_ldc (v := (-1000005)) C wK_RX7_124 (dA DX7_large_0 34 rfl) ?_
          refine V_X7_finding C (c_X7_finding l E 4 (by decide) _ (by decide)) wM_RX7_70 (by decide) (dA DX7_large_0 35 rfl) rfl (Nat.le_of_ble_eq_true rfl) ?_
          exact J_iret C G (dA DX7_large_0 36 rfl) ⟨oi (by unfold aLarge; rw [if_pos ⟨decide_eq_true (by omega), decide_eq_true (by omega), decide_eq_true (by omega)⟩, na, nb, nc, if_neg (by omega)]; rfl), by unfold eLarge; rw [if_pos ⟨decide_eq_true (by omega), decide_eq_true (by omega), decide_eq_true (by omega)⟩, na, nb, nc, if_neg (by omega)]⟩
      · try have g22 := inr_t h22
        try have g22 := inr_f h22
        refine J_aload_n C (dA DX7_large_0 11 rfl) rfl ?_
        refine J_ldc (v := (-1000001)) C wK_RX7_69 (dA DX7_large_0 12 rfl) ?_
        refine V_X7_finding C (c_X7_finding l E 0 (by decide) _ (by decide)) wM_RX7_70 (by decide) (dA DX7_large_0 13 rfl) rfl (Nat.le_of_ble_eq_true rfl) ?_
        exact J_iret C G (dA DX7_large_0 14 rfl) ⟨oi (by unfold aLarge; rw [if_neg (by rintro ⟨z1, z2, z3⟩; try have z1 := inr_t z1; try have z2 := inr_t z2; try have z3 := inr_t z3; omega)]; rfl), by unfold eLarge; rw [if_neg (by rintro ⟨z1, z2, z3⟩; try have z1 := inr_t z1; try have z2 := inr_t z2; try have z3 := inr_t z3; omega)]⟩
set_option maxRecDepth 4000 in
theorem c_X8_large (l : Launch) (E : jE) (a b c : Int32) (hS : IS (vb 1100 M))  : K_X8_large l E [.ref (ja E 60), .int a, .int b, .int c] M (aLarge (vb 1100 M) a b c) (eLarge 1100 1854 1502 a b c M) := by
  refine CT_intro (own := RX8) (by decide +kernel) rfl (by simp [Value.category]) (Nat.le_of_ble_eq_true rfl) rfl (fun X C G => ?_)
  show J E X 0 [some (.ref (ja E 60)), some (.int a), some (.int b), some (.int c)] [] M
  have hN := leN hS
  refine J_iload_n C (dA DX8_large_0 0 rfl) rfl ?_
  refine V_X8_isPond C (c_X8_isPond l E _) wM_RX8_102 (by decide) (dA DX8_large_0 1 rfl) rfl (Nat.le_of_ble_eq_true rfl) ?_
  refine J_if_eq_b (tgt := 25) C (dA DX8_large_0 2 rfl) (by decide) (fun h4 => ?_) (fun h4 => ?_)
  · try have g4 := inr_t h4
    try have g4 := inr_f h4
    refine J_aload_n C (dA DX8_large_0 12 rfl) rfl ?_
    refine J_iconst (v := nI 0) C (dA DX8_large_0 13 rfl) (by decide) ?_
    refine V_X8_no C (c_X8_no l E _ (by decide)) wM_RX8_106 (by decide) (dA DX8_large_0 14 rfl) rfl (Nat.le_of_ble_eq_true rfl) ?_
    exact J_iret C G (dA DX8_large_0 15 rfl) ⟨oi (by unfold aLarge; rw [if_neg (by rintro ⟨z1, z2, z3⟩; try have z1 := inr_t z1; try have z2 := inr_t z2; try have z3 := inr_t z3; omega)]; rfl), by unfold eLarge; rw [if_neg (by rintro ⟨z1, z2, z3⟩; try have z1 := inr_t z1; try have z2 := inr_t z2; try have z3 := inr_t z3; omega)]⟩
  · try have g4 := inr_t h4
    try have g4 := inr_f h4
    refine J_iload_n C (dA DX8_large_0 3 rfl) rfl ?_
    refine J_iconst (v := nI 0) C (dA DX8_large_0 4 rfl) (by decide) ?_
    refine J_bipush (v := nI 16) C (dA DX8_large_0 5 rfl) (by decide) ?_
    refine V_X8_in1 C (c_X8_in1n l E _ _ _ (by omega) (by omega)) wM_RX8_58 (by decide) (dA DX8_large_0 6 rfl) rfl (Nat.le_of_ble_eq_true rfl) ?_
    refine J_if_eq_b (tgt := 25) C (dA DX8_large_0 7 rfl) (by decide) (fun h14 => ?_) (fun h14 => ?_)
    · try have g14 := inr_t h14
      try have g14 := inr_f h14
      refine J_aload_n C (dA DX8_large_0 12 rfl) rfl ?_
      refine J_iconst (v := nI 0) C (dA DX8_large_0 13 rfl) (by decide) ?_
      refine V_X8_no C (c_X8_no l E _ (by decide)) wM_RX8_106 (by decide) (dA DX8_large_0 14 rfl) rfl (Nat.le_of_ble_eq_true rfl) ?_
      exact J_iret C G (dA DX8_large_0 15 rfl) ⟨oi (by unfold aLarge; rw [if_neg (by rintro ⟨z1, z2, z3⟩; try have z1 := inr_t z1; try have z2 := inr_t z2; try have z3 := inr_t z3; omega)]; rfl), by unfold eLarge; rw [if_neg (by rintro ⟨z1, z2, z3⟩; try have z1 := inr_t z1; try have z2 := inr_t z2; try have z3 := inr_t z3; omega)]⟩
    · try have g14 := inr_t h14
      try have g14 := inr_f h14
      refine J_aload_n C (dA DX8_large_0 8 rfl) rfl ?_
      refine J_iload_n C (dA DX8_large_0 9 rfl) rfl ?_
      refine V_X8_isThing C (c_X8_isThing l E _ hS) wM_RX8_116 (by decide) (dA DX8_large_0 10 rfl) rfl (Nat.le_of_ble_eq_true rfl) ?_
      refine J_if_ne_b (tgt := 31) C (dA DX8_large_0 11 rfl) (by decide) (fun h22 => ?_) (fun h22 => ?_)
      · try have g22 := inr_t h22
        try have g22 := inr_f h22
        obtain ⟨p, hp, rfl⟩ := toNI (x := a) (n := 16) (by omega) (by omega)
        have ta := tI (n := p) (by omega)
        have na : nv (nI p) = p := nv_nI (by omega)
        obtain ⟨w, hw, rfl⟩ := toNI (x := b) (n := 17) (by omega) (by omega)
        have tb := tI (n := w) (by omega)
        have nb : nv (nI w) = w := nv_nI (by omega)
        obtain ⟨u, hu, rfl⟩ := toNI (x := c) (n := (iN (vb 1100 M))) (by omega) (by omega)
        have tc := tI (n := u) (by omega)
        have nc : nv (nI u) = u := nv_nI (by omega)
        refine J_aload_n C (dA DX8_large_0 16 rfl) rfl ?_
        refine J_iload_n C (dA DX8_large_0 17 rfl) rfl ?_
        refine J_iload_n C (dA DX8_large_0 18 rfl) rfl ?_
        refine V_X8_goesThrough C (c_X8_goesThrough l E p w hp (by omega) hS) wM_RX8_150 (by decide) (dA DX8_large_0 19 rfl) rfl (Nat.le_of_ble_eq_true rfl) ?_
        have hS2 : IS (vb 1100 (chM 1854 (vb 1100 M) p w M)) := by rw [vb_chM (by omega)]; exact hS
        have hv2 : vb 1100 (chM 1854 (vb 1100 M) p w M) = (vb 1100 M) := vb_chM (by omega)
        have hl := itr_lt hS w hp
        have h31 := lt31 hS (k := u) (by omega)
        have h32 := le3 hS (k := u) (w := 2) (by omega) (by decide)
        have e32 : mx3 2 = 99 := rfl
        have hz := chZ_le (vb 1100 M) p w
        have hmul : f3 (vb 1100 M) u 2 * chZ (vb 1100 M) p w ≤ 99 * 99999 := Nat.mul_le_mul (by omega) hz
        refine J_aload_n C (dA DX8_large_0 20 rfl) rfl ?_
        refine G_X8_ends C wF_RX8_130 (dA DX8_large_0 21 rfl) ?_
        rw [chM_0]
        refine J_aload_n C (dA DX8_large_0 22 rfl) rfl ?_
        refine J_iload_n C (dA DX8_large_0 23 rfl) rfl ?_
        refine J_iconst (v := nI 1) C (dA DX8_large_0 24 rfl) (by decide) ?_
        refine V_X8_get C (c_X8_get l E _ _ (by omega) (by omega) hS2) wM_RX8_62 (by decide) (dA DX8_large_0 25 rfl) rfl (Nat.le_of_ble_eq_true rfl) ?_
        rw [hv2]
        first | refine J_icmp_ne_n (tgt := 67) C (by omega) (by omega) (dA DX8_large_0 26 rfl) (by decide) (fun h47 => ?_) (fun h47 => ?_) | refine J_icmp_ne_c (tgt := 67) C (by omega) (dA DX8_large_0 26 rfl) (by decide) (fun h47 => ?_) (fun h47 => ?_) | refine J_icmp_ne_t (tgt := 67) C (dA DX8_large_0 26 rfl) (by decide) (fun h47 => ?_) (fun h47 => ?_)
        · try have g47 := inr_t h47
          try have g47 := inr_f h47
          refine J_aload_n C (dA DX8_large_0 37 rfl) rfl ?_
          refine J_iconst (v := nI 4) C (dA DX8_large_0 38 rfl) (by decide) ?_
          refine V_X8_no C (c_X8_no l E _ (by decide)) wM_RX8_106 (by decide) (dA DX8_large_0 39 rfl) rfl (Nat.le_of_ble_eq_true rfl) ?_
          exact J_iret C G (dA DX8_large_0 40 rfl) ⟨oi (by unfold aLarge; rw [if_pos ⟨decide_eq_true (by omega), decide_eq_true (by omega), decide_eq_true (by omega)⟩, na, nb, nc, if_neg (by omega)]; rfl), by unfold eLarge; rw [if_pos ⟨decide_eq_true (by omega), decide_eq_true (by omega), decide_eq_true (by omega)⟩, na, nb, nc, if_neg (by omega)]⟩
        · try have g47 := inr_t h47
          try have g47 := inr_f h47
          refine J_aload_n C (dA DX8_large_0 27 rfl) rfl ?_
          refine J_iload_n C (dA DX8_large_0 28 rfl) rfl ?_
          refine J_iconst (v := nI 2) C (dA DX8_large_0 29 rfl) (by decide) ?_
          refine V_X8_get C (c_X8_get l E _ _ (by omega) (by omega) hS2) wM_RX8_62 (by decide) (dA DX8_large_0 30 rfl) rfl (Nat.le_of_ble_eq_true rfl) ?_
          rw [hv2]
          refine J_aload_n C (dA DX8_large_0 31 rfl) rfl ?_
          refine G_X8_size C wF_RX8_134 (dA DX8_large_0 32 rfl) ?_
          rw [show (1855 : Nat) = 1854 + 1 from rfl, chM_1]
          first | refine J_imul_n C (dA DX8_large_0 33 rfl) ?_ | refine J_imul C (dA DX8_large_0 33 rfl) ?_
          refine J_bipush (v := nI 81) C (dA DX8_large_0 34 rfl) (by decide) ?_
          refine J_idiv_n C (by omega) (by omega) (by omega) (dA DX8_large_0 35 rfl) ?_
          refine J_goto (tgt := 72) C (dA DX8_large_0 36 rfl) (by decide) ?_
          exact J_iret C G (dA DX8_large_0 40 rfl) ⟨oi (by unfold aLarge; rw [if_pos ⟨decide_eq_true (by omega), decide_eq_true (by omega), decide_eq_true (by omega)⟩, na, nb, nc, if_pos (by omega)]), by unfold eLarge; rw [if_pos ⟨decide_eq_true (by omega), decide_eq_true (by omega), decide_eq_true (by omega)⟩, na, nb, nc, if_pos (by omega)]⟩
      · try have g22 := inr_t h22
        try have g22 := inr_f h22
        refine J_aload_n C (dA DX8_large_0 12 rfl) rfl ?_
        refine J_iconst (v := nI 0) C (dA DX8_large_0 13 rfl) (by decide) ?_
        refine V_X8_no C (c_X8_no l E _ (by decide)) wM_RX8_106 (by decide) (dA DX8_large_0 14 rfl) rfl (Nat.le_of_ble_eq_true rfl) ?_
        exact J_iret C G (dA DX8_large_0 15 rfl) ⟨oi (by unfold aLarge; rw [if_neg (by rintro ⟨z1, z2, z3⟩; try have z1 := inr_t z1; try have z2 := inr_t z2; try have z3 := inr_t z3; omega)]; rfl), by unfold eLarge; rw [if_neg (by rintro ⟨z1, z2, z3⟩; try have z1 := inr_t z1; try have z2 := inr_t z2; try have z3 := inr_t z3; omega)]⟩
end PA
