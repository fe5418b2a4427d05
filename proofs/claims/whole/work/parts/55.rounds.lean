def befN (S : Nat → Int32) (p : Nat) : Nat := firstN 16 (fun i => decide (¬ rlS S (itr S i p) = 0))
def aBefore (S : Nat → Int32) (a : Int32) : Int32 := if inr a 0 15 = true then nI (befN S (nv a)) else fi 0
def aRound (S : Nat → Int32) (a : Int32) : Int32 := if inr a 0 15 = true then nI (rlS S (itr S 16 (nv a))) else fi 0
def eRnd (F : Nat) (a : Int32) (M : jM) : jM := if inr a 0 15 = true then M else Fl F 0 M
section PA
variable {M : jM}
theorem rlS_le (S : Nat → Int32) (p : Nat) : rlS S p ≤ 16 := by
  unfold rlS
  split <;> omega
set_option maxRecDepth 4000 in
theorem c_X7_round (l : Launch) (E : jE) (a : Int32) (hS : IS (vb (fb 0) M))  : K_X7_round l E [.ref (ja E 59), .int a] M (aRound (vb (fb 0) M) a) (eRnd 1076 a M) := by
  refine CT_intro (own := RX7) (by decide +kernel) rfl (by simp [Value.category]) (Nat.le_of_ble_eq_true rfl) rfl (fun X C G => ?_)
  show J E X 0 [some (.ref (ja E 59)), some (.int a)] [] M
  refine J_iload_n C (dA DX7_round_0 0 rfl) rfl ?_
  refine V_X7_isPond C (c_X7_isPond l E _) wM_RX7_65 (by decide) (dA DX7_round_0 1 rfl) rfl (Nat.le_of_ble_eq_true rfl) ?_
  refine J_if_ne_b (tgt := 14) C (dA DX7_round_0 2 rfl) (by decide) (fun h4 => ?_) (fun h4 => ?_)
  · try have g4 := inr_t h4
    try have g4 := inr_f h4
    obtain ⟨p, hp, rfl⟩ := toNI (x := a) (n := 16) (by omega) (by omega)
    have ta := tI (n := p) (by omega)
    have na : nv (nI p) = p := nv_nI (by omega)
    have hl := itr_lt hS 16 (show p < 16 by omega)
    refine J_aload_n C (dA DX7_round_0 7 rfl) rfl ?_
    refine G_X7_fen C wF_RX7_12 (dA DX7_round_0 8 rfl) ?_
    refine J_aload_n C (dA DX7_round_0 9 rfl) rfl ?_
    refine G_X7_fen C wF_RX7_12 (dA DX7_round_0 10 rfl) ?_
    refine J_iload_n C (dA DX7_round_0 11 rfl) rfl ?_
    refine J_bipush (v := nI 16) C (dA DX7_round_0 12 rfl) (by decide) ?_
    refine V_X1_chainEnd C (by decide) (c_X1_chainEnd l E 0 (by decide) _ _ (by omega) (by omega) hS) wM_RX7_166 (by decide) (dA DX7_round_0 13 rfl) rfl (Nat.le_of_ble_eq_true rfl) ?_
    refine V_X1_roundLength C (by decide) (c_X1_roundLength l E 0 (by decide) _ hl hS) wM_RX7_170 (by decide) (dA DX7_round_0 14 rfl) rfl (Nat.le_of_ble_eq_true rfl) ?_
    exact J_iret C G (dA DX7_round_0 15 rfl) ⟨oi (by unfold aRound; rw [if_pos (show inr (nI p) 0 15 = true from decide_eq_true (by omega)), na]), by unfold eRnd; rw [if_pos (show inr (nI p) 0 15 = true from decide_eq_true (by omega))]⟩
  · try have g4 := inr_t h4
    try have g4 := inr_f h4
    refine J_aload_n C (dA DX7_round_0 3 rfl) rfl ?_
    refine J_ldc (v := (-1000001)) C wK_RX7_69 (dA DX7_round_0 4 rfl) ?_
    refine V_X7_finding C (c_X7_finding l E 0 (by decide) _ (by decide)) wM_RX7_70 (by decide) (dA DX7_round_0 5 rfl) rfl (Nat.le_of_ble_eq_true rfl) ?_
    exact J_iret C G (dA DX7_round_0 6 rfl) ⟨oi (by unfold aRound; rw [if_neg (fun z => by have z := inr_t z; omega)]; rfl), by unfold eRnd; rw [if_neg (fun z => by have z := inr_t z; omega)]⟩
end PA
