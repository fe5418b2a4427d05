/-! what the calls answer, and what they leave, by a fen's numbers -/
def vPond (S : Nat → Int32) (p w : Nat) : Int32 := if w = 6 then inS S (nI p) else if w = 7 then inS S (nI (f6 S p 0)) else nI (f6 S p w)
def aPond (S : Nat → Int32) (a b : Int32) : Int32 := if inr a 0 15 = true ∧ inr b 0 7 = true then vPond S (nv a) (nv b) else fi 0
def ePond (F : Nat) (a b : Int32) (M : jM) : jM := if inr a 0 15 = true ∧ inr b 0 7 = true then M else Fl F 0 M
def aDig (S : Nat → Int32) (a b c : Int32) : Int32 := if inr a 0 15 = true ∧ okP a b c = true then nI (f6 S (nv a) (nv b)) else fi 0
def eDig (B F : Nat) (a b c : Int32) (M : jM) : jM := if inr a 0 15 = true ∧ okP a b c = true then lay B M (upd (vb B M) (4 + 6 * nv a + nv b) c) else Fl F 0 M
def aThing (S : Nat → Int32) (a b : Int32) : Int32 := if inr a 0 6 = true ∧ inr b 0 15 = true then (if iN S = 8 then fi 1 else nI (iN S)) else fi 0
def eThing (B F : Nat) (a b : Int32) (M : jM) : jM := if inr a 0 6 = true ∧ inr b 0 15 = true then (if iN (vb B M) = 8 then Fl F 1 M else lay B M (addS (vb B M) (nv a) (nv b) 9)) else Fl F 0 M
def vOf (S : Nat → Int32) (p w : Nat) : Int32 := if w = 3 then nI (nxtS S p) else if w = 4 then shwS S (nI (f3 S p 1)) else nI (f3 S p w)
def aOf (S : Nat → Int32) (a b : Int32) : Int32 := if inr a 0 ((iN S : Int) - 1) = true ∧ inr b 0 4 = true then vOf S (nv a) (nv b) else fi 0
def eOf (S : Nat → Int32) (F : Nat) (a b : Int32) (M : jM) : jM := if inr a 0 ((iN S : Int) - 1) = true ∧ inr b 0 4 = true then M else Fl F 0 M
def aChange (S : Nat → Int32) (a b c : Int32) : Int32 := if inr a 0 ((iN S : Int) - 1) = true ∧ okT b c = true then nI (f3 S (nv a) (nv b)) else fi 0
def eChange (B F : Nat) (a b c : Int32) (M : jM) : jM := if inr a 0 ((iN (vb B M) : Int) - 1) = true ∧ okT b c = true then lay B M (upd (vb B M) (100 + 3 * nv a + nv b) c) else Fl F 0 M
def aRain (S : Nat → Int32) (a : Int32) : Int32 := if inr a 0 1 = true then nI (iR S) else fi 0
def eRain (B F : Nat) (a : Int32) (M : jM) : jM := if inr a 0 1 = true then lay B M (upd (vb B M) 3 a) else Fl F 0 M
def aGo (S : Nat → Int32) (a : Int32) : Int32 := if inr a 1 60 = true then (if 99999 < iM S + nv a then fi 4 else nI (iM (minsS S (nv a)))) else fi 0
def eGo (B F : Nat) (a : Int32) (M : jM) : jM := if inr a 1 60 = true then (if 99999 < iM (vb B M) + nv a then Fl F 4 M else lay B M (minsS (vb B M) (nv a))) else Fl F 0 M
theorem okP_0 {p w v : Int32} (h : okP p w v = true) : ∃ j, j < 6 ∧ w = nI j := by
  unfold okP at h
  simp only [Bool.and_eq_true] at h
  have := inr_t h.1
  exact toNI this.1 (by omega)
theorem okT_0 {w v : Int32} (h : okT w v = true) : ∃ j, j < 3 ∧ w = nI j := by
  unfold okT at h
  simp only [Bool.and_eq_true] at h
  have := inr_t h.1
  exact toNI this.1 (by omega)
section PA
variable {M : jM}
set_option maxRecDepth 4000 in
theorem c_X7_pond (l : Launch) (E : jE) (a b : Int32) (hS : IS (vb (fb 0) M))  : K_X7_pond l E [.ref (ja E 59), .int a, .int b] M (aPond (vb (fb 0) M) a b) (ePond 1076 a b M) := by
  refine CT_intro (own := RX7) (by decide +kernel) rfl (by simp [Value.category]) (Nat.le_of_ble_eq_true rfl) rfl (fun X C G => ?_)
  show J E X 0 [some (.ref (ja E 59)), some (.int a), some (.int b)] [] M
  refine J_iload_n C (dA DX7_pond_0 0 rfl) rfl ?_
  refine V_X7_isPond C (c_X7_isPond l E _) wM_RX7_65 (by decide) (dA DX7_pond_0 1 rfl) rfl (Nat.le_of_ble_eq_true rfl) ?_
  refine J_if_eq_b (tgt := 17) C (dA DX7_pond_0 2 rfl) (by decide) (fun h4 => ?_) (fun h4 => ?_)
  · try have g4 := inr_t h4
    try have g4 := inr_f h4
    refine J_aload_n C (dA DX7_pond_0 8 rfl) rfl ?_
    refine J_ldc (v := (-1000001)) C wK_RX7_69 (dA DX7_pond_0 9 rfl) ?_
    refine V_X7_finding C (c_X7_finding l E 0 (by decide) _ (by decide)) wM_RX7_70 (by decide) (dA DX7_pond_0 10 rfl) rfl (Nat.le_of_ble_eq_true rfl) ?_
    exact J_iret C G (dA DX7_pond_0 11 rfl) ⟨oi (by unfold aPond; rw [if_neg (by rintro ⟨z1, z2⟩; try have z1 := inr_t z1; try have z2 := inr_t z2; omega)]; rfl), by unfold ePond; rw [if_neg (by rintro ⟨z1, z2⟩; try have z1 := inr_t z1; try have z2 := inr_t z2; omega)]⟩
  · try have g4 := inr_t h4
    try have g4 := inr_f h4
    refine J_iload_n C (dA DX7_pond_0 3 rfl) rfl ?_
    first | refine J_if_lt_n (tgt := 17) C (by omega) (dA DX7_pond_0 4 rfl) (by decide) (fun h8 => ?_) (fun h8 => ?_) | refine J_if_lt_t (tgt := 17) C (dA DX7_pond_0 4 rfl) (by decide) (fun h8 => ?_) (fun h8 => ?_)
    · try have g8 := inr_t h8
      try have g8 := inr_f h8
      refine J_aload_n C (dA DX7_pond_0 8 rfl) rfl ?_
      refine J_ldc (v := (-1000001)) C wK_RX7_69 (dA DX7_pond_0 9 rfl) ?_
      refine V_X7_finding C (c_X7_finding l E 0 (by decide) _ (by decide)) wM_RX7_70 (by decide) (dA DX7_pond_0 10 rfl) rfl (Nat.le_of_ble_eq_true rfl) ?_
      exact J_iret C G (dA DX7_pond_0 11 rfl) ⟨oi (by unfold aPond; rw [if_neg (by rintro ⟨z1, z2⟩; try have z1 := inr_t z1; try have z2 := inr_t z2; omega)]; rfl), by unfold ePond; rw [if_neg (by rintro ⟨z1, z2⟩; try have z1 := inr_t z1; try have z2 := inr_t z2; omega)]⟩
    · try have g8 := inr_t h8
      try have g8 := inr_f h8
      refine J_iload_n C (dA DX7_pond_0 5 rfl) rfl ?_
      refine J_bipush (v := nI 7) C (dA DX7_pond_0 6 rfl) (by decide) ?_
      first | refine J_icmp_le_n (tgt := 24) C (by omega) (by omega) (dA DX7_pond_0 7 rfl) (by decide) (fun h14 => ?_) (fun h14 => ?_) | refine J_icmp_le_c (tgt := 24) C (by omega) (dA DX7_pond_0 7 rfl) (by decide) (fun h14 => ?_) (fun h14 => ?_) | refine J_icmp_le_t (tgt := 24) C (dA DX7_pond_0 7 rfl) (by decide) (fun h14 => ?_) (fun h14 => ?_)
      · try have g14 := inr_t h14
        try have g14 := inr_f h14
        obtain ⟨p, hp, rfl⟩ := toNI (x := a) (n := 16) (by omega) (by omega)
        have ta := tI (n := p) (by omega)
        have na : nv (nI p) = p := nv_nI (by omega)
        obtain ⟨w, hw, rfl⟩ := toNI (x := b) (n := 8) (by omega) (by omega)
        have tb := tI (n := w) (by omega)
        have nb : nv (nI w) = w := nv_nI (by omega)
        refine J_iload_n C (dA DX7_pond_0 12 rfl) rfl ?_
        refine J_bipush (v := nI 6) C (dA DX7_pond_0 13 rfl) (by decide) ?_
        first | refine J_icmp_ne_n (tgt := 39) C (by omega) (by omega) (dA DX7_pond_0 14 rfl) (by decide) (fun h27 => ?_) (fun h27 => ?_) | refine J_icmp_ne_c (tgt := 39) C (by omega) (dA DX7_pond_0 14 rfl) (by decide) (fun h27 => ?_) (fun h27 => ?_) | refine J_icmp_ne_t (tgt := 39) C (dA DX7_pond_0 14 rfl) (by decide) (fun h27 => ?_) (fun h27 => ?_)
        · try have g27 := inr_t h27
          try have g27 := inr_f h27
          refine J_iload_n C (dA DX7_pond_0 20 rfl) rfl ?_
          refine J_bipush (v := nI 7) C (dA DX7_pond_0 21 rfl) (by decide) ?_
          first | refine J_icmp_ne_n (tgt := 54) C (by omega) (by omega) (dA DX7_pond_0 22 rfl) (by decide) (fun h42 => ?_) (fun h42 => ?_) | refine J_icmp_ne_c (tgt := 54) C (by omega) (dA DX7_pond_0 22 rfl) (by decide) (fun h42 => ?_) (fun h42 => ?_) | refine J_icmp_ne_t (tgt := 54) C (dA DX7_pond_0 22 rfl) (by decide) (fun h42 => ?_) (fun h42 => ?_)
          · try have g42 := inr_t h42
            try have g42 := inr_f h42
            refine J_aload_n C (dA DX7_pond_0 28 rfl) rfl ?_
            refine G_X7_fen C wF_RX7_12 (dA DX7_pond_0 29 rfl) ?_
            refine G_X1_ponds C (by decide) wF_RX7_80 (dA DX7_pond_0 30 rfl) ?_
            refine J_iload_n C (dA DX7_pond_0 31 rfl) rfl ?_
            refine R_fp C (by decide) rfl (by omega) (dA DX7_pond_0 32 rfl) ?_
            refine J_iload_n C (dA DX7_pond_0 33 rfl) rfl ?_
            refine Q_fr C (by decide) hS (by omega) rfl (by omega) (dA DX7_pond_0 34 rfl) ?_
            exact J_iret C G (dA DX7_pond_0 35 rfl) ⟨oi (by unfold aPond; rw [if_pos ⟨decide_eq_true (by omega), decide_eq_true (by omega)⟩, na, nb]; unfold vPond; (repeat' split) <;> first | rfl | (exfalso; omega)), by unfold ePond; rw [if_pos ⟨decide_eq_true (by omega), decide_eq_true (by omega)⟩]⟩
          · try have g42 := inr_t h42
            try have g42 := inr_f h42
            refine J_aload_n C (dA DX7_pond_0 23 rfl) rfl ?_
            refine G_X7_fen C wF_RX7_12 (dA DX7_pond_0 24 rfl) ?_
            refine J_iload_n C (dA DX7_pond_0 25 rfl) rfl ?_
            refine V_X1_thingsSeenIn C (by decide) (c_X1_thingsSeenIn l E _ (by decide) _ (by omega) hS) wM_RX7_77 (by decide) (dA DX7_pond_0 26 rfl) rfl (Nat.le_of_ble_eq_true rfl) ?_
            exact J_iret C G (dA DX7_pond_0 27 rfl) ⟨oi (by unfold aPond; rw [if_pos ⟨decide_eq_true (by omega), decide_eq_true (by omega)⟩, na, nb]; unfold vPond; (repeat' split) <;> first | rfl | (exfalso; omega)), by unfold ePond; rw [if_pos ⟨decide_eq_true (by omega), decide_eq_true (by omega)⟩]⟩
        · try have g27 := inr_t h27
          try have g27 := inr_f h27
          refine J_aload_n C (dA DX7_pond_0 15 rfl) rfl ?_
          refine G_X7_fen C wF_RX7_12 (dA DX7_pond_0 16 rfl) ?_
          refine J_iload_n C (dA DX7_pond_0 17 rfl) rfl ?_
          refine V_X1_thingsIn C (by decide) (c_X1_thingsIn l E _ (by decide) _ hS) wM_RX7_74 (by decide) (dA DX7_pond_0 18 rfl) rfl (Nat.le_of_ble_eq_true rfl) ?_
          exact J_iret C G (dA DX7_pond_0 19 rfl) ⟨oi (by unfold aPond; rw [if_pos ⟨decide_eq_true (by omega), decide_eq_true (by omega)⟩, na, nb]; unfold vPond; (repeat' split) <;> first | rfl | (exfalso; omega)), by unfold ePond; rw [if_pos ⟨decide_eq_true (by omega), decide_eq_true (by omega)⟩]⟩
      · try have g14 := inr_t h14
        try have g14 := inr_f h14
        refine J_aload_n C (dA DX7_pond_0 8 rfl) rfl ?_
        refine J_ldc (v := (-1000001)) C wK_RX7_69 (dA DX7_pond_0 9 rfl) ?_
        refine V_X7_finding C (c_X7_finding l E 0 (by decide) _ (by decide)) wM_RX7_70 (by decide) (dA DX7_pond_0 10 rfl) rfl (Nat.le_of_ble_eq_true rfl) ?_
        exact J_iret C G (dA DX7_pond_0 11 rfl) ⟨oi (by unfold aPond; rw [if_neg (by rintro ⟨z1, z2⟩; try have z1 := inr_t z1; try have z2 := inr_t z2; omega)]; rfl), by unfold ePond; rw [if_neg (by rintro ⟨z1, z2⟩; try have z1 := inr_t z1; try have z2 := inr_t z2; omega)]⟩
set_option maxRecDepth 4000 in
theorem c_X8_pond (l : Launch) (E : jE) (a b : Int32) (hS : IS (vb 1100 M))  : K_X8_pond l E [.ref (ja E 60), .int a, .int b] M (aPond (vb 1100 M) a b) (ePond 1502 a b M) := by
  refine CT_intro (own := RX8) (by decide +kernel) rfl (by simp [Value.category]) (Nat.le_of_ble_eq_true rfl) rfl (fun X C G => ?_)
  show J E X 0 [some (.ref (ja E 60)), some (.int a), some (.int b)] [] M
  refine J_iload_n C (dA DX8_pond_0 0 rfl) rfl ?_
  refine V_X8_isPond C (c_X8_isPond l E _) wM_RX8_102 (by decide) (dA DX8_pond_0 1 rfl) rfl (Nat.le_of_ble_eq_true rfl) ?_
  refine J_if_eq_b (tgt := 17) C (dA DX8_pond_0 2 rfl) (by decide) (fun h4 => ?_) (fun h4 => ?_)
  · try have g4 := inr_t h4
    try have g4 := inr_f h4
    refine J_aload_n C (dA DX8_pond_0 8 rfl) rfl ?_
    refine J_iconst (v := nI 0) C (dA DX8_pond_0 9 rfl) (by decide) ?_
    refine V_X8_no C (c_X8_no l E _ (by decide)) wM_RX8_106 (by decide) (dA DX8_pond_0 10 rfl) rfl (Nat.le_of_ble_eq_true rfl) ?_
    exact J_iret C G (dA DX8_pond_0 11 rfl) ⟨oi (by unfold aPond; rw [if_neg (by rintro ⟨z1, z2⟩; try have z1 := inr_t z1; try have z2 := inr_t z2; omega)]; rfl), by unfold ePond; rw [if_neg (by rintro ⟨z1, z2⟩; try have z1 := inr_t z1; try have z2 := inr_t z2; omega)]⟩
  · try have g4 := inr_t h4
    try have g4 := inr_f h4
    refine J_iload_n C (dA DX8_pond_0 3 rfl) rfl ?_
    refine J_iconst (v := nI 0) C (dA DX8_pond_0 4 rfl) (by decide) ?_
    refine J_bipush (v := nI 7) C (dA DX8_pond_0 5 rfl) (by decide) ?_
    refine V_X8_in1 C (c_X8_in1n l E _ _ _ (by omega) (by omega)) wM_RX8_58 (by decide) (dA DX8_pond_0 6 rfl) rfl (Nat.le_of_ble_eq_true rfl) ?_
    refine J_if_ne_b (tgt := 23) C (dA DX8_pond_0 7 rfl) (by decide) (fun h14 => ?_) (fun h14 => ?_)
    · try have g14 := inr_t h14
      try have g14 := inr_f h14
      obtain ⟨p, hp, rfl⟩ := toNI (x := a) (n := 16) (by omega) (by omega)
      have ta := tI (n := p) (by omega)
      have na : nv (nI p) = p := nv_nI (by omega)
      obtain ⟨w, hw, rfl⟩ := toNI (x := b) (n := 8) (by omega) (by omega)
      have tb := tI (n := w) (by omega)
      have nb : nv (nI w) = w := nv_nI (by omega)
      refine J_iload_n C (dA DX8_pond_0 12 rfl) rfl ?_
      refine J_bipush (v := nI 6) C (dA DX8_pond_0 13 rfl) (by decide) ?_
      first | refine J_icmp_ge_n (tgt := 38) C (by omega) (by omega) (dA DX8_pond_0 14 rfl) (by decide) (fun h26 => ?_) (fun h26 => ?_) | refine J_icmp_ge_c (tgt := 38) C (by omega) (dA DX8_pond_0 14 rfl) (by decide) (fun h26 => ?_) (fun h26 => ?_) | refine J_icmp_ge_t (tgt := 38) C (dA DX8_pond_0 14 rfl) (by decide) (fun h26 => ?_) (fun h26 => ?_)
      · try have g26 := inr_t h26
        try have g26 := inr_f h26
        refine J_iload_n C (dA DX8_pond_0 20 rfl) rfl ?_
        refine J_bipush (v := nI 6) C (dA DX8_pond_0 21 rfl) (by decide) ?_
        first | refine J_icmp_ne_n (tgt := 52) C (by omega) (by omega) (dA DX8_pond_0 22 rfl) (by decide) (fun h41 => ?_) (fun h41 => ?_) | refine J_icmp_ne_c (tgt := 52) C (by omega) (dA DX8_pond_0 22 rfl) (by decide) (fun h41 => ?_) (fun h41 => ?_) | refine J_icmp_ne_t (tgt := 52) C (dA DX8_pond_0 22 rfl) (by decide) (fun h41 => ?_) (fun h41 => ?_)
        · try have g41 := inr_t h41
          try have g41 := inr_f h41
          refine J_aload_n C (dA DX8_pond_0 27 rfl) rfl ?_
          refine J_iload_n C (dA DX8_pond_0 28 rfl) rfl ?_
          refine V_X8_seenIn C (c_X8_seenIn l E _ (by omega) hS) wM_RX8_73 (by decide) (dA DX8_pond_0 29 rfl) rfl (Nat.le_of_ble_eq_true rfl) ?_
          exact J_iret C G (dA DX8_pond_0 30 rfl) ⟨oi (by unfold aPond; rw [if_pos ⟨decide_eq_true (by omega), decide_eq_true (by omega)⟩, na, nb]; unfold vPond; (repeat' split) <;> first | rfl | (exfalso; omega)), by unfold ePond; rw [if_pos ⟨decide_eq_true (by omega), decide_eq_true (by omega)⟩]⟩
        · try have g41 := inr_t h41
          try have g41 := inr_f h41
          refine J_aload_n C (dA DX8_pond_0 23 rfl) rfl ?_
          refine J_iload_n C (dA DX8_pond_0 24 rfl) rfl ?_
          refine V_X8_inside C (c_X8_inside l E _ hS) wM_RX8_69 (by decide) (dA DX8_pond_0 25 rfl) rfl (Nat.le_of_ble_eq_true rfl) ?_
          refine J_goto (tgt := 57) C (dA DX8_pond_0 26 rfl) (by decide) ?_
          exact J_iret C G (dA DX8_pond_0 30 rfl) ⟨oi (by unfold aPond; rw [if_pos ⟨decide_eq_true (by omega), decide_eq_true (by omega)⟩, na, nb]; unfold vPond; (repeat' split) <;> first | rfl | (exfalso; omega)), by unfold ePond; rw [if_pos ⟨decide_eq_true (by omega), decide_eq_true (by omega)⟩]⟩
      · try have g26 := inr_t h26
        try have g26 := inr_f h26
        refine J_aload_n C (dA DX8_pond_0 15 rfl) rfl ?_
        refine J_iload_n C (dA DX8_pond_0 16 rfl) rfl ?_
        refine J_iload_n C (dA DX8_pond_0 17 rfl) rfl ?_
        refine V_X8_of1 C (c_X8_of1 l E _ _ (by omega) (by omega) hS) wM_RX8_66 (by decide) (dA DX8_pond_0 18 rfl) rfl (Nat.le_of_ble_eq_true rfl) ?_
        refine J_goto (tgt := 57) C (dA DX8_pond_0 19 rfl) (by decide) ?_
        exact J_iret C G (dA DX8_pond_0 30 rfl) ⟨oi (by unfold aPond; rw [if_pos ⟨decide_eq_true (by omega), decide_eq_true (by omega)⟩, na, nb]; unfold vPond; (repeat' split) <;> first | rfl | (exfalso; omega)), by unfold ePond; rw [if_pos ⟨decide_eq_true (by omega), decide_eq_true (by omega)⟩]⟩
    · try have g14 := inr_t h14
      try have g14 := inr_f h14
      refine J_aload_n C (dA DX8_pond_0 8 rfl) rfl ?_
      refine J_iconst (v := nI 0) C (dA DX8_pond_0 9 rfl) (by decide) ?_
      refine V_X8_no C (c_X8_no l E _ (by decide)) wM_RX8_106 (by decide) (dA DX8_pond_0 10 rfl) rfl (Nat.le_of_ble_eq_true rfl) ?_
      exact J_iret C G (dA DX8_pond_0 11 rfl) ⟨oi (by unfold aPond; rw [if_neg (by rintro ⟨z1, z2⟩; try have z1 := inr_t z1; try have z2 := inr_t z2; omega)]; rfl), by unfold ePond; rw [if_neg (by rintro ⟨z1, z2⟩; try have z1 := inr_t z1; try have z2 := inr_t z2; omega)]⟩
set_option maxRecDepth 4000 in
theorem c_X8_isOfPond (l : Launch) (E : jE) (a : Int32) (j : Nat) (hj : j < 6) (v : Int32)  : K_X8_isOfPond l E [.int a, .int (nI j), .int v] M (jb (okP a (nI j) v)) (M) := by
  refine CT_intro (own := RX8) (by decide +kernel) rfl (by simp [Value.category]) (Nat.le_of_ble_eq_true rfl) rfl (fun X C G => ?_)
  show J E X 0 [some (.int a), some (.int (nI j)), some (.int v), none] [] M
  have hjn : nv (nI j) = j := nv_nI (by omega)
  have hq : inr (nI j) 0 5 = true := by rw [inr_n (by omega)]; exact decide_eq_true (by omega)
  rcases (show j = 0 ∨ j = 1 ∨ j = 2 ∨ j = 3 ∨ j = 4 ∨ j = 5 by omega) with rfl | rfl | rfl | rfl | rfl | rfl
  · refine J_iload_n C (dA DX8_isOfPond_0 0 rfl) rfl ?_
    refine J_iconst (v := nI 1) C (dA DX8_isOfPond_0 1 rfl) (by decide) ?_
    refine J_icmp_ne_n (tgt := 10) C (by decide) (by decide) (dA DX8_isOfPond_0 2 rfl) (by decide) (fun h2 => ?_) (fun h2 => ?_)
    · try have g2 := inr_t h2
      try have g2 := inr_f h2
      refine J_iload_n C (dA DX8_isOfPond_0 5 rfl) rfl ?_
      refine J_iconst (v := nI 2) C (dA DX8_isOfPond_0 6 rfl) (by decide) ?_
      refine J_icmp_ne_n (tgt := 19) C (by decide) (by decide) (dA DX8_isOfPond_0 7 rfl) (by decide) (fun h12 => ?_) (fun h12 => ?_)
      · try have g12 := inr_t h12
        try have g12 := inr_f h12
        refine J_iload_n C (dA DX8_isOfPond_0 10 rfl) rfl ?_
        refine J_iconst (v := nI 3) C (dA DX8_isOfPond_0 11 rfl) (by decide) ?_
        refine J_icmp_ne_n (tgt := 28) C (by decide) (by decide) (dA DX8_isOfPond_0 12 rfl) (by decide) (fun h21 => ?_) (fun h21 => ?_)
        · try have g21 := inr_t h21
          try have g21 := inr_f h21
          refine J_iload_n C (dA DX8_isOfPond_0 15 rfl) rfl ?_
          refine J_iconst (v := nI 5) C (dA DX8_isOfPond_0 16 rfl) (by decide) ?_
          refine J_icmp_ne_n (tgt := 38) C (by decide) (by decide) (dA DX8_isOfPond_0 17 rfl) (by decide) (fun h30 => ?_) (fun h30 => ?_)
          · try have g30 := inr_t h30
            try have g30 := inr_f h30
            refine J_bipush (v := nI 15) C (dA DX8_isOfPond_0 20 rfl) (by decide) ?_
            refine J_ist_3_4 C (dA DX8_isOfPond_0 21 rfl) rfl ?_
            refine J_iload_n C (dA DX8_isOfPond_0 22 rfl) rfl ?_
            refine J_iload_n C (dA DX8_isOfPond_0 23 rfl) rfl ?_
            refine J_iconst (v := nI 1) C (dA DX8_isOfPond_0 24 rfl) (by decide) ?_
            refine J_icmp_ne_n (tgt := 51) C (by decide) (by decide) (dA DX8_isOfPond_0 25 rfl) (by decide) (fun h44 => ?_) (fun h44 => ?_)
            · try have g44 := inr_t h44
              try have g44 := inr_f h44
              refine J_iconst (v := nI 0) C (dA DX8_isOfPond_0 28 rfl) (by decide) ?_
              refine J_iload_n C (dA DX8_isOfPond_0 29 rfl) rfl ?_
              refine V_X8_in1 C (c_X8_in1n l E _ _ _ (by omega) (by omega)) wM_RX8_58 (by decide) (dA DX8_isOfPond_0 30 rfl) rfl (Nat.le_of_ble_eq_true rfl) ?_
              refine J_if_eq_b (tgt := 72) C (dA DX8_isOfPond_0 31 rfl) (by decide) (fun h56 => ?_) (fun h56 => ?_)
              · try have g56 := inr_t h56
                try have g56 := inr_f h56
                refine J_iconst (v := nI 0) C (dA DX8_isOfPond_0 39 rfl) (by decide) ?_
                exact J_zret C G rfl (dA DX8_isOfPond_0 40 rfl) ⟨oi (bt_f (by unfold okP; rw [hq, hjn]; rw [show inr v ((jtV 0).getD 0 0).toInt ((jtV 1).getD 0 0).toInt = false from h56]; rfl)), rfl⟩
              · try have g56 := inr_t h56
                try have g56 := inr_f h56
                refine J_iload_n C (dA DX8_isOfPond_0 32 rfl) rfl ?_
                refine J_if_ne_n (tgt := 68) C (by decide) (dA DX8_isOfPond_0 33 rfl) (by decide) (fun h60 => ?_) (fun h60 => ?_)
                · exact absurd h60 (by decide)
                · try have g60 := inr_t h60
                  try have g60 := inr_f h60
                  refine J_iload_n C (dA DX8_isOfPond_0 34 rfl) rfl ?_
                  refine J_iload_n C (dA DX8_isOfPond_0 35 rfl) rfl ?_
                  refine J_icmp_eq (tgt := 72) C (dA DX8_isOfPond_0 36 rfl) (by decide) (fun h65 => ?_) (fun h65 => ?_)
                  · refine J_iconst (v := nI 0) C (dA DX8_isOfPond_0 39 rfl) (by decide) ?_
                    exact J_zret C G rfl (dA DX8_isOfPond_0 40 rfl) ⟨oi (bt_f (by unfold okP; rw [hq, hjn]; rw [show inr v ((jtV 0).getD 0 0).toInt ((jtV 1).getD 0 0).toInt = true from h56]; rw [decide_eq_true (show nI 0 = 0 from rfl), decide_eq_true h65]; rfl)), rfl⟩
                  · refine J_iconst (v := nI 1) C (dA DX8_isOfPond_0 37 rfl) (by decide) ?_
                    refine J_goto (tgt := 73) C (dA DX8_isOfPond_0 38 rfl) (by decide) ?_
                    exact J_zret C G rfl (dA DX8_isOfPond_0 40 rfl) ⟨oi (bt_t (by unfold okP; rw [hq, hjn]; rw [show inr v ((jtV 0).getD 0 0).toInt ((jtV 1).getD 0 0).toInt = true from h56]; rw [decide_eq_false h65, Bool.and_false]; rfl)), rfl⟩
            · exact absurd h44 (by decide)
          · exact absurd h30 (by decide)
        · exact absurd h21 (by decide)
      · exact absurd h12 (by decide)
    · exact absurd h2 (by decide)
  · refine J_iload_n C (dA DX8_isOfPond_0 0 rfl) rfl ?_
    refine J_iconst (v := nI 1) C (dA DX8_isOfPond_0 1 rfl) (by decide) ?_
    refine J_icmp_ne_n (tgt := 10) C (by decide) (by decide) (dA DX8_isOfPond_0 2 rfl) (by decide) (fun h2 => ?_) (fun h2 => ?_)
    · exact absurd h2 (by decide)
    · try have g2 := inr_t h2
      try have g2 := inr_f h2
      refine J_bipush (v := nI 9) C (dA DX8_isOfPond_0 3 rfl) (by decide) ?_
      refine J_goto (tgt := 40) C (dA DX8_isOfPond_0 4 rfl) (by decide) ?_
      refine J_ist_3_4 C (dA DX8_isOfPond_0 21 rfl) rfl ?_
      refine J_iload_n C (dA DX8_isOfPond_0 22 rfl) rfl ?_
      refine J_iload_n C (dA DX8_isOfPond_0 23 rfl) rfl ?_
      refine J_iconst (v := nI 1) C (dA DX8_isOfPond_0 24 rfl) (by decide) ?_
      refine J_icmp_ne_n (tgt := 51) C (by decide) (by decide) (dA DX8_isOfPond_0 25 rfl) (by decide) (fun h44 => ?_) (fun h44 => ?_)
      · exact absurd h44 (by decide)
      · try have g44 := inr_t h44
        try have g44 := inr_f h44
        refine J_iconst (v := nI 1) C (dA DX8_isOfPond_0 26 rfl) (by decide) ?_
        refine J_goto (tgt := 52) C (dA DX8_isOfPond_0 27 rfl) (by decide) ?_
        refine J_iload_n C (dA DX8_isOfPond_0 29 rfl) rfl ?_
        refine V_X8_in1 C (c_X8_in1n l E _ _ _ (by omega) (by omega)) wM_RX8_58 (by decide) (dA DX8_isOfPond_0 30 rfl) rfl (Nat.le_of_ble_eq_true rfl) ?_
        refine J_if_eq_b (tgt := 72) C (dA DX8_isOfPond_0 31 rfl) (by decide) (fun h56 => ?_) (fun h56 => ?_)
        · try have g56 := inr_t h56
          try have g56 := inr_f h56
          refine J_iconst (v := nI 0) C (dA DX8_isOfPond_0 39 rfl) (by decide) ?_
          exact J_zret C G rfl (dA DX8_isOfPond_0 40 rfl) ⟨oi (bt_f (by unfold okP; rw [hq, hjn]; rw [show inr v ((jtV 0).getD 1 0).toInt ((jtV 1).getD 1 0).toInt = false from h56]; rfl)), rfl⟩
        · try have g56 := inr_t h56
          try have g56 := inr_f h56
          refine J_iload_n C (dA DX8_isOfPond_0 32 rfl) rfl ?_
          refine J_if_ne_n (tgt := 68) C (by decide) (dA DX8_isOfPond_0 33 rfl) (by decide) (fun h60 => ?_) (fun h60 => ?_)
          · try have g60 := inr_t h60
            try have g60 := inr_f h60
            refine J_iconst (v := nI 1) C (dA DX8_isOfPond_0 37 rfl) (by decide) ?_
            refine J_goto (tgt := 73) C (dA DX8_isOfPond_0 38 rfl) (by decide) ?_
            exact J_zret C G rfl (dA DX8_isOfPond_0 40 rfl) ⟨oi (bt_t (by unfold okP; rw [hq, hjn]; rw [show inr v ((jtV 0).getD 1 0).toInt ((jtV 1).getD 1 0).toInt = true from h56]; rw [decide_eq_false (show ¬ nI 1 = 0 by decide)]; rfl)), rfl⟩
          · exact absurd h60 (by decide)
  · refine J_iload_n C (dA DX8_isOfPond_0 0 rfl) rfl ?_
    refine J_iconst (v := nI 1) C (dA DX8_isOfPond_0 1 rfl) (by decide) ?_
    refine J_icmp_ne_n (tgt := 10) C (by decide) (by decide) (dA DX8_isOfPond_0 2 rfl) (by decide) (fun h2 => ?_) (fun h2 => ?_)
    · try have g2 := inr_t h2
      try have g2 := inr_f h2
      refine J_iload_n C (dA DX8_isOfPond_0 5 rfl) rfl ?_
      refine J_iconst (v := nI 2) C (dA DX8_isOfPond_0 6 rfl) (by decide) ?_
      refine J_icmp_ne_n (tgt := 19) C (by decide) (by decide) (dA DX8_isOfPond_0 7 rfl) (by decide) (fun h12 => ?_) (fun h12 => ?_)
      · exact absurd h12 (by decide)
      · try have g12 := inr_t h12
        try have g12 := inr_f h12
        refine J_iconst (v := nI 3) C (dA DX8_isOfPond_0 8 rfl) (by decide) ?_
        refine J_goto (tgt := 40) C (dA DX8_isOfPond_0 9 rfl) (by decide) ?_
        refine J_ist_3_4 C (dA DX8_isOfPond_0 21 rfl) rfl ?_
        refine J_iload_n C (dA DX8_isOfPond_0 22 rfl) rfl ?_
        refine J_iload_n C (dA DX8_isOfPond_0 23 rfl) rfl ?_
        refine J_iconst (v := nI 1) C (dA DX8_isOfPond_0 24 rfl) (by decide) ?_
        refine J_icmp_ne_n (tgt := 51) C (by decide) (by decide) (dA DX8_isOfPond_0 25 rfl) (by decide) (fun h44 => ?_) (fun h44 => ?_)
        · try have g44 := inr_t h44
          try have g44 := inr_f h44
          refine J_iconst (v := nI 0) C (dA DX8_isOfPond_0 28 rfl) (by decide) ?_
          refine J_iload_n C (dA DX8_isOfPond_0 29 rfl) rfl ?_
          refine V_X8_in1 C (c_X8_in1n l E _ _ _ (by omega) (by omega)) wM_RX8_58 (by decide) (dA DX8_isOfPond_0 30 rfl) rfl (Nat.le_of_ble_eq_true rfl) ?_
          refine J_if_eq_b (tgt := 72) C (dA DX8_isOfPond_0 31 rfl) (by decide) (fun h56 => ?_) (fun h56 => ?_)
          · try have g56 := inr_t h56
            try have g56 := inr_f h56
            refine J_iconst (v := nI 0) C (dA DX8_isOfPond_0 39 rfl) (by decide) ?_
            exact J_zret C G rfl (dA DX8_isOfPond_0 40 rfl) ⟨oi (bt_f (by unfold okP; rw [hq, hjn]; rw [show inr v ((jtV 0).getD 2 0).toInt ((jtV 1).getD 2 0).toInt = false from h56]; rfl)), rfl⟩
          · try have g56 := inr_t h56
            try have g56 := inr_f h56
            refine J_iload_n C (dA DX8_isOfPond_0 32 rfl) rfl ?_
            refine J_if_ne_n (tgt := 68) C (by decide) (dA DX8_isOfPond_0 33 rfl) (by decide) (fun h60 => ?_) (fun h60 => ?_)
            · try have g60 := inr_t h60
              try have g60 := inr_f h60
              refine J_iconst (v := nI 1) C (dA DX8_isOfPond_0 37 rfl) (by decide) ?_
              refine J_goto (tgt := 73) C (dA DX8_isOfPond_0 38 rfl) (by decide) ?_
              exact J_zret C G rfl (dA DX8_isOfPond_0 40 rfl) ⟨oi (bt_t (by unfold okP; rw [hq, hjn]; rw [show inr v ((jtV 0).getD 2 0).toInt ((jtV 1).getD 2 0).toInt = true from h56]; rw [decide_eq_false (show ¬ nI 2 = 0 by decide)]; rfl)), rfl⟩
            · exact absurd h60 (by decide)
        · exact absurd h44 (by decide)
    · exact absurd h2 (by decide)
  · refine J_iload_n C (dA DX8_isOfPond_0 0 rfl) rfl ?_
    refine J_iconst (v := nI 1) C (dA DX8_isOfPond_0 1 rfl) (by decide) ?_
    refine J_icmp_ne_n (tgt := 10) C (by decide) (by decide) (dA DX8_isOfPond_0 2 rfl) (by decide) (fun h2 => ?_) (fun h2 => ?_)
    · try have g2 := inr_t h2
      try have g2 := inr_f h2
      refine J_iload_n C (dA DX8_isOfPond_0 5 rfl) rfl ?_
      refine J_iconst (v := nI 2) C (dA DX8_isOfPond_0 6 rfl) (by decide) ?_
      refine J_icmp_ne_n (tgt := 19) C (by decide) (by decide) (dA DX8_isOfPond_0 7 rfl) (by decide) (fun h12 => ?_) (fun h12 => ?_)
      · try have g12 := inr_t h12
        try have g12 := inr_f h12
        refine J_iload_n C (dA DX8_isOfPond_0 10 rfl) rfl ?_
        refine J_iconst (v := nI 3) C (dA DX8_isOfPond_0 11 rfl) (by decide) ?_
        refine J_icmp_ne_n (tgt := 28) C (by decide) (by decide) (dA DX8_isOfPond_0 12 rfl) (by decide) (fun h21 => ?_) (fun h21 => ?_)
        · exact absurd h21 (by decide)
        · try have g21 := inr_t h21
          try have g21 := inr_f h21
          refine J_iconst (v := nI 1) C (dA DX8_isOfPond_0 13 rfl) (by decide) ?_
          refine J_goto (tgt := 40) C (dA DX8_isOfPond_0 14 rfl) (by decide) ?_
          refine J_ist_3_4 C (dA DX8_isOfPond_0 21 rfl) rfl ?_
          refine J_iload_n C (dA DX8_isOfPond_0 22 rfl) rfl ?_
          refine J_iload_n C (dA DX8_isOfPond_0 23 rfl) rfl ?_
          refine J_iconst (v := nI 1) C (dA DX8_isOfPond_0 24 rfl) (by decide) ?_
          refine J_icmp_ne_n (tgt := 51) C (by decide) (by decide) (dA DX8_isOfPond_0 25 rfl) (by decide) (fun h44 => ?_) (fun h44 => ?_)
          · try have g44 := inr_t h44
            try have g44 := inr_f h44
            refine J_iconst (v := nI 0) C (dA DX8_isOfPond_0 28 rfl) (by decide) ?_
            refine J_iload_n C (dA DX8_isOfPond_0 29 rfl) rfl ?_
            refine V_X8_in1 C (c_X8_in1n l E _ _ _ (by omega) (by omega)) wM_RX8_58 (by decide) (dA DX8_isOfPond_0 30 rfl) rfl (Nat.le_of_ble_eq_true rfl) ?_
            refine J_if_eq_b (tgt := 72) C (dA DX8_isOfPond_0 31 rfl) (by decide) (fun h56 => ?_) (fun h56 => ?_)
            · try have g56 := inr_t h56
              try have g56 := inr_f h56
              refine J_iconst (v := nI 0) C (dA DX8_isOfPond_0 39 rfl) (by decide) ?_
              exact J_zret C G rfl (dA DX8_isOfPond_0 40 rfl) ⟨oi (bt_f (by unfold okP; rw [hq, hjn]; rw [show inr v ((jtV 0).getD 3 0).toInt ((jtV 1).getD 3 0).toInt = false from h56]; rfl)), rfl⟩
            · try have g56 := inr_t h56
              try have g56 := inr_f h56
              refine J_iload_n C (dA DX8_isOfPond_0 32 rfl) rfl ?_
              refine J_if_ne_n (tgt := 68) C (by decide) (dA DX8_isOfPond_0 33 rfl) (by decide) (fun h60 => ?_) (fun h60 => ?_)
              · try have g60 := inr_t h60
                try have g60 := inr_f h60
                refine J_iconst (v := nI 1) C (dA DX8_isOfPond_0 37 rfl) (by decide) ?_
                refine J_goto (tgt := 73) C (dA DX8_isOfPond_0 38 rfl) (by decide) ?_
                exact J_zret C G rfl (dA DX8_isOfPond_0 40 rfl) ⟨oi (bt_t (by unfold okP; rw [hq, hjn]; rw [show inr v ((jtV 0).getD 3 0).toInt ((jtV 1).getD 3 0).toInt = true from h56]; rw [decide_eq_false (show ¬ nI 3 = 0 by decide)]; rfl)), rfl⟩
              · exact absurd h60 (by decide)
          · exact absurd h44 (by decide)
      · exact absurd h12 (by decide)
    · exact absurd h2 (by decide)
  · refine J_iload_n C (dA DX8_isOfPond_0 0 rfl) rfl ?_
    refine J_iconst (v := nI 1) C (dA DX8_isOfPond_0 1 rfl) (by decide) ?_
    refine J_icmp_ne_n (tgt := 10) C (by decide) (by decide) (dA DX8_isOfPond_0 2 rfl) (by decide) (fun h2 => ?_) (fun h2 => ?_)
    · try have g2 := inr_t h2
      try have g2 := inr_f h2
      refine J_iload_n C (dA DX8_isOfPond_0 5 rfl) rfl ?_
      refine J_iconst (v := nI 2) C (dA DX8_isOfPond_0 6 rfl) (by decide) ?_
      refine J_icmp_ne_n (tgt := 19) C (by decide) (by decide) (dA DX8_isOfPond_0 7 rfl) (by decide) (fun h12 => ?_) (fun h12 => ?_)
      · try have g12 := inr_t h12
        try have g12 := inr_f h12
        refine J_iload_n C (dA DX8_isOfPond_0 10 rfl) rfl ?_
        refine J_iconst (v := nI 3) C (dA DX8_isOfPond_0 11 rfl) (by decide) ?_
        refine J_icmp_ne_n (tgt := 28) C (by decide) (by decide) (dA DX8_isOfPond_0 12 rfl) (by decide) (fun h21 => ?_) (fun h21 => ?_)
        · try have g21 := inr_t h21
          try have g21 := inr_f h21
          refine J_iload_n C (dA DX8_isOfPond_0 15 rfl) rfl ?_
          refine J_iconst (v := nI 5) C (dA DX8_isOfPond_0 16 rfl) (by decide) ?_
          refine J_icmp_ne_n (tgt := 38) C (by decide) (by decide) (dA DX8_isOfPond_0 17 rfl) (by decide) (fun h30 => ?_) (fun h30 => ?_)
          · try have g30 := inr_t h30
            try have g30 := inr_f h30
            refine J_bipush (v := nI 15) C (dA DX8_isOfPond_0 20 rfl) (by decide) ?_
            refine J_ist_3_4 C (dA DX8_isOfPond_0 21 rfl) rfl ?_
            refine J_iload_n C (dA DX8_isOfPond_0 22 rfl) rfl ?_
            refine J_iload_n C (dA DX8_isOfPond_0 23 rfl) rfl ?_
            refine J_iconst (v := nI 1) C (dA DX8_isOfPond_0 24 rfl) (by decide) ?_
            refine J_icmp_ne_n (tgt := 51) C (by decide) (by decide) (dA DX8_isOfPond_0 25 rfl) (by decide) (fun h44 => ?_) (fun h44 => ?_)
            · try have g44 := inr_t h44
              try have g44 := inr_f h44
              refine J_iconst (v := nI 0) C (dA DX8_isOfPond_0 28 rfl) (by decide) ?_
              refine J_iload_n C (dA DX8_isOfPond_0 29 rfl) rfl ?_
              refine V_X8_in1 C (c_X8_in1n l E _ _ _ (by omega) (by omega)) wM_RX8_58 (by decide) (dA DX8_isOfPond_0 30 rfl) rfl (Nat.le_of_ble_eq_true rfl) ?_
              refine J_if_eq_b (tgt := 72) C (dA DX8_isOfPond_0 31 rfl) (by decide) (fun h56 => ?_) (fun h56 => ?_)
              · try have g56 := inr_t h56
                try have g56 := inr_f h56
                refine J_iconst (v := nI 0) C (dA DX8_isOfPond_0 39 rfl) (by decide) ?_
                exact J_zret C G rfl (dA DX8_isOfPond_0 40 rfl) ⟨oi (bt_f (by unfold okP; rw [hq, hjn]; rw [show inr v ((jtV 0).getD 4 0).toInt ((jtV 1).getD 4 0).toInt = false from h56]; rfl)), rfl⟩
              · try have g56 := inr_t h56
                try have g56 := inr_f h56
                refine J_iload_n C (dA DX8_isOfPond_0 32 rfl) rfl ?_
                refine J_if_ne_n (tgt := 68) C (by decide) (dA DX8_isOfPond_0 33 rfl) (by decide) (fun h60 => ?_) (fun h60 => ?_)
                · try have g60 := inr_t h60
                  try have g60 := inr_f h60
                  refine J_iconst (v := nI 1) C (dA DX8_isOfPond_0 37 rfl) (by decide) ?_
                  refine J_goto (tgt := 73) C (dA DX8_isOfPond_0 38 rfl) (by decide) ?_
                  exact J_zret C G rfl (dA DX8_isOfPond_0 40 rfl) ⟨oi (bt_t (by unfold okP; rw [hq, hjn]; rw [show inr v ((jtV 0).getD 4 0).toInt ((jtV 1).getD 4 0).toInt = true from h56]; rw [decide_eq_false (show ¬ nI 4 = 0 by decide)]; rfl)), rfl⟩
                · exact absurd h60 (by decide)
            · exact absurd h44 (by decide)
          · exact absurd h30 (by decide)
        · exact absurd h21 (by decide)
      · exact absurd h12 (by decide)
    · exact absurd h2 (by decide)
  · refine J_iload_n C (dA DX8_isOfPond_0 0 rfl) rfl ?_
    refine J_iconst (v := nI 1) C (dA DX8_isOfPond_0 1 rfl) (by decide) ?_
    refine J_icmp_ne_n (tgt := 10) C (by decide) (by decide) (dA DX8_isOfPond_0 2 rfl) (by decide) (fun h2 => ?_) (fun h2 => ?_)
    · try have g2 := inr_t h2
      try have g2 := inr_f h2
      refine J_iload_n C (dA DX8_isOfPond_0 5 rfl) rfl ?_
      refine J_iconst (v := nI 2) C (dA DX8_isOfPond_0 6 rfl) (by decide) ?_
      refine J_icmp_ne_n (tgt := 19) C (by decide) (by decide) (dA DX8_isOfPond_0 7 rfl) (by decide) (fun h12 => ?_) (fun h12 => ?_)
      · try have g12 := inr_t h12
        try have g12 := inr_f h12
        refine J_iload_n C (dA DX8_isOfPond_0 10 rfl) rfl ?_
        refine J_iconst (v := nI 3) C (dA DX8_isOfPond_0 11 rfl) (by decide) ?_
        refine J_icmp_ne_n (tgt := 28) C (by decide) (by decide) (dA DX8_isOfPond_0 12 rfl) (by decide) (fun h21 => ?_) (fun h21 => ?_)
        · try have g21 := inr_t h21
          try have g21 := inr_f h21
          refine J_iload_n C (dA DX8_isOfPond_0 15 rfl) rfl ?_
          refine J_iconst (v := nI 5) C (dA DX8_isOfPond_0 16 rfl) (by decide) ?_
          refine J_icmp_ne_n (tgt := 38) C (by decide) (by decide) (dA DX8_isOfPond_0 17 rfl) (by decide) (fun h30 => ?_) (fun h30 => ?_)
          · exact absurd h30 (by decide)
          · try have g30 := inr_t h30
            try have g30 := inr_f h30
            refine J_bipush (v := nI 99) C (dA DX8_isOfPond_0 18 rfl) (by decide) ?_
            refine J_goto (tgt := 40) C (dA DX8_isOfPond_0 19 rfl) (by decide) ?_
            refine J_ist_3_4 C (dA DX8_isOfPond_0 21 rfl) rfl ?_
            refine J_iload_n C (dA DX8_isOfPond_0 22 rfl) rfl ?_
            refine J_iload_n C (dA DX8_isOfPond_0 23 rfl) rfl ?_
            refine J_iconst (v := nI 1) C (dA DX8_isOfPond_0 24 rfl) (by decide) ?_
            refine J_icmp_ne_n (tgt := 51) C (by decide) (by decide) (dA DX8_isOfPond_0 25 rfl) (by decide) (fun h44 => ?_) (fun h44 => ?_)
            · try have g44 := inr_t h44
              try have g44 := inr_f h44
              refine J_iconst (v := nI 0) C (dA DX8_isOfPond_0 28 rfl) (by decide) ?_
              refine J_iload_n C (dA DX8_isOfPond_0 29 rfl) rfl ?_
              refine V_X8_in1 C (c_X8_in1n l E _ _ _ (by omega) (by omega)) wM_RX8_58 (by decide) (dA DX8_isOfPond_0 30 rfl) rfl (Nat.le_of_ble_eq_true rfl) ?_
              refine J_if_eq_b (tgt := 72) C (dA DX8_isOfPond_0 31 rfl) (by decide) (fun h56 => ?_) (fun h56 => ?_)
              · try have g56 := inr_t h56
                try have g56 := inr_f h56
                refine J_iconst (v := nI 0) C (dA DX8_isOfPond_0 39 rfl) (by decide) ?_
                exact J_zret C G rfl (dA DX8_isOfPond_0 40 rfl) ⟨oi (bt_f (by unfold okP; rw [hq, hjn]; rw [show inr v ((jtV 0).getD 5 0).toInt ((jtV 1).getD 5 0).toInt = false from h56]; rfl)), rfl⟩
              · try have g56 := inr_t h56
                try have g56 := inr_f h56
                refine J_iload_n C (dA DX8_isOfPond_0 32 rfl) rfl ?_
                refine J_if_ne_n (tgt := 68) C (by decide) (dA DX8_isOfPond_0 33 rfl) (by decide) (fun h60 => ?_) (fun h60 => ?_)
                · try have g60 := inr_t h60
                  try have g60 := inr_f h60
                  refine J_iconst (v := nI 1) C (dA DX8_isOfPond_0 37 rfl) (by decide) ?_
                  refine J_goto (tgt := 73) C (dA DX8_isOfPond_0 38 rfl) (by decide) ?_
                  exact J_zret C G rfl (dA DX8_isOfPond_0 40 rfl) ⟨oi (bt_t (by unfold okP; rw [hq, hjn]; rw [show inr v ((jtV 0).getD 5 0).toInt ((jtV 1).getD 5 0).toInt = true from h56]; rw [decide_eq_false (show ¬ nI 5 = 0 by decide)]; rfl)), rfl⟩
                · exact absurd h60 (by decide)
            · exact absurd h44 (by decide)
        · exact absurd h21 (by decide)
      · exact absurd h12 (by decide)
    · exact absurd h2 (by decide)

set_option maxRecDepth 4000 in
theorem c_X7_dig (l : Launch) (E : jE) (a b c : Int32) (hS : IS (vb (fb 0) M))  : K_X7_dig l E [.ref (ja E 59), .int a, .int b, .int c] M (aDig (vb (fb 0) M) a b c) (eDig (fb 0) 1076 a b c M) := by
  refine CT_intro (own := RX7) (by decide +kernel) rfl (by simp [Value.category]) (Nat.le_of_ble_eq_true rfl) rfl (fun X C G => ?_)
  show J E X 0 [some (.ref (ja E 59)), some (.int a), some (.int b), some (.int c), none] [] M
  refine J_iload_n C (dA DX7_dig_0 0 rfl) rfl ?_
  refine V_X7_isPond C (c_X7_isPond l E _) wM_RX7_65 (by decide) (dA DX7_dig_0 1 rfl) rfl (Nat.le_of_ble_eq_true rfl) ?_
  refine J_if_eq_b (tgt := 16) C (dA DX7_dig_0 2 rfl) (by decide) (fun h4 => ?_) (fun h4 => ?_)
  · try have g4 := inr_t h4
    try have g4 := inr_f h4
    refine J_aload_n C (dA DX7_dig_0 8 rfl) rfl ?_
    refine J_ldc (v := (-1000001)) C wK_RX7_69 (dA DX7_dig_0 9 rfl) ?_
    refine V_X7_finding C (c_X7_finding l E 0 (by decide) _ (by decide)) wM_RX7_70 (by decide) (dA DX7_dig_0 10 rfl) rfl (Nat.le_of_ble_eq_true rfl) ?_
    exact J_iret C G (dA DX7_dig_0 11 rfl) ⟨oi (by unfold aDig; rw [if_neg (by rintro ⟨z1, z2⟩; rw [h4] at z1; cases z1)]; rfl), by unfold eDig; rw [if_neg (by rintro ⟨z1, z2⟩; rw [h4] at z1; cases z1)]⟩
  · try have g4 := inr_t h4
    try have g4 := inr_f h4
    refine J_iload_n C (dA DX7_dig_0 3 rfl) rfl ?_
    refine J_iload_n C (dA DX7_dig_0 4 rfl) rfl ?_
    refine J_iload_n C (dA DX7_dig_0 5 rfl) rfl ?_
    refine V_X7_fitsPond C (c_X7_fitsPond l E _ _ _) wM_RX7_84 (by decide) (dA DX7_dig_0 6 rfl) rfl (Nat.le_of_ble_eq_true rfl) ?_
    refine J_if_ne_b (tgt := 23) C (dA DX7_dig_0 7 rfl) (by decide) (fun h13 => ?_) (fun h13 => ?_)
    · try have g13 := inr_t h13
      try have g13 := inr_f h13
      obtain ⟨w, hw, rfl⟩ := okP_0 h13
      have nb : nv (nI w) = w := nv_nI (by omega)
      obtain ⟨p, hp, rfl⟩ := toNI (x := a) (n := 16) (by omega) (by omega)
      have ta := tI (n := p) (by omega)
      have na : nv (nI p) = p := nv_nI (by omega)
      refine J_aload_n C (dA DX7_dig_0 12 rfl) rfl ?_
      refine G_X7_fen C wF_RX7_12 (dA DX7_dig_0 13 rfl) ?_
      refine G_X1_ponds C (by decide) wF_RX7_80 (dA DX7_dig_0 14 rfl) ?_
      refine J_iload_n C (dA DX7_dig_0 15 rfl) rfl ?_
      refine R_fp C (by decide) rfl (by omega) (dA DX7_dig_0 16 rfl) ?_
      refine J_iload_n C (dA DX7_dig_0 17 rfl) rfl ?_
      refine Q_fr C (by decide) hS (by omega) rfl (by omega) (dA DX7_dig_0 18 rfl) ?_
      refine J_ist_4_5 C (dA DX7_dig_0 19 rfl) rfl ?_
      refine J_aload_n C (dA DX7_dig_0 20 rfl) rfl ?_
      refine G_X7_fen C wF_RX7_12 (dA DX7_dig_0 21 rfl) ?_
      refine G_X1_ponds C (by decide) wF_RX7_80 (dA DX7_dig_0 22 rfl) ?_
      refine J_iload_n C (dA DX7_dig_0 23 rfl) rfl ?_
      refine R_fp C (by decide) rfl (by omega) (dA DX7_dig_0 24 rfl) ?_
      refine J_iload_n C (dA DX7_dig_0 25 rfl) rfl ?_
      refine J_iload_n C (dA DX7_dig_0 26 rfl) rfl ?_
      refine S_fr C (by decide) (by omega) rfl (by omega) (dA DX7_dig_0 27 rfl) ?_
      refine J_iload C (dA DX7_dig_0 28 rfl) rfl ?_
      exact J_iret C G (dA DX7_dig_0 29 rfl) ⟨oi (by unfold aDig; rw [if_pos ⟨h4, h13⟩, na, nb]), by unfold eDig; rw [if_pos ⟨h4, h13⟩, na, nb]; try (exact lay_upd (by omega))⟩
    · try have g13 := inr_t h13
      try have g13 := inr_f h13
      refine J_aload_n C (dA DX7_dig_0 8 rfl) rfl ?_
      refine J_ldc (v := (-1000001)) C wK_RX7_69 (dA DX7_dig_0 9 rfl) ?_
      refine V_X7_finding C (c_X7_finding l E 0 (by decide) _ (by decide)) wM_RX7_70 (by decide) (dA DX7_dig_0 10 rfl) rfl (Nat.le_of_ble_eq_true rfl) ?_
      exact J_iret C G (dA DX7_dig_0 11 rfl) ⟨oi (by unfold aDig; rw [if_neg (by rintro ⟨z1, z2⟩; rw [h13] at z2; cases z2)]; rfl), by unfold eDig; rw [if_neg (by rintro ⟨z1, z2⟩; rw [h13] at z2; cases z2)]⟩
set_option maxRecDepth 4000 in
theorem c_X8_dig (l : Launch) (E : jE) (a b c : Int32) (hS : IS (vb 1100 M))  : K_X8_dig l E [.ref (ja E 60), .int a, .int b, .int c] M (aDig (vb 1100 M) a b c) (eDig 1100 1502 a b c M) := by
  refine CT_intro (own := RX8) (by decide +kernel) rfl (by simp [Value.category]) (Nat.le_of_ble_eq_true rfl) rfl (fun X C G => ?_)
  show J E X 0 [some (.ref (ja E 60)), some (.int a), some (.int b), some (.int c), none] [] M
  refine J_iload_n C (dA DX8_dig_0 0 rfl) rfl ?_
  refine V_X8_isPond C (c_X8_isPond l E _) wM_RX8_102 (by decide) (dA DX8_dig_0 1 rfl) rfl (Nat.le_of_ble_eq_true rfl) ?_
  refine J_if_eq_b (tgt := 25) C (dA DX8_dig_0 2 rfl) (by decide) (fun h4 => ?_) (fun h4 => ?_)
  · try have g4 := inr_t h4
    try have g4 := inr_f h4
    refine J_aload_n C (dA DX8_dig_0 13 rfl) rfl ?_
    refine J_iconst (v := nI 0) C (dA DX8_dig_0 14 rfl) (by decide) ?_
    refine V_X8_no C (c_X8_no l E _ (by decide)) wM_RX8_106 (by decide) (dA DX8_dig_0 15 rfl) rfl (Nat.le_of_ble_eq_true rfl) ?_
    exact J_iret C G (dA DX8_dig_0 16 rfl) ⟨oi (by unfold aDig; rw [if_neg (by rintro ⟨z1, z2⟩; rw [h4] at z1; cases z1)]; rfl), by unfold eDig; rw [if_neg (by rintro ⟨z1, z2⟩; rw [h4] at z1; cases z1)]⟩
  · try have g4 := inr_t h4
    try have g4 := inr_f h4
    refine J_iload_n C (dA DX8_dig_0 3 rfl) rfl ?_
    refine J_iconst (v := nI 0) C (dA DX8_dig_0 4 rfl) (by decide) ?_
    refine J_iconst (v := nI 5) C (dA DX8_dig_0 5 rfl) (by decide) ?_
    refine V_X8_in1 C (c_X8_in1n l E _ _ _ (by omega) (by omega)) wM_RX8_58 (by decide) (dA DX8_dig_0 6 rfl) rfl (Nat.le_of_ble_eq_true rfl) ?_
    refine J_if_eq_b (tgt := 25) C (dA DX8_dig_0 7 rfl) (by decide) (fun h13 => ?_) (fun h13 => ?_)
    · try have g13 := inr_t h13
      try have g13 := inr_f h13
      refine J_aload_n C (dA DX8_dig_0 13 rfl) rfl ?_
      refine J_iconst (v := nI 0) C (dA DX8_dig_0 14 rfl) (by decide) ?_
      refine V_X8_no C (c_X8_no l E _ (by decide)) wM_RX8_106 (by decide) (dA DX8_dig_0 15 rfl) rfl (Nat.le_of_ble_eq_true rfl) ?_
      exact J_iret C G (dA DX8_dig_0 16 rfl) ⟨oi (by unfold aDig; rw [if_neg (by rintro ⟨z1, z2⟩; have z3 := okP_0 z2; obtain ⟨w, hw, e⟩ := z3; rw [e, inr_n (by omega)] at h13; exact absurd (of_decide_eq_false h13) (by omega))]; rfl), by unfold eDig; rw [if_neg (by rintro ⟨z1, z2⟩; have z3 := okP_0 z2; obtain ⟨w, hw, e⟩ := z3; rw [e, inr_n (by omega)] at h13; exact absurd (of_decide_eq_false h13) (by omega))]⟩
    · try have g13 := inr_t h13
      try have g13 := inr_f h13
      obtain ⟨w, hw, rfl⟩ := toNI (x := b) (n := 6) (by omega) (by omega)
      have tb := tI (n := w) (by omega)
      have nb : nv (nI w) = w := nv_nI (by omega)
      refine J_iload_n C (dA DX8_dig_0 8 rfl) rfl ?_
      refine J_iload_n C (dA DX8_dig_0 9 rfl) rfl ?_
      refine J_iload_n C (dA DX8_dig_0 10 rfl) rfl ?_
      refine V_X8_isOfPond C (c_X8_isOfPond l E _ w hw _) wM_RX8_109 (by decide) (dA DX8_dig_0 11 rfl) rfl (Nat.le_of_ble_eq_true rfl) ?_
      refine J_if_ne_b (tgt := 31) C (dA DX8_dig_0 12 rfl) (by decide) (fun h22 => ?_) (fun h22 => ?_)
      · try have g22 := inr_t h22
        try have g22 := inr_f h22
        obtain ⟨p, hp, rfl⟩ := toNI (x := a) (n := 16) (by omega) (by omega)
        have ta := tI (n := p) (by omega)
        have na : nv (nI p) = p := nv_nI (by omega)
        refine J_aload_n C (dA DX8_dig_0 17 rfl) rfl ?_
        refine J_iload_n C (dA DX8_dig_0 18 rfl) rfl ?_
        refine J_iload_n C (dA DX8_dig_0 19 rfl) rfl ?_
        refine V_X8_of1 C (c_X8_of1 l E _ _ (by omega) (by omega) hS) wM_RX8_66 (by decide) (dA DX8_dig_0 20 rfl) rfl (Nat.le_of_ble_eq_true rfl) ?_
        refine J_ist_4_5 C (dA DX8_dig_0 21 rfl) rfl ?_
        refine J_aload_n C (dA DX8_dig_0 22 rfl) rfl ?_
        refine J_iload_n C (dA DX8_dig_0 23 rfl) rfl ?_
        refine J_iload_n C (dA DX8_dig_0 24 rfl) rfl ?_
        refine J_iload_n C (dA DX8_dig_0 25 rfl) rfl ?_
        refine V_X8_lays1 C (c_X8_lays1 l E _ _ (by omega) (by omega) _) wM_RX8_53 (by decide) (dA DX8_dig_0 26 rfl) rfl (Nat.le_of_ble_eq_true rfl) ?_
        refine J_iload C (dA DX8_dig_0 27 rfl) rfl ?_
        exact J_iret C G (dA DX8_dig_0 28 rfl) ⟨oi (by unfold aDig; rw [if_pos ⟨h4, h22⟩, na, nb]), by unfold eDig; rw [if_pos ⟨h4, h22⟩, na, nb]; try (rfl)⟩
      · try have g22 := inr_t h22
        try have g22 := inr_f h22
        refine J_aload_n C (dA DX8_dig_0 13 rfl) rfl ?_
        refine J_iconst (v := nI 0) C (dA DX8_dig_0 14 rfl) (by decide) ?_
        refine V_X8_no C (c_X8_no l E _ (by decide)) wM_RX8_106 (by decide) (dA DX8_dig_0 15 rfl) rfl (Nat.le_of_ble_eq_true rfl) ?_
        exact J_iret C G (dA DX8_dig_0 16 rfl) ⟨oi (by unfold aDig; rw [if_neg (by rintro ⟨z1, z2⟩; rw [h22] at z2; cases z2)]; rfl), by unfold eDig; rw [if_neg (by rintro ⟨z1, z2⟩; rw [h22] at z2; cases z2)]⟩
set_option maxRecDepth 4000 in
theorem c_X7_thing (l : Launch) (E : jE) (a b : Int32) (hS : IS (vb (fb 0) M))  : K_X7_thing l E [.ref (ja E 59), .int a, .int b] M (aThing (vb (fb 0) M) a b) (eThing (fb 0) 1076 a b M) := by
  refine CT_intro (own := RX7) (by decide +kernel) rfl (by simp [Value.category]) (Nat.le_of_ble_eq_true rfl) rfl (fun X C G => ?_)
  show J E X 0 [some (.ref (ja E 59)), some (.int a), some (.int b)] [] M
  have hN := leN hS
  refine J_iload_n C (dA DX7_thing_0 0 rfl) rfl ?_
  refine V_X7_isKind C (c_X7_isKind l E _) wM_RX7_88 (by decide) (dA DX7_thing_0 1 rfl) rfl (Nat.le_of_ble_eq_true rfl) ?_
  refine J_if_eq_b (tgt := 14) C (dA DX7_thing_0 2 rfl) (by decide) (fun h4 => ?_) (fun h4 => ?_)
  · try have g4 := inr_t h4
    try have g4 := inr_f h4
    refine J_aload_n C (dA DX7_thing_0 6 rfl) rfl ?_
    refine J_ldc (v := (-1000001)) C wK_RX7_69 (dA DX7_thing_0 7 rfl) ?_
    refine V_X7_finding C (c_X7_finding l E 0 (by decide) _ (by decide)) wM_RX7_70 (by decide) (dA DX7_thing_0 8 rfl) rfl (Nat.le_of_ble_eq_true rfl) ?_
    exact J_iret C G (dA DX7_thing_0 9 rfl) ⟨oi (by unfold aThing; rw [if_neg (by rintro ⟨z1, z2⟩; try have z1 := inr_t z1; try have z2 := inr_t z2; omega)]; rfl), by unfold eThing; rw [if_neg (by rintro ⟨z1, z2⟩; try have z1 := inr_t z1; try have z2 := inr_t z2; omega)]⟩
  · try have g4 := inr_t h4
    try have g4 := inr_f h4
    refine J_iload_n C (dA DX7_thing_0 3 rfl) rfl ?_
    refine V_X7_isPond C (c_X7_isPond l E _) wM_RX7_65 (by decide) (dA DX7_thing_0 4 rfl) rfl (Nat.le_of_ble_eq_true rfl) ?_
    refine J_if_ne_b (tgt := 21) C (dA DX7_thing_0 5 rfl) (by decide) (fun h11 => ?_) (fun h11 => ?_)
    · try have g11 := inr_t h11
      try have g11 := inr_f h11
      obtain ⟨p, hp, rfl⟩ := toNI (x := a) (n := 7) (by omega) (by omega)
      have ta := tI (n := p) (by omega)
      have na : nv (nI p) = p := nv_nI (by omega)
      obtain ⟨w, hw, rfl⟩ := toNI (x := b) (n := 16) (by omega) (by omega)
      have tb := tI (n := w) (by omega)
      have nb : nv (nI w) = w := nv_nI (by omega)
      refine J_aload_n C (dA DX7_thing_0 10 rfl) rfl ?_
      refine G_X7_fen C wF_RX7_12 (dA DX7_thing_0 11 rfl) ?_
      refine V_X1_isFull C (by decide) (c_X1_isFull l E _ (by decide) hS) wM_RX7_91 (by decide) (dA DX7_thing_0 12 rfl) rfl (Nat.le_of_ble_eq_true rfl) ?_
      refine J_if_eq_b (tgt := 38) C (dA DX7_thing_0 13 rfl) (by decide) (fun h28 => ?_) (fun h28 => ?_)
      · try have g28 := inr_t h28
        try have g28 := inr_f h28
        have k28 := of_decide_eq_false h28
        refine J_aload_n C (dA DX7_thing_0 18 rfl) rfl ?_
        refine G_X7_fen C wF_RX7_12 (dA DX7_thing_0 19 rfl) ?_
        refine J_iload_n C (dA DX7_thing_0 20 rfl) rfl ?_
        refine J_iload_n C (dA DX7_thing_0 21 rfl) rfl ?_
        refine J_bipush (v := nI 9) C (dA DX7_thing_0 22 rfl) (by decide) ?_
        refine V_X1_add C (by decide) (c_X1_add l E 0 (by decide) p w 9 (by omega) (by omega) (by decide) (by omega) hS) wM_RX7_96 (by decide) (dA DX7_thing_0 23 rfl) rfl (Nat.le_of_ble_eq_true rfl) ?_
        exact J_iret C G (dA DX7_thing_0 24 rfl) ⟨oi (by unfold aThing; rw [if_pos ⟨decide_eq_true (by omega), decide_eq_true (by omega)⟩, if_neg (by omega)]), by unfold eThing; rw [if_pos ⟨decide_eq_true (by omega), decide_eq_true (by omega)⟩, if_neg (by omega), na, nb]⟩
      · try have g28 := inr_t h28
        try have g28 := inr_f h28
        have k28 := of_decide_eq_true h28
        refine J_aload_n C (dA DX7_thing_0 14 rfl) rfl ?_
        refine J_ldc (v := (-1000002)) C wK_RX7_95 (dA DX7_thing_0 15 rfl) ?_
        refine V_X7_finding C (c_X7_finding l E 1 (by decide) _ (by decide)) wM_RX7_70 (by decide) (dA DX7_thing_0 16 rfl) rfl (Nat.le_of_ble_eq_true rfl) ?_
        exact J_iret C G (dA DX7_thing_0 17 rfl) ⟨oi (by unfold aThing; rw [if_pos ⟨decide_eq_true (by omega), decide_eq_true (by omega)⟩, if_pos (by omega)]; rfl), by unfold eThing; rw [if_pos ⟨decide_eq_true (by omega), decide_eq_true (by omega)⟩, if_pos (by omega)]⟩
    · try have g11 := inr_t h11
      try have g11 := inr_f h11
      refine J_aload_n C (dA DX7_thing_0 6 rfl) rfl ?_
      refine J_ldc (v := (-1000001)) C wK_RX7_69 (dA DX7_thing_0 7 rfl) ?_
      refine V_X7_finding C (c_X7_finding l E 0 (by decide) _ (by decide)) wM_RX7_70 (by decide) (dA DX7_thing_0 8 rfl) rfl (Nat.le_of_ble_eq_true rfl) ?_
      exact J_iret C G (dA DX7_thing_0 9 rfl) ⟨oi (by unfold aThing; rw [if_neg (by rintro ⟨z1, z2⟩; try have z1 := inr_t z1; try have z2 := inr_t z2; omega)]; rfl), by unfold eThing; rw [if_neg (by rintro ⟨z1, z2⟩; try have z1 := inr_t z1; try have z2 := inr_t z2; omega)]⟩
set_option maxRecDepth 4000 in
theorem c_X8_thing (l : Launch) (E : jE) (a b : Int32) (hS : IS (vb 1100 M))  : K_X8_thing l E [.ref (ja E 60), .int a, .int b] M (aThing (vb 1100 M) a b) (eThing 1100 1502 a b M) := by
  refine CT_intro (own := RX8) (by decide +kernel) rfl (by simp [Value.category]) (Nat.le_of_ble_eq_true rfl) rfl (fun X C G => ?_)
  show J E X 0 [some (.ref (ja E 60)), some (.int a), some (.int b)] [] M
  have hN := leN hS
  refine J_iload_n C (dA DX8_thing_0 0 rfl) rfl ?_
  refine J_iconst (v := nI 0) C (dA DX8_thing_0 1 rfl) (by decide) ?_
  refine J_bipush (v := nI 6) C (dA DX8_thing_0 2 rfl) (by decide) ?_
  refine V_X8_in1 C (c_X8_in1n l E _ _ _ (by omega) (by omega)) wM_RX8_58 (by decide) (dA DX8_thing_0 3 rfl) rfl (Nat.le_of_ble_eq_true rfl) ?_
  refine J_if_eq_b (tgt := 17) C (dA DX8_thing_0 4 rfl) (by decide) (fun h7 => ?_) (fun h7 => ?_)
  · try have g7 := inr_t h7
    try have g7 := inr_f h7
    refine J_aload_n C (dA DX8_thing_0 8 rfl) rfl ?_
    refine J_iconst (v := nI 0) C (dA DX8_thing_0 9 rfl) (by decide) ?_
    refine V_X8_no C (c_X8_no l E _ (by decide)) wM_RX8_106 (by decide) (dA DX8_thing_0 10 rfl) rfl (Nat.le_of_ble_eq_true rfl) ?_
    exact J_iret C G (dA DX8_thing_0 11 rfl) ⟨oi (by unfold aThing; rw [if_neg (by rintro ⟨z1, z2⟩; try have z1 := inr_t z1; try have z2 := inr_t z2; omega)]; rfl), by unfold eThing; rw [if_neg (by rintro ⟨z1, z2⟩; try have z1 := inr_t z1; try have z2 := inr_t z2; omega)]⟩
  · try have g7 := inr_t h7
    try have g7 := inr_f h7
    refine J_iload_n C (dA DX8_thing_0 5 rfl) rfl ?_
    refine V_X8_isPond C (c_X8_isPond l E _) wM_RX8_102 (by decide) (dA DX8_thing_0 6 rfl) rfl (Nat.le_of_ble_eq_true rfl) ?_
    refine J_if_ne_b (tgt := 23) C (dA DX8_thing_0 7 rfl) (by decide) (fun h14 => ?_) (fun h14 => ?_)
    · try have g14 := inr_t h14
      try have g14 := inr_f h14
      obtain ⟨p, hp, rfl⟩ := toNI (x := a) (n := 7) (by omega) (by omega)
      have ta := tI (n := p) (by omega)
      have na : nv (nI p) = p := nv_nI (by omega)
      obtain ⟨w, hw, rfl⟩ := toNI (x := b) (n := 16) (by omega) (by omega)
      have tb := tI (n := w) (by omega)
      have nb : nv (nI w) = w := nv_nI (by omega)
      refine J_aload_n C (dA DX8_thing_0 12 rfl) rfl ?_
      refine G_X8_s C wF_RX8_9 (dA DX8_thing_0 13 rfl) ?_
      refine J_iconst (v := nI 1) C (dA DX8_thing_0 14 rfl) (by decide) ?_
      refine Q_s1 C hS (dA DX8_thing_0 15 rfl) ?_
      refine J_bipush (v := nI 8) C (dA DX8_thing_0 16 rfl) (by decide) ?_
      first | refine J_icmp_ne_n (tgt := 40) C (by omega) (by omega) (dA DX8_thing_0 17 rfl) (by decide) (fun h31 => ?_) (fun h31 => ?_) | refine J_icmp_ne_c (tgt := 40) C (by omega) (dA DX8_thing_0 17 rfl) (by decide) (fun h31 => ?_) (fun h31 => ?_) | refine J_icmp_ne_t (tgt := 40) C (dA DX8_thing_0 17 rfl) (by decide) (fun h31 => ?_) (fun h31 => ?_)
      · try have g31 := inr_t h31
        try have g31 := inr_f h31
        refine J_aload_n C (dA DX8_thing_0 22 rfl) rfl ?_
        refine J_iload_n C (dA DX8_thing_0 23 rfl) rfl ?_
        refine J_iload_n C (dA DX8_thing_0 24 rfl) rfl ?_
        refine V_X8_addsThing C (c_X8_addsThing l E p w (by omega) (by omega) (by omega) hS) wM_RX8_112 (by decide) (dA DX8_thing_0 25 rfl) rfl (Nat.le_of_ble_eq_true rfl) ?_
        have hadd := IS_add hS (a := p) (p := w) (q := 9) (by omega) (by omega) (by omega) (by decide)
        have hv := vb_lay (b := 1100) (M := M) hadd.1.1
        obtain ⟨M2, hM2⟩ : ∃ M2, M2 = lay 1100 M (addS (vb 1100 M) p w 9) := ⟨_, rfl⟩
        rw [← hM2] at hv ⊢
        have hS2 : IS (vb 1100 M2) := hv ▸ hadd.1
        have hn2 : iN (vb 1100 M2) = iN (vb 1100 M) + 1 := by rw [hv]; exact hadd.2
        refine J_aload_n C (dA DX8_thing_0 26 rfl) rfl ?_
        refine G_X8_s C wF_RX8_9 (dA DX8_thing_0 27 rfl) ?_
        refine J_iconst (v := nI 1) C (dA DX8_thing_0 28 rfl) (by decide) ?_
        refine Q_s1 C hS2 (dA DX8_thing_0 29 rfl) ?_
        refine J_iconst (v := nI 1) C (dA DX8_thing_0 30 rfl) (by decide) ?_
        first | refine J_isub_n C (by omega) (dA DX8_thing_0 31 rfl) ?_ | refine J_isub C (dA DX8_thing_0 31 rfl) ?_
        exact J_iret C G (dA DX8_thing_0 32 rfl) ⟨oi (by unfold aThing; rw [if_pos ⟨decide_eq_true (by omega), decide_eq_true (by omega)⟩, if_neg (by omega)]; congr 1; omega), by unfold eThing; rw [if_pos ⟨decide_eq_true (by omega), decide_eq_true (by omega)⟩, if_neg (by omega), na, nb]; exact hM2⟩
      · try have g31 := inr_t h31
        try have g31 := inr_f h31
        refine J_aload_n C (dA DX8_thing_0 18 rfl) rfl ?_
        refine J_iconst (v := nI 1) C (dA DX8_thing_0 19 rfl) (by decide) ?_
        refine V_X8_no C (c_X8_no l E _ (by decide)) wM_RX8_106 (by decide) (dA DX8_thing_0 20 rfl) rfl (Nat.le_of_ble_eq_true rfl) ?_
        exact J_iret C G (dA DX8_thing_0 21 rfl) ⟨oi (by unfold aThing; rw [if_pos ⟨decide_eq_true (by omega), decide_eq_true (by omega)⟩, if_pos (by omega)]; rfl), by unfold eThing; rw [if_pos ⟨decide_eq_true (by omega), decide_eq_true (by omega)⟩, if_pos (by omega)]⟩
    · try have g14 := inr_t h14
      try have g14 := inr_f h14
      refine J_aload_n C (dA DX8_thing_0 8 rfl) rfl ?_
      refine J_iconst (v := nI 0) C (dA DX8_thing_0 9 rfl) (by decide) ?_
      refine V_X8_no C (c_X8_no l E _ (by decide)) wM_RX8_106 (by decide) (dA DX8_thing_0 10 rfl) rfl (Nat.le_of_ble_eq_true rfl) ?_
      exact J_iret C G (dA DX8_thing_0 11 rfl) ⟨oi (by unfold aThing; rw [if_neg (by rintro ⟨z1, z2⟩; try have z1 := inr_t z1; try have z2 := inr_t z2; omega)]; rfl), by unfold eThing; rw [if_neg (by rintro ⟨z1, z2⟩; try have z1 := inr_t z1; try have z2 := inr_t z2; omega)]⟩
set_option maxRecDepth 4000 in
theorem c_X7_of (l : Launch) (E : jE) (a b : Int32) (hS : IS (vb (fb 0) M))  : K_X7_of l E [.ref (ja E 59), .int a, .int b] M (aOf (vb (fb 0) M) a b) (eOf (vb (fb 0) M) 1076 a b M) := by
  refine CT_intro (own := RX7) (by decide +kernel) rfl (by simp [Value.category]) (Nat.le_of_ble_eq_true rfl) rfl (fun X C G => ?_)
  show J E X 0 [some (.ref (ja E 59)), some (.int a), some (.int b)] [] M
  have hN := leN hS
  refine J_aload_n C (dA DX7_of_0 0 rfl) rfl ?_
  refine G_X7_fen C wF_RX7_12 (dA DX7_of_0 1 rfl) ?_
  refine J_iload_n C (dA DX7_of_0 2 rfl) rfl ?_
  refine V_X1_has C (by decide) (c_X1_has l E _ (by decide) _ hS) wM_RX7_100 (by decide) (dA DX7_of_0 3 rfl) rfl (Nat.le_of_ble_eq_true rfl) ?_
  refine J_if_eq_b (tgt := 20) C (dA DX7_of_0 4 rfl) (by decide) (fun h8 => ?_) (fun h8 => ?_)
  · try have g8 := inr_t h8
    try have g8 := inr_f h8
    refine J_aload_n C (dA DX7_of_0 10 rfl) rfl ?_
    refine J_ldc (v := (-1000001)) C wK_RX7_69 (dA DX7_of_0 11 rfl) ?_
    refine V_X7_finding C (c_X7_finding l E 0 (by decide) _ (by decide)) wM_RX7_70 (by decide) (dA DX7_of_0 12 rfl) rfl (Nat.le_of_ble_eq_true rfl) ?_
    exact J_iret C G (dA DX7_of_0 13 rfl) ⟨oi (by unfold aOf; rw [if_neg (by rintro ⟨z1, z2⟩; try have z1 := inr_t z1; try have z2 := inr_t z2; omega)]; rfl), by unfold eOf; rw [if_neg (by rintro ⟨z1, z2⟩; try have z1 := inr_t z1; try have z2 := inr_t z2; omega)]⟩
  · try have g8 := inr_t h8
    try have g8 := inr_f h8
    refine J_iload_n C (dA DX7_of_0 5 rfl) rfl ?_
    first | refine J_if_lt_n (tgt := 20) C (by omega) (dA DX7_of_0 6 rfl) (by decide) (fun h12 => ?_) (fun h12 => ?_) | refine J_if_lt_t (tgt := 20) C (dA DX7_of_0 6 rfl) (by decide) (fun h12 => ?_) (fun h12 => ?_)
    · try have g12 := inr_t h12
      try have g12 := inr_f h12
      refine J_aload_n C (dA DX7_of_0 10 rfl) rfl ?_
      refine J_ldc (v := (-1000001)) C wK_RX7_69 (dA DX7_of_0 11 rfl) ?_
      refine V_X7_finding C (c_X7_finding l E 0 (by decide) _ (by decide)) wM_RX7_70 (by decide) (dA DX7_of_0 12 rfl) rfl (Nat.le_of_ble_eq_true rfl) ?_
      exact J_iret C G (dA DX7_of_0 13 rfl) ⟨oi (by unfold aOf; rw [if_neg (by rintro ⟨z1, z2⟩; try have z1 := inr_t z1; try have z2 := inr_t z2; omega)]; rfl), by unfold eOf; rw [if_neg (by rintro ⟨z1, z2⟩; try have z1 := inr_t z1; try have z2 := inr_t z2; omega)]⟩
    · try have g12 := inr_t h12
      try have g12 := inr_f h12
      refine J_iload_n C (dA DX7_of_0 7 rfl) rfl ?_
      refine J_iconst (v := nI 4) C (dA DX7_of_0 8 rfl) (by decide) ?_
      first | refine J_icmp_le_n (tgt := 27) C (by omega) (by omega) (dA DX7_of_0 9 rfl) (by decide) (fun h17 => ?_) (fun h17 => ?_) | refine J_icmp_le_c (tgt := 27) C (by omega) (dA DX7_of_0 9 rfl) (by decide) (fun h17 => ?_) (fun h17 => ?_) | refine J_icmp_le_t (tgt := 27) C (dA DX7_of_0 9 rfl) (by decide) (fun h17 => ?_) (fun h17 => ?_)
      · try have g17 := inr_t h17
        try have g17 := inr_f h17
        obtain ⟨p, hp, rfl⟩ := toNI (x := a) (n := (iN (vb (fb 0) M))) (by omega) (by omega)
        have ta := tI (n := p) (by omega)
        have na : nv (nI p) = p := nv_nI (by omega)
        obtain ⟨w, hw, rfl⟩ := toNI (x := b) (n := 5) (by omega) (by omega)
        have tb := tI (n := w) (by omega)
        have nb : nv (nI w) = w := nv_nI (by omega)
        refine J_iload_n C (dA DX7_of_0 14 rfl) rfl ?_
        refine J_iconst (v := nI 3) C (dA DX7_of_0 15 rfl) (by decide) ?_
        first | refine J_icmp_ne_n (tgt := 41) C (by omega) (by omega) (dA DX7_of_0 16 rfl) (by decide) (fun h29 => ?_) (fun h29 => ?_) | refine J_icmp_ne_c (tgt := 41) C (by omega) (dA DX7_of_0 16 rfl) (by decide) (fun h29 => ?_) (fun h29 => ?_) | refine J_icmp_ne_t (tgt := 41) C (dA DX7_of_0 16 rfl) (by decide) (fun h29 => ?_) (fun h29 => ?_)
        · try have g29 := inr_t h29
          try have g29 := inr_f h29
          refine J_iload_n C (dA DX7_of_0 22 rfl) rfl ?_
          refine J_iconst (v := nI 4) C (dA DX7_of_0 23 rfl) (by decide) ?_
          first | refine J_icmp_ne_n (tgt := 65) C (by omega) (by omega) (dA DX7_of_0 24 rfl) (by decide) (fun h43 => ?_) (fun h43 => ?_) | refine J_icmp_ne_c (tgt := 65) C (by omega) (dA DX7_of_0 24 rfl) (by decide) (fun h43 => ?_) (fun h43 => ?_) | refine J_icmp_ne_t (tgt := 65) C (dA DX7_of_0 24 rfl) (by decide) (fun h43 => ?_) (fun h43 => ?_)
          · try have g43 := inr_t h43
            try have g43 := inr_f h43
            refine J_aload_n C (dA DX7_of_0 36 rfl) rfl ?_
            refine G_X7_fen C wF_RX7_12 (dA DX7_of_0 37 rfl) ?_
            refine G_X1_things C (by decide) wF_RX7_106 (dA DX7_of_0 38 rfl) ?_
            refine J_iload_n C (dA DX7_of_0 39 rfl) rfl ?_
            refine R_ft C (by decide) rfl (by omega) (dA DX7_of_0 40 rfl) ?_
            refine J_iload_n C (dA DX7_of_0 41 rfl) rfl ?_
            refine Q_fk C (by decide) hS (by omega) rfl (by omega) (dA DX7_of_0 42 rfl) ?_
            exact J_iret C G (dA DX7_of_0 43 rfl) ⟨oi (by unfold aOf; rw [if_pos ⟨decide_eq_true (by omega), decide_eq_true (by omega)⟩, na, nb]; unfold vOf; (repeat' split) <;> first | rfl | (exfalso; omega)), by unfold eOf; rw [if_pos ⟨decide_eq_true (by omega), decide_eq_true (by omega)⟩]⟩
          · try have g43 := inr_t h43
            try have g43 := inr_f h43
            refine J_aload_n C (dA DX7_of_0 25 rfl) rfl ?_
            refine G_X7_fen C wF_RX7_12 (dA DX7_of_0 26 rfl) ?_
            refine J_aload_n C (dA DX7_of_0 27 rfl) rfl ?_
            refine G_X7_fen C wF_RX7_12 (dA DX7_of_0 28 rfl) ?_
            refine G_X1_things C (by decide) wF_RX7_106 (dA DX7_of_0 29 rfl) ?_
            refine J_iconst (v := nI 1) C (dA DX7_of_0 30 rfl) (by decide) ?_
            first | refine R_fp C (by decide) rfl (by omega) (dA DX7_of_0 31 rfl) ?_ | refine R_ft C (by decide) rfl (by omega) (dA DX7_of_0 31 rfl) ?_ | refine R_sh C rfl (by omega) (dA DX7_of_0 31 rfl) ?_
            refine J_iload_n C (dA DX7_of_0 32 rfl) rfl ?_
            refine Q_fk C (by decide) hS (by decide) rfl (by omega) (dA DX7_of_0 33 rfl) ?_
            refine V_X1_showersOf C (by decide) (c_X1_showersOf l E _ (by decide) _ hS) wM_RX7_109 (by decide) (dA DX7_of_0 34 rfl) rfl (Nat.le_of_ble_eq_true rfl) ?_
            exact J_iret C G (dA DX7_of_0 35 rfl) ⟨oi (by unfold aOf; rw [if_pos ⟨decide_eq_true (by omega), decide_eq_true (by omega)⟩, na, nb]; unfold vOf; (repeat' split) <;> first | rfl | (exfalso; omega)), by unfold eOf; rw [if_pos ⟨decide_eq_true (by omega), decide_eq_true (by omega)⟩]⟩
        · try have g29 := inr_t h29
          try have g29 := inr_f h29
          refine J_aload_n C (dA DX7_of_0 17 rfl) rfl ?_
          refine G_X7_fen C wF_RX7_12 (dA DX7_of_0 18 rfl) ?_
          refine J_iload_n C (dA DX7_of_0 19 rfl) rfl ?_
          refine V_X1_nextPond C (by decide) (c_X1_nextPond l E _ (by decide) _ (by omega) hS) wM_RX7_103 (by decide) (dA DX7_of_0 20 rfl) rfl (Nat.le_of_ble_eq_true rfl) ?_
          exact J_iret C G (dA DX7_of_0 21 rfl) ⟨oi (by unfold aOf; rw [if_pos ⟨decide_eq_true (by omega), decide_eq_true (by omega)⟩, na, nb]; unfold vOf; (repeat' split) <;> first | rfl | (exfalso; omega)), by unfold eOf; rw [if_pos ⟨decide_eq_true (by omega), decide_eq_true (by omega)⟩]⟩
      · try have g17 := inr_t h17
        try have g17 := inr_f h17
        refine J_aload_n C (dA DX7_of_0 10 rfl) rfl ?_
        refine J_ldc (v := (-1000001)) C wK_RX7_69 (dA DX7_of_0 11 rfl) ?_
        refine V_X7_finding C (c_X7_finding l E 0 (by decide) _ (by decide)) wM_RX7_70 (by decide) (dA DX7_of_0 12 rfl) rfl (Nat.le_of_ble_eq_true rfl) ?_
        exact J_iret C G (dA DX7_of_0 13 rfl) ⟨oi (by unfold aOf; rw [if_neg (by rintro ⟨z1, z2⟩; try have z1 := inr_t z1; try have z2 := inr_t z2; omega)]; rfl), by unfold eOf; rw [if_neg (by rintro ⟨z1, z2⟩; try have z1 := inr_t z1; try have z2 := inr_t z2; omega)]⟩
set_option maxRecDepth 4000 in
theorem c_X8_of (l : Launch) (E : jE) (a b : Int32) (hS : IS (vb 1100 M))  : K_X8_of l E [.ref (ja E 60), .int a, .int b] M (aOf (vb 1100 M) a b) (eOf (vb 1100 M) 1502 a b M) := by
  refine CT_intro (own := RX8) (by decide +kernel) rfl (by simp [Value.category]) (Nat.le_of_ble_eq_true rfl) rfl (fun X C G => ?_)
  show J E X 0 [some (.ref (ja E 60)), some (.int a), some (.int b)] [] M
  have hN := leN hS
  refine J_aload_n C (dA DX8_of_0 0 rfl) rfl ?_
  refine J_iload_n C (dA DX8_of_0 1 rfl) rfl ?_
  refine V_X8_isThing C (c_X8_isThing l E _ hS) wM_RX8_116 (by decide) (dA DX8_of_0 2 rfl) rfl (Nat.le_of_ble_eq_true rfl) ?_
  refine J_if_eq_b (tgt := 17) C (dA DX8_of_0 3 rfl) (by decide) (fun h5 => ?_) (fun h5 => ?_)
  · try have g5 := inr_t h5
    try have g5 := inr_f h5
    refine J_aload_n C (dA DX8_of_0 9 rfl) rfl ?_
    refine J_iconst (v := nI 0) C (dA DX8_of_0 10 rfl) (by decide) ?_
    refine V_X8_no C (c_X8_no l E _ (by decide)) wM_RX8_106 (by decide) (dA DX8_of_0 11 rfl) rfl (Nat.le_of_ble_eq_true rfl) ?_
    exact J_iret C G (dA DX8_of_0 12 rfl) ⟨oi (by unfold aOf; rw [if_neg (by rintro ⟨z1, z2⟩; try have z1 := inr_t z1; try have z2 := inr_t z2; omega)]; rfl), by unfold eOf; rw [if_neg (by rintro ⟨z1, z2⟩; try have z1 := inr_t z1; try have z2 := inr_t z2; omega)]⟩
  · try have g5 := inr_t h5
    try have g5 := inr_f h5
    refine J_iload_n C (dA DX8_of_0 4 rfl) rfl ?_
    refine J_iconst (v := nI 0) C (dA DX8_of_0 5 rfl) (by decide) ?_
    refine J_iconst (v := nI 4) C (dA DX8_of_0 6 rfl) (by decide) ?_
    refine V_X8_in1 C (c_X8_in1n l E _ _ _ (by omega) (by omega)) wM_RX8_58 (by decide) (dA DX8_of_0 7 rfl) rfl (Nat.le_of_ble_eq_true rfl) ?_
    refine J_if_ne_b (tgt := 23) C (dA DX8_of_0 8 rfl) (by decide) (fun h14 => ?_) (fun h14 => ?_)
    · try have g14 := inr_t h14
      try have g14 := inr_f h14
      obtain ⟨p, hp, rfl⟩ := toNI (x := a) (n := (iN (vb 1100 M))) (by omega) (by omega)
      have ta := tI (n := p) (by omega)
      have na : nv (nI p) = p := nv_nI (by omega)
      obtain ⟨w, hw, rfl⟩ := toNI (x := b) (n := 5) (by omega) (by omega)
      have tb := tI (n := w) (by omega)
      have nb : nv (nI w) = w := nv_nI (by omega)
      refine J_iload_n C (dA DX8_of_0 13 rfl) rfl ?_
      refine J_iconst (v := nI 3) C (dA DX8_of_0 14 rfl) (by decide) ?_
      first | refine J_icmp_ge_n (tgt := 37) C (by omega) (by omega) (dA DX8_of_0 15 rfl) (by decide) (fun h25 => ?_) (fun h25 => ?_) | refine J_icmp_ge_c (tgt := 37) C (by omega) (dA DX8_of_0 15 rfl) (by decide) (fun h25 => ?_) (fun h25 => ?_) | refine J_icmp_ge_t (tgt := 37) C (dA DX8_of_0 15 rfl) (by decide) (fun h25 => ?_) (fun h25 => ?_)
      · try have g25 := inr_t h25
        try have g25 := inr_f h25
        refine J_iload_n C (dA DX8_of_0 21 rfl) rfl ?_
        refine J_iconst (v := nI 3) C (dA DX8_of_0 22 rfl) (by decide) ?_
        first | refine J_icmp_ne_n (tgt := 50) C (by omega) (by omega) (dA DX8_of_0 23 rfl) (by decide) (fun h39 => ?_) (fun h39 => ?_) | refine J_icmp_ne_c (tgt := 50) C (by omega) (dA DX8_of_0 23 rfl) (by decide) (fun h39 => ?_) (fun h39 => ?_) | refine J_icmp_ne_t (tgt := 50) C (dA DX8_of_0 23 rfl) (by decide) (fun h39 => ?_) (fun h39 => ?_)
        · try have g39 := inr_t h39
          try have g39 := inr_f h39
          refine J_aload_n C (dA DX8_of_0 28 rfl) rfl ?_
          refine J_aload_n C (dA DX8_of_0 29 rfl) rfl ?_
          refine J_iload_n C (dA DX8_of_0 30 rfl) rfl ?_
          refine J_iconst (v := nI 1) C (dA DX8_of_0 31 rfl) (by decide) ?_
          refine V_X8_get C (c_X8_get l E _ _ (by omega) (by omega) hS) wM_RX8_62 (by decide) (dA DX8_of_0 32 rfl) rfl (Nat.le_of_ble_eq_true rfl) ?_
          refine V_X8_showing C (c_X8_showing l E _ hS) wM_RX8_76 (by decide) (dA DX8_of_0 33 rfl) rfl (Nat.le_of_ble_eq_true rfl) ?_
          exact J_iret C G (dA DX8_of_0 34 rfl) ⟨oi (by unfold aOf; rw [if_pos ⟨decide_eq_true (by omega), decide_eq_true (by omega)⟩, na, nb]; unfold vOf; (repeat' split) <;> first | rfl | (exfalso; omega)), by unfold eOf; rw [if_pos ⟨decide_eq_true (by omega), decide_eq_true (by omega)⟩]⟩
        · try have g39 := inr_t h39
          try have g39 := inr_f h39
          refine J_aload_n C (dA DX8_of_0 24 rfl) rfl ?_
          refine J_iload_n C (dA DX8_of_0 25 rfl) rfl ?_
          refine V_X8_nextOf C (c_X8_nextOf l E _ (by omega) hS) wM_RX8_92 (by decide) (dA DX8_of_0 26 rfl) rfl (Nat.le_of_ble_eq_true rfl) ?_
          refine J_goto (tgt := 60) C (dA DX8_of_0 27 rfl) (by decide) ?_
          exact J_iret C G (dA DX8_of_0 34 rfl) ⟨oi (by unfold aOf; rw [if_pos ⟨decide_eq_true (by omega), decide_eq_true (by omega)⟩, na, nb]; unfold vOf; (repeat' split) <;> first | rfl | (exfalso; omega)), by unfold eOf; rw [if_pos ⟨decide_eq_true (by omega), decide_eq_true (by omega)⟩]⟩
      · try have g25 := inr_t h25
        try have g25 := inr_f h25
        refine J_aload_n C (dA DX8_of_0 16 rfl) rfl ?_
        refine J_iload_n C (dA DX8_of_0 17 rfl) rfl ?_
        refine J_iload_n C (dA DX8_of_0 18 rfl) rfl ?_
        refine V_X8_get C (c_X8_get l E _ _ (by omega) (by omega) hS) wM_RX8_62 (by decide) (dA DX8_of_0 19 rfl) rfl (Nat.le_of_ble_eq_true rfl) ?_
        refine J_goto (tgt := 60) C (dA DX8_of_0 20 rfl) (by decide) ?_
        exact J_iret C G (dA DX8_of_0 34 rfl) ⟨oi (by unfold aOf; rw [if_pos ⟨decide_eq_true (by omega), decide_eq_true (by omega)⟩, na, nb]; unfold vOf; (repeat' split) <;> first | rfl | (exfalso; omega)), by unfold eOf; rw [if_pos ⟨decide_eq_true (by omega), decide_eq_true (by omega)⟩]⟩
    · try have g14 := inr_t h14
      try have g14 := inr_f h14
      refine J_aload_n C (dA DX8_of_0 9 rfl) rfl ?_
      refine J_iconst (v := nI 0) C (dA DX8_of_0 10 rfl) (by decide) ?_
      refine V_X8_no C (c_X8_no l E _ (by decide)) wM_RX8_106 (by decide) (dA DX8_of_0 11 rfl) rfl (Nat.le_of_ble_eq_true rfl) ?_
      exact J_iret C G (dA DX8_of_0 12 rfl) ⟨oi (by unfold aOf; rw [if_neg (by rintro ⟨z1, z2⟩; try have z1 := inr_t z1; try have z2 := inr_t z2; omega)]; rfl), by unfold eOf; rw [if_neg (by rintro ⟨z1, z2⟩; try have z1 := inr_t z1; try have z2 := inr_t z2; omega)]⟩
set_option maxRecDepth 4000 in
theorem c_X7_rain (l : Launch) (E : jE) (a : Int32) (hS : IS (vb (fb 0) M))  : K_X7_rain l E [.ref (ja E 59), .int a] M (aRain (vb (fb 0) M) a) (eRain (fb 0) 1076 a M) := by
  refine CT_intro (own := RX7) (by decide +kernel) rfl (by simp [Value.category]) (Nat.le_of_ble_eq_true rfl) rfl (fun X C G => ?_)
  show J E X 0 [some (.ref (ja E 59)), some (.int a), none] [] M
  refine J_iload_n C (dA DX7_rain_0 0 rfl) rfl ?_
  first | refine J_if_lt_n (tgt := 9) C (by omega) (dA DX7_rain_0 1 rfl) (by decide) (fun h1 => ?_) (fun h1 => ?_) | refine J_if_lt_t (tgt := 9) C (dA DX7_rain_0 1 rfl) (by decide) (fun h1 => ?_) (fun h1 => ?_)
  · try have g1 := inr_t h1
    try have g1 := inr_f h1
    refine J_aload_n C (dA DX7_rain_0 5 rfl) rfl ?_
    refine J_ldc (v := (-1000001)) C wK_RX7_69 (dA DX7_rain_0 6 rfl) ?_
    refine V_X7_finding C (c_X7_finding l E 0 (by decide) _ (by decide)) wM_RX7_70 (by decide) (dA DX7_rain_0 7 rfl) rfl (Nat.le_of_ble_eq_true rfl) ?_
    exact J_iret C G (dA DX7_rain_0 8 rfl) ⟨oi (by unfold aRain; rw [if_neg (fun z => by have z := inr_t z; omega)]; rfl), by unfold eRain; rw [if_neg (fun z => by have z := inr_t z; omega)]⟩
  · try have g1 := inr_t h1
    try have g1 := inr_f h1
    refine J_iload_n C (dA DX7_rain_0 2 rfl) rfl ?_
    refine J_iconst (v := nI 1) C (dA DX7_rain_0 3 rfl) (by decide) ?_
    first | refine J_icmp_le_n (tgt := 16) C (by omega) (by omega) (dA DX7_rain_0 4 rfl) (by decide) (fun h6 => ?_) (fun h6 => ?_) | refine J_icmp_le_c (tgt := 16) C (by omega) (dA DX7_rain_0 4 rfl) (by decide) (fun h6 => ?_) (fun h6 => ?_) | refine J_icmp_le_t (tgt := 16) C (dA DX7_rain_0 4 rfl) (by decide) (fun h6 => ?_) (fun h6 => ?_)
    · try have g6 := inr_t h6
      try have g6 := inr_f h6
      refine J_aload_n C (dA DX7_rain_0 9 rfl) rfl ?_
      refine G_X7_fen C wF_RX7_12 (dA DX7_rain_0 10 rfl) ?_
      refine H_X1_rain C (by decide) hS wF_RX7_116 (dA DX7_rain_0 11 rfl) ?_
      refine J_ist_2_3 C (dA DX7_rain_0 12 rfl) rfl ?_
      refine J_aload_n C (dA DX7_rain_0 13 rfl) rfl ?_
      refine G_X7_fen C wF_RX7_12 (dA DX7_rain_0 14 rfl) ?_
      refine J_iload_n C (dA DX7_rain_0 15 rfl) rfl ?_
      refine P_X1_rain C (by decide) wF_RX7_116 (dA DX7_rain_0 16 rfl) ?_
      refine J_iload_n C (dA DX7_rain_0 17 rfl) rfl ?_
      exact J_iret C G (dA DX7_rain_0 18 rfl) ⟨oi (by unfold aRain; rw [if_pos (show inr a 0 1 = true from decide_eq_true (by omega))]), by unfold eRain; rw [if_pos (show inr a 0 1 = true from decide_eq_true (by omega))]; exact lay_upd (by decide)⟩
    · try have g6 := inr_t h6
      try have g6 := inr_f h6
      refine J_aload_n C (dA DX7_rain_0 5 rfl) rfl ?_
      refine J_ldc (v := (-1000001)) C wK_RX7_69 (dA DX7_rain_0 6 rfl) ?_
      refine V_X7_finding C (c_X7_finding l E 0 (by decide) _ (by decide)) wM_RX7_70 (by decide) (dA DX7_rain_0 7 rfl) rfl (Nat.le_of_ble_eq_true rfl) ?_
      exact J_iret C G (dA DX7_rain_0 8 rfl) ⟨oi (by unfold aRain; rw [if_neg (fun z => by have z := inr_t z; omega)]; rfl), by unfold eRain; rw [if_neg (fun z => by have z := inr_t z; omega)]⟩
set_option maxRecDepth 4000 in
theorem c_X8_rain (l : Launch) (E : jE) (a : Int32) (hS : IS (vb 1100 M))  : K_X8_rain l E [.ref (ja E 60), .int a] M (aRain (vb 1100 M) a) (eRain 1100 1502 a M) := by
  refine CT_intro (own := RX8) (by decide +kernel) rfl (by simp [Value.category]) (Nat.le_of_ble_eq_true rfl) rfl (fun X C G => ?_)
  show J E X 0 [some (.ref (ja E 60)), some (.int a), none] [] M
  refine J_iload_n C (dA DX8_rain_0 0 rfl) rfl ?_
  refine J_iconst (v := nI 0) C (dA DX8_rain_0 1 rfl) (by decide) ?_
  refine J_iconst (v := nI 1) C (dA DX8_rain_0 2 rfl) (by decide) ?_
  refine V_X8_in1 C (c_X8_in1n l E _ _ _ (by omega) (by omega)) wM_RX8_58 (by decide) (dA DX8_rain_0 3 rfl) rfl (Nat.le_of_ble_eq_true rfl) ?_
  refine J_if_ne_b (tgt := 15) C (dA DX8_rain_0 4 rfl) (by decide) (fun h6 => ?_) (fun h6 => ?_)
  · try have g6 := inr_t h6
    try have g6 := inr_f h6
    refine J_aload_n C (dA DX8_rain_0 9 rfl) rfl ?_
    refine G_X8_s C wF_RX8_9 (dA DX8_rain_0 10 rfl) ?_
    refine J_iconst (v := nI 3) C (dA DX8_rain_0 11 rfl) (by decide) ?_
    refine Q_s3 C hS (dA DX8_rain_0 12 rfl) ?_
    refine J_ist_2_3 C (dA DX8_rain_0 13 rfl) rfl ?_
    refine J_aload_n C (dA DX8_rain_0 14 rfl) rfl ?_
    refine G_X8_s C wF_RX8_9 (dA DX8_rain_0 15 rfl) ?_
    refine J_iconst (v := nI 3) C (dA DX8_rain_0 16 rfl) (by decide) ?_
    refine J_iload_n C (dA DX8_rain_0 17 rfl) rfl ?_
    refine S_1 C (hk := rfl) rfl (by omega) (dA DX8_rain_0 18 rfl) ?_
    refine J_iload_n C (dA DX8_rain_0 19 rfl) rfl ?_
    exact J_iret C G (dA DX8_rain_0 20 rfl) ⟨oi (by unfold aRain; rw [if_pos (show inr a 0 1 = true from decide_eq_true (by omega))]), by unfold eRain; rw [if_pos (show inr a 0 1 = true from decide_eq_true (by omega))]; exact lay_upd (b := 1100) (j := 3) (by decide)⟩
  · try have g6 := inr_t h6
    try have g6 := inr_f h6
    refine J_aload_n C (dA DX8_rain_0 5 rfl) rfl ?_
    refine J_iconst (v := nI 0) C (dA DX8_rain_0 6 rfl) (by decide) ?_
    refine V_X8_no C (c_X8_no l E _ (by decide)) wM_RX8_106 (by decide) (dA DX8_rain_0 7 rfl) rfl (Nat.le_of_ble_eq_true rfl) ?_
    exact J_iret C G (dA DX8_rain_0 8 rfl) ⟨oi (by unfold aRain; rw [if_neg (fun z => by have z := inr_t z; omega)]; rfl), by unfold eRain; rw [if_neg (fun z => by have z := inr_t z; omega)]⟩
end PA
