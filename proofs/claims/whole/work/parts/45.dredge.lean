def drgP (S : Nat → Int32) (p : Nat) : Nat → Bool := fun q => decide (shwS S (nI q) = shwS S (nI (f3 S p 1)))
def drgS (S : Nat → Int32) (p i : Nat) : Nat := smS i (fun q => if drgP S p q = true then f6 S q 5 else 0)
theorem drgS_t {S : Nat → Int32} {p i : Nat} (h : drgP S p i = true) : drgS S p (i + 1) = drgS S p i + f6 S i 5 := by show _ + (if drgP S p i = true then _ else _) = _; rw [if_pos h]; rfl
theorem drgS_f {S : Nat → Int32} {p i : Nat} (h : drgP S p i = false) : drgS S p (i + 1) = drgS S p i := by show _ + (if drgP S p i = true then _ else _) = _; rw [if_neg (by rw [h]; decide)]; rfl
def aDredge (S : Nat → Int32) (a b : Int32) : Int32 := if inr a 0 ((iN S : Int) - 1) = true ∧ inr b 0 1 = true then (if nv b = 0 then orL 16 (drgP S (nv a)) else nI (drgS S (nv a) 16)) else fi 0
def eDredge (S : Nat → Int32) (F : Nat) (a b : Int32) (M : jM) : jM := if inr a 0 ((iN S : Int) - 1) = true ∧ inr b 0 1 = true then M else Fl F 0 M
/-- the fen after n falls; the sights that they made -/
def flS (S : Nat → Int32) : Nat → (Nat → Int32)
  | 0 => S
  | n + 1 => minS (drpS (flS S n))
def flC (S : Nat → Int32) : Nat → Nat
  | 0 => 0
  | n + 1 => flC S n + bcN (sightS (flS S (n + 1)))
theorem IS_fl {S : Nat → Int32} (h : IS S) : ∀ n, IS (flS S n)
  | 0 => h
  | n + 1 => IS_min (IS_drp (IS_fl h n)).1
def aFalls (S : Nat → Int32) (a : Int32) : Int32 := if inr a 1 20 = true then (if 99999 < iM S + nv a then fi 4 else nI (flC S (nv a))) else fi 0
def eFalls (B F : Nat) (a : Int32) (M : jM) : jM := if inr a 1 20 = true then (if 99999 < iM (vb B M) + nv a then Fl F 4 M else lay B M (flS (vb B M) (nv a))) else Fl F 0 M
section PA
variable {M : jM}
theorem c_fl1 (l : Launch) (E : jE) {T : Nat → Int32} (h : IS T) : K_X1_dropOne l E [.ref (ja E (fo 0))] (lay (fb 0) M T) (lay (fb 0) M (drpS T)) := by
  have hv : vb (fb 0) (lay (fb 0) M T) = T := vb_lay h.1
  have h2 := c_X1_dropOne (M := lay (fb 0) M T) l E 0 (by decide) (by rw [hv]; exact h)
  rw [hv, lay_lay] at h2
  exact h2
theorem c_fl2 (l : Launch) (E : jE) {T : Nat → Int32} (h : IS T) : K_X1_passMinute l E [.ref (ja E (fo 0))] (lay (fb 0) M T) (lay (fb 0) M (minS T)) := by
  have hv : vb (fb 0) (lay (fb 0) M T) = T := vb_lay h.1
  have h2 := c_X1_passMinute (M := lay (fb 0) M T) l E 0 (by decide) (by rw [hv]; exact h)
  rw [hv, lay_lay] at h2
  exact h2
theorem c_fl3 (l : Launch) (E : jE) {T : Nat → Int32} (h : IS T) : K_X8_minute l E [.ref (ja E 60)] (lay 1100 M T) (lay 1100 M (minS T)) := by
  have hv : vb 1100 (lay 1100 M T) = T := vb_lay h.1
  have h2 := c_X8_minute (M := lay 1100 M T) l E (by rw [hv]; exact h)
  rw [hv, lay_lay] at h2
  exact h2
set_option maxRecDepth 4000 in
theorem c_X7_dredge (l : Launch) (E : jE) (a b : Int32) (hS : IS (vb (fb 0) M))  : K_X7_dredge l E [.ref (ja E 59), .int a, .int b] M (aDredge (vb (fb 0) M) a b) (eDredge (vb (fb 0) M) 1076 a b M) := by
  refine CT_intro (own := RX7) (by decide +kernel) rfl (by simp [Value.category]) (Nat.le_of_ble_eq_true rfl) rfl (fun X C G => ?_)
  show J E X 0 [some (.ref (ja E 59)), some (.int a), some (.int b), none, none, none, none] [] M
  have hN := leN hS
  refine J_aload_n C (dA DX7_dredge_0 0 rfl) rfl ?_
  refine G_X7_fen C wF_RX7_12 (dA DX7_dredge_0 1 rfl) ?_
  refine J_iload_n C (dA DX7_dredge_0 2 rfl) rfl ?_
  refine V_X1_has C (by decide) (c_X1_has l E _ (by decide) _ hS) wM_RX7_100 (by decide) (dA DX7_dredge_0 3 rfl) rfl (Nat.le_of_ble_eq_true rfl) ?_
  refine J_if_eq_b (tgt := 20) C (dA DX7_dredge_0 4 rfl) (by decide) (fun h8 => ?_) (fun h8 => ?_)
  · try have g8 := inr_t h8
    try have g8 := inr_f h8
    refine J_aload_n C (dA DX7_dredge_0 10 rfl) rfl ?_
    refine J_ldc (v := (-1000001)) C wK_RX7_69 (dA DX7_dredge_0 11 rfl) ?_
    refine V_X7_finding C (c_X7_finding l E 0 (by decide) _ (by decide)) wM_RX7_70 (by decide) (dA DX7_dredge_0 12 rfl) rfl (Nat.le_of_ble_eq_true rfl) ?_
    exact J_iret C G (dA DX7_dredge_0 13 rfl) ⟨oi (by unfold aDredge; rw [if_neg (by rintro ⟨z1, z2⟩; try have z1 := inr_t z1; try have z2 := inr_t z2; omega)]; rfl), by unfold eDredge; rw [if_neg (by rintro ⟨z1, z2⟩; try have z1 := inr_t z1; try have z2 := inr_t z2; omega)]⟩
  · try have g8 := inr_t h8
    try have g8 := inr_f h8
    refine J_iload_n C (dA DX7_dredge_0 5 rfl) rfl ?_
    refine J_if_lt_t (tgt := 20) C (dA DX7_dredge_0 6 rfl) (by decide) (fun h12 => ?_) (fun h12 => ?_)
    · try have g12 := inr_t h12
      try have g12 := inr_f h12
      refine J_aload_n C (dA DX7_dredge_0 10 rfl) rfl ?_
      refine J_ldc (v := (-1000001)) C wK_RX7_69 (dA DX7_dredge_0 11 rfl) ?_
      refine V_X7_finding C (c_X7_finding l E 0 (by decide) _ (by decide)) wM_RX7_70 (by decide) (dA DX7_dredge_0 12 rfl) rfl (Nat.le_of_ble_eq_true rfl) ?_
      exact J_iret C G (dA DX7_dredge_0 13 rfl) ⟨oi (by unfold aDredge; rw [if_neg (by rintro ⟨z1, z2⟩; try have z1 := inr_t z1; try have z2 := inr_t z2; omega)]; rfl), by unfold eDredge; rw [if_neg (by rintro ⟨z1, z2⟩; try have z1 := inr_t z1; try have z2 := inr_t z2; omega)]⟩
    · try have g12 := inr_t h12
      try have g12 := inr_f h12
      refine J_iload_n C (dA DX7_dredge_0 7 rfl) rfl ?_
      refine J_iconst (v := nI 1) C (dA DX7_dredge_0 8 rfl) (by decide) ?_
      first | refine J_icmp_le_n (tgt := 27) C (by omega) (by omega) (dA DX7_dredge_0 9 rfl) (by decide) (fun h17 => ?_) (fun h17 => ?_) | refine J_icmp_le_c (tgt := 27) C (by omega) (dA DX7_dredge_0 9 rfl) (by decide) (fun h17 => ?_) (fun h17 => ?_) | refine J_icmp_le_t (tgt := 27) C (dA DX7_dredge_0 9 rfl) (by decide) (fun h17 => ?_) (fun h17 => ?_)
      · try have g17 := inr_t h17
        try have g17 := inr_f h17
        obtain ⟨p, hp, rfl⟩ := toNI (x := a) (n := (iN (vb (fb 0) M))) (by omega) (by omega)
        have ta := tI (n := p) (by omega)
        have na : nv (nI p) = p := nv_nI (by omega)
        obtain ⟨w, hw, rfl⟩ := toNI (x := b) (n := 2) (by omega) (by omega)
        have tb := tI (n := w) (by omega)
        have nb : nv (nI w) = w := nv_nI (by omega)
        have loop : ∀ n i, i + n = 16 → J E X 55 [some (.ref (ja E 59)), some (.int (nI p)), some (.int (nI w)), some (.int (shwS (vb (fb 0) M) (nI (f3 (vb (fb 0) M) p 1)))), some (.int (orL i (drgP (vb (fb 0) M) p))), some (.int (nI (drgS (vb (fb 0) M) p i))), some (.int (nI i))] [] M := by
          intro n
          induction n with
          | zero =>
            intro i hi
            obtain rfl : 16 = i := by omega
            refine J_iload C (dA DX7_dredge_0 31 rfl) rfl ?_
            refine J_bipush (v := nI 16) C (dA DX7_dredge_0 32 rfl) (by decide) ?_
            first | refine J_icmp_ge_n (tgt := 107) C (by omega) (by omega) (dA DX7_dredge_0 33 rfl) (by decide) (fun h59 => ?_) (fun h59 => ?_) | refine J_icmp_ge_c (tgt := 107) C (by omega) (dA DX7_dredge_0 33 rfl) (by decide) (fun h59 => ?_) (fun h59 => ?_) | refine J_icmp_ge_t (tgt := 107) C (dA DX7_dredge_0 33 rfl) (by decide) (fun h59 => ?_) (fun h59 => ?_)
            · try have g59 := inr_t h59
              try have g59 := inr_f h59
              refine J_iload_n C (dA DX7_dredge_0 58 rfl) rfl ?_
              refine J_if_ne_n (tgt := 116) C (by omega) (dA DX7_dredge_0 59 rfl) (by decide) (fun h108 => ?_) (fun h108 => ?_)
              · try have g108 := inr_t h108
                try have g108 := inr_f h108
                refine J_iload C (dA DX7_dredge_0 62 rfl) rfl ?_
                exact J_iret C G (dA DX7_dredge_0 63 rfl) ⟨oi (by unfold aDredge; rw [if_pos ⟨decide_eq_true (by omega), decide_eq_true (by omega)⟩, na, nb, if_neg (show ¬ w = 0 by omega)]), by unfold eDredge; rw [if_pos ⟨decide_eq_true (by omega), decide_eq_true (by omega)⟩]⟩
              · try have g108 := inr_t h108
                try have g108 := inr_f h108
                refine J_iload C (dA DX7_dredge_0 60 rfl) rfl ?_
                refine J_goto (tgt := 118) C (dA DX7_dredge_0 61 rfl) (by decide) ?_
                exact J_iret C G (dA DX7_dredge_0 63 rfl) ⟨oi (by unfold aDredge; rw [if_pos ⟨decide_eq_true (by omega), decide_eq_true (by omega)⟩, na, nb, if_pos (show w = 0 by omega)]), by unfold eDredge; rw [if_pos ⟨decide_eq_true (by omega), decide_eq_true (by omega)⟩]⟩
            · exfalso; omega
          | succ n ih =>
            intro i hi
            refine J_iload C (dA DX7_dredge_0 31 rfl) rfl ?_
            refine J_bipush (v := nI 16) C (dA DX7_dredge_0 32 rfl) (by decide) ?_
            first | refine J_icmp_ge_n (tgt := 107) C (by omega) (by omega) (dA DX7_dredge_0 33 rfl) (by decide) (fun h59 => ?_) (fun h59 => ?_) | refine J_icmp_ge_c (tgt := 107) C (by omega) (dA DX7_dredge_0 33 rfl) (by decide) (fun h59 => ?_) (fun h59 => ?_) | refine J_icmp_ge_t (tgt := 107) C (dA DX7_dredge_0 33 rfl) (by decide) (fun h59 => ?_) (fun h59 => ?_)
            · exfalso; omega
            · try have g59 := inr_t h59
              try have g59 := inr_f h59
              refine J_aload_n C (dA DX7_dredge_0 34 rfl) rfl ?_
              refine G_X7_fen C wF_RX7_12 (dA DX7_dredge_0 35 rfl) ?_
              refine J_iload C (dA DX7_dredge_0 36 rfl) rfl ?_
              refine V_X1_showersOf C (by decide) (c_X1_showersOf l E 0 (by decide) _ hS) wM_RX7_109 (by decide) (dA DX7_dredge_0 37 rfl) rfl (Nat.le_of_ble_eq_true rfl) ?_
              refine J_iload_n C (dA DX7_dredge_0 38 rfl) rfl ?_
              refine J_icmp_ne (tgt := 101) C (dA DX7_dredge_0 39 rfl) (by decide) (fun h72 => ?_) (fun h72 => ?_)
              · first | refine J_inc1_6_7 C (dA DX7_dredge_0 56 rfl) rfl ?_ | refine J_iinc_6_7 C (dA DX7_dredge_0 56 rfl) rfl ?_
                refine J_goto (tgt := 55) C (dA DX7_dredge_0 57 rfl) (by decide) ?_
                have e : drgP (vb (fb 0) M) p i = false := decide_eq_false h72
                have h := ih (i + 1) (by omega)
                rw [← orL_f (P := drgP (vb (fb 0) M) p) e, drgS_f e] at h
                exact h
              · refine J_iload C (dA DX7_dredge_0 40 rfl) rfl ?_
                refine J_iconst (v := nI 1) C (dA DX7_dredge_0 41 rfl) (by decide) ?_
                refine J_iload C (dA DX7_dredge_0 42 rfl) rfl ?_
                refine J_ishl C (dA DX7_dredge_0 43 rfl) ?_
                refine J_ior C (dA DX7_dredge_0 44 rfl) ?_
                refine J_ist_4_7 C (dA DX7_dredge_0 45 rfl) rfl ?_
                refine J_iload C (dA DX7_dredge_0 46 rfl) rfl ?_
                refine J_aload_n C (dA DX7_dredge_0 47 rfl) rfl ?_
                refine G_X7_fen C wF_RX7_12 (dA DX7_dredge_0 48 rfl) ?_
                refine G_X1_ponds C (by decide) wF_RX7_80 (dA DX7_dredge_0 49 rfl) ?_
                refine J_iconst (v := nI 5) C (dA DX7_dredge_0 50 rfl) (by decide) ?_
                refine R_fp C (by decide) rfl (by omega) (dA DX7_dredge_0 51 rfl) ?_
                refine J_iload C (dA DX7_dredge_0 52 rfl) rfl ?_
                refine Q_fr C (by decide) hS (by decide) rfl (by omega) (dA DX7_dredge_0 53 rfl) ?_
                first | refine J_iadd_n C (dA DX7_dredge_0 54 rfl) ?_ | refine J_iadd C (dA DX7_dredge_0 54 rfl) ?_
                refine J_ist_5_7 C (dA DX7_dredge_0 55 rfl) rfl ?_
                first | refine J_inc1_6_7 C (dA DX7_dredge_0 56 rfl) rfl ?_ | refine J_iinc_6_7 C (dA DX7_dredge_0 56 rfl) rfl ?_
                refine J_goto (tgt := 55) C (dA DX7_dredge_0 57 rfl) (by decide) ?_
                have e : drgP (vb (fb 0) M) p i = true := decide_eq_true (by first | exact h72 | exact Classical.byContradiction h72)
                have h := ih (i + 1) (by omega)
                rw [← orL_t (P := drgP (vb (fb 0) M) p) e, drgS_t e] at h
                exact h
        refine J_aload_n C (dA DX7_dredge_0 14 rfl) rfl ?_
        refine G_X7_fen C wF_RX7_12 (dA DX7_dredge_0 15 rfl) ?_
        refine J_aload_n C (dA DX7_dredge_0 16 rfl) rfl ?_
        refine G_X7_fen C wF_RX7_12 (dA DX7_dredge_0 17 rfl) ?_
        refine G_X1_things C (by decide) wF_RX7_106 (dA DX7_dredge_0 18 rfl) ?_
        refine J_iconst (v := nI 1) C (dA DX7_dredge_0 19 rfl) (by decide) ?_
        refine R_ft C (by decide) rfl (by omega) (dA DX7_dredge_0 20 rfl) ?_
        refine J_iload_n C (dA DX7_dredge_0 21 rfl) rfl ?_
        refine Q_fk C (by decide) hS (by decide) rfl (by omega) (dA DX7_dredge_0 22 rfl) ?_
        refine V_X1_showersOf C (by decide) (c_X1_showersOf l E 0 (by decide) _ hS) wM_RX7_109 (by decide) (dA DX7_dredge_0 23 rfl) rfl (Nat.le_of_ble_eq_true rfl) ?_
        refine J_ist_3_7 C (dA DX7_dredge_0 24 rfl) rfl ?_
        refine J_iconst (v := nI 0) C (dA DX7_dredge_0 25 rfl) (by decide) ?_
        refine J_ist_4_7 C (dA DX7_dredge_0 26 rfl) rfl ?_
        refine J_iconst (v := nI 0) C (dA DX7_dredge_0 27 rfl) (by decide) ?_
        refine J_ist_5_7 C (dA DX7_dredge_0 28 rfl) rfl ?_
        refine J_iconst (v := nI 0) C (dA DX7_dredge_0 29 rfl) (by decide) ?_
        refine J_ist_6_7 C (dA DX7_dredge_0 30 rfl) rfl ?_
        exact loop 16 0 (Nat.zero_add _)
      · try have g17 := inr_t h17
        try have g17 := inr_f h17
        refine J_aload_n C (dA DX7_dredge_0 10 rfl) rfl ?_
        refine J_ldc (v := (-1000001)) C wK_RX7_69 (dA DX7_dredge_0 11 rfl) ?_
        refine V_X7_finding C (c_X7_finding l E 0 (by decide) _ (by decide)) wM_RX7_70 (by decide) (dA DX7_dredge_0 12 rfl) rfl (Nat.le_of_ble_eq_true rfl) ?_
        exact J_iret C G (dA DX7_dredge_0 13 rfl) ⟨oi (by unfold aDredge; rw [if_neg (by rintro ⟨z1, z2⟩; try have z1 := inr_t z1; try have z2 := inr_t z2; omega)]; rfl), by unfold eDredge; rw [if_neg (by rintro ⟨z1, z2⟩; try have z1 := inr_t z1; try have z2 := inr_t z2; omega)]⟩
set_option maxRecDepth 4000 in
theorem c_X8_dredge (l : Launch) (E : jE) (a b : Int32) (hS : IS (vb 1100 M))  : K_X8_dredge l E [.ref (ja E 60), .int a, .int b] M (aDredge (vb 1100 M) a b) (eDredge (vb 1100 M) 1502 a b M) := by
  refine CT_intro (own := RX8) (by decide +kernel) rfl (by simp [Value.category]) (Nat.le_of_ble_eq_true rfl) rfl (fun X C G => ?_)
  show J E X 0 [some (.ref (ja E 60)), some (.int a), some (.int b), none, none, none, none, none] [] M
  have hN := leN hS
  refine J_aload_n C (dA DX8_dredge_0 0 rfl) rfl ?_
  refine J_iload_n C (dA DX8_dredge_0 1 rfl) rfl ?_
  refine V_X8_isThing C (c_X8_isThing l E _ hS) wM_RX8_116 (by decide) (dA DX8_dredge_0 2 rfl) rfl (Nat.le_of_ble_eq_true rfl) ?_
  refine J_if_eq_b (tgt := 17) C (dA DX8_dredge_0 3 rfl) (by decide) (fun h5 => ?_) (fun h5 => ?_)
  · try have g5 := inr_t h5
    try have g5 := inr_f h5
    refine J_aload_n C (dA DX8_dredge_0 9 rfl) rfl ?_
    refine J_iconst (v := nI 0) C (dA DX8_dredge_0 10 rfl) (by decide) ?_
    refine V_X8_no C (c_X8_no l E _ (by decide)) wM_RX8_106 (by decide) (dA DX8_dredge_0 11 rfl) rfl (Nat.le_of_ble_eq_true rfl) ?_
    exact J_iret C G (dA DX8_dredge_0 12 rfl) ⟨oi (by unfold aDredge; rw [if_neg (by rintro ⟨z1, z2⟩; try have z1 := inr_t z1; try have z2 := inr_t z2; omega)]; rfl), by unfold eDredge; rw [if_neg (by rintro ⟨z1, z2⟩; try have z1 := inr_t z1; try have z2 := inr_t z2; omega)]⟩
  · try have g5 := inr_t h5
    try have g5 := inr_f h5
    refine J_iload_n C (dA DX8_dredge_0 4 rfl) rfl ?_
    refine J_iconst (v := nI 0) C (dA DX8_dredge_0 5 rfl) (by decide) ?_
    refine J_iconst (v := nI 1) C (dA DX8_dredge_0 6 rfl) (by decide) ?_
    refine V_X8_in1 C (c_X8_in1n l E _ _ _ (by decide) (by decide)) wM_RX8_58 (by decide) (dA DX8_dredge_0 7 rfl) rfl (Nat.le_of_ble_eq_true rfl) ?_
    refine J_if_ne_b (tgt := 23) C (dA DX8_dredge_0 8 rfl) (by decide) (fun h14 => ?_) (fun h14 => ?_)
    · try have g14 := inr_t h14
      try have g14 := inr_f h14
      obtain ⟨p, hp, rfl⟩ := toNI (x := a) (n := (iN (vb 1100 M))) (by omega) (by omega)
      have ta := tI (n := p) (by omega)
      have na : nv (nI p) = p := nv_nI (by omega)
      obtain ⟨w, hw, rfl⟩ := toNI (x := b) (n := 2) (by omega) (by omega)
      have tb := tI (n := w) (by omega)
      have nb : nv (nI w) = w := nv_nI (by omega)
      have loop : ∀ n i (o7 : Option Value), (∀ z : Int32, jok [some (.ref (ja E 60)), some (.int (nI p)), some (.int (nI w)), some (.int (shwS (vb 1100 M) (nI (f3 (vb 1100 M) p 1)))), some (.int (orL i (drgP (vb 1100 M) p))), some (.int (nI (drgS (vb 1100 M) p i))), some (.int (z)), o7] 7 = true) → i + n = 16 → J E X 43 [some (.ref (ja E 60)), some (.int (nI p)), some (.int (nI w)), some (.int (shwS (vb 1100 M) (nI (f3 (vb 1100 M) p 1)))), some (.int (orL i (drgP (vb 1100 M) p))), some (.int (nI (drgS (vb 1100 M) p i))), some (.int (nI i)), o7] [] M := by
        intro n
        induction n with
        | zero =>
          intro i o7 k7 hi
          obtain rfl : 16 = i := by omega
          refine J_iload C (dA DX8_dredge_0 26 rfl) rfl ?_
          refine J_bipush (v := nI 16) C (dA DX8_dredge_0 27 rfl) (by decide) ?_
          first | refine J_icmp_ge_n (tgt := 112) C (by omega) (by omega) (dA DX8_dredge_0 28 rfl) (by decide) (fun h47 => ?_) (fun h47 => ?_) | refine J_icmp_ge_c (tgt := 112) C (by omega) (dA DX8_dredge_0 28 rfl) (by decide) (fun h47 => ?_) (fun h47 => ?_) | refine J_icmp_ge_t (tgt := 112) C (dA DX8_dredge_0 28 rfl) (by decide) (fun h47 => ?_) (fun h47 => ?_)
          · try have g47 := inr_t h47
            try have g47 := inr_f h47
            refine J_iload_n C (dA DX8_dredge_0 61 rfl) rfl ?_
            refine J_if_ne_n (tgt := 121) C (by omega) (dA DX8_dredge_0 62 rfl) (by decide) (fun h113 => ?_) (fun h113 => ?_)
            · try have g113 := inr_t h113
              try have g113 := inr_f h113
              refine J_iload C (dA DX8_dredge_0 65 rfl) rfl ?_
              exact J_iret C G (dA DX8_dredge_0 66 rfl) ⟨oi (by unfold aDredge; rw [if_pos ⟨decide_eq_true (by omega), decide_eq_true (by omega)⟩, na, nb, if_neg (show ¬ w = 0 by omega)]), by unfold eDredge; rw [if_pos ⟨decide_eq_true (by omega), decide_eq_true (by omega)⟩]⟩
            · try have g113 := inr_t h113
              try have g113 := inr_f h113
              refine J_iload C (dA DX8_dredge_0 63 rfl) rfl ?_
              refine J_goto (tgt := 123) C (dA DX8_dredge_0 64 rfl) (by decide) ?_
              exact J_iret C G (dA DX8_dredge_0 66 rfl) ⟨oi (by unfold aDredge; rw [if_pos ⟨decide_eq_true (by omega), decide_eq_true (by omega)⟩, na, nb, if_pos (show w = 0 by omega)]), by unfold eDredge; rw [if_pos ⟨decide_eq_true (by omega), decide_eq_true (by omega)⟩]⟩
          · exfalso; omega
        | succ n ih =>
          intro i o7 k7 hi
          refine J_iload C (dA DX8_dredge_0 26 rfl) rfl ?_
          refine J_bipush (v := nI 16) C (dA DX8_dredge_0 27 rfl) (by decide) ?_
          first | refine J_icmp_ge_n (tgt := 112) C (by omega) (by omega) (dA DX8_dredge_0 28 rfl) (by decide) (fun h47 => ?_) (fun h47 => ?_) | refine J_icmp_ge_c (tgt := 112) C (by omega) (dA DX8_dredge_0 28 rfl) (by decide) (fun h47 => ?_) (fun h47 => ?_) | refine J_icmp_ge_t (tgt := 112) C (dA DX8_dredge_0 28 rfl) (by decide) (fun h47 => ?_) (fun h47 => ?_)
          · exfalso; omega
          · try have g47 := inr_t h47
            try have g47 := inr_f h47
            refine J_aload_n C (dA DX8_dredge_0 29 rfl) rfl ?_
            refine J_iload C (dA DX8_dredge_0 30 rfl) rfl ?_
            refine V_X8_showing C (c_X8_showing l E _ hS) wM_RX8_76 (by decide) (dA DX8_dredge_0 31 rfl) rfl (Nat.le_of_ble_eq_true rfl) ?_
            refine J_iload_n C (dA DX8_dredge_0 32 rfl) rfl ?_
            refine J_icmp_ne (tgt := 64) C (dA DX8_dredge_0 33 rfl) (by decide) (fun h57 => ?_) (fun h57 => ?_)
            · refine J_iconst (v := nI 0) C (dA DX8_dredge_0 36 rfl) (by decide) ?_
              refine J_ist_7_8 C (dA DX8_dredge_0 37 rfl) (k7 _) ?_
              refine J_iload C (dA DX8_dredge_0 38 rfl) rfl ?_
              refine J_iload C (dA DX8_dredge_0 39 rfl) rfl ?_
              refine J_if_eq (tgt := 81) C (dA DX8_dredge_0 40 rfl) (by decide) (fun h71 => ?_) (fun h71 => ?_)
              · refine J_iconst (v := nI 0) C (dA DX8_dredge_0 45 rfl) (by decide) ?_
                refine J_ior C (dA DX8_dredge_0 46 rfl) ?_
                rw [i_or0]
                refine J_ist_4_8 C (dA DX8_dredge_0 47 rfl) rfl ?_
                refine J_iload C (dA DX8_dredge_0 48 rfl) rfl ?_
                refine J_iload C (dA DX8_dredge_0 49 rfl) rfl ?_
                refine J_if_eq (tgt := 102) C (dA DX8_dredge_0 50 rfl) (by decide) (fun h89 => ?_) (fun h89 => ?_)
                · refine J_iconst (v := nI 0) C (dA DX8_dredge_0 56 rfl) (by decide) ?_
                  refine J_iadd_n C (dA DX8_dredge_0 57 rfl) ?_
                  refine J_ist_5_8 C (dA DX8_dredge_0 58 rfl) rfl ?_
                  first | refine J_inc1_6_8 C (dA DX8_dredge_0 59 rfl) rfl ?_ | refine J_iinc_6_8 C (dA DX8_dredge_0 59 rfl) rfl ?_
                  refine J_goto (tgt := 43) C (dA DX8_dredge_0 60 rfl) (by decide) ?_
                  have e : drgP (vb 1100 M) p i = false := decide_eq_false h57
                  have h := ih (i + 1) (some (.int (nI 0))) (fun _ => rfl) (by omega)
                  rw [← orL_f (P := drgP (vb 1100 M) p) e, drgS_f e] at h
                  exact h
                · exact absurd rfl h89
              · exact absurd rfl h71
            · refine J_iconst (v := nI 1) C (dA DX8_dredge_0 34 rfl) (by decide) ?_
              refine J_goto (tgt := 65) C (dA DX8_dredge_0 35 rfl) (by decide) ?_
              refine J_ist_7_8 C (dA DX8_dredge_0 37 rfl) (k7 _) ?_
              refine J_iload C (dA DX8_dredge_0 38 rfl) rfl ?_
              refine J_iload C (dA DX8_dredge_0 39 rfl) rfl ?_
              refine J_if_eq (tgt := 81) C (dA DX8_dredge_0 40 rfl) (by decide) (fun h71 => ?_) (fun h71 => ?_)
              · exact absurd h71 (by decide)
              · refine J_iconst (v := nI 1) C (dA DX8_dredge_0 41 rfl) (by decide) ?_
                refine J_iload C (dA DX8_dredge_0 42 rfl) rfl ?_
                refine J_ishl C (dA DX8_dredge_0 43 rfl) ?_
                refine J_goto (tgt := 82) C (dA DX8_dredge_0 44 rfl) (by decide) ?_
                refine J_ior C (dA DX8_dredge_0 46 rfl) ?_
                skip
                refine J_ist_4_8 C (dA DX8_dredge_0 47 rfl) rfl ?_
                refine J_iload C (dA DX8_dredge_0 48 rfl) rfl ?_
                refine J_iload C (dA DX8_dredge_0 49 rfl) rfl ?_
                refine J_if_eq (tgt := 102) C (dA DX8_dredge_0 50 rfl) (by decide) (fun h89 => ?_) (fun h89 => ?_)
                · exact absurd h89 (by decide)
                · refine J_aload_n C (dA DX8_dredge_0 51 rfl) rfl ?_
                  refine J_iload C (dA DX8_dredge_0 52 rfl) rfl ?_
                  refine J_iconst (v := nI 5) C (dA DX8_dredge_0 53 rfl) (by decide) ?_
                  refine V_X8_of1 C (c_X8_of1 l E i 5 (by omega) (by decide) hS) wM_RX8_66 (by decide) (dA DX8_dredge_0 54 rfl) rfl (Nat.le_of_ble_eq_true rfl) ?_
                  refine J_goto (tgt := 103) C (dA DX8_dredge_0 55 rfl) (by decide) ?_
                  refine J_iadd_n C (dA DX8_dredge_0 57 rfl) ?_
                  refine J_ist_5_8 C (dA DX8_dredge_0 58 rfl) rfl ?_
                  first | refine J_inc1_6_8 C (dA DX8_dredge_0 59 rfl) rfl ?_ | refine J_iinc_6_8 C (dA DX8_dredge_0 59 rfl) rfl ?_
                  refine J_goto (tgt := 43) C (dA DX8_dredge_0 60 rfl) (by decide) ?_
                  have e : drgP (vb 1100 M) p i = true := decide_eq_true (by first | exact h57 | exact Classical.byContradiction h57)
                  have h := ih (i + 1) (some (.int (nI 1))) (fun _ => rfl) (by omega)
                  rw [← orL_t (P := drgP (vb 1100 M) p) e, drgS_t e] at h
                  exact h
      refine J_aload_n C (dA DX8_dredge_0 13 rfl) rfl ?_
      refine J_aload_n C (dA DX8_dredge_0 14 rfl) rfl ?_
      refine J_iload_n C (dA DX8_dredge_0 15 rfl) rfl ?_
      refine J_iconst (v := nI 1) C (dA DX8_dredge_0 16 rfl) (by decide) ?_
      refine V_X8_get C (c_X8_get l E p 1 (by omega) (by decide) hS) wM_RX8_62 (by decide) (dA DX8_dredge_0 17 rfl) rfl (Nat.le_of_ble_eq_true rfl) ?_
      refine V_X8_showing C (c_X8_showing l E _ hS) wM_RX8_76 (by decide) (dA DX8_dredge_0 18 rfl) rfl (Nat.le_of_ble_eq_true rfl) ?_
      refine J_ist_3_8 C (dA DX8_dredge_0 19 rfl) rfl ?_
      refine J_iconst (v := nI 0) C (dA DX8_dredge_0 20 rfl) (by decide) ?_
      refine J_ist_4_8 C (dA DX8_dredge_0 21 rfl) rfl ?_
      refine J_iconst (v := nI 0) C (dA DX8_dredge_0 22 rfl) (by decide) ?_
      refine J_ist_5_8 C (dA DX8_dredge_0 23 rfl) rfl ?_
      refine J_iconst (v := nI 0) C (dA DX8_dredge_0 24 rfl) (by decide) ?_
      refine J_ist_6_8 C (dA DX8_dredge_0 25 rfl) rfl ?_
      exact loop 16 0 none (fun _ => rfl) (Nat.zero_add _)
    · try have g14 := inr_t h14
      try have g14 := inr_f h14
      refine J_aload_n C (dA DX8_dredge_0 9 rfl) rfl ?_
      refine J_iconst (v := nI 0) C (dA DX8_dredge_0 10 rfl) (by decide) ?_
      refine V_X8_no C (c_X8_no l E _ (by decide)) wM_RX8_106 (by decide) (dA DX8_dredge_0 11 rfl) rfl (Nat.le_of_ble_eq_true rfl) ?_
      exact J_iret C G (dA DX8_dredge_0 12 rfl) ⟨oi (by unfold aDredge; rw [if_neg (by rintro ⟨z1, z2⟩; try have z1 := inr_t z1; try have z2 := inr_t z2; omega)]; rfl), by unfold eDredge; rw [if_neg (by rintro ⟨z1, z2⟩; try have z1 := inr_t z1; try have z2 := inr_t z2; omega)]⟩
end PA
