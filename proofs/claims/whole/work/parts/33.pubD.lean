section PA
variable {M : jM}
def eAhead7 (F : Nat) (a b : Int32) (M : jM) : jM := if inr a 0 ((iN (vb (fb 0) M) : Int) - 1) = true ∧ inr b 0 100 = true then dr M (minsS (vb (fb 0) M) (nv b)) else Fl F 0 M
set_option maxRecDepth 4000 in
theorem c_X7_ahead (l : Launch) (E : jE) (a b : Int32) (hS : IS (vb (fb 0) M))  : K_X7_ahead l E [.ref (ja E 59), .int a, .int b] M (aAhead (vb (fb 0) M) a b) (eAhead7 1076 a b M) := by
  refine CT_intro (own := RX7) (by decide +kernel) rfl (by simp [Value.category]) (Nat.le_of_ble_eq_true rfl) rfl (fun X C G => ?_)
  show J E X 0 [some (.ref (ja E 59)), some (.int a), some (.int b), none] [] M
  have hN := leN hS
  refine J_aload_n C (dA DX7_ahead_0 0 rfl) rfl ?_
  refine G_X7_fen C wF_RX7_12 (dA DX7_ahead_0 1 rfl) ?_
  refine J_iload_n C (dA DX7_ahead_0 2 rfl) rfl ?_
  refine V_X1_has C (by decide) (c_X1_has l E _ (by decide) _ hS) wM_RX7_100 (by decide) (dA DX7_ahead_0 3 rfl) rfl (Nat.le_of_ble_eq_true rfl) ?_
  refine J_if_eq_b (tgt := 21) C (dA DX7_ahead_0 4 rfl) (by decide) (fun h8 => ?_) (fun h8 => ?_)
  · try have g8 := inr_t h8
    try have g8 := inr_f h8
    refine J_aload_n C (dA DX7_ahead_0 10 rfl) rfl ?_
    refine J_ldc (v := (-1000001)) C wK_RX7_69 (dA DX7_ahead_0 11 rfl) ?_
    refine V_X7_finding C (c_X7_finding l E 0 (by decide) _ (by decide)) wM_RX7_70 (by decide) (dA DX7_ahead_0 12 rfl) rfl (Nat.le_of_ble_eq_true rfl) ?_
    exact J_iret C G (dA DX7_ahead_0 13 rfl) ⟨oi (by unfold aAhead; rw [if_neg (by rintro ⟨z1, z2⟩; try have z1 := inr_t z1; try have z2 := inr_t z2; omega)]; rfl), by unfold eAhead7; rw [if_neg (by rintro ⟨z1, z2⟩; try have z1 := inr_t z1; try have z2 := inr_t z2; omega)]⟩
  · try have g8 := inr_t h8
    try have g8 := inr_f h8
    refine J_iload_n C (dA DX7_ahead_0 5 rfl) rfl ?_
    first | refine J_if_lt_n (tgt := 21) C (by omega) (dA DX7_ahead_0 6 rfl) (by decide) (fun h12 => ?_) (fun h12 => ?_) | refine J_if_lt_t (tgt := 21) C (dA DX7_ahead_0 6 rfl) (by decide) (fun h12 => ?_) (fun h12 => ?_)
    · try have g12 := inr_t h12
      try have g12 := inr_f h12
      refine J_aload_n C (dA DX7_ahead_0 10 rfl) rfl ?_
      refine J_ldc (v := (-1000001)) C wK_RX7_69 (dA DX7_ahead_0 11 rfl) ?_
      refine V_X7_finding C (c_X7_finding l E 0 (by decide) _ (by decide)) wM_RX7_70 (by decide) (dA DX7_ahead_0 12 rfl) rfl (Nat.le_of_ble_eq_true rfl) ?_
      exact J_iret C G (dA DX7_ahead_0 13 rfl) ⟨oi (by unfold aAhead; rw [if_neg (by rintro ⟨z1, z2⟩; try have z1 := inr_t z1; try have z2 := inr_t z2; omega)]; rfl), by unfold eAhead7; rw [if_neg (by rintro ⟨z1, z2⟩; try have z1 := inr_t z1; try have z2 := inr_t z2; omega)]⟩
    · try have g12 := inr_t h12
      try have g12 := inr_f h12
      refine J_iload_n C (dA DX7_ahead_0 7 rfl) rfl ?_
      refine J_bipush (v := nI 100) C (dA DX7_ahead_0 8 rfl) (by decide) ?_
      first | refine J_icmp_le_n (tgt := 28) C (by omega) (by omega) (dA DX7_ahead_0 9 rfl) (by decide) (fun h18 => ?_) (fun h18 => ?_) | refine J_icmp_le_c (tgt := 28) C (by omega) (dA DX7_ahead_0 9 rfl) (by decide) (fun h18 => ?_) (fun h18 => ?_) | refine J_icmp_le_t (tgt := 28) C (dA DX7_ahead_0 9 rfl) (by decide) (fun h18 => ?_) (fun h18 => ?_)
      · try have g18 := inr_t h18
        try have g18 := inr_f h18
        obtain ⟨p, hp, rfl⟩ := toNI (x := a) (n := (iN (vb (fb 0) M))) (by omega) (by omega)
        have ta := tI (n := p) (by omega)
        have na : nv (nI p) = p := nv_nI (by omega)
        obtain ⟨w, hw, rfl⟩ := toNI (x := b) (n := 101) (by omega) (by omega)
        have tb := tI (n := w) (by omega)
        have nb : nv (nI w) = w := nv_nI (by omega)
        have loop : ∀ n i, i + n = w → J E X 41 [some (.ref (ja E 59)), some (.int (nI p)), some (.int (nI w)), some (.int (nI i))] [] (dr M (minsS (vb (fb 0) M) i)) := by
          intro n
          induction n with
          | zero =>
            intro i hi
            obtain rfl : w = i := by omega
            have hmi := drI (M := M) hS w
            have hI := hmi.2.1
            have h31 := lt31 hI (k := p) (by omega)
            refine J_iload_n C (dA DX7_ahead_0 21 rfl) rfl ?_
            refine J_iload_n C (dA DX7_ahead_0 22 rfl) rfl ?_
            first | refine J_icmp_ge_n (tgt := 59) C (by omega) (by omega) (dA DX7_ahead_0 23 rfl) (by decide) (fun h43 => ?_) (fun h43 => ?_) | refine J_icmp_ge_c (tgt := 59) C (by omega) (dA DX7_ahead_0 23 rfl) (by decide) (fun h43 => ?_) (fun h43 => ?_) | refine J_icmp_ge_t (tgt := 59) C (dA DX7_ahead_0 23 rfl) (by decide) (fun h43 => ?_) (fun h43 => ?_)
            · try have g43 := inr_t h43
              try have g43 := inr_f h43
              refine J_aload_n C (dA DX7_ahead_0 29 rfl) rfl ?_
              refine G_X7_draft C wF_RX7_16 (dA DX7_ahead_0 30 rfl) ?_
              refine G_X1_things C (by decide) wF_RX7_106 (dA DX7_ahead_0 31 rfl) ?_
              refine J_iconst (v := nI 1) C (dA DX7_ahead_0 32 rfl) (by decide) ?_
              refine R_ft C (by decide) rfl (by omega) (dA DX7_ahead_0 33 rfl) ?_
              refine J_iload_n C (dA DX7_ahead_0 34 rfl) rfl ?_
              refine Q_fk C (by decide) hI (by decide) rfl (by omega) (dA DX7_ahead_0 35 rfl) ?_
              exact J_iret C G (dA DX7_ahead_0 36 rfl) ⟨oi (by unfold aAhead; rw [if_pos ⟨decide_eq_true (by omega), decide_eq_true (by omega)⟩, na, nb, hmi.1]), by unfold eAhead7; rw [if_pos ⟨decide_eq_true (by omega), decide_eq_true (by omega)⟩, nb]⟩
            · exfalso; omega
          | succ n ih =>
            intro i hi
            refine J_iload_n C (dA DX7_ahead_0 21 rfl) rfl ?_
            refine J_iload_n C (dA DX7_ahead_0 22 rfl) rfl ?_
            first | refine J_icmp_ge_n (tgt := 59) C (by omega) (by omega) (dA DX7_ahead_0 23 rfl) (by decide) (fun h43 => ?_) (fun h43 => ?_) | refine J_icmp_ge_c (tgt := 59) C (by omega) (dA DX7_ahead_0 23 rfl) (by decide) (fun h43 => ?_) (fun h43 => ?_) | refine J_icmp_ge_t (tgt := 59) C (dA DX7_ahead_0 23 rfl) (by decide) (fun h43 => ?_) (fun h43 => ?_)
            · exfalso; omega
            · try have g43 := inr_t h43
              try have g43 := inr_f h43
              refine J_aload_n C (dA DX7_ahead_0 24 rfl) rfl ?_
              refine G_X7_draft C wF_RX7_16 (dA DX7_ahead_0 25 rfl) ?_
              refine V_X1_passMinute C (by decide) (c_drm l E hS i) wM_RX7_125 (by decide) (dA DX7_ahead_0 26 rfl) rfl (Nat.le_of_ble_eq_true rfl) ?_
              first | refine J_inc1_3_4 C (dA DX7_ahead_0 27 rfl) rfl ?_ | refine J_iinc_3_4 C (dA DX7_ahead_0 27 rfl) rfl ?_
              refine J_goto (tgt := 41) C (dA DX7_ahead_0 28 rfl) (by decide) ?_
              exact ih (i + 1) (by omega)
        refine J_aload_n C (dA DX7_ahead_0 14 rfl) rfl ?_
        refine G_X7_draft C wF_RX7_16 (dA DX7_ahead_0 15 rfl) ?_
        refine J_aload_n C (dA DX7_ahead_0 16 rfl) rfl ?_
        refine G_X7_fen C wF_RX7_12 (dA DX7_ahead_0 17 rfl) ?_
        refine V_X1_become C (by decide) (c_drb l E) wM_RX7_179 (by decide) (dA DX7_ahead_0 18 rfl) rfl (Nat.le_of_ble_eq_true rfl) ?_
        refine J_iconst (v := nI 0) C (dA DX7_ahead_0 19 rfl) (by decide) ?_
        refine J_ist_3_4 C (dA DX7_ahead_0 20 rfl) rfl ?_
        exact loop _ 0 (Nat.zero_add _)
      · try have g18 := inr_t h18
        try have g18 := inr_f h18
        refine J_aload_n C (dA DX7_ahead_0 10 rfl) rfl ?_
        refine J_ldc (v := (-1000001)) C wK_RX7_69 (dA DX7_ahead_0 11 rfl) ?_
        refine V_X7_finding C (c_X7_finding l E 0 (by decide) _ (by decide)) wM_RX7_70 (by decide) (dA DX7_ahead_0 12 rfl) rfl (Nat.le_of_ble_eq_true rfl) ?_
        exact J_iret C G (dA DX7_ahead_0 13 rfl) ⟨oi (by unfold aAhead; rw [if_neg (by rintro ⟨z1, z2⟩; try have z1 := inr_t z1; try have z2 := inr_t z2; omega)]; rfl), by unfold eAhead7; rw [if_neg (by rintro ⟨z1, z2⟩; try have z1 := inr_t z1; try have z2 := inr_t z2; omega)]⟩
def eAhead8 (F : Nat) (a b : Int32) (M : jM) : jM := if inr a 0 ((iN (vb 1100 M) : Int) - 1) = true ∧ inr b 0 100 = true then asd M else Fl F 0 M
set_option maxRecDepth 4000 in
theorem c_X8_ahead (l : Launch) (E : jE) (a b : Int32) (hS : IS (vb 1100 M))  : K_X8_ahead l E [.ref (ja E 60), .int a, .int b] M (aAhead (vb 1100 M) a b) (eAhead8 1502 a b M) := by
  refine CT_intro (own := RX8) (by decide +kernel) rfl (by simp [Value.category]) (Nat.le_of_ble_eq_true rfl) rfl (fun X C G => ?_)
  show J E X 0 [some (.ref (ja E 60)), some (.int a), some (.int b), none] [] M
  have hN := leN hS
  refine J_aload_n C (dA DX8_ahead_0 0 rfl) rfl ?_
  refine J_iload_n C (dA DX8_ahead_0 1 rfl) rfl ?_
  refine V_X8_isThing C (c_X8_isThing l E _ hS) wM_RX8_116 (by decide) (dA DX8_ahead_0 2 rfl) rfl (Nat.le_of_ble_eq_true rfl) ?_
  refine J_if_eq_b (tgt := 18) C (dA DX8_ahead_0 3 rfl) (by decide) (fun h5 => ?_) (fun h5 => ?_)
  · try have g5 := inr_t h5
    try have g5 := inr_f h5
    refine J_aload_n C (dA DX8_ahead_0 9 rfl) rfl ?_
    refine J_iconst (v := nI 0) C (dA DX8_ahead_0 10 rfl) (by decide) ?_
    refine V_X8_no C (c_X8_no l E _ (by decide)) wM_RX8_106 (by decide) (dA DX8_ahead_0 11 rfl) rfl (Nat.le_of_ble_eq_true rfl) ?_
    exact J_iret C G (dA DX8_ahead_0 12 rfl) ⟨oi (by unfold aAhead; rw [if_neg (by rintro ⟨z1, z2⟩; try have z1 := inr_t z1; try have z2 := inr_t z2; omega)]; rfl), by unfold eAhead8; rw [if_neg (by rintro ⟨z1, z2⟩; try have z1 := inr_t z1; try have z2 := inr_t z2; omega)]⟩
  · try have g5 := inr_t h5
    try have g5 := inr_f h5
    refine J_iload_n C (dA DX8_ahead_0 4 rfl) rfl ?_
    refine J_iconst (v := nI 0) C (dA DX8_ahead_0 5 rfl) (by decide) ?_
    refine J_bipush (v := nI 100) C (dA DX8_ahead_0 6 rfl) (by decide) ?_
    refine V_X8_in1 C (c_X8_in1n l E _ _ _ (by omega) (by omega)) wM_RX8_58 (by decide) (dA DX8_ahead_0 7 rfl) rfl (Nat.le_of_ble_eq_true rfl) ?_
    refine J_if_ne_b (tgt := 24) C (dA DX8_ahead_0 8 rfl) (by decide) (fun h15 => ?_) (fun h15 => ?_)
    · try have g15 := inr_t h15
      try have g15 := inr_f h15
      obtain ⟨p, hp, rfl⟩ := toNI (x := a) (n := (iN (vb 1100 M))) (by omega) (by omega)
      have ta := tI (n := p) (by omega)
      have na : nv (nI p) = p := nv_nI (by omega)
      obtain ⟨w, hw, rfl⟩ := toNI (x := b) (n := 101) (by omega) (by omega)
      have tb := tI (n := w) (by omega)
      have nb : nv (nI w) = w := nv_nI (by omega)
      have loop : ∀ n i, i + n = w → J E X 30 [some (.ref (ja E 60)), some (.int (nI p)), some (.int (nI w)), some (.int (nI i))] [] (lay 1100 (asd M) (minsS (vb 1100 M) i)) := by
        intro n
        induction n with
        | zero =>
          intro i hi
          obtain rfl : w = i := by omega
          have hmi := miI (M := asd M) hS w
          have hI := hmi.2.1
          have h31 := lt31 hI (k := p) (by omega)
          refine J_iload_n C (dA DX8_ahead_0 17 rfl) rfl ?_
          refine J_iload_n C (dA DX8_ahead_0 18 rfl) rfl ?_
          first | refine J_icmp_ge_n (tgt := 45) C (by omega) (by omega) (dA DX8_ahead_0 19 rfl) (by decide) (fun h32 => ?_) (fun h32 => ?_) | refine J_icmp_ge_c (tgt := 45) C (by omega) (dA DX8_ahead_0 19 rfl) (by decide) (fun h32 => ?_) (fun h32 => ?_) | refine J_icmp_ge_t (tgt := 45) C (dA DX8_ahead_0 19 rfl) (by decide) (fun h32 => ?_) (fun h32 => ?_)
          · try have g32 := inr_t h32
            try have g32 := inr_f h32
            refine J_aload_n C (dA DX8_ahead_0 24 rfl) rfl ?_
            refine J_iload_n C (dA DX8_ahead_0 25 rfl) rfl ?_
            refine J_iconst (v := nI 1) C (dA DX8_ahead_0 26 rfl) (by decide) ?_
            refine V_X8_get C (c_X8_get l E p 1 (by omega) (by decide) hI) wM_RX8_62 (by decide) (dA DX8_ahead_0 27 rfl) rfl (Nat.le_of_ble_eq_true rfl) ?_
            refine J_ist_3_4 C (dA DX8_ahead_0 28 rfl) rfl ?_
            refine J_aload_n C (dA DX8_ahead_0 29 rfl) rfl ?_
            refine V_X8_laysBack C (c_X8_laysBack l E) wM_RX8_168 (by decide) (dA DX8_ahead_0 30 rfl) rfl (Nat.le_of_ble_eq_true rfl) ?_
            rw [asd_back]
            refine J_iload_n C (dA DX8_ahead_0 31 rfl) rfl ?_
            exact J_iret C G (dA DX8_ahead_0 32 rfl) ⟨oi (by unfold aAhead; rw [if_pos ⟨decide_eq_true (by omega), decide_eq_true (by omega)⟩, na, nb, hmi.1]), by unfold eAhead8; rw [if_pos ⟨decide_eq_true (by omega), decide_eq_true (by omega)⟩]⟩
          · exfalso; omega
        | succ n ih =>
          intro i hi
          refine J_iload_n C (dA DX8_ahead_0 17 rfl) rfl ?_
          refine J_iload_n C (dA DX8_ahead_0 18 rfl) rfl ?_
          first | refine J_icmp_ge_n (tgt := 45) C (by omega) (by omega) (dA DX8_ahead_0 19 rfl) (by decide) (fun h32 => ?_) (fun h32 => ?_) | refine J_icmp_ge_c (tgt := 45) C (by omega) (dA DX8_ahead_0 19 rfl) (by decide) (fun h32 => ?_) (fun h32 => ?_) | refine J_icmp_ge_t (tgt := 45) C (dA DX8_ahead_0 19 rfl) (by decide) (fun h32 => ?_) (fun h32 => ?_)
          · exfalso; omega
          · try have g32 := inr_t h32
            try have g32 := inr_f h32
            refine J_aload_n C (dA DX8_ahead_0 20 rfl) rfl ?_
            refine V_X8_minute C (c_mim l E hS i) wM_RX8_119 (by decide) (dA DX8_ahead_0 21 rfl) rfl (Nat.le_of_ble_eq_true rfl) ?_
            first | refine J_inc1_3_4 C (dA DX8_ahead_0 22 rfl) rfl ?_ | refine J_iinc_3_4 C (dA DX8_ahead_0 22 rfl) rfl ?_
            refine J_goto (tgt := 30) C (dA DX8_ahead_0 23 rfl) (by decide) ?_
            exact ih (i + 1) (by omega)
      refine J_aload_n C (dA DX8_ahead_0 13 rfl) rfl ?_
      refine V_X8_setsAside C (c_X8_setsAside l E) wM_RX8_165 (by decide) (dA DX8_ahead_0 14 rfl) rfl (Nat.le_of_ble_eq_true rfl) ?_
      refine J_iconst (v := nI 0) C (dA DX8_ahead_0 15 rfl) (by decide) ?_
      refine J_ist_3_4 C (dA DX8_ahead_0 16 rfl) rfl ?_
      have h := loop _ 0 (Nat.zero_add _)
      rw [show lay 1100 (asd M) (minsS (vb 1100 M) 0) = asd M by rw [← vb_asd (M := M)]; exact lay_vb] at h
      exact h
    · try have g15 := inr_t h15
      try have g15 := inr_f h15
      refine J_aload_n C (dA DX8_ahead_0 9 rfl) rfl ?_
      refine J_iconst (v := nI 0) C (dA DX8_ahead_0 10 rfl) (by decide) ?_
      refine V_X8_no C (c_X8_no l E _ (by decide)) wM_RX8_106 (by decide) (dA DX8_ahead_0 11 rfl) rfl (Nat.le_of_ble_eq_true rfl) ?_
      exact J_iret C G (dA DX8_ahead_0 12 rfl) ⟨oi (by unfold aAhead; rw [if_neg (by rintro ⟨z1, z2⟩; try have z1 := inr_t z1; try have z2 := inr_t z2; omega)]; rfl), by unfold eAhead8; rw [if_neg (by rintro ⟨z1, z2⟩; try have z1 := inr_t z1; try have z2 := inr_t z2; omega)]⟩
set_option maxRecDepth 4000 in
theorem c_X2_minutesTo (l : Launch) (E : jE) {S : Nat → Int32} (hS : IS S) (t q : Nat) (ht : t < iN S) (hq : q < 16)  : K_X2_minutesTo l E [.ref (ja E 40), .ref (ja E (fo 1)), .int (nI t), .int (nI q)] (dr M (minsS S 0)) (aFB (inP S t q)) (dr M (minsS S (fiN (inP S t q)))) := by
  refine CT_intro (own := RX2) (by decide +kernel) rfl (by simp [Value.category]) (Nat.le_of_ble_eq_true rfl) rfl (fun X C G => ?_)
  show J E X 0 [some (.ref (ja E 40)), some (.ref (ja E (fo 1))), some (.int (nI t)), some (.int (nI q)), none] [] (dr M (minsS S 0))
  have hN := leN hS
  have loop : ∀ n i, i + n = 101 → (∀ k, k < i → (inP S t q) k = false) → J E X 3 [some (.ref (ja E 40)), some (.ref (ja E (fo 1))), some (.int (nI t)), some (.int (nI q)), some (.int (nI i))] [] (dr M (minsS S i)) := by
    intro n
    induction n with
    | zero =>
      intro i hi hno
      have e : fiN (inP S t q) = 101 := firstN_no (fun k hk => hno k (by omega))
      refine J_iload C (dA DX2_minutesTo_0 2 rfl) rfl ?_
      refine J_bipush (v := nI 100) C (dA DX2_minutesTo_0 3 rfl) (by decide) ?_
      first | refine J_icmp_gt_n (tgt := 35) C (by omega) (by omega) (dA DX2_minutesTo_0 4 rfl) (by decide) (fun h7 => ?_) (fun h7 => ?_) | refine J_icmp_gt_c (tgt := 35) C (by omega) (dA DX2_minutesTo_0 4 rfl) (by decide) (fun h7 => ?_) (fun h7 => ?_) | refine J_icmp_gt_t (tgt := 35) C (dA DX2_minutesTo_0 4 rfl) (by decide) (fun h7 => ?_) (fun h7 => ?_)
      · refine J_ldc (v := (-1000004)) C wK_RX2_24 (dA DX2_minutesTo_0 19 rfl) ?_
        exact J_iret C G (dA DX2_minutesTo_0 20 rfl) ⟨oi (by unfold aFB; rw [e, if_neg (by omega)]; rfl), by rw [e, show i = 101 by omega]⟩
      · exfalso; omega
    | succ n ih =>
      intro i hi hno
      have hmi := drI (M := M) hS i
      have hI := hmi.2.1
      have h31 := lt31 hI (k := t) (by omega)
      refine J_iload C (dA DX2_minutesTo_0 2 rfl) rfl ?_
      refine J_bipush (v := nI 100) C (dA DX2_minutesTo_0 3 rfl) (by decide) ?_
      first | refine J_icmp_gt_n (tgt := 35) C (by omega) (by omega) (dA DX2_minutesTo_0 4 rfl) (by decide) (fun h7 => ?_) (fun h7 => ?_) | refine J_icmp_gt_c (tgt := 35) C (by omega) (dA DX2_minutesTo_0 4 rfl) (by decide) (fun h7 => ?_) (fun h7 => ?_) | refine J_icmp_gt_t (tgt := 35) C (dA DX2_minutesTo_0 4 rfl) (by decide) (fun h7 => ?_) (fun h7 => ?_)
      · exfalso; omega
      · refine J_aload_n C (dA DX2_minutesTo_0 5 rfl) rfl ?_
        refine G_X1_things C (by decide) wF_RX2_15 (dA DX2_minutesTo_0 6 rfl) ?_
        refine J_iconst (v := nI 1) C (dA DX2_minutesTo_0 7 rfl) (by decide) ?_
        refine R_ft C (by decide) rfl (by omega) (dA DX2_minutesTo_0 8 rfl) ?_
        refine J_iload_n C (dA DX2_minutesTo_0 9 rfl) rfl ?_
        refine Q_fk C (by decide) hI (by decide) rfl (by omega) (dA DX2_minutesTo_0 10 rfl) ?_
        refine J_iload_n C (dA DX2_minutesTo_0 11 rfl) rfl ?_
        first | refine J_icmp_ne_n (tgt := 25) C (by omega) (by omega) (dA DX2_minutesTo_0 12 rfl) (by decide) (fun h19 => ?_) (fun h19 => ?_) | refine J_icmp_ne_c (tgt := 25) C (by omega) (dA DX2_minutesTo_0 12 rfl) (by decide) (fun h19 => ?_) (fun h19 => ?_) | refine J_icmp_ne_t (tgt := 25) C (dA DX2_minutesTo_0 12 rfl) (by decide) (fun h19 => ?_) (fun h19 => ?_)
        · refine J_aload_n C (dA DX2_minutesTo_0 15 rfl) rfl ?_
          refine V_X1_passMinute C (by decide) (c_drm l E hS i) wM_RX2_21 (by decide) (dA DX2_minutesTo_0 16 rfl) rfl (Nat.le_of_ble_eq_true rfl) ?_
          first | refine J_inc1_4_5 C (dA DX2_minutesTo_0 17 rfl) rfl ?_ | refine J_iinc_4_5 C (dA DX2_minutesTo_0 17 rfl) rfl ?_
          refine J_goto (tgt := 3) C (dA DX2_minutesTo_0 18 rfl) (by decide) ?_
          refine ih (i + 1) (by omega) (fun k hk => ?_)
          by_cases e : k = i
          · subst e; exact decide_eq_false (by rw [← hmi.1]; exact h19)
          · exact hno k (by omega)
        · refine J_iload C (dA DX2_minutesTo_0 13 rfl) rfl ?_
          have e : fiN (inP S t q) = i := firstN_eq (by omega) hno (decide_eq_true (by rw [← hmi.1]; exact h19))
          exact J_iret C G (dA DX2_minutesTo_0 14 rfl) ⟨oi (by unfold aFB; rw [e, if_pos (by omega)]), by rw [e]⟩
  refine J_iconst (v := nI 0) C (dA DX2_minutesTo_0 0 rfl) (by decide) ?_
  refine J_ist_4_5 C (dA DX2_minutesTo_0 1 rfl) rfl ?_
  exact loop _ 0 (Nat.zero_add _) (fun k hk => by omega)
set_option maxRecDepth 4000 in
theorem c_X2_minutesToMeeting (l : Launch) (E : jE) {S : Nat → Int32} (hS : IS S) (t q : Nat) (ht : t < iN S) (hq : q < iN S)  : K_X2_minutesToMeeting l E [.ref (ja E 40), .ref (ja E (fo 1)), .int (nI t), .int (nI q)] (dr M (minsS S 0)) (aFB (mtP S t q)) (dr M (minsS S (fiN (mtP S t q)))) := by
  refine CT_intro (own := RX2) (by decide +kernel) rfl (by simp [Value.category]) (Nat.le_of_ble_eq_true rfl) rfl (fun X C G => ?_)
  show J E X 0 [some (.ref (ja E 40)), some (.ref (ja E (fo 1))), some (.int (nI t)), some (.int (nI q)), none] [] (dr M (minsS S 0))
  have hN := leN hS
  have loop : ∀ n i, i + n = 101 → (∀ k, k < i → (mtP S t q) k = false) → J E X 3 [some (.ref (ja E 40)), some (.ref (ja E (fo 1))), some (.int (nI t)), some (.int (nI q)), some (.int (nI i))] [] (dr M (minsS S i)) := by
    intro n
    induction n with
    | zero =>
      intro i hi hno
      have e : fiN (mtP S t q) = 101 := firstN_no (fun k hk => hno k (by omega))
      refine J_iload C (dA DX2_minutesToMeeting_0 2 rfl) rfl ?_
      refine J_bipush (v := nI 100) C (dA DX2_minutesToMeeting_0 3 rfl) (by decide) ?_
      first | refine J_icmp_gt_n (tgt := 42) C (by omega) (by omega) (dA DX2_minutesToMeeting_0 4 rfl) (by decide) (fun h7 => ?_) (fun h7 => ?_) | refine J_icmp_gt_c (tgt := 42) C (by omega) (dA DX2_minutesToMeeting_0 4 rfl) (by decide) (fun h7 => ?_) (fun h7 => ?_) | refine J_icmp_gt_t (tgt := 42) C (dA DX2_minutesToMeeting_0 4 rfl) (by decide) (fun h7 => ?_) (fun h7 => ?_)
      · refine J_ldc (v := (-1000004)) C wK_RX2_24 (dA DX2_minutesToMeeting_0 24 rfl) ?_
        exact J_iret C G (dA DX2_minutesToMeeting_0 25 rfl) ⟨oi (by unfold aFB; rw [e, if_neg (by omega)]; rfl), by rw [e, show i = 101 by omega]⟩
      · exfalso; omega
    | succ n ih =>
      intro i hi hno
      have hmi := drI (M := M) hS i
      have hI := hmi.2.1
      have h31 := lt31 hI (k := t) (by omega)
      have h31q := lt31 hI (k := q) (by omega)
      refine J_iload C (dA DX2_minutesToMeeting_0 2 rfl) rfl ?_
      refine J_bipush (v := nI 100) C (dA DX2_minutesToMeeting_0 3 rfl) (by decide) ?_
      first | refine J_icmp_gt_n (tgt := 42) C (by omega) (by omega) (dA DX2_minutesToMeeting_0 4 rfl) (by decide) (fun h7 => ?_) (fun h7 => ?_) | refine J_icmp_gt_c (tgt := 42) C (by omega) (dA DX2_minutesToMeeting_0 4 rfl) (by decide) (fun h7 => ?_) (fun h7 => ?_) | refine J_icmp_gt_t (tgt := 42) C (dA DX2_minutesToMeeting_0 4 rfl) (by decide) (fun h7 => ?_) (fun h7 => ?_)
      · exfalso; omega
      · refine J_aload_n C (dA DX2_minutesToMeeting_0 5 rfl) rfl ?_
        refine G_X1_things C (by decide) wF_RX2_15 (dA DX2_minutesToMeeting_0 6 rfl) ?_
        refine J_iconst (v := nI 1) C (dA DX2_minutesToMeeting_0 7 rfl) (by decide) ?_
        refine R_ft C (by decide) rfl (by omega) (dA DX2_minutesToMeeting_0 8 rfl) ?_
        refine J_iload_n C (dA DX2_minutesToMeeting_0 9 rfl) rfl ?_
        refine Q_fk C (by decide) hI (by decide) rfl (by omega) (dA DX2_minutesToMeeting_0 10 rfl) ?_
        refine J_aload_n C (dA DX2_minutesToMeeting_0 11 rfl) rfl ?_
        refine G_X1_things C (by decide) wF_RX2_15 (dA DX2_minutesToMeeting_0 12 rfl) ?_
        refine J_iconst (v := nI 1) C (dA DX2_minutesToMeeting_0 13 rfl) (by decide) ?_
        refine R_ft C (by decide) rfl (by omega) (dA DX2_minutesToMeeting_0 14 rfl) ?_
        refine J_iload_n C (dA DX2_minutesToMeeting_0 15 rfl) rfl ?_
        refine Q_fk C (by decide) hI (by decide) rfl (by omega) (dA DX2_minutesToMeeting_0 16 rfl) ?_
        first | refine J_icmp_ne_n (tgt := 32) C (by omega) (by omega) (dA DX2_minutesToMeeting_0 17 rfl) (by decide) (fun h26 => ?_) (fun h26 => ?_) | refine J_icmp_ne_c (tgt := 32) C (by omega) (dA DX2_minutesToMeeting_0 17 rfl) (by decide) (fun h26 => ?_) (fun h26 => ?_) | refine J_icmp_ne_t (tgt := 32) C (dA DX2_minutesToMeeting_0 17 rfl) (by decide) (fun h26 => ?_) (fun h26 => ?_)
        · refine J_aload_n C (dA DX2_minutesToMeeting_0 20 rfl) rfl ?_
          refine V_X1_passMinute C (by decide) (c_drm l E hS i) wM_RX2_21 (by decide) (dA DX2_minutesToMeeting_0 21 rfl) rfl (Nat.le_of_ble_eq_true rfl) ?_
          first | refine J_inc1_4_5 C (dA DX2_minutesToMeeting_0 22 rfl) rfl ?_ | refine J_iinc_4_5 C (dA DX2_minutesToMeeting_0 22 rfl) rfl ?_
          refine J_goto (tgt := 3) C (dA DX2_minutesToMeeting_0 23 rfl) (by decide) ?_
          refine ih (i + 1) (by omega) (fun k hk => ?_)
          by_cases e : k = i
          · subst e; exact decide_eq_false (by rw [← hmi.1]; exact h26)
          · exact hno k (by omega)
        · refine J_iload C (dA DX2_minutesToMeeting_0 18 rfl) rfl ?_
          have e : fiN (mtP S t q) = i := firstN_eq (by omega) hno (decide_eq_true (by rw [← hmi.1]; exact h26))
          exact J_iret C G (dA DX2_minutesToMeeting_0 19 rfl) ⟨oi (by unfold aFB; rw [e, if_pos (by omega)]), by rw [e]⟩
  refine J_iconst (v := nI 0) C (dA DX2_minutesToMeeting_0 0 rfl) (by decide) ?_
  refine J_ist_4_5 C (dA DX2_minutesToMeeting_0 1 rfl) rfl ?_
  exact loop _ 0 (Nat.zero_add _) (fun k hk => by omega)
theorem aFB_no {P : Nat → Bool} : (if aFB P = -1000004 then Fl 1076 3 M else M) = mF 1076 P M := by
  unfold aFB mF
  by_cases h : fiN P < 101
  · rw [if_pos h, if_neg (neg_nI (by omega)), if_pos h]
  · rw [if_neg h, if_pos (by decide), if_neg h]
def eComes7 (a b : Int32) (M : jM) : jM := if inr a 0 ((iN (vb (fb 0) M) : Int) - 1) = true ∧ inr b 0 15 = true then mF 1076 (inP (vb (fb 0) M) (nv a) (nv b)) (dr M (minsS (vb (fb 0) M) (fiN (inP (vb (fb 0) M) (nv a) (nv b))))) else Fl 1076 0 M
set_option maxRecDepth 4000 in
theorem c_X7_comes (l : Launch) (E : jE) (a b : Int32) (hS : IS (vb (fb 0) M))  : K_X7_comes l E [.ref (ja E 59), .int a, .int b] M (aComes (vb (fb 0) M) a b) (eComes7 a b M) := by
  refine CT_intro (own := RX7) (by decide +kernel) rfl (by simp [Value.category]) (Nat.le_of_ble_eq_true rfl) rfl (fun X C G => ?_)
  show J E X 0 [some (.ref (ja E 59)), some (.int a), some (.int b)] [] M
  have hN := leN hS
  refine J_aload_n C (dA DX7_comes_0 0 rfl) rfl ?_
  refine G_X7_fen C wF_RX7_12 (dA DX7_comes_0 1 rfl) ?_
  refine J_iload_n C (dA DX7_comes_0 2 rfl) rfl ?_
  refine V_X1_has C (by decide) (c_X1_has l E _ (by decide) _ hS) wM_RX7_100 (by decide) (dA DX7_comes_0 3 rfl) rfl (Nat.le_of_ble_eq_true rfl) ?_
  refine J_if_eq_b (tgt := 18) C (dA DX7_comes_0 4 rfl) (by decide) (fun h8 => ?_) (fun h8 => ?_)
  · try have g8 := inr_t h8
    try have g8 := inr_f h8
    refine J_aload_n C (dA DX7_comes_0 8 rfl) rfl ?_
    refine J_ldc (v := (-1000001)) C wK_RX7_69 (dA DX7_comes_0 9 rfl) ?_
    refine V_X7_finding C (c_X7_finding l E 0 (by decide) _ (by decide)) wM_RX7_70 (by decide) (dA DX7_comes_0 10 rfl) rfl (Nat.le_of_ble_eq_true rfl) ?_
    exact J_iret C G (dA DX7_comes_0 11 rfl) ⟨oi (by unfold aComes; rw [if_neg (by rintro ⟨z1, z2⟩; try have z1 := inr_t z1; try have z2 := inr_t z2; omega)]; rfl), by unfold eComes7; rw [if_neg (by rintro ⟨z1, z2⟩; try have z1 := inr_t z1; try have z2 := inr_t z2; omega)]⟩
  · try have g8 := inr_t h8
    try have g8 := inr_f h8
    refine J_iload_n C (dA DX7_comes_0 5 rfl) rfl ?_
    refine V_X7_isPond C (c_X7_isPond l E _) wM_RX7_65 (by decide) (dA DX7_comes_0 6 rfl) rfl (Nat.le_of_ble_eq_true rfl) ?_
    refine J_if_ne_b (tgt := 25) C (dA DX7_comes_0 7 rfl) (by decide) (fun h15 => ?_) (fun h15 => ?_)
    · try have g15 := inr_t h15
      try have g15 := inr_f h15
      obtain ⟨p, hp, rfl⟩ := toNI (x := a) (n := (iN (vb (fb 0) M))) (by omega) (by omega)
      have ta := tI (n := p) (by omega)
      have na : nv (nI p) = p := nv_nI (by omega)
      obtain ⟨w, hw, rfl⟩ := toNI (x := b) (n := 16) (by omega) (by omega)
      have tb := tI (n := w) (by omega)
      have nb : nv (nI w) = w := nv_nI (by omega)
      refine J_aload_n C (dA DX7_comes_0 12 rfl) rfl ?_
      refine G_X7_draft C wF_RX7_16 (dA DX7_comes_0 13 rfl) ?_
      refine J_aload_n C (dA DX7_comes_0 14 rfl) rfl ?_
      refine G_X7_fen C wF_RX7_12 (dA DX7_comes_0 15 rfl) ?_
      refine V_X1_become C (by decide) (c_drb l E) wM_RX7_179 (by decide) (dA DX7_comes_0 16 rfl) rfl (Nat.le_of_ble_eq_true rfl) ?_
      refine J_aload_n C (dA DX7_comes_0 17 rfl) rfl ?_
      refine J_aload_n C (dA DX7_comes_0 18 rfl) rfl ?_
      refine G_X7_foresight C wF_RX7_36 (dA DX7_comes_0 19 rfl) ?_
      refine J_aload_n C (dA DX7_comes_0 20 rfl) rfl ?_
      refine G_X7_draft C wF_RX7_16 (dA DX7_comes_0 21 rfl) ?_
      refine J_iload_n C (dA DX7_comes_0 22 rfl) rfl ?_
      refine J_iload_n C (dA DX7_comes_0 23 rfl) rfl ?_
      refine V_X2_minutesTo C (c_X2_minutesTo l E hS _ _ (by omega) (by omega)) wM_RX7_182 (by decide) (dA DX7_comes_0 24 rfl) rfl (Nat.le_of_ble_eq_true rfl) ?_
      refine V_X7_findingOrAnswer C (c_X7_findingOrAnswer l E _) wM_RX7_186 (by decide) (dA DX7_comes_0 25 rfl) rfl (Nat.le_of_ble_eq_true rfl) ?_
      exact J_iret C G (dA DX7_comes_0 26 rfl) ⟨oi (by unfold aComes; rw [if_pos ⟨decide_eq_true (by omega), decide_eq_true (by omega)⟩, na, nb]), by rw [aFB_no]; unfold eComes7; rw [if_pos ⟨decide_eq_true (by omega), decide_eq_true (by omega)⟩, na, nb]⟩
    · try have g15 := inr_t h15
      try have g15 := inr_f h15
      refine J_aload_n C (dA DX7_comes_0 8 rfl) rfl ?_
      refine J_ldc (v := (-1000001)) C wK_RX7_69 (dA DX7_comes_0 9 rfl) ?_
      refine V_X7_finding C (c_X7_finding l E 0 (by decide) _ (by decide)) wM_RX7_70 (by decide) (dA DX7_comes_0 10 rfl) rfl (Nat.le_of_ble_eq_true rfl) ?_
      exact J_iret C G (dA DX7_comes_0 11 rfl) ⟨oi (by unfold aComes; rw [if_neg (by rintro ⟨z1, z2⟩; try have z1 := inr_t z1; try have z2 := inr_t z2; omega)]; rfl), by unfold eComes7; rw [if_neg (by rintro ⟨z1, z2⟩; try have z1 := inr_t z1; try have z2 := inr_t z2; omega)]⟩
def eSeen7 (a b : Int32) (M : jM) : jM := if inr a 0 ((iN (vb (fb 0) M) : Int) - 1) = true ∧ inr b 0 15 = true then mF 1076 (inP (vb (fb 0) M) (nv a) (f6 (vb (fb 0) M) (nv b) 0)) (dr M (minsS (vb (fb 0) M) (fiN (inP (vb (fb 0) M) (nv a) (f6 (vb (fb 0) M) (nv b) 0))))) else Fl 1076 0 M
set_option maxRecDepth 4000 in
theorem c_X7_seen (l : Launch) (E : jE) (a b : Int32) (hS : IS (vb (fb 0) M))  : K_X7_seen l E [.ref (ja E 59), .int a, .int b] M (aSeen (vb (fb 0) M) a b) (eSeen7 a b M) := by
  refine CT_intro (own := RX7) (by decide +kernel) rfl (by simp [Value.category]) (Nat.le_of_ble_eq_true rfl) rfl (fun X C G => ?_)
  show J E X 0 [some (.ref (ja E 59)), some (.int a), some (.int b)] [] M
  have hN := leN hS
  refine J_aload_n C (dA DX7_seen_0 0 rfl) rfl ?_
  refine G_X7_fen C wF_RX7_12 (dA DX7_seen_0 1 rfl) ?_
  refine J_iload_n C (dA DX7_seen_0 2 rfl) rfl ?_
  refine V_X1_has C (by decide) (c_X1_has l E _ (by decide) _ hS) wM_RX7_100 (by decide) (dA DX7_seen_0 3 rfl) rfl (Nat.le_of_ble_eq_true rfl) ?_
  refine J_if_eq_b (tgt := 18) C (dA DX7_seen_0 4 rfl) (by decide) (fun h8 => ?_) (fun h8 => ?_)
  · try have g8 := inr_t h8
    try have g8 := inr_f h8
    refine J_aload_n C (dA DX7_seen_0 8 rfl) rfl ?_
    refine J_ldc (v := (-1000001)) C wK_RX7_69 (dA DX7_seen_0 9 rfl) ?_
    refine V_X7_finding C (c_X7_finding l E 0 (by decide) _ (by decide)) wM_RX7_70 (by decide) (dA DX7_seen_0 10 rfl) rfl (Nat.le_of_ble_eq_true rfl) ?_
    exact J_iret C G (dA DX7_seen_0 11 rfl) ⟨oi (by unfold aSeen; rw [if_neg (by rintro ⟨z1, z2⟩; try have z1 := inr_t z1; try have z2 := inr_t z2; omega)]; rfl), by unfold eSeen7; rw [if_neg (by rintro ⟨z1, z2⟩; try have z1 := inr_t z1; try have z2 := inr_t z2; omega)]⟩
  · try have g8 := inr_t h8
    try have g8 := inr_f h8
    refine J_iload_n C (dA DX7_seen_0 5 rfl) rfl ?_
    refine V_X7_isPond C (c_X7_isPond l E _) wM_RX7_65 (by decide) (dA DX7_seen_0 6 rfl) rfl (Nat.le_of_ble_eq_true rfl) ?_
    refine J_if_ne_b (tgt := 25) C (dA DX7_seen_0 7 rfl) (by decide) (fun h15 => ?_) (fun h15 => ?_)
    · try have g15 := inr_t h15
      try have g15 := inr_f h15
      obtain ⟨p, hp, rfl⟩ := toNI (x := a) (n := (iN (vb (fb 0) M))) (by omega) (by omega)
      have ta := tI (n := p) (by omega)
      have na : nv (nI p) = p := nv_nI (by omega)
      obtain ⟨w, hw, rfl⟩ := toNI (x := b) (n := 16) (by omega) (by omega)
      have tb := tI (n := w) (by omega)
      have nb : nv (nI w) = w := nv_nI (by omega)
      have h60 := lt60 hS hw
      refine J_aload_n C (dA DX7_seen_0 12 rfl) rfl ?_
      refine G_X7_draft C wF_RX7_16 (dA DX7_seen_0 13 rfl) ?_
      refine J_aload_n C (dA DX7_seen_0 14 rfl) rfl ?_
      refine G_X7_fen C wF_RX7_12 (dA DX7_seen_0 15 rfl) ?_
      refine V_X1_become C (by decide) (c_drb l E) wM_RX7_179 (by decide) (dA DX7_seen_0 16 rfl) rfl (Nat.le_of_ble_eq_true rfl) ?_
      refine J_aload_n C (dA DX7_seen_0 17 rfl) rfl ?_
      refine J_aload_n C (dA DX7_seen_0 18 rfl) rfl ?_
      refine G_X7_foresight C wF_RX7_36 (dA DX7_seen_0 19 rfl) ?_
      refine J_aload_n C (dA DX7_seen_0 20 rfl) rfl ?_
      refine G_X7_draft C wF_RX7_16 (dA DX7_seen_0 21 rfl) ?_
      refine J_iload_n C (dA DX7_seen_0 22 rfl) rfl ?_
      refine J_aload_n C (dA DX7_seen_0 23 rfl) rfl ?_
      refine G_X7_fen C wF_RX7_12 (dA DX7_seen_0 24 rfl) ?_
      refine G_X1_ponds C (by decide) wF_RX7_80 (dA DX7_seen_0 25 rfl) ?_
      refine J_iconst (v := nI 0) C (dA DX7_seen_0 26 rfl) (by decide) ?_
      refine R_fp C (by decide) rfl (by omega) (dA DX7_seen_0 27 rfl) ?_
      refine J_iload_n C (dA DX7_seen_0 28 rfl) rfl ?_
      refine Q_fr C (by decide) (by rw [vb0_dr]; exact hS) (by decide) rfl (by omega) (dA DX7_seen_0 29 rfl) ?_
      rw [vb0_dr]
      refine V_X2_minutesTo C (c_X2_minutesTo l E hS _ _ (by omega) (by omega)) wM_RX7_182 (by decide) (dA DX7_seen_0 30 rfl) rfl (Nat.le_of_ble_eq_true rfl) ?_
      refine V_X7_findingOrAnswer C (c_X7_findingOrAnswer l E _) wM_RX7_186 (by decide) (dA DX7_seen_0 31 rfl) rfl (Nat.le_of_ble_eq_true rfl) ?_
      exact J_iret C G (dA DX7_seen_0 32 rfl) ⟨oi (by unfold aSeen; rw [if_pos ⟨decide_eq_true (by omega), decide_eq_true (by omega)⟩, na, nb]), by rw [aFB_no]; unfold eSeen7; rw [if_pos ⟨decide_eq_true (by omega), decide_eq_true (by omega)⟩, na, nb]⟩
    · try have g15 := inr_t h15
      try have g15 := inr_f h15
      refine J_aload_n C (dA DX7_seen_0 8 rfl) rfl ?_
      refine J_ldc (v := (-1000001)) C wK_RX7_69 (dA DX7_seen_0 9 rfl) ?_
      refine V_X7_finding C (c_X7_finding l E 0 (by decide) _ (by decide)) wM_RX7_70 (by decide) (dA DX7_seen_0 10 rfl) rfl (Nat.le_of_ble_eq_true rfl) ?_
      exact J_iret C G (dA DX7_seen_0 11 rfl) ⟨oi (by unfold aSeen; rw [if_neg (by rintro ⟨z1, z2⟩; try have z1 := inr_t z1; try have z2 := inr_t z2; omega)]; rfl), by unfold eSeen7; rw [if_neg (by rintro ⟨z1, z2⟩; try have z1 := inr_t z1; try have z2 := inr_t z2; omega)]⟩
def eMeet7 (a b : Int32) (M : jM) : jM := if inr a 0 ((iN (vb (fb 0) M) : Int) - 1) = true ∧ inr b 0 ((iN (vb (fb 0) M) : Int) - 1) = true ∧ ¬ a = b then mF 1076 (mtP (vb (fb 0) M) (nv a) (nv b)) (dr M (minsS (vb (fb 0) M) (fiN (mtP (vb (fb 0) M) (nv a) (nv b))))) else Fl 1076 0 M
set_option maxRecDepth 4000 in
theorem c_X7_meet (l : Launch) (E : jE) (a b : Int32) (hS : IS (vb (fb 0) M))  : K_X7_meet l E [.ref (ja E 59), .int a, .int b] M (aMeet (vb (fb 0) M) a b) (eMeet7 a b M) := by
  refine CT_intro (own := RX7) (by decide +kernel) rfl (by simp [Value.category]) (Nat.le_of_ble_eq_true rfl) rfl (fun X C G => ?_)
  show J E X 0 [some (.ref (ja E 59)), some (.int a), some (.int b)] [] M
  have hN := leN hS
  refine J_aload_n C (dA DX7_meet_0 0 rfl) rfl ?_
  refine G_X7_fen C wF_RX7_12 (dA DX7_meet_0 1 rfl) ?_
  refine J_iload_n C (dA DX7_meet_0 2 rfl) rfl ?_
  refine V_X1_has C (by decide) (c_X1_has l E _ (by decide) _ hS) wM_RX7_100 (by decide) (dA DX7_meet_0 3 rfl) rfl (Nat.le_of_ble_eq_true rfl) ?_
  refine J_if_eq_b (tgt := 27) C (dA DX7_meet_0 4 rfl) (by decide) (fun h8 => ?_) (fun h8 => ?_)
  · try have g8 := inr_t h8
    try have g8 := inr_f h8
    refine J_aload_n C (dA DX7_meet_0 13 rfl) rfl ?_
    refine J_ldc (v := (-1000001)) C wK_RX7_69 (dA DX7_meet_0 14 rfl) ?_
    refine V_X7_finding C (c_X7_finding l E 0 (by decide) _ (by decide)) wM_RX7_70 (by decide) (dA DX7_meet_0 15 rfl) rfl (Nat.le_of_ble_eq_true rfl) ?_
    exact J_iret C G (dA DX7_meet_0 16 rfl) ⟨oi (by unfold aMeet; rw [if_neg (by rintro ⟨z1, z2, z3⟩; have z1 := inr_t z1; have z2 := inr_t z2; omega)]; rfl), by unfold eMeet7; rw [if_neg (by rintro ⟨z1, z2, z3⟩; have z1 := inr_t z1; have z2 := inr_t z2; omega)]⟩
  · try have g8 := inr_t h8
    try have g8 := inr_f h8
    refine J_aload_n C (dA DX7_meet_0 5 rfl) rfl ?_
    refine G_X7_fen C wF_RX7_12 (dA DX7_meet_0 6 rfl) ?_
    refine J_iload_n C (dA DX7_meet_0 7 rfl) rfl ?_
    refine V_X1_has C (by decide) (c_X1_has l E _ (by decide) _ hS) wM_RX7_100 (by decide) (dA DX7_meet_0 8 rfl) rfl (Nat.le_of_ble_eq_true rfl) ?_
    refine J_if_eq_b (tgt := 27) C (dA DX7_meet_0 9 rfl) (by decide) (fun h19 => ?_) (fun h19 => ?_)
    · try have g19 := inr_t h19
      try have g19 := inr_f h19
      refine J_aload_n C (dA DX7_meet_0 13 rfl) rfl ?_
      refine J_ldc (v := (-1000001)) C wK_RX7_69 (dA DX7_meet_0 14 rfl) ?_
      refine V_X7_finding C (c_X7_finding l E 0 (by decide) _ (by decide)) wM_RX7_70 (by decide) (dA DX7_meet_0 15 rfl) rfl (Nat.le_of_ble_eq_true rfl) ?_
      exact J_iret C G (dA DX7_meet_0 16 rfl) ⟨oi (by unfold aMeet; rw [if_neg (by rintro ⟨z1, z2, z3⟩; have z1 := inr_t z1; have z2 := inr_t z2; omega)]; rfl), by unfold eMeet7; rw [if_neg (by rintro ⟨z1, z2, z3⟩; have z1 := inr_t z1; have z2 := inr_t z2; omega)]⟩
    · try have g19 := inr_t h19
      try have g19 := inr_f h19
      refine J_iload_n C (dA DX7_meet_0 10 rfl) rfl ?_
      refine J_iload_n C (dA DX7_meet_0 11 rfl) rfl ?_
      refine J_icmp_ne (tgt := 34) C (dA DX7_meet_0 12 rfl) (by decide) (fun h24 => ?_) (fun h24 => ?_)
      · have hab : ¬ a = b := h24
        obtain ⟨p, hp, rfl⟩ := toNI (x := a) (n := (iN (vb (fb 0) M))) (by omega) (by omega)
        have ta := tI (n := p) (by omega)
        have na : nv (nI p) = p := nv_nI (by omega)
        obtain ⟨w, hw, rfl⟩ := toNI (x := b) (n := (iN (vb (fb 0) M))) (by omega) (by omega)
        have tb := tI (n := w) (by omega)
        have nb : nv (nI w) = w := nv_nI (by omega)
        have hpw : p ≠ w := fun z => hab (by rw [z])
        refine J_aload_n C (dA DX7_meet_0 17 rfl) rfl ?_
        refine G_X7_draft C wF_RX7_16 (dA DX7_meet_0 18 rfl) ?_
        refine J_aload_n C (dA DX7_meet_0 19 rfl) rfl ?_
        refine G_X7_fen C wF_RX7_12 (dA DX7_meet_0 20 rfl) ?_
        refine V_X1_become C (by decide) (c_drb l E) wM_RX7_179 (by decide) (dA DX7_meet_0 21 rfl) rfl (Nat.le_of_ble_eq_true rfl) ?_
        refine J_aload_n C (dA DX7_meet_0 22 rfl) rfl ?_
        refine J_aload_n C (dA DX7_meet_0 23 rfl) rfl ?_
        refine G_X7_foresight C wF_RX7_36 (dA DX7_meet_0 24 rfl) ?_
        refine J_aload_n C (dA DX7_meet_0 25 rfl) rfl ?_
        refine G_X7_draft C wF_RX7_16 (dA DX7_meet_0 26 rfl) ?_
        refine J_iload_n C (dA DX7_meet_0 27 rfl) rfl ?_
        refine J_iload_n C (dA DX7_meet_0 28 rfl) rfl ?_
        refine V_X2_minutesToMeeting C (c_X2_minutesToMeeting l E hS _ _ (by omega) (by omega)) wM_RX7_189 (by decide) (dA DX7_meet_0 29 rfl) rfl (Nat.le_of_ble_eq_true rfl) ?_
        refine V_X7_findingOrAnswer C (c_X7_findingOrAnswer l E _) wM_RX7_186 (by decide) (dA DX7_meet_0 30 rfl) rfl (Nat.le_of_ble_eq_true rfl) ?_
        exact J_iret C G (dA DX7_meet_0 31 rfl) ⟨oi (by unfold aMeet; rw [if_pos ⟨decide_eq_true (by omega), decide_eq_true (by omega), hab⟩, na, nb]), by rw [aFB_no]; unfold eMeet7; rw [if_pos ⟨decide_eq_true (by omega), decide_eq_true (by omega), hab⟩, na, nb]⟩
      · refine J_aload_n C (dA DX7_meet_0 13 rfl) rfl ?_
        refine J_ldc (v := (-1000001)) C wK_RX7_69 (dA DX7_meet_0 14 rfl) ?_
        refine V_X7_finding C (c_X7_finding l E 0 (by decide) _ (by decide)) wM_RX7_70 (by decide) (dA DX7_meet_0 15 rfl) rfl (Nat.le_of_ble_eq_true rfl) ?_
        exact J_iret C G (dA DX7_meet_0 16 rfl) ⟨oi (by unfold aMeet; rw [if_neg (by rintro ⟨z1, z2, z3⟩; exact z3 h24)]; rfl), by unfold eMeet7; rw [if_neg (by rintro ⟨z1, z2, z3⟩; exact z3 h24)]⟩
theorem f6_move {S : Nat → Int32} (h : IS S) {p w : Nat} (hp : p < 16) (hw : w < 6) : ∀ k, k ≤ 8 → f6 (moveS S k) p w = f6 S p w
  | 0, _ => rfl
  | k + 1, hk => by
    rw [← f6_move h hp hw k (by omega)]
    show nv (upd (moveS S k) _ _ _) = _
    rw [pk_un (by omega)]; rfl
theorem f6_min {S : Nat → Int32} (h : IS S) {p w : Nat} (hp : p < 16) (hw : w < 6) : f6 (minS S) p w = f6 S p w := by
  rw [← f6_move h hp hw _ (leN h)]
  show nv (upd (moveS S (iN S)) _ _ _) = _
  rw [pk_un (by omega)]; rfl
theorem f6_mins {S : Nat → Int32} (h : IS S) : ∀ n {p w : Nat}, p < 16 → w < 6 → f6 (minsS S n) p w = f6 S p w
  | 0, _, _, _, _ => rfl
  | n + 1, _, _, hp, hw => (f6_min (IS_mins h n).1 hp hw).trans (f6_mins h n hp hw)
set_option maxRecDepth 4000 in
theorem c_X8_firstBy_0 (l : Launch) (E : jE) (t q : Nat) (ht : t < iN (vb 1100 M)) (hq : q < 16) (hS : IS (vb 1100 M))  : K_X8_firstBy l E [.ref (ja E 60), .int (nI t), .int (nI q), .int (nI 0)] M (aFB (inP (vb 1100 M) t q)) (mF 1502 (inP (vb 1100 M) t q) (asd M)) := by
  refine CT_intro (own := RX8) (by decide +kernel) rfl (by simp [Value.category]) (Nat.le_of_ble_eq_true rfl) rfl (fun X C G => ?_)
  show J E X 0 [some (.ref (ja E 60)), some (.int (nI t)), some (.int (nI q)), some (.int (nI 0)), none, none, none] [] M
  have hN := leN hS
  have hA : ∀ T, lay 1100 (lay 1100 (asd M) T) (vb 1368 (lay 1100 (asd M) T)) = asd M := fun T => asd_back
  have loop : ∀ n i (o : Option Value), jok [some (.ref (ja E 60)), some (.int (nI t)), some (.int (nI q)), some (.int (nI 0)), some (.int (nI i)), some (.int (nI 0)), o] 6 = true → i + n = 101 → (∀ k, k < i → (inP (vb 1100 M) t q) k = false) → J E X 10 [some (.ref (ja E 60)), some (.int (nI t)), some (.int (nI q)), some (.int (nI 0)), some (.int (nI i)), some (.int (nI 0)), o] [] (lay 1100 (asd M) (minsS (vb 1100 M) i)) := by
    intro n
    induction n with
    | zero =>
      intro i o ho hi hno
      have e : fiN (inP (vb 1100 M) t q) = 101 := firstN_no (fun k hk => hno k (by omega))
      refine J_iload C (dA DX8_firstBy_0 6 rfl) rfl ?_
      refine J_bipush (v := nI 100) C (dA DX8_firstBy_0 7 rfl) (by decide) ?_
      first | refine J_icmp_gt_n (tgt := 85) C (by omega) (by omega) (dA DX8_firstBy_0 8 rfl) (by decide) (fun h14 => ?_) (fun h14 => ?_) | refine J_icmp_gt_c (tgt := 85) C (by omega) (dA DX8_firstBy_0 8 rfl) (by decide) (fun h14 => ?_) (fun h14 => ?_) | refine J_icmp_gt_t (tgt := 85) C (dA DX8_firstBy_0 8 rfl) (by decide) (fun h14 => ?_) (fun h14 => ?_)
      · try have g14 := inr_t h14
        try have g14 := inr_f h14
        refine J_aload_n C (dA DX8_firstBy_0 44 rfl) rfl ?_
        refine V_X8_laysBack C (c_X8_laysBack l E) wM_RX8_168 (by decide) (dA DX8_firstBy_0 45 rfl) rfl (Nat.le_of_ble_eq_true rfl) ?_
        rw [hA]
        refine J_iload C (dA DX8_firstBy_0 46 rfl) rfl ?_
        refine J_if_eq_n (tgt := 99) C (by decide) (dA DX8_firstBy_0 47 rfl) (by decide) (fun h91 => ?_) (fun h91 => ?_)
        · try have g91 := inr_t h91
          try have g91 := inr_f h91
          refine J_aload_n C (dA DX8_firstBy_0 50 rfl) rfl ?_
          refine J_iconst (v := nI 3) C (dA DX8_firstBy_0 51 rfl) (by decide) ?_
          refine V_X8_no C (c_X8_no l E _ (by decide)) wM_RX8_106 (by decide) (dA DX8_firstBy_0 52 rfl) rfl (Nat.le_of_ble_eq_true rfl) ?_
          exact J_iret C G (dA DX8_firstBy_0 53 rfl) ⟨oi (by unfold aFB; rw [e, if_neg (by omega)]; rfl), by unfold mF; rw [e, if_neg (by omega)]⟩
        · exact absurd h91 (by decide)
      · exfalso; omega
    | succ n ih =>
      intro i o ho hi hno
      have hmi := miI (M := asd M) hS i
      have hI := hmi.2.1
      have h31 := lt31 hI (k := t) (by omega)
      refine J_iload C (dA DX8_firstBy_0 6 rfl) rfl ?_
      refine J_bipush (v := nI 100) C (dA DX8_firstBy_0 7 rfl) (by decide) ?_
      first | refine J_icmp_gt_n (tgt := 85) C (by omega) (by omega) (dA DX8_firstBy_0 8 rfl) (by decide) (fun h14 => ?_) (fun h14 => ?_) | refine J_icmp_gt_c (tgt := 85) C (by omega) (dA DX8_firstBy_0 8 rfl) (by decide) (fun h14 => ?_) (fun h14 => ?_) | refine J_icmp_gt_t (tgt := 85) C (dA DX8_firstBy_0 8 rfl) (by decide) (fun h14 => ?_) (fun h14 => ?_)
      · exfalso; omega
      · try have g14 := inr_t h14
        try have g14 := inr_f h14
        refine J_iload C (dA DX8_firstBy_0 9 rfl) rfl ?_
        refine J_if_ne_n (tgt := 85) C (by decide) (dA DX8_firstBy_0 10 rfl) (by decide) (fun h19 => ?_) (fun h19 => ?_)
        · exact absurd h19 (by decide)
        · try have g19 := inr_t h19
          try have g19 := inr_f h19
          refine J_aload_n C (dA DX8_firstBy_0 11 rfl) rfl ?_
          refine J_iload_n C (dA DX8_firstBy_0 12 rfl) rfl ?_
          refine J_iconst (v := nI 1) C (dA DX8_firstBy_0 13 rfl) (by decide) ?_
          refine V_X8_get C (c_X8_get l E t 1 (by omega) (by decide) hI) wM_RX8_62 (by decide) (dA DX8_firstBy_0 14 rfl) rfl (Nat.le_of_ble_eq_true rfl) ?_
          refine J_ist_6_7 C (dA DX8_firstBy_0 15 rfl) ho ?_
          refine J_iload C (dA DX8_firstBy_0 16 rfl) rfl ?_
          refine J_iload_n C (dA DX8_firstBy_0 17 rfl) rfl ?_
          refine J_if_ne_n (tgt := 40) C (by decide) (dA DX8_firstBy_0 18 rfl) (by decide) (fun h33 => ?_) (fun h33 => ?_)
          · exact absurd h33 (by decide)
          · try have g33 := inr_t h33
            try have g33 := inr_f h33
            refine J_iload_n C (dA DX8_firstBy_0 19 rfl) rfl ?_
            refine J_goto (tgt := 60) C (dA DX8_firstBy_0 20 rfl) (by decide) ?_
            refine J_icmp_ne_n (tgt := 67) C (by omega) (by omega) (dA DX8_firstBy_0 33 rfl) (by decide) (fun h60 => ?_) (fun h60 => ?_)
            · try have g60 := inr_t h60
              try have g60 := inr_f h60
              refine J_iconst (v := nI 0) C (dA DX8_firstBy_0 36 rfl) (by decide) ?_
              refine J_ist_5_7 C (dA DX8_firstBy_0 37 rfl) rfl ?_
              refine J_iload C (dA DX8_firstBy_0 38 rfl) rfl ?_
              refine J_if_ne_n (tgt := 82) C (by decide) (dA DX8_firstBy_0 39 rfl) (by decide) (fun h72 => ?_) (fun h72 => ?_)
              · exact absurd h72 (by decide)
              · try have g72 := inr_t h72
                try have g72 := inr_f h72
                refine J_aload_n C (dA DX8_firstBy_0 40 rfl) rfl ?_
                refine V_X8_minute C (c_mim l E hS i) wM_RX8_119 (by decide) (dA DX8_firstBy_0 41 rfl) rfl (Nat.le_of_ble_eq_true rfl) ?_
                first | refine J_inc1_4_7 C (dA DX8_firstBy_0 42 rfl) rfl ?_ | refine J_iinc_4_7 C (dA DX8_firstBy_0 42 rfl) rfl ?_
                refine J_goto (tgt := 10) C (dA DX8_firstBy_0 43 rfl) (by decide) ?_
                rw [hmi.1] at h60
                refine ih (i + 1) (some (.int (nI (f3 (vb 1100 (lay 1100 (asd M) (minsS (vb 1100 M) i))) t 1)))) rfl (by omega) (fun k hk => ?_)
                by_cases e : k = i
                · subst e; exact decide_eq_false h60
                · exact hno k (by omega)
            · try have g60 := inr_t h60
              try have g60 := inr_f h60
              refine J_iconst (v := nI 1) C (dA DX8_firstBy_0 34 rfl) (by decide) ?_
              refine J_goto (tgt := 68) C (dA DX8_firstBy_0 35 rfl) (by decide) ?_
              refine J_ist_5_7 C (dA DX8_firstBy_0 37 rfl) rfl ?_
              refine J_iload C (dA DX8_firstBy_0 38 rfl) rfl ?_
              refine J_if_ne_n (tgt := 82) C (by decide) (dA DX8_firstBy_0 39 rfl) (by decide) (fun h72 => ?_) (fun h72 => ?_)
              · try have g72 := inr_t h72
                try have g72 := inr_f h72
                refine J_goto (tgt := 10) C (dA DX8_firstBy_0 43 rfl) (by decide) ?_
                refine J_iload C (dA DX8_firstBy_0 6 rfl) rfl ?_
                refine J_bipush (v := nI 100) C (dA DX8_firstBy_0 7 rfl) (by decide) ?_
                first | refine J_icmp_gt_n (tgt := 85) C (by omega) (by omega) (dA DX8_firstBy_0 8 rfl) (by decide) (fun h14 => ?_) (fun h14 => ?_) | refine J_icmp_gt_c (tgt := 85) C (by omega) (dA DX8_firstBy_0 8 rfl) (by decide) (fun h14 => ?_) (fun h14 => ?_) | refine J_icmp_gt_t (tgt := 85) C (dA DX8_firstBy_0 8 rfl) (by decide) (fun h14 => ?_) (fun h14 => ?_)
                · exfalso; omega
                · try have g14 := inr_t h14
                  try have g14 := inr_f h14
                  refine J_iload C (dA DX8_firstBy_0 9 rfl) rfl ?_
                  refine J_if_ne_n (tgt := 85) C (by decide) (dA DX8_firstBy_0 10 rfl) (by decide) (fun h19 => ?_) (fun h19 => ?_)
                  · try have g19 := inr_t h19
                    try have g19 := inr_f h19
                    rw [hmi.1] at h60
                    have e : fiN (inP (vb 1100 M) t q) = i := firstN_eq (by omega) hno (decide_eq_true h60)
                    refine J_aload_n C (dA DX8_firstBy_0 44 rfl) rfl ?_
                    refine V_X8_laysBack C (c_X8_laysBack l E) wM_RX8_168 (by decide) (dA DX8_firstBy_0 45 rfl) rfl (Nat.le_of_ble_eq_true rfl) ?_
                    rw [hA]
                    refine J_iload C (dA DX8_firstBy_0 46 rfl) rfl ?_
                    refine J_if_eq_n (tgt := 99) C (by decide) (dA DX8_firstBy_0 47 rfl) (by decide) (fun h91 => ?_) (fun h91 => ?_)
                    · exact absurd h91 (by decide)
                    · try have g91 := inr_t h91
                      try have g91 := inr_f h91
                      refine J_iload C (dA DX8_firstBy_0 48 rfl) rfl ?_
                      refine J_goto (tgt := 104) C (dA DX8_firstBy_0 49 rfl) (by decide) ?_
                      exact J_iret C G (dA DX8_firstBy_0 53 rfl) ⟨oi (by unfold aFB; rw [e, if_pos (by omega)]), by unfold mF; rw [e, if_pos (by omega)]⟩
                  · exact absurd h19 (by decide)
              · exact absurd h72 (by decide)
  refine J_aload_n C (dA DX8_firstBy_0 0 rfl) rfl ?_
  refine V_X8_setsAside C (c_X8_setsAside l E) wM_RX8_165 (by decide) (dA DX8_firstBy_0 1 rfl) rfl (Nat.le_of_ble_eq_true rfl) ?_
  refine J_iconst (v := nI 0) C (dA DX8_firstBy_0 2 rfl) (by decide) ?_
  refine J_ist_4_7 C (dA DX8_firstBy_0 3 rfl) rfl ?_
  refine J_iconst (v := nI 0) C (dA DX8_firstBy_0 4 rfl) (by decide) ?_
  refine J_ist_5_7 C (dA DX8_firstBy_0 5 rfl) rfl ?_
  have h := loop _ 0 none rfl (Nat.zero_add _) (fun k hk => by omega)
  rw [show lay 1100 (asd M) (minsS (vb 1100 M) 0) = asd M by rw [← vb_asd (M := M)]; exact lay_vb] at h
  exact h
set_option maxRecDepth 4000 in
theorem c_X8_firstBy_1 (l : Launch) (E : jE) (t q : Nat) (ht : t < iN (vb 1100 M)) (hq : q < 16) (hS : IS (vb 1100 M))  : K_X8_firstBy l E [.ref (ja E 60), .int (nI t), .int (nI q), .int (nI 1)] M (aFB (inP (vb 1100 M) t (f6 (vb 1100 M) q 0))) (mF 1502 (inP (vb 1100 M) t (f6 (vb 1100 M) q 0)) (asd M)) := by
  refine CT_intro (own := RX8) (by decide +kernel) rfl (by simp [Value.category]) (Nat.le_of_ble_eq_true rfl) rfl (fun X C G => ?_)
  show J E X 0 [some (.ref (ja E 60)), some (.int (nI t)), some (.int (nI q)), some (.int (nI 1)), none, none, none] [] M
  have hN := leN hS
  have hA : ∀ T, lay 1100 (lay 1100 (asd M) T) (vb 1368 (lay 1100 (asd M) T)) = asd M := fun T => asd_back
  have loop : ∀ n i (o : Option Value), jok [some (.ref (ja E 60)), some (.int (nI t)), some (.int (nI q)), some (.int (nI 1)), some (.int (nI i)), some (.int (nI 0)), o] 6 = true → i + n = 101 → (∀ k, k < i → (inP (vb 1100 M) t (f6 (vb 1100 M) q 0)) k = false) → J E X 10 [some (.ref (ja E 60)), some (.int (nI t)), some (.int (nI q)), some (.int (nI 1)), some (.int (nI i)), some (.int (nI 0)), o] [] (lay 1100 (asd M) (minsS (vb 1100 M) i)) := by
    intro n
    induction n with
    | zero =>
      intro i o ho hi hno
      have e : fiN (inP (vb 1100 M) t (f6 (vb 1100 M) q 0)) = 101 := firstN_no (fun k hk => hno k (by omega))
      refine J_iload C (dA DX8_firstBy_0 6 rfl) rfl ?_
      refine J_bipush (v := nI 100) C (dA DX8_firstBy_0 7 rfl) (by decide) ?_
      first | refine J_icmp_gt_n (tgt := 85) C (by omega) (by omega) (dA DX8_firstBy_0 8 rfl) (by decide) (fun h14 => ?_) (fun h14 => ?_) | refine J_icmp_gt_c (tgt := 85) C (by omega) (dA DX8_firstBy_0 8 rfl) (by decide) (fun h14 => ?_) (fun h14 => ?_) | refine J_icmp_gt_t (tgt := 85) C (dA DX8_firstBy_0 8 rfl) (by decide) (fun h14 => ?_) (fun h14 => ?_)
      · try have g14 := inr_t h14
        try have g14 := inr_f h14
        refine J_aload_n C (dA DX8_firstBy_0 44 rfl) rfl ?_
        refine V_X8_laysBack C (c_X8_laysBack l E) wM_RX8_168 (by decide) (dA DX8_firstBy_0 45 rfl) rfl (Nat.le_of_ble_eq_true rfl) ?_
        rw [hA]
        refine J_iload C (dA DX8_firstBy_0 46 rfl) rfl ?_
        refine J_if_eq_n (tgt := 99) C (by decide) (dA DX8_firstBy_0 47 rfl) (by decide) (fun h91 => ?_) (fun h91 => ?_)
        · try have g91 := inr_t h91
          try have g91 := inr_f h91
          refine J_aload_n C (dA DX8_firstBy_0 50 rfl) rfl ?_
          refine J_iconst (v := nI 3) C (dA DX8_firstBy_0 51 rfl) (by decide) ?_
          refine V_X8_no C (c_X8_no l E _ (by decide)) wM_RX8_106 (by decide) (dA DX8_firstBy_0 52 rfl) rfl (Nat.le_of_ble_eq_true rfl) ?_
          exact J_iret C G (dA DX8_firstBy_0 53 rfl) ⟨oi (by unfold aFB; rw [e, if_neg (by omega)]; rfl), by unfold mF; rw [e, if_neg (by omega)]⟩
        · exact absurd h91 (by decide)
      · exfalso; omega
    | succ n ih =>
      intro i o ho hi hno
      have hmi := miI (M := asd M) hS i
      have hI := hmi.2.1
      have h31 := lt31 hI (k := t) (by omega)
      have h60 := lt60 hI (p := q) (by omega)
      have e60 : f6 (vb 1100 (lay 1100 (asd M) (minsS (vb 1100 M) i))) q 0 = f6 (vb 1100 M) q 0 := by rw [hmi.1]; exact f6_mins hS i (by omega) (by decide)
      refine J_iload C (dA DX8_firstBy_0 6 rfl) rfl ?_
      refine J_bipush (v := nI 100) C (dA DX8_firstBy_0 7 rfl) (by decide) ?_
      first | refine J_icmp_gt_n (tgt := 85) C (by omega) (by omega) (dA DX8_firstBy_0 8 rfl) (by decide) (fun h14 => ?_) (fun h14 => ?_) | refine J_icmp_gt_c (tgt := 85) C (by omega) (dA DX8_firstBy_0 8 rfl) (by decide) (fun h14 => ?_) (fun h14 => ?_) | refine J_icmp_gt_t (tgt := 85) C (dA DX8_firstBy_0 8 rfl) (by decide) (fun h14 => ?_) (fun h14 => ?_)
      · exfalso; omega
      · try have g14 := inr_t h14
        try have g14 := inr_f h14
        refine J_iload C (dA DX8_firstBy_0 9 rfl) rfl ?_
        refine J_if_ne_n (tgt := 85) C (by decide) (dA DX8_firstBy_0 10 rfl) (by decide) (fun h19 => ?_) (fun h19 => ?_)
        · exact absurd h19 (by decide)
        · try have g19 := inr_t h19
          try have g19 := inr_f h19
          refine J_aload_n C (dA DX8_firstBy_0 11 rfl) rfl ?_
          refine J_iload_n C (dA DX8_firstBy_0 12 rfl) rfl ?_
          refine J_iconst (v := nI 1) C (dA DX8_firstBy_0 13 rfl) (by decide) ?_
          refine V_X8_get C (c_X8_get l E t 1 (by omega) (by decide) hI) wM_RX8_62 (by decide) (dA DX8_firstBy_0 14 rfl) rfl (Nat.le_of_ble_eq_true rfl) ?_
          refine J_ist_6_7 C (dA DX8_firstBy_0 15 rfl) ho ?_
          refine J_iload C (dA DX8_firstBy_0 16 rfl) rfl ?_
          refine J_iload_n C (dA DX8_firstBy_0 17 rfl) rfl ?_
          refine J_if_ne_n (tgt := 40) C (by decide) (dA DX8_firstBy_0 18 rfl) (by decide) (fun h33 => ?_) (fun h33 => ?_)
          · try have g33 := inr_t h33
            try have g33 := inr_f h33
            refine J_iload_n C (dA DX8_firstBy_0 21 rfl) rfl ?_
            refine J_iconst (v := nI 1) C (dA DX8_firstBy_0 22 rfl) (by decide) ?_
            refine J_icmp_ne_n (tgt := 54) C (by decide) (by decide) (dA DX8_firstBy_0 23 rfl) (by decide) (fun h42 => ?_) (fun h42 => ?_)
            · exact absurd h42 (by decide)
            · try have g42 := inr_t h42
              try have g42 := inr_f h42
              refine J_aload_n C (dA DX8_firstBy_0 24 rfl) rfl ?_
              refine J_iload_n C (dA DX8_firstBy_0 25 rfl) rfl ?_
              refine J_iconst (v := nI 0) C (dA DX8_firstBy_0 26 rfl) (by decide) ?_
              refine V_X8_of1 C (c_X8_of1 l E q 0 (by omega) (by decide) hI) wM_RX8_66 (by decide) (dA DX8_firstBy_0 27 rfl) rfl (Nat.le_of_ble_eq_true rfl) ?_
              refine J_goto (tgt := 60) C (dA DX8_firstBy_0 28 rfl) (by decide) ?_
              refine J_icmp_ne_n (tgt := 67) C (by omega) (by omega) (dA DX8_firstBy_0 33 rfl) (by decide) (fun h60 => ?_) (fun h60 => ?_)
              · try have g60 := inr_t h60
                try have g60 := inr_f h60
                refine J_iconst (v := nI 0) C (dA DX8_firstBy_0 36 rfl) (by decide) ?_
                refine J_ist_5_7 C (dA DX8_firstBy_0 37 rfl) rfl ?_
                refine J_iload C (dA DX8_firstBy_0 38 rfl) rfl ?_
                refine J_if_ne_n (tgt := 82) C (by decide) (dA DX8_firstBy_0 39 rfl) (by decide) (fun h72 => ?_) (fun h72 => ?_)
                · exact absurd h72 (by decide)
                · try have g72 := inr_t h72
                  try have g72 := inr_f h72
                  refine J_aload_n C (dA DX8_firstBy_0 40 rfl) rfl ?_
                  refine V_X8_minute C (c_mim l E hS i) wM_RX8_119 (by decide) (dA DX8_firstBy_0 41 rfl) rfl (Nat.le_of_ble_eq_true rfl) ?_
                  first | refine J_inc1_4_7 C (dA DX8_firstBy_0 42 rfl) rfl ?_ | refine J_iinc_4_7 C (dA DX8_firstBy_0 42 rfl) rfl ?_
                  refine J_goto (tgt := 10) C (dA DX8_firstBy_0 43 rfl) (by decide) ?_
                  rw [e60, hmi.1] at h60
                  refine ih (i + 1) (some (.int (nI (f3 (vb 1100 (lay 1100 (asd M) (minsS (vb 1100 M) i))) t 1)))) rfl (by omega) (fun k hk => ?_)
                  by_cases e : k = i
                  · subst e; exact decide_eq_false h60
                  · exact hno k (by omega)
              · try have g60 := inr_t h60
                try have g60 := inr_f h60
                refine J_iconst (v := nI 1) C (dA DX8_firstBy_0 34 rfl) (by decide) ?_
                refine J_goto (tgt := 68) C (dA DX8_firstBy_0 35 rfl) (by decide) ?_
                refine J_ist_5_7 C (dA DX8_firstBy_0 37 rfl) rfl ?_
                refine J_iload C (dA DX8_firstBy_0 38 rfl) rfl ?_
                refine J_if_ne_n (tgt := 82) C (by decide) (dA DX8_firstBy_0 39 rfl) (by decide) (fun h72 => ?_) (fun h72 => ?_)
                · try have g72 := inr_t h72
                  try have g72 := inr_f h72
                  refine J_goto (tgt := 10) C (dA DX8_firstBy_0 43 rfl) (by decide) ?_
                  refine J_iload C (dA DX8_firstBy_0 6 rfl) rfl ?_
                  refine J_bipush (v := nI 100) C (dA DX8_firstBy_0 7 rfl) (by decide) ?_
                  first | refine J_icmp_gt_n (tgt := 85) C (by omega) (by omega) (dA DX8_firstBy_0 8 rfl) (by decide) (fun h14 => ?_) (fun h14 => ?_) | refine J_icmp_gt_c (tgt := 85) C (by omega) (dA DX8_firstBy_0 8 rfl) (by decide) (fun h14 => ?_) (fun h14 => ?_) | refine J_icmp_gt_t (tgt := 85) C (dA DX8_firstBy_0 8 rfl) (by decide) (fun h14 => ?_) (fun h14 => ?_)
                  · exfalso; omega
                  · try have g14 := inr_t h14
                    try have g14 := inr_f h14
                    refine J_iload C (dA DX8_firstBy_0 9 rfl) rfl ?_
                    refine J_if_ne_n (tgt := 85) C (by decide) (dA DX8_firstBy_0 10 rfl) (by decide) (fun h19 => ?_) (fun h19 => ?_)
                    · try have g19 := inr_t h19
                      try have g19 := inr_f h19
                      rw [e60, hmi.1] at h60
                      have e : fiN (inP (vb 1100 M) t (f6 (vb 1100 M) q 0)) = i := firstN_eq (by omega) hno (decide_eq_true h60)
                      refine J_aload_n C (dA DX8_firstBy_0 44 rfl) rfl ?_
                      refine V_X8_laysBack C (c_X8_laysBack l E) wM_RX8_168 (by decide) (dA DX8_firstBy_0 45 rfl) rfl (Nat.le_of_ble_eq_true rfl) ?_
                      rw [hA]
                      refine J_iload C (dA DX8_firstBy_0 46 rfl) rfl ?_
                      refine J_if_eq_n (tgt := 99) C (by decide) (dA DX8_firstBy_0 47 rfl) (by decide) (fun h91 => ?_) (fun h91 => ?_)
                      · exact absurd h91 (by decide)
                      · try have g91 := inr_t h91
                        try have g91 := inr_f h91
                        refine J_iload C (dA DX8_firstBy_0 48 rfl) rfl ?_
                        refine J_goto (tgt := 104) C (dA DX8_firstBy_0 49 rfl) (by decide) ?_
                        exact J_iret C G (dA DX8_firstBy_0 53 rfl) ⟨oi (by unfold aFB; rw [e, if_pos (by omega)]), by unfold mF; rw [e, if_pos (by omega)]⟩
                    · exact absurd h19 (by decide)
                · exact absurd h72 (by decide)
          · exact absurd h33 (by decide)
  refine J_aload_n C (dA DX8_firstBy_0 0 rfl) rfl ?_
  refine V_X8_setsAside C (c_X8_setsAside l E) wM_RX8_165 (by decide) (dA DX8_firstBy_0 1 rfl) rfl (Nat.le_of_ble_eq_true rfl) ?_
  refine J_iconst (v := nI 0) C (dA DX8_firstBy_0 2 rfl) (by decide) ?_
  refine J_ist_4_7 C (dA DX8_firstBy_0 3 rfl) rfl ?_
  refine J_iconst (v := nI 0) C (dA DX8_firstBy_0 4 rfl) (by decide) ?_
  refine J_ist_5_7 C (dA DX8_firstBy_0 5 rfl) rfl ?_
  have h := loop _ 0 none rfl (Nat.zero_add _) (fun k hk => by omega)
  rw [show lay 1100 (asd M) (minsS (vb 1100 M) 0) = asd M by rw [← vb_asd (M := M)]; exact lay_vb] at h
  exact h
set_option maxRecDepth 4000 in
theorem c_X8_firstBy_2 (l : Launch) (E : jE) (t q : Nat) (ht : t < iN (vb 1100 M)) (hq : q < iN (vb 1100 M)) (hS : IS (vb 1100 M))  : K_X8_firstBy l E [.ref (ja E 60), .int (nI t), .int (nI q), .int (nI 2)] M (aFB (mtP (vb 1100 M) t q)) (mF 1502 (mtP (vb 1100 M) t q) (asd M)) := by
  refine CT_intro (own := RX8) (by decide +kernel) rfl (by simp [Value.category]) (Nat.le_of_ble_eq_true rfl) rfl (fun X C G => ?_)
  show J E X 0 [some (.ref (ja E 60)), some (.int (nI t)), some (.int (nI q)), some (.int (nI 2)), none, none, none] [] M
  have hN := leN hS
  have hA : ∀ T, lay 1100 (lay 1100 (asd M) T) (vb 1368 (lay 1100 (asd M) T)) = asd M := fun T => asd_back
  have loop : ∀ n i (o : Option Value), jok [some (.ref (ja E 60)), some (.int (nI t)), some (.int (nI q)), some (.int (nI 2)), some (.int (nI i)), some (.int (nI 0)), o] 6 = true → i + n = 101 → (∀ k, k < i → (mtP (vb 1100 M) t q) k = false) → J E X 10 [some (.ref (ja E 60)), some (.int (nI t)), some (.int (nI q)), some (.int (nI 2)), some (.int (nI i)), some (.int (nI 0)), o] [] (lay 1100 (asd M) (minsS (vb 1100 M) i)) := by
    intro n
    induction n with
    | zero =>
      intro i o ho hi hno
      have e : fiN (mtP (vb 1100 M) t q) = 101 := firstN_no (fun k hk => hno k (by omega))
      refine J_iload C (dA DX8_firstBy_0 6 rfl) rfl ?_
      refine J_bipush (v := nI 100) C (dA DX8_firstBy_0 7 rfl) (by decide) ?_
      first | refine J_icmp_gt_n (tgt := 85) C (by omega) (by omega) (dA DX8_firstBy_0 8 rfl) (by decide) (fun h14 => ?_) (fun h14 => ?_) | refine J_icmp_gt_c (tgt := 85) C (by omega) (dA DX8_firstBy_0 8 rfl) (by decide) (fun h14 => ?_) (fun h14 => ?_) | refine J_icmp_gt_t (tgt := 85) C (dA DX8_firstBy_0 8 rfl) (by decide) (fun h14 => ?_) (fun h14 => ?_)
      · try have g14 := inr_t h14
        try have g14 := inr_f h14
        refine J_aload_n C (dA DX8_firstBy_0 44 rfl) rfl ?_
        refine V_X8_laysBack C (c_X8_laysBack l E) wM_RX8_168 (by decide) (dA DX8_firstBy_0 45 rfl) rfl (Nat.le_of_ble_eq_true rfl) ?_
        rw [hA]
        refine J_iload C (dA DX8_firstBy_0 46 rfl) rfl ?_
        refine J_if_eq_n (tgt := 99) C (by decide) (dA DX8_firstBy_0 47 rfl) (by decide) (fun h91 => ?_) (fun h91 => ?_)
        · try have g91 := inr_t h91
          try have g91 := inr_f h91
          refine J_aload_n C (dA DX8_firstBy_0 50 rfl) rfl ?_
          refine J_iconst (v := nI 3) C (dA DX8_firstBy_0 51 rfl) (by decide) ?_
          refine V_X8_no C (c_X8_no l E _ (by decide)) wM_RX8_106 (by decide) (dA DX8_firstBy_0 52 rfl) rfl (Nat.le_of_ble_eq_true rfl) ?_
          exact J_iret C G (dA DX8_firstBy_0 53 rfl) ⟨oi (by unfold aFB; rw [e, if_neg (by omega)]; rfl), by unfold mF; rw [e, if_neg (by omega)]⟩
        · exact absurd h91 (by decide)
      · exfalso; omega
    | succ n ih =>
      intro i o ho hi hno
      have hmi := miI (M := asd M) hS i
      have hI := hmi.2.1
      have h31 := lt31 hI (k := t) (by omega)
      have h31q := lt31 hI (k := q) (by omega)
      refine J_iload C (dA DX8_firstBy_0 6 rfl) rfl ?_
      refine J_bipush (v := nI 100) C (dA DX8_firstBy_0 7 rfl) (by decide) ?_
      first | refine J_icmp_gt_n (tgt := 85) C (by omega) (by omega) (dA DX8_firstBy_0 8 rfl) (by decide) (fun h14 => ?_) (fun h14 => ?_) | refine J_icmp_gt_c (tgt := 85) C (by omega) (dA DX8_firstBy_0 8 rfl) (by decide) (fun h14 => ?_) (fun h14 => ?_) | refine J_icmp_gt_t (tgt := 85) C (dA DX8_firstBy_0 8 rfl) (by decide) (fun h14 => ?_) (fun h14 => ?_)
      · exfalso; omega
      · try have g14 := inr_t h14
        try have g14 := inr_f h14
        refine J_iload C (dA DX8_firstBy_0 9 rfl) rfl ?_
        refine J_if_ne_n (tgt := 85) C (by decide) (dA DX8_firstBy_0 10 rfl) (by decide) (fun h19 => ?_) (fun h19 => ?_)
        · exact absurd h19 (by decide)
        · try have g19 := inr_t h19
          try have g19 := inr_f h19
          refine J_aload_n C (dA DX8_firstBy_0 11 rfl) rfl ?_
          refine J_iload_n C (dA DX8_firstBy_0 12 rfl) rfl ?_
          refine J_iconst (v := nI 1) C (dA DX8_firstBy_0 13 rfl) (by decide) ?_
          refine V_X8_get C (c_X8_get l E t 1 (by omega) (by decide) hI) wM_RX8_62 (by decide) (dA DX8_firstBy_0 14 rfl) rfl (Nat.le_of_ble_eq_true rfl) ?_
          refine J_ist_6_7 C (dA DX8_firstBy_0 15 rfl) ho ?_
          refine J_iload C (dA DX8_firstBy_0 16 rfl) rfl ?_
          refine J_iload_n C (dA DX8_firstBy_0 17 rfl) rfl ?_
          refine J_if_ne_n (tgt := 40) C (by decide) (dA DX8_firstBy_0 18 rfl) (by decide) (fun h33 => ?_) (fun h33 => ?_)
          · try have g33 := inr_t h33
            try have g33 := inr_f h33
            refine J_iload_n C (dA DX8_firstBy_0 21 rfl) rfl ?_
            refine J_iconst (v := nI 1) C (dA DX8_firstBy_0 22 rfl) (by decide) ?_
            refine J_icmp_ne_n (tgt := 54) C (by decide) (by decide) (dA DX8_firstBy_0 23 rfl) (by decide) (fun h42 => ?_) (fun h42 => ?_)
            · try have g42 := inr_t h42
              try have g42 := inr_f h42
              refine J_aload_n C (dA DX8_firstBy_0 29 rfl) rfl ?_
              refine J_iload_n C (dA DX8_firstBy_0 30 rfl) rfl ?_
              refine J_iconst (v := nI 1) C (dA DX8_firstBy_0 31 rfl) (by decide) ?_
              refine V_X8_get C (c_X8_get l E q 1 (by omega) (by decide) hI) wM_RX8_62 (by decide) (dA DX8_firstBy_0 32 rfl) rfl (Nat.le_of_ble_eq_true rfl) ?_
              refine J_icmp_ne_n (tgt := 67) C (by omega) (by omega) (dA DX8_firstBy_0 33 rfl) (by decide) (fun h60 => ?_) (fun h60 => ?_)
              · try have g60 := inr_t h60
                try have g60 := inr_f h60
                refine J_iconst (v := nI 0) C (dA DX8_firstBy_0 36 rfl) (by decide) ?_
                refine J_ist_5_7 C (dA DX8_firstBy_0 37 rfl) rfl ?_
                refine J_iload C (dA DX8_firstBy_0 38 rfl) rfl ?_
                refine J_if_ne_n (tgt := 82) C (by decide) (dA DX8_firstBy_0 39 rfl) (by decide) (fun h72 => ?_) (fun h72 => ?_)
                · exact absurd h72 (by decide)
                · try have g72 := inr_t h72
                  try have g72 := inr_f h72
                  refine J_aload_n C (dA DX8_firstBy_0 40 rfl) rfl ?_
                  refine V_X8_minute C (c_mim l E hS i) wM_RX8_119 (by decide) (dA DX8_firstBy_0 41 rfl) rfl (Nat.le_of_ble_eq_true rfl) ?_
                  first | refine J_inc1_4_7 C (dA DX8_firstBy_0 42 rfl) rfl ?_ | refine J_iinc_4_7 C (dA DX8_firstBy_0 42 rfl) rfl ?_
                  refine J_goto (tgt := 10) C (dA DX8_firstBy_0 43 rfl) (by decide) ?_
                  rw [hmi.1] at h60
                  refine ih (i + 1) (some (.int (nI (f3 (vb 1100 (lay 1100 (asd M) (minsS (vb 1100 M) i))) t 1)))) rfl (by omega) (fun k hk => ?_)
                  by_cases e : k = i
                  · subst e; exact decide_eq_false h60
                  · exact hno k (by omega)
              · try have g60 := inr_t h60
                try have g60 := inr_f h60
                refine J_iconst (v := nI 1) C (dA DX8_firstBy_0 34 rfl) (by decide) ?_
                refine J_goto (tgt := 68) C (dA DX8_firstBy_0 35 rfl) (by decide) ?_
                refine J_ist_5_7 C (dA DX8_firstBy_0 37 rfl) rfl ?_
                refine J_iload C (dA DX8_firstBy_0 38 rfl) rfl ?_
                refine J_if_ne_n (tgt := 82) C (by decide) (dA DX8_firstBy_0 39 rfl) (by decide) (fun h72 => ?_) (fun h72 => ?_)
                · try have g72 := inr_t h72
                  try have g72 := inr_f h72
                  refine J_goto (tgt := 10) C (dA DX8_firstBy_0 43 rfl) (by decide) ?_
                  refine J_iload C (dA DX8_firstBy_0 6 rfl) rfl ?_
                  refine J_bipush (v := nI 100) C (dA DX8_firstBy_0 7 rfl) (by decide) ?_
                  first | refine J_icmp_gt_n (tgt := 85) C (by omega) (by omega) (dA DX8_firstBy_0 8 rfl) (by decide) (fun h14 => ?_) (fun h14 => ?_) | refine J_icmp_gt_c (tgt := 85) C (by omega) (dA DX8_firstBy_0 8 rfl) (by decide) (fun h14 => ?_) (fun h14 => ?_) | refine J_icmp_gt_t (tgt := 85) C (dA DX8_firstBy_0 8 rfl) (by decide) (fun h14 => ?_) (fun h14 => ?_)
                  · exfalso; omega
                  · try have g14 := inr_t h14
                    try have g14 := inr_f h14
                    refine J_iload C (dA DX8_firstBy_0 9 rfl) rfl ?_
                    refine J_if_ne_n (tgt := 85) C (by decide) (dA DX8_firstBy_0 10 rfl) (by decide) (fun h19 => ?_) (fun h19 => ?_)
                    · try have g19 := inr_t h19
                      try have g19 := inr_f h19
                      rw [hmi.1] at h60
                      have e : fiN (mtP (vb 1100 M) t q) = i := firstN_eq (by omega) hno (decide_eq_true h60)
                      refine J_aload_n C (dA DX8_firstBy_0 44 rfl) rfl ?_
                      refine V_X8_laysBack C (c_X8_laysBack l E) wM_RX8_168 (by decide) (dA DX8_firstBy_0 45 rfl) rfl (Nat.le_of_ble_eq_true rfl) ?_
                      rw [hA]
                      refine J_iload C (dA DX8_firstBy_0 46 rfl) rfl ?_
                      refine J_if_eq_n (tgt := 99) C (by decide) (dA DX8_firstBy_0 47 rfl) (by decide) (fun h91 => ?_) (fun h91 => ?_)
                      · exact absurd h91 (by decide)
                      · try have g91 := inr_t h91
                        try have g91 := inr_f h91
                        refine J_iload C (dA DX8_firstBy_0 48 rfl) rfl ?_
                        refine J_goto (tgt := 104) C (dA DX8_firstBy_0 49 rfl) (by decide) ?_
                        exact J_iret C G (dA DX8_firstBy_0 53 rfl) ⟨oi (by unfold aFB; rw [e, if_pos (by omega)]), by unfold mF; rw [e, if_pos (by omega)]⟩
                    · exact absurd h19 (by decide)
                · exact absurd h72 (by decide)
            · exact absurd h42 (by decide)
          · exact absurd h33 (by decide)
  refine J_aload_n C (dA DX8_firstBy_0 0 rfl) rfl ?_
  refine V_X8_setsAside C (c_X8_setsAside l E) wM_RX8_165 (by decide) (dA DX8_firstBy_0 1 rfl) rfl (Nat.le_of_ble_eq_true rfl) ?_
  refine J_iconst (v := nI 0) C (dA DX8_firstBy_0 2 rfl) (by decide) ?_
  refine J_ist_4_7 C (dA DX8_firstBy_0 3 rfl) rfl ?_
  refine J_iconst (v := nI 0) C (dA DX8_firstBy_0 4 rfl) (by decide) ?_
  refine J_ist_5_7 C (dA DX8_firstBy_0 5 rfl) rfl ?_
  have h := loop _ 0 none rfl (Nat.zero_add _) (fun k hk => by omega)
  rw [show lay 1100 (asd M) (minsS (vb 1100 M) 0) = asd M by rw [← vb_asd (M := M)]; exact lay_vb] at h
  exact h
def eComes8 (a b : Int32) (M : jM) : jM := if inr a 0 ((iN (vb 1100 M) : Int) - 1) = true ∧ inr b 0 15 = true then mF 1502 (inP (vb 1100 M) (nv a) (nv b)) (asd M) else Fl 1502 0 M
set_option maxRecDepth 4000 in
theorem c_X8_comes (l : Launch) (E : jE) (a b : Int32) (hS : IS (vb 1100 M))  : K_X8_comes l E [.ref (ja E 60), .int a, .int b] M (aComes (vb 1100 M) a b) (eComes8 a b M) := by
  refine CT_intro (own := RX8) (by decide +kernel) rfl (by simp [Value.category]) (Nat.le_of_ble_eq_true rfl) rfl (fun X C G => ?_)
  show J E X 0 [some (.ref (ja E 60)), some (.int a), some (.int b)] [] M
  have hN := leN hS
  refine J_aload_n C (dA DX8_comes_0 0 rfl) rfl ?_
  refine J_iload_n C (dA DX8_comes_0 1 rfl) rfl ?_
  refine V_X8_isThing C (c_X8_isThing l E _ hS) wM_RX8_116 (by decide) (dA DX8_comes_0 2 rfl) rfl (Nat.le_of_ble_eq_true rfl) ?_
  refine J_if_eq_b (tgt := 25) C (dA DX8_comes_0 3 rfl) (by decide) (fun h5 => ?_) (fun h5 => ?_)
  · try have g5 := inr_t h5
    try have g5 := inr_f h5
    refine J_aload_n C (dA DX8_comes_0 13 rfl) rfl ?_
    refine J_iconst (v := nI 0) C (dA DX8_comes_0 14 rfl) (by decide) ?_
    refine V_X8_no C (c_X8_no l E _ (by decide)) wM_RX8_106 (by decide) (dA DX8_comes_0 15 rfl) rfl (Nat.le_of_ble_eq_true rfl) ?_
    exact J_iret C G (dA DX8_comes_0 16 rfl) ⟨oi (by unfold aComes; rw [if_neg (by rintro ⟨z1, z2⟩; try have z1 := inr_t z1; try have z2 := inr_t z2; omega)]; rfl), by unfold eComes8; rw [if_neg (by rintro ⟨z1, z2⟩; try have z1 := inr_t z1; try have z2 := inr_t z2; omega)]⟩
  · try have g5 := inr_t h5
    try have g5 := inr_f h5
    refine J_iload_n C (dA DX8_comes_0 4 rfl) rfl ?_
    refine V_X8_isPond C (c_X8_isPond l E _) wM_RX8_102 (by decide) (dA DX8_comes_0 5 rfl) rfl (Nat.le_of_ble_eq_true rfl) ?_
    refine J_if_eq_b (tgt := 25) C (dA DX8_comes_0 6 rfl) (by decide) (fun h12 => ?_) (fun h12 => ?_)
    · try have g12 := inr_t h12
      try have g12 := inr_f h12
      refine J_aload_n C (dA DX8_comes_0 13 rfl) rfl ?_
      refine J_iconst (v := nI 0) C (dA DX8_comes_0 14 rfl) (by decide) ?_
      refine V_X8_no C (c_X8_no l E _ (by decide)) wM_RX8_106 (by decide) (dA DX8_comes_0 15 rfl) rfl (Nat.le_of_ble_eq_true rfl) ?_
      exact J_iret C G (dA DX8_comes_0 16 rfl) ⟨oi (by unfold aComes; rw [if_neg (by rintro ⟨z1, z2⟩; try have z1 := inr_t z1; try have z2 := inr_t z2; omega)]; rfl), by unfold eComes8; rw [if_neg (by rintro ⟨z1, z2⟩; try have z1 := inr_t z1; try have z2 := inr_t z2; omega)]⟩
    · try have g12 := inr_t h12
      try have g12 := inr_f h12
      obtain ⟨p, hp, rfl⟩ := toNI (x := a) (n := (iN (vb 1100 M))) (by omega) (by omega)
      have ta := tI (n := p) (by omega)
      have na : nv (nI p) = p := nv_nI (by omega)
      obtain ⟨w, hw, rfl⟩ := toNI (x := b) (n := 16) (by omega) (by omega)
      have tb := tI (n := w) (by omega)
      have nb : nv (nI w) = w := nv_nI (by omega)
      refine J_aload_n C (dA DX8_comes_0 7 rfl) rfl ?_
      refine J_iload_n C (dA DX8_comes_0 8 rfl) rfl ?_
      refine J_iload_n C (dA DX8_comes_0 9 rfl) rfl ?_
      refine J_iconst (v := nI 0) C (dA DX8_comes_0 10 rfl) (by decide) ?_
      refine V_X8_firstBy C (c_X8_firstBy_0 l E _ _ (by omega) (by omega) hS) wM_RX8_171 (by decide) (dA DX8_comes_0 11 rfl) rfl (Nat.le_of_ble_eq_true rfl) ?_
      refine J_goto (tgt := 30) C (dA DX8_comes_0 12 rfl) (by decide) ?_
      exact J_iret C G (dA DX8_comes_0 16 rfl) ⟨oi (by unfold aComes; rw [if_pos ⟨decide_eq_true (by omega), decide_eq_true (by omega)⟩, na, nb]), by unfold eComes8; rw [if_pos ⟨decide_eq_true (by omega), decide_eq_true (by omega)⟩, na, nb]⟩
def eSeen8 (a b : Int32) (M : jM) : jM := if inr a 0 ((iN (vb 1100 M) : Int) - 1) = true ∧ inr b 0 15 = true then mF 1502 (inP (vb 1100 M) (nv a) (f6 (vb 1100 M) (nv b) 0)) (asd M) else Fl 1502 0 M
set_option maxRecDepth 4000 in
theorem c_X8_seen (l : Launch) (E : jE) (a b : Int32) (hS : IS (vb 1100 M))  : K_X8_seen l E [.ref (ja E 60), .int a, .int b] M (aSeen (vb 1100 M) a b) (eSeen8 a b M) := by
  refine CT_intro (own := RX8) (by decide +kernel) rfl (by simp [Value.category]) (Nat.le_of_ble_eq_true rfl) rfl (fun X C G => ?_)
  show J E X 0 [some (.ref (ja E 60)), some (.int a), some (.int b)] [] M
  have hN := leN hS
  refine J_aload_n C (dA DX8_seen_0 0 rfl) rfl ?_
  refine J_iload_n C (dA DX8_seen_0 1 rfl) rfl ?_
  refine V_X8_isThing C (c_X8_isThing l E _ hS) wM_RX8_116 (by decide) (dA DX8_seen_0 2 rfl) rfl (Nat.le_of_ble_eq_true rfl) ?_
  refine J_if_eq_b (tgt := 25) C (dA DX8_seen_0 3 rfl) (by decide) (fun h5 => ?_) (fun h5 => ?_)
  · try have g5 := inr_t h5
    try have g5 := inr_f h5
    refine J_aload_n C (dA DX8_seen_0 13 rfl) rfl ?_
    refine J_iconst (v := nI 0) C (dA DX8_seen_0 14 rfl) (by decide) ?_
    refine V_X8_no C (c_X8_no l E _ (by decide)) wM_RX8_106 (by decide) (dA DX8_seen_0 15 rfl) rfl (Nat.le_of_ble_eq_true rfl) ?_
    exact J_iret C G (dA DX8_seen_0 16 rfl) ⟨oi (by unfold aSeen; rw [if_neg (by rintro ⟨z1, z2⟩; try have z1 := inr_t z1; try have z2 := inr_t z2; omega)]; rfl), by unfold eSeen8; rw [if_neg (by rintro ⟨z1, z2⟩; try have z1 := inr_t z1; try have z2 := inr_t z2; omega)]⟩
  · try have g5 := inr_t h5
    try have g5 := inr_f h5
    refine J_iload_n C (dA DX8_seen_0 4 rfl) rfl ?_
    refine V_X8_isPond C (c_X8_isPond l E _) wM_RX8_102 (by decide) (dA DX8_seen_0 5 rfl) rfl (Nat.le_of_ble_eq_true rfl) ?_
    refine J_if_eq_b (tgt := 25) C (dA DX8_seen_0 6 rfl) (by decide) (fun h12 => ?_) (fun h12 => ?_)
    · try have g12 := inr_t h12
      try have g12 := inr_f h12
      refine J_aload_n C (dA DX8_seen_0 13 rfl) rfl ?_
      refine J_iconst (v := nI 0) C (dA DX8_seen_0 14 rfl) (by decide) ?_
      refine V_X8_no C (c_X8_no l E _ (by decide)) wM_RX8_106 (by decide) (dA DX8_seen_0 15 rfl) rfl (Nat.le_of_ble_eq_true rfl) ?_
      exact J_iret C G (dA DX8_seen_0 16 rfl) ⟨oi (by unfold aSeen; rw [if_neg (by rintro ⟨z1, z2⟩; try have z1 := inr_t z1; try have z2 := inr_t z2; omega)]; rfl), by unfold eSeen8; rw [if_neg (by rintro ⟨z1, z2⟩; try have z1 := inr_t z1; try have z2 := inr_t z2; omega)]⟩
    · try have g12 := inr_t h12
      try have g12 := inr_f h12
      obtain ⟨p, hp, rfl⟩ := toNI (x := a) (n := (iN (vb 1100 M))) (by omega) (by omega)
      have ta := tI (n := p) (by omega)
      have na : nv (nI p) = p := nv_nI (by omega)
      obtain ⟨w, hw, rfl⟩ := toNI (x := b) (n := 16) (by omega) (by omega)
      have tb := tI (n := w) (by omega)
      have nb : nv (nI w) = w := nv_nI (by omega)
      refine J_aload_n C (dA DX8_seen_0 7 rfl) rfl ?_
      refine J_iload_n C (dA DX8_seen_0 8 rfl) rfl ?_
      refine J_iload_n C (dA DX8_seen_0 9 rfl) rfl ?_
      refine J_iconst (v := nI 1) C (dA DX8_seen_0 10 rfl) (by decide) ?_
      refine V_X8_firstBy C (c_X8_firstBy_1 l E _ _ (by omega) (by omega) hS) wM_RX8_171 (by decide) (dA DX8_seen_0 11 rfl) rfl (Nat.le_of_ble_eq_true rfl) ?_
      refine J_goto (tgt := 30) C (dA DX8_seen_0 12 rfl) (by decide) ?_
      exact J_iret C G (dA DX8_seen_0 16 rfl) ⟨oi (by unfold aSeen; rw [if_pos ⟨decide_eq_true (by omega), decide_eq_true (by omega)⟩, na, nb]), by unfold eSeen8; rw [if_pos ⟨decide_eq_true (by omega), decide_eq_true (by omega)⟩, na, nb]⟩
def eMeet8 (a b : Int32) (M : jM) : jM := if inr a 0 ((iN (vb 1100 M) : Int) - 1) = true ∧ inr b 0 ((iN (vb 1100 M) : Int) - 1) = true ∧ ¬ a = b then mF 1502 (mtP (vb 1100 M) (nv a) (nv b)) (asd M) else Fl 1502 0 M
set_option maxRecDepth 4000 in
theorem c_X8_meet (l : Launch) (E : jE) (a b : Int32) (hS : IS (vb 1100 M))  : K_X8_meet l E [.ref (ja E 60), .int a, .int b] M (aMeet (vb 1100 M) a b) (eMeet8 a b M) := by
  refine CT_intro (own := RX8) (by decide +kernel) rfl (by simp [Value.category]) (Nat.le_of_ble_eq_true rfl) rfl (fun X C G => ?_)
  show J E X 0 [some (.ref (ja E 60)), some (.int a), some (.int b)] [] M
  have hN := leN hS
  refine J_aload_n C (dA DX8_meet_0 0 rfl) rfl ?_
  refine J_iload_n C (dA DX8_meet_0 1 rfl) rfl ?_
  refine V_X8_isThing C (c_X8_isThing l E _ hS) wM_RX8_116 (by decide) (dA DX8_meet_0 2 rfl) rfl (Nat.le_of_ble_eq_true rfl) ?_
  refine J_if_eq_b (tgt := 31) C (dA DX8_meet_0 3 rfl) (by decide) (fun h5 => ?_) (fun h5 => ?_)
  · try have g5 := inr_t h5
    try have g5 := inr_f h5
    refine J_aload_n C (dA DX8_meet_0 17 rfl) rfl ?_
    refine J_iconst (v := nI 0) C (dA DX8_meet_0 18 rfl) (by decide) ?_
    refine V_X8_no C (c_X8_no l E _ (by decide)) wM_RX8_106 (by decide) (dA DX8_meet_0 19 rfl) rfl (Nat.le_of_ble_eq_true rfl) ?_
    exact J_iret C G (dA DX8_meet_0 20 rfl) ⟨oi (by unfold aMeet; rw [if_neg (by rintro ⟨z1, z2, z3⟩; have z1 := inr_t z1; have z2 := inr_t z2; omega)]; rfl), by unfold eMeet8; rw [if_neg (by rintro ⟨z1, z2, z3⟩; have z1 := inr_t z1; have z2 := inr_t z2; omega)]⟩
  · try have g5 := inr_t h5
    try have g5 := inr_f h5
    refine J_aload_n C (dA DX8_meet_0 4 rfl) rfl ?_
    refine J_iload_n C (dA DX8_meet_0 5 rfl) rfl ?_
    refine V_X8_isThing C (c_X8_isThing l E _ hS) wM_RX8_116 (by decide) (dA DX8_meet_0 6 rfl) rfl (Nat.le_of_ble_eq_true rfl) ?_
    refine J_if_eq_b (tgt := 31) C (dA DX8_meet_0 7 rfl) (by decide) (fun h13 => ?_) (fun h13 => ?_)
    · try have g13 := inr_t h13
      try have g13 := inr_f h13
      refine J_aload_n C (dA DX8_meet_0 17 rfl) rfl ?_
      refine J_iconst (v := nI 0) C (dA DX8_meet_0 18 rfl) (by decide) ?_
      refine V_X8_no C (c_X8_no l E _ (by decide)) wM_RX8_106 (by decide) (dA DX8_meet_0 19 rfl) rfl (Nat.le_of_ble_eq_true rfl) ?_
      exact J_iret C G (dA DX8_meet_0 20 rfl) ⟨oi (by unfold aMeet; rw [if_neg (by rintro ⟨z1, z2, z3⟩; have z1 := inr_t z1; have z2 := inr_t z2; omega)]; rfl), by unfold eMeet8; rw [if_neg (by rintro ⟨z1, z2, z3⟩; have z1 := inr_t z1; have z2 := inr_t z2; omega)]⟩
    · try have g13 := inr_t h13
      try have g13 := inr_f h13
      refine J_iload_n C (dA DX8_meet_0 8 rfl) rfl ?_
      refine J_iload_n C (dA DX8_meet_0 9 rfl) rfl ?_
      refine J_icmp_eq (tgt := 31) C (dA DX8_meet_0 10 rfl) (by decide) (fun h18 => ?_) (fun h18 => ?_)
      · refine J_aload_n C (dA DX8_meet_0 17 rfl) rfl ?_
        refine J_iconst (v := nI 0) C (dA DX8_meet_0 18 rfl) (by decide) ?_
        refine V_X8_no C (c_X8_no l E _ (by decide)) wM_RX8_106 (by decide) (dA DX8_meet_0 19 rfl) rfl (Nat.le_of_ble_eq_true rfl) ?_
        exact J_iret C G (dA DX8_meet_0 20 rfl) ⟨oi (by unfold aMeet; rw [if_neg (by rintro ⟨z1, z2, z3⟩; exact z3 h18)]; rfl), by unfold eMeet8; rw [if_neg (by rintro ⟨z1, z2, z3⟩; exact z3 h18)]⟩
      · have hab : ¬ a = b := h18
        obtain ⟨p, hp, rfl⟩ := toNI (x := a) (n := (iN (vb 1100 M))) (by omega) (by omega)
        have ta := tI (n := p) (by omega)
        have na : nv (nI p) = p := nv_nI (by omega)
        obtain ⟨w, hw, rfl⟩ := toNI (x := b) (n := (iN (vb 1100 M))) (by omega) (by omega)
        have tb := tI (n := w) (by omega)
        have nb : nv (nI w) = w := nv_nI (by omega)
        refine J_aload_n C (dA DX8_meet_0 11 rfl) rfl ?_
        refine J_iload_n C (dA DX8_meet_0 12 rfl) rfl ?_
        refine J_iload_n C (dA DX8_meet_0 13 rfl) rfl ?_
        refine J_iconst (v := nI 2) C (dA DX8_meet_0 14 rfl) (by decide) ?_
        refine V_X8_firstBy C (c_X8_firstBy_2 l E _ _ (by omega) (by omega) hS) wM_RX8_171 (by decide) (dA DX8_meet_0 15 rfl) rfl (Nat.le_of_ble_eq_true rfl) ?_
        refine J_goto (tgt := 36) C (dA DX8_meet_0 16 rfl) (by decide) ?_
        exact J_iret C G (dA DX8_meet_0 20 rfl) ⟨oi (by unfold aMeet; rw [if_pos ⟨decide_eq_true (by omega), decide_eq_true (by omega), hab⟩, na, nb]), by unfold eMeet8; rw [if_pos ⟨decide_eq_true (by omega), decide_eq_true (by omega), hab⟩, na, nb]⟩
end PA
