section PA
variable {M : jM}
set_option maxRecDepth 4000 in
theorem c_X8_draw (l : Launch) (E : jE)  : K_X8_draw l E [.ref (ja E 60)] M (nI (drV (vb 1100 M 2))) (lay 1100 M (upd (vb 1100 M) 2 (drZ (vb 1100 M 2)))) := by
  refine CT_intro (own := RX8) (by decide +kernel) rfl (by simp [Value.category]) (Nat.le_of_ble_eq_true rfl) rfl (fun X C G => ?_)
  show J E X 0 [some (.ref (ja E 60))] [] M
  refine J_aload_n C (dA DX8_draw_0 0 rfl) rfl ?_
  refine G_X8_s C wF_RX8_9 (dA DX8_draw_0 1 rfl) ?_
  refine J_iconst (v := nI 2) C (dA DX8_draw_0 2 rfl) (by decide) ?_
  refine J_aload_n C (dA DX8_draw_0 3 rfl) rfl ?_
  refine G_X8_s C wF_RX8_9 (dA DX8_draw_0 4 rfl) ?_
  refine J_iconst (v := nI 2) C (dA DX8_draw_0 5 rfl) (by decide) ?_
  refine R_1 C (hk := rfl) rfl (by omega) (dA DX8_draw_0 6 rfl) ?_
  refine J_ldc (v := nI 1103515245) C wK_RX8_197 (dA DX8_draw_0 7 rfl) ?_
  refine J_imul C (dA DX8_draw_0 8 rfl) ?_
  refine J_sipush (v := nI 12345) C (dA DX8_draw_0 9 rfl) (by decide) ?_
  refine J_iadd C (dA DX8_draw_0 10 rfl) ?_
  refine S_1 C (hk := rfl) (j := 2) rfl (by omega) (dA DX8_draw_0 11 rfl) ?_
  rw [show M (1100 + 2) = vb 1100 M 2 from (vb_at (by decide)).symm, show (vb 1100 M 2 * nI 1103515245 + nI 12345) = drZ (vb 1100 M 2) from rfl]
  refine J_aload_n C (dA DX8_draw_0 12 rfl) rfl ?_
  refine G_X8_s C wF_RX8_9 (dA DX8_draw_0 13 rfl) ?_
  refine J_iconst (v := nI 2) C (dA DX8_draw_0 14 rfl) (by decide) ?_
  refine R_1 C (hk := rfl) (j := 2) rfl (by omega) (dA DX8_draw_0 15 rfl) ?_
  rw [pk_us]
  refine J_bipush (v := nI 8) C (dA DX8_draw_0 16 rfl) (by decide) ?_
  refine J_iushr C (dA DX8_draw_0 17 rfl) ?_
  exact J_iret C G (dA DX8_draw_0 18 rfl) ⟨oi (drV_eq _), lay_upd (b := 1100) (j := 2) (by decide)⟩
theorem c_dw (l : Launch) (E : jE) {T : Nat → Int32} (h : Can T) : K_X8_draw l E [.ref (ja E 60)] (lay 1100 M T) (nI (drV (T 2))) (lay 1100 M (upd T 2 (drZ (T 2)))) := by
  have hv : vb 1100 (lay 1100 M T) = T := vb_lay h
  have h2 := c_X8_draw (M := lay 1100 M T) l E
  rw [hv, lay_lay] at h2
  exact h2
set_option maxRecDepth 4000 in
theorem c_X7_falls (l : Launch) (E : jE) (a : Int32) (hS : IS (vb (fb 0) M))  : K_X7_falls l E [.ref (ja E 59), .int a] M (aFalls (vb (fb 0) M) a) (eFalls (fb 0) 1076 a M) := by
  refine CT_intro (own := RX7) (by decide +kernel) rfl (by simp [Value.category]) (Nat.le_of_ble_eq_true rfl) rfl (fun X C G => ?_)
  show J E X 0 [some (.ref (ja E 59)), some (.int a), none, none] [] M
  have hM := leM hS
  refine J_iload_n C (dA DX7_falls_0 0 rfl) rfl ?_
  refine J_iconst (v := nI 1) C (dA DX7_falls_0 1 rfl) (by decide) ?_
  first | refine J_icmp_lt_n (tgt := 11) C (by omega) (by omega) (dA DX7_falls_0 2 rfl) (by decide) (fun h2 => ?_) (fun h2 => ?_) | refine J_icmp_lt_c (tgt := 11) C (by omega) (dA DX7_falls_0 2 rfl) (by decide) (fun h2 => ?_) (fun h2 => ?_) | refine J_icmp_lt_t (tgt := 11) C (dA DX7_falls_0 2 rfl) (by decide) (fun h2 => ?_) (fun h2 => ?_)
  · try have g2 := inr_t h2
    try have g2 := inr_f h2
    refine J_aload_n C (dA DX7_falls_0 6 rfl) rfl ?_
    refine J_ldc (v := (-1000001)) C wK_RX7_69 (dA DX7_falls_0 7 rfl) ?_
    refine V_X7_finding C (c_X7_finding l E 0 (by decide) _ (by decide)) wM_RX7_70 (by decide) (dA DX7_falls_0 8 rfl) rfl (Nat.le_of_ble_eq_true rfl) ?_
    exact J_iret C G (dA DX7_falls_0 9 rfl) ⟨oi (by unfold aFalls; rw [if_neg (fun z => by have z := inr_t z; omega)]; rfl), by unfold eFalls; rw [if_neg (fun z => by have z := inr_t z; omega)]⟩
  · try have g2 := inr_t h2
    try have g2 := inr_f h2
    refine J_iload_n C (dA DX7_falls_0 3 rfl) rfl ?_
    refine J_bipush (v := nI 20) C (dA DX7_falls_0 4 rfl) (by decide) ?_
    first | refine J_icmp_le_n (tgt := 18) C (by omega) (by omega) (dA DX7_falls_0 5 rfl) (by decide) (fun h8 => ?_) (fun h8 => ?_) | refine J_icmp_le_c (tgt := 18) C (by omega) (dA DX7_falls_0 5 rfl) (by decide) (fun h8 => ?_) (fun h8 => ?_) | refine J_icmp_le_t (tgt := 18) C (dA DX7_falls_0 5 rfl) (by decide) (fun h8 => ?_) (fun h8 => ?_)
    · try have g8 := inr_t h8
      try have g8 := inr_f h8
      obtain ⟨p, hp, rfl⟩ := toNI (x := a) (n := 21) (by omega) (by omega)
      have ta := tI (n := p) (by omega)
      have na : nv (nI p) = p := nv_nI (by omega)
      refine J_aload_n C (dA DX7_falls_0 10 rfl) rfl ?_
      refine G_X7_fen C wF_RX7_12 (dA DX7_falls_0 11 rfl) ?_
      refine H_X1_minute C (by decide) hS wF_RX7_120 (dA DX7_falls_0 12 rfl) ?_
      refine J_ldc (v := nI 99999) C wK_RX7_123 (dA DX7_falls_0 13 rfl) ?_
      refine J_iload_n C (dA DX7_falls_0 14 rfl) rfl ?_
      refine J_isub_n C (by omega) (dA DX7_falls_0 15 rfl) ?_
      refine J_icmp_le_n (tgt := 39) C (by omega) (by omega) (dA DX7_falls_0 16 rfl) (by decide) (fun h29 => ?_) (fun h29 => ?_)
      · try have g29 := inr_t h29
        try have g29 := inr_f h29
        have loop : ∀ n i, i + n = p → J E X 43 [some (.ref (ja E 59)), some (.int (nI p)), some (.int (nI (flC (vb (fb 0) M) i))), some (.int (nI i))] [] (lay (fb 0) M (flS (vb (fb 0) M) i)) := by
          intro n
          induction n with
          | zero =>
            intro i hi
            obtain rfl : p = i := by omega
            refine J_iload_n C (dA DX7_falls_0 25 rfl) rfl ?_
            refine J_iload_n C (dA DX7_falls_0 26 rfl) rfl ?_
            first | refine J_icmp_ge_n (tgt := 81) C (by omega) (by omega) (dA DX7_falls_0 27 rfl) (by decide) (fun h45 => ?_) (fun h45 => ?_) | refine J_icmp_ge_c (tgt := 81) C (by omega) (dA DX7_falls_0 27 rfl) (by decide) (fun h45 => ?_) (fun h45 => ?_) | refine J_icmp_ge_t (tgt := 81) C (dA DX7_falls_0 27 rfl) (by decide) (fun h45 => ?_) (fun h45 => ?_)
            · try have g45 := inr_t h45
              try have g45 := inr_f h45
              refine J_iload_n C (dA DX7_falls_0 43 rfl) rfl ?_
              exact J_iret C G (dA DX7_falls_0 44 rfl) ⟨oi (by unfold aFalls; rw [if_pos (show inr (nI p) 1 20 = true from decide_eq_true (by omega)), na, if_neg (by omega)]), by unfold eFalls; rw [if_pos (show inr (nI p) 1 20 = true from decide_eq_true (by omega)), na, if_neg (by omega)]⟩
            · exfalso; omega
          | succ n ih =>
            intro i hi
            have h0 := IS_fl hS i
            have h1 := (IS_drp h0).1
            have hv : vb (fb 0) (lay (fb 0) M (flS (vb (fb 0) M) (i + 1))) = flS (vb (fb 0) M) (i + 1) := vb_lay (IS_fl hS (i + 1)).1
            have hI : IS (vb (fb 0) (lay (fb 0) M (flS (vb (fb 0) M) (i + 1)))) := by rw [hv]; exact IS_fl hS (i + 1)
            refine J_iload_n C (dA DX7_falls_0 25 rfl) rfl ?_
            refine J_iload_n C (dA DX7_falls_0 26 rfl) rfl ?_
            first | refine J_icmp_ge_n (tgt := 81) C (by omega) (by omega) (dA DX7_falls_0 27 rfl) (by decide) (fun h45 => ?_) (fun h45 => ?_) | refine J_icmp_ge_c (tgt := 81) C (by omega) (dA DX7_falls_0 27 rfl) (by decide) (fun h45 => ?_) (fun h45 => ?_) | refine J_icmp_ge_t (tgt := 81) C (dA DX7_falls_0 27 rfl) (by decide) (fun h45 => ?_) (fun h45 => ?_)
            · exfalso; omega
            · try have g45 := inr_t h45
              try have g45 := inr_f h45
              refine J_aload_n C (dA DX7_falls_0 28 rfl) rfl ?_
              refine G_X7_fen C wF_RX7_12 (dA DX7_falls_0 29 rfl) ?_
              refine V_X1_dropOne C (by decide) (c_fl1 l E h0) wM_RX7_227 (by decide) (dA DX7_falls_0 30 rfl) rfl (Nat.le_of_ble_eq_true rfl) ?_
              refine J_aload_n C (dA DX7_falls_0 31 rfl) rfl ?_
              refine G_X7_fen C wF_RX7_12 (dA DX7_falls_0 32 rfl) ?_
              refine V_X1_passMinute C (by decide) (c_fl2 l E h1) wM_RX7_125 (by decide) (dA DX7_falls_0 33 rfl) rfl (Nat.le_of_ble_eq_true rfl) ?_
              rw [show minS (drpS (flS (vb (fb 0) M) i)) = flS (vb (fb 0) M) (i + 1) from rfl]
              refine J_iload_n C (dA DX7_falls_0 34 rfl) rfl ?_
              refine J_aload_n C (dA DX7_falls_0 35 rfl) rfl ?_
              refine G_X7_fen C wF_RX7_12 (dA DX7_falls_0 36 rfl) ?_
              refine V_X1_pondsWithSights C (by decide) (c_X1_pondsWithSights l E 0 (by decide) hI) wM_RX7_132 (by decide) (dA DX7_falls_0 37 rfl) rfl (Nat.le_of_ble_eq_true rfl) ?_
              rw [hv]
              refine V_J6_bitCount_0f7a4 C (c_bc l E _ (s16_sight _)) wM_RX7_199 (by decide) (dA DX7_falls_0 38 rfl) rfl (Nat.le_of_ble_eq_true rfl) ?_
              refine J_iadd_n C (dA DX7_falls_0 39 rfl) ?_
              refine J_ist_2_4 C (dA DX7_falls_0 40 rfl) rfl ?_
              first | refine J_inc1_3_4 C (dA DX7_falls_0 41 rfl) rfl ?_ | refine J_iinc_3_4 C (dA DX7_falls_0 41 rfl) rfl ?_
              refine J_goto (tgt := 43) C (dA DX7_falls_0 42 rfl) (by decide) ?_
              exact ih (i + 1) (by omega)
        refine J_iconst (v := nI 0) C (dA DX7_falls_0 21 rfl) (by decide) ?_
        refine J_ist_2_4 C (dA DX7_falls_0 22 rfl) rfl ?_
        refine J_iconst (v := nI 0) C (dA DX7_falls_0 23 rfl) (by decide) ?_
        refine J_ist_3_4 C (dA DX7_falls_0 24 rfl) rfl ?_
        have h := loop p 0 (Nat.zero_add _)
        rw [show lay (fb 0) M (flS (vb (fb 0) M) 0) = M from lay_vb] at h
        exact h
      · try have g29 := inr_t h29
        try have g29 := inr_f h29
        refine J_aload_n C (dA DX7_falls_0 17 rfl) rfl ?_
        refine J_ldc (v := (-1000005)) C wK_RX7_124 (dA DX7_falls_0 18 rfl) ?_
        refine V_X7_finding C (c_X7_finding l E 4 (by decide) _ (by decide)) wM_RX7_70 (by decide) (dA DX7_falls_0 19 rfl) rfl (Nat.le_of_ble_eq_true rfl) ?_
        exact J_iret C G (dA DX7_falls_0 20 rfl) ⟨oi (by unfold aFalls; rw [if_pos (show inr (nI p) 1 20 = true from decide_eq_true (by omega)), na, if_pos (by omega)]; rfl), by unfold eFalls; rw [if_pos (show inr (nI p) 1 20 = true from decide_eq_true (by omega)), na, if_pos (by omega)]⟩
    · try have g8 := inr_t h8
      try have g8 := inr_f h8
      refine J_aload_n C (dA DX7_falls_0 6 rfl) rfl ?_
      refine J_ldc (v := (-1000001)) C wK_RX7_69 (dA DX7_falls_0 7 rfl) ?_
      refine V_X7_finding C (c_X7_finding l E 0 (by decide) _ (by decide)) wM_RX7_70 (by decide) (dA DX7_falls_0 8 rfl) rfl (Nat.le_of_ble_eq_true rfl) ?_
      exact J_iret C G (dA DX7_falls_0 9 rfl) ⟨oi (by unfold aFalls; rw [if_neg (fun z => by have z := inr_t z; omega)]; rfl), by unfold eFalls; rw [if_neg (fun z => by have z := inr_t z; omega)]⟩
set_option maxRecDepth 4000 in
theorem c_X8_falls (l : Launch) (E : jE) (a : Int32) (hS : IS (vb 1100 M))  : K_X8_falls l E [.ref (ja E 60), .int a] M (aFalls (vb 1100 M) a) (eFalls 1100 1502 a M) := by
  refine CT_intro (own := RX8) (by decide +kernel) rfl (by simp [Value.category]) (Nat.le_of_ble_eq_true rfl) rfl (fun X C G => ?_)
  show J E X 0 [some (.ref (ja E 60)), some (.int a), none, none, none] [] M
  have hM := leM hS
  refine J_iload_n C (dA DX8_falls_0 0 rfl) rfl ?_
  refine J_iconst (v := nI 1) C (dA DX8_falls_0 1 rfl) (by decide) ?_
  refine J_bipush (v := nI 20) C (dA DX8_falls_0 2 rfl) (by decide) ?_
  refine V_X8_in1 C (c_X8_in1n l E _ _ _ (by decide) (by decide)) wM_RX8_58 (by decide) (dA DX8_falls_0 3 rfl) rfl (Nat.le_of_ble_eq_true rfl) ?_
  refine J_if_ne_b (tgt := 16) C (dA DX8_falls_0 4 rfl) (by decide) (fun h7 => ?_) (fun h7 => ?_)
  · try have g7 := inr_t h7
    try have g7 := inr_f h7
    obtain ⟨p, hp, rfl⟩ := toNI (x := a) (n := 21) (by omega) (by omega)
    have ta := tI (n := p) (by omega)
    have na : nv (nI p) = p := nv_nI (by omega)
    refine J_aload_n C (dA DX8_falls_0 9 rfl) rfl ?_
    refine G_X8_s C wF_RX8_9 (dA DX8_falls_0 10 rfl) ?_
    refine J_iconst (v := nI 0) C (dA DX8_falls_0 11 rfl) (by decide) ?_
    refine Q_s0 C hS (dA DX8_falls_0 12 rfl) ?_
    refine J_iload_n C (dA DX8_falls_0 13 rfl) rfl ?_
    refine J_iadd_n C (dA DX8_falls_0 14 rfl) ?_
    refine J_ldc (v := nI 99999) C wK_RX8_98 (dA DX8_falls_0 15 rfl) ?_
    refine J_icmp_le_n (tgt := 35) C (by omega) (by omega) (dA DX8_falls_0 16 rfl) (by decide) (fun h26 => ?_) (fun h26 => ?_)
    · try have g26 := inr_t h26
      try have g26 := inr_f h26
      have loop : ∀ n i (o4 : Option Value), (∀ y z : Int32, jok [some (.ref (ja E 60)), some (.int (nI p)), some (.int y), some (.int z), o4] 4 = true) → i + n = p → J E X 39 [some (.ref (ja E 60)), some (.int (nI p)), some (.int (nI (flC (vb 1100 M) i))), some (.int (nI i)), o4] [] (lay 1100 M (flS (vb 1100 M) i)) := by
        intro n
        induction n with
        | zero =>
          intro i o4 k4 hi
          obtain rfl : p = i := by omega
          refine J_iload_n C (dA DX8_falls_0 25 rfl) rfl ?_
          refine J_iload_n C (dA DX8_falls_0 26 rfl) rfl ?_
          first | refine J_icmp_ge_n (tgt := 101) C (by omega) (by omega) (dA DX8_falls_0 27 rfl) (by decide) (fun h41 => ?_) (fun h41 => ?_) | refine J_icmp_ge_c (tgt := 101) C (by omega) (dA DX8_falls_0 27 rfl) (by decide) (fun h41 => ?_) (fun h41 => ?_) | refine J_icmp_ge_t (tgt := 101) C (dA DX8_falls_0 27 rfl) (by decide) (fun h41 => ?_) (fun h41 => ?_)
          · try have g41 := inr_t h41
            try have g41 := inr_f h41
            refine J_iload_n C (dA DX8_falls_0 60 rfl) rfl ?_
            exact J_iret C G (dA DX8_falls_0 61 rfl) ⟨oi (by unfold aFalls; rw [if_pos (show inr (nI p) 1 20 = true from decide_eq_true (by omega)), na, if_neg (by omega)]), by unfold eFalls; rw [if_pos (show inr (nI p) 1 20 = true from decide_eq_true (by omega)), na, if_neg (by omega)]⟩
          · exfalso; omega
        | succ n ih =>
          intro i o4 k4 hi
          have hv1 : vb 1100 (lay 1100 M (flS (vb 1100 M) (i + 1))) = flS (vb 1100 M) (i + 1) := vb_lay (IS_fl hS (i + 1)).1
          have hI : IS (vb 1100 (lay 1100 M (flS (vb 1100 M) (i + 1)))) := by rw [hv1]; exact IS_fl hS (i + 1)
          have eT : flS (vb 1100 M) (i + 1) = minS (drpS (flS (vb 1100 M) i)) := rfl
          have eC : flC (vb 1100 M) (i + 1) = flC (vb 1100 M) i + bcN (sightS (flS (vb 1100 M) (i + 1))) := rfl
          obtain ⟨T, hT⟩ : ∃ T, T = flS (vb 1100 M) i := ⟨_, rfl⟩
          have hTI : IS T := hT ▸ IS_fl hS i
          rw [← hT] at eT ⊢
          have hD := (IS_drp hTI).1
          have hv0 : vb 1100 (lay 1100 M T) = T := vb_lay hTI.1
          have hI0 : IS (vb 1100 (lay 1100 M T)) := by rw [hv0]; exact hTI
          have hN := leN hTI
          have hZ := IS_z hTI (drZ (T 2))
          have hvz : vb 1100 (lay 1100 M (upd T 2 (drZ (T 2)))) = upd T 2 (drZ (T 2)) := vb_lay hZ.1
          have hIz : IS (vb 1100 (lay 1100 M (upd T 2 (drZ (T 2))))) := by rw [hvz]; exact hZ
          have nz : iN (upd T 2 (drZ (T 2))) = iN T := by unfold iN; rw [pk_un (by omega)]
          have hd1 := drV_lt (T 2)
          have hd2 := drV_lt (drZ (T 2))
          have rest : ∀ (o4 : Option Value), (∀ y z : Int32, jok [some (.ref (ja E 60)), some (.int (nI p)), some (.int y), some (.int z), o4] 4 = true) → J E X 80 [some (.ref (ja E 60)), some (.int (nI p)), some (.int (nI (flC (vb 1100 M) i))), some (.int (nI i)), o4] [] (lay 1100 M (drpS T)) := by
            intro o4 k4
            refine J_aload_n C (dA DX8_falls_0 49 rfl) rfl ?_
            refine V_X8_minute C (c_fl3 l E hD) wM_RX8_119 (by decide) (dA DX8_falls_0 50 rfl) rfl (Nat.le_of_ble_eq_true rfl) ?_
            rw [← eT]
            refine J_iload_n C (dA DX8_falls_0 51 rfl) rfl ?_
            refine J_aload_n C (dA DX8_falls_0 52 rfl) rfl ?_
            refine J_iconst (v := nI 1) C (dA DX8_falls_0 53 rfl) (by decide) ?_
            refine V_X8_pondsWith C (c_X8_pondsWith_t l E hI) wM_RX8_122 (by decide) (dA DX8_falls_0 54 rfl) rfl (Nat.le_of_ble_eq_true rfl) ?_
            rw [hv1]
            refine V_X8_bits C (c_bx l E _ (s16_sight _)) wM_RX8_159 (by decide) (dA DX8_falls_0 55 rfl) rfl (Nat.le_of_ble_eq_true rfl) ?_
            refine J_iadd_n C (dA DX8_falls_0 56 rfl) ?_
            refine J_ist_2_5 C (dA DX8_falls_0 57 rfl) rfl ?_
            first | refine J_inc1_3_5 C (dA DX8_falls_0 58 rfl) rfl ?_ | refine J_iinc_3_5 C (dA DX8_falls_0 58 rfl) rfl ?_
            refine J_goto (tgt := 39) C (dA DX8_falls_0 59 rfl) (by decide) ?_
            rw [← eC]
            exact ih (i + 1) o4 k4 (by omega)
          refine J_iload_n C (dA DX8_falls_0 25 rfl) rfl ?_
          refine J_iload_n C (dA DX8_falls_0 26 rfl) rfl ?_
          first | refine J_icmp_ge_n (tgt := 101) C (by omega) (by omega) (dA DX8_falls_0 27 rfl) (by decide) (fun h41 => ?_) (fun h41 => ?_) | refine J_icmp_ge_c (tgt := 101) C (by omega) (dA DX8_falls_0 27 rfl) (by decide) (fun h41 => ?_) (fun h41 => ?_) | refine J_icmp_ge_t (tgt := 101) C (dA DX8_falls_0 27 rfl) (by decide) (fun h41 => ?_) (fun h41 => ?_)
          · exfalso; omega
          · try have g41 := inr_t h41
            try have g41 := inr_f h41
            refine J_aload_n C (dA DX8_falls_0 28 rfl) rfl ?_
            refine G_X8_s C wF_RX8_9 (dA DX8_falls_0 29 rfl) ?_
            refine J_iconst (v := nI 1) C (dA DX8_falls_0 30 rfl) (by decide) ?_
            refine Q_s1 C hI0 (dA DX8_falls_0 31 rfl) ?_
            rw [hv0]
            refine J_if_le_n (tgt := 80) C (by omega) (dA DX8_falls_0 32 rfl) (by decide) (fun h50 => ?_) (fun h50 => ?_)
            · try have g50 := inr_t h50
              try have g50 := inr_f h50
              have e : drpS T = T := by unfold drpS; rw [if_neg (by omega)]
              have h := rest o4 k4
              rw [e] at h
              exact h
            · try have g50 := inr_t h50
              try have g50 := inr_f h50
              refine J_aload_n C (dA DX8_falls_0 33 rfl) rfl ?_
              refine V_X8_draw C (c_dw l E hTI.1) wM_RX8_198 (by decide) (dA DX8_falls_0 34 rfl) rfl (Nat.le_of_ble_eq_true rfl) ?_
              refine J_aload_n C (dA DX8_falls_0 35 rfl) rfl ?_
              refine G_X8_s C wF_RX8_9 (dA DX8_falls_0 36 rfl) ?_
              refine J_iconst (v := nI 1) C (dA DX8_falls_0 37 rfl) (by decide) ?_
              refine Q_s1 C hIz (dA DX8_falls_0 38 rfl) ?_
              rw [hvz, nz]
              have hml := Nat.mod_lt (drV (T 2)) (show 0 < iN T by omega)
              refine J_irem_n C (by omega) (by omega) (by omega) (dA DX8_falls_0 39 rfl) ?_
              refine J_ist_4_5 C (dA DX8_falls_0 40 rfl) (k4 _ _) ?_
              refine J_aload_n C (dA DX8_falls_0 41 rfl) rfl ?_
              refine J_iload C (dA DX8_falls_0 42 rfl) rfl ?_
              refine J_iconst (v := nI 1) C (dA DX8_falls_0 43 rfl) (by decide) ?_
              refine J_aload_n C (dA DX8_falls_0 44 rfl) rfl ?_
              refine V_X8_draw C (c_dw l E hZ.1) wM_RX8_198 (by decide) (dA DX8_falls_0 45 rfl) rfl (Nat.le_of_ble_eq_true rfl) ?_
              rw [pk_us, fa_u2]
              refine J_bipush (v := nI 16) C (dA DX8_falls_0 46 rfl) (by decide) ?_
              refine J_irem_n C (by omega) (by omega) (by omega) (dA DX8_falls_0 47 rfl) ?_
              refine V_X8_puts C (c_X8_puts l E (drV (T 2) % iN T) 1 (by omega) (by decide) _) wM_RX8_95 (by decide) (dA DX8_falls_0 48 rfl) rfl (Nat.le_of_ble_eq_true rfl) ?_
              have e : drpS T = upd (upd T 2 (drZ (drZ (T 2)))) (100 + 3 * (drV (T 2) % iN T) + 1) (nI (drV (drZ (T 2)) % 16)) := by unfold drpS; rw [if_pos (by omega)]
              rw [vb_lay (Can_upd hTI.1 (by decide)), lay_lay, ← e]
              exact rest _ (fun _ _ => rfl)
      refine J_iconst (v := nI 0) C (dA DX8_falls_0 21 rfl) (by decide) ?_
      refine J_ist_2_5 C (dA DX8_falls_0 22 rfl) rfl ?_
      refine J_iconst (v := nI 0) C (dA DX8_falls_0 23 rfl) (by decide) ?_
      refine J_ist_3_5 C (dA DX8_falls_0 24 rfl) rfl ?_
      have h := loop p 0 none (fun _ _ => rfl) (Nat.zero_add _)
      rw [show lay 1100 M (flS (vb 1100 M) 0) = M from lay_vb] at h
      exact h
    · try have g26 := inr_t h26
      try have g26 := inr_f h26
      refine J_aload_n C (dA DX8_falls_0 17 rfl) rfl ?_
      refine J_iconst (v := nI 4) C (dA DX8_falls_0 18 rfl) (by decide) ?_
      refine V_X8_no C (c_X8_no l E _ (by decide)) wM_RX8_106 (by decide) (dA DX8_falls_0 19 rfl) rfl (Nat.le_of_ble_eq_true rfl) ?_
      exact J_iret C G (dA DX8_falls_0 20 rfl) ⟨oi (by unfold aFalls; rw [if_pos (show inr (nI p) 1 20 = true from decide_eq_true (by omega)), na, if_pos (by omega)]; rfl), by unfold eFalls; rw [if_pos (show inr (nI p) 1 20 = true from decide_eq_true (by omega)), na, if_pos (by omega)]⟩
  · try have g7 := inr_t h7
    try have g7 := inr_f h7
    refine J_aload_n C (dA DX8_falls_0 5 rfl) rfl ?_
    refine J_iconst (v := nI 0) C (dA DX8_falls_0 6 rfl) (by decide) ?_
    refine V_X8_no C (c_X8_no l E _ (by decide)) wM_RX8_106 (by decide) (dA DX8_falls_0 7 rfl) rfl (Nat.le_of_ble_eq_true rfl) ?_
    exact J_iret C G (dA DX8_falls_0 8 rfl) ⟨oi (by unfold aFalls; rw [if_neg (fun z => by have z := inr_t z; omega)]; rfl), by unfold eFalls; rw [if_neg (fun z => by have z := inr_t z; omega)]⟩
end PA
