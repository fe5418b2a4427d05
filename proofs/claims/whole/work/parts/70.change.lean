section PA
variable {M : jM}
theorem okT_n (v : Int32) : okT (nI 0) v = inr v 0 6 ∧ okT (nI 1) v = inr v 0 15 ∧ okT (nI 2) v = inr v 1 99 := by
  refine ⟨?_, ?_, ?_⟩
  · unfold okT; rw [show inr (nI 0) 0 2 = true by decide +kernel, Bool.true_and]; rfl
  · unfold okT; rw [show inr (nI 1) 0 2 = true by decide +kernel, Bool.true_and]; rfl
  · unfold okT; rw [show inr (nI 2) 0 2 = true by decide +kernel, Bool.true_and]; rfl
set_option maxRecDepth 4000 in
theorem c_X7_change (l : Launch) (E : jE) (a b c : Int32) (hS : IS (vb (fb 0) M))  : K_X7_change l E [.ref (ja E 59), .int a, .int b, .int c] M (aChange (vb (fb 0) M) a b c) (eChange (fb 0) 1076 a b c M) := by
  refine CT_intro (own := RX7) (by decide +kernel) rfl (by simp [Value.category]) (Nat.le_of_ble_eq_true rfl) rfl (fun X C G => ?_)
  show J E X 0 [some (.ref (ja E 59)), some (.int a), some (.int b), some (.int c), none] [] M
  have hN := leN hS
  refine J_aload_n C (dA DX7_change_0 0 rfl) rfl ?_
  refine G_X7_fen C wF_RX7_12 (dA DX7_change_0 1 rfl) ?_
  refine J_iload_n C (dA DX7_change_0 2 rfl) rfl ?_
  refine V_X1_has C (by decide) (c_X1_has l E _ (by decide) _ hS) wM_RX7_100 (by decide) (dA DX7_change_0 3 rfl) rfl (Nat.le_of_ble_eq_true rfl) ?_
  refine J_if_eq_b (tgt := 19) C (dA DX7_change_0 4 rfl) (by decide) (fun h8 => ?_) (fun h8 => ?_)
  · refine J_aload_n C (dA DX7_change_0 9 rfl) rfl ?_
    refine J_ldc (v := (-1000001)) C wK_RX7_69 (dA DX7_change_0 10 rfl) ?_
    refine V_X7_finding C (c_X7_finding l E 0 (by decide) _ (by decide)) wM_RX7_70 (by decide) (dA DX7_change_0 11 rfl) rfl (Nat.le_of_ble_eq_true rfl) ?_
    exact J_iret C G (dA DX7_change_0 12 rfl) ⟨oi (by unfold aChange; rw [if_neg (by rintro ⟨z1, z2⟩; rw [h8] at z1; cases z1)]; rfl), by unfold eChange; rw [if_neg (by rintro ⟨z1, z2⟩; rw [h8] at z1; cases z1)]⟩
  · refine J_iload_n C (dA DX7_change_0 5 rfl) rfl ?_
    refine J_iload_n C (dA DX7_change_0 6 rfl) rfl ?_
    refine V_X7_fitsThing C (c_X7_fitsThing l E _ _) wM_RX7_112 (by decide) (dA DX7_change_0 7 rfl) rfl (Nat.le_of_ble_eq_true rfl) ?_
    refine J_if_ne_b (tgt := 26) C (dA DX7_change_0 8 rfl) (by decide) (fun h16 => ?_) (fun h16 => ?_)
    · obtain ⟨w, hw, rfl⟩ := okT_0 h16
      have nb : nv (nI w) = w := nv_nI (by omega)
      obtain ⟨p, hp, rfl⟩ := toNI (x := a) (n := iN (vb (fb 0) M)) (by have := inr_t h8; omega) (by have := inr_t h8; omega)
      have na : nv (nI p) = p := nv_nI (by omega)
      refine J_aload_n C (dA DX7_change_0 13 rfl) rfl ?_
      refine G_X7_fen C wF_RX7_12 (dA DX7_change_0 14 rfl) ?_
      refine G_X1_things C (by decide) wF_RX7_106 (dA DX7_change_0 15 rfl) ?_
      refine J_iload_n C (dA DX7_change_0 16 rfl) rfl ?_
      refine R_ft C (by decide) rfl (by omega) (dA DX7_change_0 17 rfl) ?_
      refine J_iload_n C (dA DX7_change_0 18 rfl) rfl ?_
      refine Q_fk C (by decide) hS (by omega) rfl (by omega) (dA DX7_change_0 19 rfl) ?_
      refine J_ist_4_5 C (dA DX7_change_0 20 rfl) rfl ?_
      refine J_aload_n C (dA DX7_change_0 21 rfl) rfl ?_
      refine G_X7_fen C wF_RX7_12 (dA DX7_change_0 22 rfl) ?_
      refine G_X1_things C (by decide) wF_RX7_106 (dA DX7_change_0 23 rfl) ?_
      refine J_iload_n C (dA DX7_change_0 24 rfl) rfl ?_
      refine R_ft C (by decide) rfl (by omega) (dA DX7_change_0 25 rfl) ?_
      refine J_iload_n C (dA DX7_change_0 26 rfl) rfl ?_
      refine J_iload_n C (dA DX7_change_0 27 rfl) rfl ?_
      refine S_fk C (by decide) (by omega) rfl (by omega) (dA DX7_change_0 28 rfl) ?_
      refine J_iload C (dA DX7_change_0 29 rfl) rfl ?_
      exact J_iret C G (dA DX7_change_0 30 rfl) ⟨oi (by unfold aChange; rw [if_pos ⟨h8, h16⟩, na, nb]), by unfold eChange; rw [if_pos ⟨h8, h16⟩, na, nb]; try (exact lay_upd (by omega))⟩
    · refine J_aload_n C (dA DX7_change_0 9 rfl) rfl ?_
      refine J_ldc (v := (-1000001)) C wK_RX7_69 (dA DX7_change_0 10 rfl) ?_
      refine V_X7_finding C (c_X7_finding l E 0 (by decide) _ (by decide)) wM_RX7_70 (by decide) (dA DX7_change_0 11 rfl) rfl (Nat.le_of_ble_eq_true rfl) ?_
      exact J_iret C G (dA DX7_change_0 12 rfl) ⟨oi (by unfold aChange; rw [if_neg (by rintro ⟨z1, z2⟩; rw [h16] at z2; cases z2)]; rfl), by unfold eChange; rw [if_neg (by rintro ⟨z1, z2⟩; rw [h16] at z2; cases z2)]⟩
set_option maxRecDepth 4000 in
theorem c_X8_change (l : Launch) (E : jE) (a b c : Int32) (hS : IS (vb 1100 M))  : K_X8_change l E [.ref (ja E 60), .int a, .int b, .int c] M (aChange (vb 1100 M) a b c) (eChange 1100 1502 a b c M) := by
  refine CT_intro (own := RX8) (by decide +kernel) rfl (by simp [Value.category]) (Nat.le_of_ble_eq_true rfl) rfl (fun X C G => ?_)
  show J E X 0 [some (.ref (ja E 60)), some (.int a), some (.int b), some (.int c), none] [] M
  have hN := leN hS
  refine J_aload_n C (dA DX8_change_0 0 rfl) rfl ?_
  refine J_iload_n C (dA DX8_change_0 1 rfl) rfl ?_
  refine V_X8_isThing C (c_X8_isThing l E _ hS) wM_RX8_116 (by decide) (dA DX8_change_0 2 rfl) rfl (Nat.le_of_ble_eq_true rfl) ?_
  refine J_if_eq_b (tgt := 55) C (dA DX8_change_0 3 rfl) (by decide) (fun h5 => ?_) (fun h5 => ?_)
  · refine J_aload_n C (dA DX8_change_0 28 rfl) rfl ?_
    refine J_iconst (v := nI 0) C (dA DX8_change_0 29 rfl) (by decide) ?_
    refine V_X8_no C (c_X8_no l E 0 (by decide)) wM_RX8_106 (by decide) (dA DX8_change_0 30 rfl) rfl (Nat.le_of_ble_eq_true rfl) ?_
    exact J_iret C G (dA DX8_change_0 31 rfl) ⟨oi (by unfold aChange; rw [if_neg (by rintro ⟨z1, z2⟩; rw [h5] at z1; cases z1)]; rfl), by unfold eChange; rw [if_neg (by rintro ⟨z1, z2⟩; rw [h5] at z1; cases z1)]⟩
  · refine J_iload_n C (dA DX8_change_0 4 rfl) rfl ?_
    refine J_iconst (v := nI 0) C (dA DX8_change_0 5 rfl) (by decide) ?_
    refine J_iconst (v := nI 2) C (dA DX8_change_0 6 rfl) (by decide) ?_
    refine V_X8_in1 C (c_X8_in1n l E _ _ _ (by omega) (by omega)) wM_RX8_58 (by decide) (dA DX8_change_0 7 rfl) rfl (Nat.le_of_ble_eq_true rfl) ?_
    refine J_if_eq_b (tgt := 55) C (dA DX8_change_0 8 rfl) (by decide) (fun h14 => ?_) (fun h14 => ?_)
    · refine J_aload_n C (dA DX8_change_0 28 rfl) rfl ?_
      refine J_iconst (v := nI 0) C (dA DX8_change_0 29 rfl) (by decide) ?_
      refine V_X8_no C (c_X8_no l E 0 (by decide)) wM_RX8_106 (by decide) (dA DX8_change_0 30 rfl) rfl (Nat.le_of_ble_eq_true rfl) ?_
      exact J_iret C G (dA DX8_change_0 31 rfl) ⟨oi (by unfold aChange; rw [if_neg (by rintro ⟨z1, z2⟩; obtain ⟨w, hw, e⟩ := okT_0 z2; rw [e, inr_n (by omega)] at h14; exact absurd (of_decide_eq_false h14) (fun y => y ⟨by omega, by omega⟩))]; rfl), by unfold eChange; rw [if_neg (by rintro ⟨z1, z2⟩; obtain ⟨w, hw, e⟩ := okT_0 z2; rw [e, inr_n (by omega)] at h14; exact absurd (of_decide_eq_false h14) (fun y => y ⟨by omega, by omega⟩))]⟩
    · obtain ⟨w, hw, rfl⟩ := toNI (x := b) (n := 3) (by have := inr_t h14; omega) (by have := inr_t h14; omega)
      rcases (show w = 0 ∨ w = 1 ∨ w = 2 by omega) with rfl | rfl | rfl
      · have hk := (okT_n c).1
        have nb : nv (nI 0) = 0 := nv_nI (by decide)
        refine J_iload_n C (dA DX8_change_0 9 rfl) rfl ?_
        refine J_iload_n C (dA DX8_change_0 10 rfl) rfl ?_
        refine J_iconst (v := nI 2) C (dA DX8_change_0 11 rfl) (by decide) ?_
        refine J_icmp_ne_n (tgt := 27) C (by decide) (by decide) (dA DX8_change_0 12 rfl) (by decide) (fun h20 => ?_) (fun h20 => ?_)
        · refine J_iconst (v := nI 0) C (dA DX8_change_0 15 rfl) (by decide) ?_
          refine J_iload_n C (dA DX8_change_0 16 rfl) rfl ?_
          refine J_if_ne_n (tgt := 37) C (by decide) (dA DX8_change_0 17 rfl) (by decide) (fun h29 => ?_) (fun h29 => ?_)
          · exact absurd rfl h29
          · refine J_bipush (v := nI 6) C (dA DX8_change_0 18 rfl) (by decide) ?_
            refine J_goto (tgt := 49) C (dA DX8_change_0 19 rfl) (by decide) ?_
            refine V_X8_in1 C (c_X8_in1n l E c 0 6 (by decide) (by decide)) wM_RX8_58 (by decide) (dA DX8_change_0 26 rfl) rfl (Nat.le_of_ble_eq_true rfl) ?_
            refine J_if_ne_b (tgt := 61) C (dA DX8_change_0 27 rfl) (by decide) (fun h52 => ?_) (fun h52 => ?_)
            · have hok : okT (nI 0) c = true := hk.trans h52
              obtain ⟨p, hp, rfl⟩ := toNI (x := a) (n := iN (vb 1100 M)) (by have := inr_t h5; omega) (by have := inr_t h5; omega)
              have na : nv (nI p) = p := nv_nI (by omega)
              refine J_aload_n C (dA DX8_change_0 32 rfl) rfl ?_
              refine J_iload_n C (dA DX8_change_0 33 rfl) rfl ?_
              refine J_iload_n C (dA DX8_change_0 34 rfl) rfl ?_
              refine V_X8_get C (c_X8_get l E p 0 (by omega) (by decide) hS) wM_RX8_62 (by decide) (dA DX8_change_0 35 rfl) rfl (Nat.le_of_ble_eq_true rfl) ?_
              refine J_ist_4_5 C (dA DX8_change_0 36 rfl) rfl ?_
              refine J_aload_n C (dA DX8_change_0 37 rfl) rfl ?_
              refine J_iload_n C (dA DX8_change_0 38 rfl) rfl ?_
              refine J_iload_n C (dA DX8_change_0 39 rfl) rfl ?_
              refine J_iload_n C (dA DX8_change_0 40 rfl) rfl ?_
              refine V_X8_puts C (c_X8_puts l E p 0 (by omega) (by decide) c) wM_RX8_95 (by decide) (dA DX8_change_0 41 rfl) rfl (Nat.le_of_ble_eq_true rfl) ?_
              refine J_iload C (dA DX8_change_0 42 rfl) rfl ?_
              exact J_iret C G (dA DX8_change_0 43 rfl) ⟨oi (by unfold aChange; rw [if_pos ⟨h5, hok⟩, na, nb]), by unfold eChange; rw [if_pos ⟨h5, hok⟩, na, nb]; try (rfl)⟩
            · refine J_aload_n C (dA DX8_change_0 28 rfl) rfl ?_
              refine J_iconst (v := nI 0) C (dA DX8_change_0 29 rfl) (by decide) ?_
              refine V_X8_no C (c_X8_no l E 0 (by decide)) wM_RX8_106 (by decide) (dA DX8_change_0 30 rfl) rfl (Nat.le_of_ble_eq_true rfl) ?_
              exact J_iret C G (dA DX8_change_0 31 rfl) ⟨oi (by unfold aChange; rw [if_neg (by rintro ⟨z1, z2⟩; exact absurd (z2.symm.trans (hk.trans h52)) (by decide))]; rfl), by unfold eChange; rw [if_neg (by rintro ⟨z1, z2⟩; exact absurd (z2.symm.trans (hk.trans h52)) (by decide))]⟩
        · exact absurd h20 (by decide)
      · have hk := (okT_n c).2.1
        have nb : nv (nI 1) = 1 := nv_nI (by decide)
        refine J_iload_n C (dA DX8_change_0 9 rfl) rfl ?_
        refine J_iload_n C (dA DX8_change_0 10 rfl) rfl ?_
        refine J_iconst (v := nI 2) C (dA DX8_change_0 11 rfl) (by decide) ?_
        refine J_icmp_ne_n (tgt := 27) C (by decide) (by decide) (dA DX8_change_0 12 rfl) (by decide) (fun h20 => ?_) (fun h20 => ?_)
        · refine J_iconst (v := nI 0) C (dA DX8_change_0 15 rfl) (by decide) ?_
          refine J_iload_n C (dA DX8_change_0 16 rfl) rfl ?_
          refine J_if_ne_n (tgt := 37) C (by decide) (dA DX8_change_0 17 rfl) (by decide) (fun h29 => ?_) (fun h29 => ?_)
          · refine J_iload_n C (dA DX8_change_0 20 rfl) rfl ?_
            refine J_iconst (v := nI 1) C (dA DX8_change_0 21 rfl) (by decide) ?_
            refine J_icmp_ne_n (tgt := 47) C (by decide) (by decide) (dA DX8_change_0 22 rfl) (by decide) (fun h39 => ?_) (fun h39 => ?_)
            · exact absurd rfl h39
            · refine J_bipush (v := nI 15) C (dA DX8_change_0 23 rfl) (by decide) ?_
              refine J_goto (tgt := 49) C (dA DX8_change_0 24 rfl) (by decide) ?_
              refine V_X8_in1 C (c_X8_in1n l E c 0 15 (by decide) (by decide)) wM_RX8_58 (by decide) (dA DX8_change_0 26 rfl) rfl (Nat.le_of_ble_eq_true rfl) ?_
              refine J_if_ne_b (tgt := 61) C (dA DX8_change_0 27 rfl) (by decide) (fun h52 => ?_) (fun h52 => ?_)
              · have hok : okT (nI 1) c = true := hk.trans h52
                obtain ⟨p, hp, rfl⟩ := toNI (x := a) (n := iN (vb 1100 M)) (by have := inr_t h5; omega) (by have := inr_t h5; omega)
                have na : nv (nI p) = p := nv_nI (by omega)
                refine J_aload_n C (dA DX8_change_0 32 rfl) rfl ?_
                refine J_iload_n C (dA DX8_change_0 33 rfl) rfl ?_
                refine J_iload_n C (dA DX8_change_0 34 rfl) rfl ?_
                refine V_X8_get C (c_X8_get l E p 1 (by omega) (by decide) hS) wM_RX8_62 (by decide) (dA DX8_change_0 35 rfl) rfl (Nat.le_of_ble_eq_true rfl) ?_
                refine J_ist_4_5 C (dA DX8_change_0 36 rfl) rfl ?_
                refine J_aload_n C (dA DX8_change_0 37 rfl) rfl ?_
                refine J_iload_n C (dA DX8_change_0 38 rfl) rfl ?_
                refine J_iload_n C (dA DX8_change_0 39 rfl) rfl ?_
                refine J_iload_n C (dA DX8_change_0 40 rfl) rfl ?_
                refine V_X8_puts C (c_X8_puts l E p 1 (by omega) (by decide) c) wM_RX8_95 (by decide) (dA DX8_change_0 41 rfl) rfl (Nat.le_of_ble_eq_true rfl) ?_
                refine J_iload C (dA DX8_change_0 42 rfl) rfl ?_
                exact J_iret C G (dA DX8_change_0 43 rfl) ⟨oi (by unfold aChange; rw [if_pos ⟨h5, hok⟩, na, nb]), by unfold eChange; rw [if_pos ⟨h5, hok⟩, na, nb]; try (rfl)⟩
              · refine J_aload_n C (dA DX8_change_0 28 rfl) rfl ?_
                refine J_iconst (v := nI 0) C (dA DX8_change_0 29 rfl) (by decide) ?_
                refine V_X8_no C (c_X8_no l E 0 (by decide)) wM_RX8_106 (by decide) (dA DX8_change_0 30 rfl) rfl (Nat.le_of_ble_eq_true rfl) ?_
                exact J_iret C G (dA DX8_change_0 31 rfl) ⟨oi (by unfold aChange; rw [if_neg (by rintro ⟨z1, z2⟩; exact absurd (z2.symm.trans (hk.trans h52)) (by decide))]; rfl), by unfold eChange; rw [if_neg (by rintro ⟨z1, z2⟩; exact absurd (z2.symm.trans (hk.trans h52)) (by decide))]⟩
          · exact absurd h29 (by decide)
        · exact absurd h20 (by decide)
      · have hk := (okT_n c).2.2
        have nb : nv (nI 2) = 2 := nv_nI (by decide)
        refine J_iload_n C (dA DX8_change_0 9 rfl) rfl ?_
        refine J_iload_n C (dA DX8_change_0 10 rfl) rfl ?_
        refine J_iconst (v := nI 2) C (dA DX8_change_0 11 rfl) (by decide) ?_
        refine J_icmp_ne_n (tgt := 27) C (by decide) (by decide) (dA DX8_change_0 12 rfl) (by decide) (fun h20 => ?_) (fun h20 => ?_)
        · exact absurd rfl h20
        · refine J_iconst (v := nI 1) C (dA DX8_change_0 13 rfl) (by decide) ?_
          refine J_goto (tgt := 28) C (dA DX8_change_0 14 rfl) (by decide) ?_
          refine J_iload_n C (dA DX8_change_0 16 rfl) rfl ?_
          refine J_if_ne_n (tgt := 37) C (by decide) (dA DX8_change_0 17 rfl) (by decide) (fun h29 => ?_) (fun h29 => ?_)
          · refine J_iload_n C (dA DX8_change_0 20 rfl) rfl ?_
            refine J_iconst (v := nI 1) C (dA DX8_change_0 21 rfl) (by decide) ?_
            refine J_icmp_ne_n (tgt := 47) C (by decide) (by decide) (dA DX8_change_0 22 rfl) (by decide) (fun h39 => ?_) (fun h39 => ?_)
            · refine J_bipush (v := nI 99) C (dA DX8_change_0 25 rfl) (by decide) ?_
              refine V_X8_in1 C (c_X8_in1n l E c 1 99 (by decide) (by decide)) wM_RX8_58 (by decide) (dA DX8_change_0 26 rfl) rfl (Nat.le_of_ble_eq_true rfl) ?_
              refine J_if_ne_b (tgt := 61) C (dA DX8_change_0 27 rfl) (by decide) (fun h52 => ?_) (fun h52 => ?_)
              · have hok : okT (nI 2) c = true := hk.trans h52
                obtain ⟨p, hp, rfl⟩ := toNI (x := a) (n := iN (vb 1100 M)) (by have := inr_t h5; omega) (by have := inr_t h5; omega)
                have na : nv (nI p) = p := nv_nI (by omega)
                refine J_aload_n C (dA DX8_change_0 32 rfl) rfl ?_
                refine J_iload_n C (dA DX8_change_0 33 rfl) rfl ?_
                refine J_iload_n C (dA DX8_change_0 34 rfl) rfl ?_
                refine V_X8_get C (c_X8_get l E p 2 (by omega) (by decide) hS) wM_RX8_62 (by decide) (dA DX8_change_0 35 rfl) rfl (Nat.le_of_ble_eq_true rfl) ?_
                refine J_ist_4_5 C (dA DX8_change_0 36 rfl) rfl ?_
                refine J_aload_n C (dA DX8_change_0 37 rfl) rfl ?_
                refine J_iload_n C (dA DX8_change_0 38 rfl) rfl ?_
                refine J_iload_n C (dA DX8_change_0 39 rfl) rfl ?_
                refine J_iload_n C (dA DX8_change_0 40 rfl) rfl ?_
                refine V_X8_puts C (c_X8_puts l E p 2 (by omega) (by decide) c) wM_RX8_95 (by decide) (dA DX8_change_0 41 rfl) rfl (Nat.le_of_ble_eq_true rfl) ?_
                refine J_iload C (dA DX8_change_0 42 rfl) rfl ?_
                exact J_iret C G (dA DX8_change_0 43 rfl) ⟨oi (by unfold aChange; rw [if_pos ⟨h5, hok⟩, na, nb]), by unfold eChange; rw [if_pos ⟨h5, hok⟩, na, nb]; try (rfl)⟩
              · refine J_aload_n C (dA DX8_change_0 28 rfl) rfl ?_
                refine J_iconst (v := nI 0) C (dA DX8_change_0 29 rfl) (by decide) ?_
                refine V_X8_no C (c_X8_no l E 0 (by decide)) wM_RX8_106 (by decide) (dA DX8_change_0 30 rfl) rfl (Nat.le_of_ble_eq_true rfl) ?_
                exact J_iret C G (dA DX8_change_0 31 rfl) ⟨oi (by unfold aChange; rw [if_neg (by rintro ⟨z1, z2⟩; exact absurd (z2.symm.trans (hk.trans h52)) (by decide))]; rfl), by unfold eChange; rw [if_neg (by rintro ⟨z1, z2⟩; exact absurd (z2.symm.trans (hk.trans h52)) (by decide))]⟩
            · exact absurd h39 (by decide)
          · exact absurd h29 (by decide)
end PA
