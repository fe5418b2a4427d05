def hasFB (S : Nat → Int32) (x y : Int32) : Bool := anyB (iN S) (fun k => (decide (f3 S k 0 = 1) || decide (f3 S k 0 = 6)) && (decide (¬ nI k = y) && decide (nI (f3 S k 1) = x)))
theorem hasFB_m1 {S : Nat → Int32} (h : IS S) (x : Int32) : hasFB S x (-1) = hasF S x := by
  have hN := leN h
  refine anyB_cong (fun k hk => ?_)
  have h30 := lt30 h (k := k) (by omega)
  unfold fishS
  rw [kind1 _ h30, decide_eq_true (show ¬ nI k = -1 from fun z => nI_pos (n := k) (by omega) (by rw [z]; decide)), Bool.true_and]
theorem hasFB_k {S : Nat → Int32} (h : IS S) {t : Nat} (ht : t < iN S) : hasFB S (nI (f6 S (f3 S t 1) 0)) (nI t) = hasF S (nI (f6 S (f3 S t 1) 0)) := by
  have hN := leN h
  have h31 := lt31 h (k := t) (by omega)
  have h60 := lt60 h h31
  refine anyB_cong (fun k hk => ?_)
  have h30 := lt30 h (k := k) (by omega)
  have h31k := lt31 h (k := k) (by omega)
  unfold fishS
  rw [kind1 _ h30]
  by_cases e : k = t
  · subst e
    rw [decide_eq_false (p := nI (f3 S k 1) = nI (f6 S (f3 S k 1) 0)) (fun z => ne60 h h31 ((nI_eq (by omega) (by omega)).mp z).symm)]
    simp
  · rw [decide_eq_true (show ¬ nI k = nI t from fun z => e ((nI_eq (by omega) (by omega)).mp z)), Bool.true_and]
section MM
variable {M : jM}
set_option maxRecDepth 4000 in
theorem c_X8_hasFish (l : Launch) (E : jE) (x y : Int32) (hS : IS (vb 1100 M))  : K_X8_hasFish l E [.ref (ja E 60), .int x, .int y] M (jb (hasFB (vb 1100 M) x y)) (M) := by
  refine CT_intro (own := RX8) (by decide +kernel) rfl (by simp [Value.category]) (Nat.le_of_ble_eq_true rfl) rfl (fun X C G => ?_)
  show J E X 0 [some (.ref (ja E 60)), some (.int x), some (.int y), none, none, none] [] M
  have hN := leN hS
  have loop : ∀ n i (o : Option Value), jok [some (.ref (ja E 60)), some (.int x), some (.int y), some (.int (jb (anyB i (fun k => (decide (f3 (vb 1100 M) k 0 = 1) || decide (f3 (vb 1100 M) k 0 = 6)) && (decide (¬ nI k = y) && decide (nI (f3 (vb 1100 M) k 1) = x)))))), some (.int (nI i)), o] 5 = true → i + n = iN (vb 1100 M) → J E X 5 [some (.ref (ja E 60)), some (.int x), some (.int y), some (.int (jb (anyB i (fun k => (decide (f3 (vb 1100 M) k 0 = 1) || decide (f3 (vb 1100 M) k 0 = 6)) && (decide (¬ nI k = y) && decide (nI (f3 (vb 1100 M) k 1) = x)))))), some (.int (nI i)), o] [] M := by
    intro n
    induction n with
    | zero =>
      intro i o ho hi
      refine J_iload C (dA DX8_hasFish_0 4 rfl) rfl ?_
      refine J_aload_n C (dA DX8_hasFish_0 5 rfl) rfl ?_
      refine G_X8_s C wF_RX8_9 (dA DX8_hasFish_0 6 rfl) ?_
      refine J_iconst (v := nI 1) C (dA DX8_hasFish_0 7 rfl) (by decide) ?_
      refine Q_s1 C hS (dA DX8_hasFish_0 8 rfl) ?_
      first | refine J_icmp_ge_n (tgt := 84) C (by omega) (by omega) (dA DX8_hasFish_0 9 rfl) (by decide) (fun h13 => ?_) (fun h13 => ?_) | refine J_icmp_ge_c (tgt := 84) C (by omega) (dA DX8_hasFish_0 9 rfl) (by decide) (fun h13 => ?_) (fun h13 => ?_) | refine J_icmp_ge_t (tgt := 84) C (dA DX8_hasFish_0 9 rfl) (by decide) (fun h13 => ?_) (fun h13 => ?_)
      · refine J_iload_n C (dA DX8_hasFish_0 45 rfl) rfl ?_
        exact J_zret C G (jb_z _) (dA DX8_hasFish_0 46 rfl) ⟨oi (by unfold hasFB; rw [← hi]; rfl), rfl⟩
      · exfalso; omega
    | succ n ih =>
      intro i o ho hi
      have h30 := lt30 hS (k := i) (by omega)
      refine J_iload C (dA DX8_hasFish_0 4 rfl) rfl ?_
      refine J_aload_n C (dA DX8_hasFish_0 5 rfl) rfl ?_
      refine G_X8_s C wF_RX8_9 (dA DX8_hasFish_0 6 rfl) ?_
      refine J_iconst (v := nI 1) C (dA DX8_hasFish_0 7 rfl) (by decide) ?_
      refine Q_s1 C hS (dA DX8_hasFish_0 8 rfl) ?_
      first | refine J_icmp_ge_n (tgt := 84) C (by omega) (by omega) (dA DX8_hasFish_0 9 rfl) (by decide) (fun h13 => ?_) (fun h13 => ?_) | refine J_icmp_ge_c (tgt := 84) C (by omega) (dA DX8_hasFish_0 9 rfl) (by decide) (fun h13 => ?_) (fun h13 => ?_) | refine J_icmp_ge_t (tgt := 84) C (dA DX8_hasFish_0 9 rfl) (by decide) (fun h13 => ?_) (fun h13 => ?_)
      · exfalso; omega
      · refine J_aload_n C (dA DX8_hasFish_0 10 rfl) rfl ?_
        refine J_iload C (dA DX8_hasFish_0 11 rfl) rfl ?_
        refine J_iconst (v := nI 0) C (dA DX8_hasFish_0 12 rfl) (by decide) ?_
        refine V_X8_get C (c_X8_get l E i 0 (by omega) (by omega) hS) wM_RX8_62 (by decide) (dA DX8_hasFish_0 13 rfl) rfl (Nat.le_of_ble_eq_true rfl) ?_
        refine J_iconst (v := nI 1) C (dA DX8_hasFish_0 14 rfl) (by decide) ?_
        refine J_icmp_eq_n (tgt := 39) C (by omega) (by decide) (dA DX8_hasFish_0 15 rfl) (by decide) (fun h24 => ?_) (fun h24 => ?_)
        · refine J_iconst (v := nI 1) C (dA DX8_hasFish_0 22 rfl) (by decide) ?_
          refine J_goto (tgt := 44) C (dA DX8_hasFish_0 23 rfl) (by decide) ?_
          refine J_ist_5_6 C (dA DX8_hasFish_0 25 rfl) ho ?_
          refine J_iload_n C (dA DX8_hasFish_0 26 rfl) rfl ?_
          refine J_if_ne_b (tgt := 72) C (dA DX8_hasFish_0 27 rfl) (by decide) (fun h47 => ?_) (fun h47 => ?_)
          · refine J_iconst (v := nI 1) C (dA DX8_hasFish_0 39 rfl) (by decide) ?_
            refine J_goto (tgt := 77) C (dA DX8_hasFish_0 40 rfl) (by decide) ?_
            refine J_ist_3_6 C (dA DX8_hasFish_0 42 rfl) rfl ?_
            first | refine J_inc1_4_6 C (dA DX8_hasFish_0 43 rfl) rfl ?_ | refine J_iinc_4_6 C (dA DX8_hasFish_0 43 rfl) rfl ?_
            refine J_goto (tgt := 5) C (dA DX8_hasFish_0 44 rfl) (by decide) ?_
            have h := ih (i + 1) (some (.int (nI 1))) rfl (by omega)
            rw [show jb (anyB (i + 1) (fun k => (decide (f3 (vb 1100 M) k 0 = 1) || decide (f3 (vb 1100 M) k 0 = 6)) && (decide (¬ nI k = y) && decide (nI (f3 (vb 1100 M) k 1) = x)))) = nI 1 from (bt_t (by show (anyB i _ || _) = _; rw [h47]; simp)).symm] at h
            exact h
          · refine J_iload C (dA DX8_hasFish_0 28 rfl) rfl ?_
            refine J_if_eq_n (tgt := 76) C (by decide) (dA DX8_hasFish_0 29 rfl) (by decide) (fun h52 => ?_) (fun h52 => ?_)
            · exact absurd h52 (by decide)
            · refine J_iload C (dA DX8_hasFish_0 30 rfl) rfl ?_
              refine J_iload_n C (dA DX8_hasFish_0 31 rfl) rfl ?_
              refine J_icmp_eq (tgt := 76) C (dA DX8_hasFish_0 32 rfl) (by decide) (fun h58 => ?_) (fun h58 => ?_)
              · refine J_iconst (v := nI 0) C (dA DX8_hasFish_0 41 rfl) (by decide) ?_
                refine J_ist_3_6 C (dA DX8_hasFish_0 42 rfl) rfl ?_
                first | refine J_inc1_4_6 C (dA DX8_hasFish_0 43 rfl) rfl ?_ | refine J_iinc_4_6 C (dA DX8_hasFish_0 43 rfl) rfl ?_
                refine J_goto (tgt := 5) C (dA DX8_hasFish_0 44 rfl) (by decide) ?_
                have h := ih (i + 1) (some (.int (nI 1))) rfl (by omega)
                rw [show jb (anyB (i + 1) (fun k => (decide (f3 (vb 1100 M) k 0 = 1) || decide (f3 (vb 1100 M) k 0 = 6)) && (decide (¬ nI k = y) && decide (nI (f3 (vb 1100 M) k 1) = x)))) = nI 0 from (bt_f (by show (anyB i _ || _) = _; rw [h47]; simp [h58])).symm] at h
                exact h
              · refine J_aload_n C (dA DX8_hasFish_0 33 rfl) rfl ?_
                refine J_iload C (dA DX8_hasFish_0 34 rfl) rfl ?_
                refine J_iconst (v := nI 1) C (dA DX8_hasFish_0 35 rfl) (by decide) ?_
                refine V_X8_get C (c_X8_get l E i 1 (by omega) (by omega) hS) wM_RX8_62 (by decide) (dA DX8_hasFish_0 36 rfl) rfl (Nat.le_of_ble_eq_true rfl) ?_
                refine J_iload_n C (dA DX8_hasFish_0 37 rfl) rfl ?_
                refine J_icmp_ne (tgt := 76) C (dA DX8_hasFish_0 38 rfl) (by decide) (fun h69 => ?_) (fun h69 => ?_)
                · refine J_iconst (v := nI 0) C (dA DX8_hasFish_0 41 rfl) (by decide) ?_
                  refine J_ist_3_6 C (dA DX8_hasFish_0 42 rfl) rfl ?_
                  first | refine J_inc1_4_6 C (dA DX8_hasFish_0 43 rfl) rfl ?_ | refine J_iinc_4_6 C (dA DX8_hasFish_0 43 rfl) rfl ?_
                  refine J_goto (tgt := 5) C (dA DX8_hasFish_0 44 rfl) (by decide) ?_
                  have h := ih (i + 1) (some (.int (nI 1))) rfl (by omega)
                  rw [show jb (anyB (i + 1) (fun k => (decide (f3 (vb 1100 M) k 0 = 1) || decide (f3 (vb 1100 M) k 0 = 6)) && (decide (¬ nI k = y) && decide (nI (f3 (vb 1100 M) k 1) = x)))) = nI 0 from (bt_f (by show (anyB i _ || _) = _; rw [h47]; simp [h69])).symm] at h
                  exact h
                · refine J_iconst (v := nI 1) C (dA DX8_hasFish_0 39 rfl) (by decide) ?_
                  refine J_goto (tgt := 77) C (dA DX8_hasFish_0 40 rfl) (by decide) ?_
                  refine J_ist_3_6 C (dA DX8_hasFish_0 42 rfl) rfl ?_
                  first | refine J_inc1_4_6 C (dA DX8_hasFish_0 43 rfl) rfl ?_ | refine J_iinc_4_6 C (dA DX8_hasFish_0 43 rfl) rfl ?_
                  refine J_goto (tgt := 5) C (dA DX8_hasFish_0 44 rfl) (by decide) ?_
                  have h := ih (i + 1) (some (.int (nI 1))) rfl (by omega)
                  rw [show jb (anyB (i + 1) (fun k => (decide (f3 (vb 1100 M) k 0 = 1) || decide (f3 (vb 1100 M) k 0 = 6)) && (decide (¬ nI k = y) && decide (nI (f3 (vb 1100 M) k 1) = x)))) = nI 1 from (bt_t (by show (anyB i _ || _) = _; rw [h47]; simp [h24, h58, h69])).symm] at h
                  exact h
        · refine J_aload_n C (dA DX8_hasFish_0 16 rfl) rfl ?_
          refine J_iload C (dA DX8_hasFish_0 17 rfl) rfl ?_
          refine J_iconst (v := nI 0) C (dA DX8_hasFish_0 18 rfl) (by decide) ?_
          refine V_X8_get C (c_X8_get l E i 0 (by omega) (by omega) hS) wM_RX8_62 (by decide) (dA DX8_hasFish_0 19 rfl) rfl (Nat.le_of_ble_eq_true rfl) ?_
          refine J_bipush (v := nI 6) C (dA DX8_hasFish_0 20 rfl) (by decide) ?_
          refine J_icmp_ne_n (tgt := 43) C (by omega) (by decide) (dA DX8_hasFish_0 21 rfl) (by decide) (fun h36 => ?_) (fun h36 => ?_)
          · refine J_iconst (v := nI 0) C (dA DX8_hasFish_0 24 rfl) (by decide) ?_
            refine J_ist_5_6 C (dA DX8_hasFish_0 25 rfl) ho ?_
            refine J_iload_n C (dA DX8_hasFish_0 26 rfl) rfl ?_
            refine J_if_ne_b (tgt := 72) C (dA DX8_hasFish_0 27 rfl) (by decide) (fun h47 => ?_) (fun h47 => ?_)
            · refine J_iconst (v := nI 1) C (dA DX8_hasFish_0 39 rfl) (by decide) ?_
              refine J_goto (tgt := 77) C (dA DX8_hasFish_0 40 rfl) (by decide) ?_
              refine J_ist_3_6 C (dA DX8_hasFish_0 42 rfl) rfl ?_
              first | refine J_inc1_4_6 C (dA DX8_hasFish_0 43 rfl) rfl ?_ | refine J_iinc_4_6 C (dA DX8_hasFish_0 43 rfl) rfl ?_
              refine J_goto (tgt := 5) C (dA DX8_hasFish_0 44 rfl) (by decide) ?_
              have h := ih (i + 1) (some (.int (nI 0))) rfl (by omega)
              rw [show jb (anyB (i + 1) (fun k => (decide (f3 (vb 1100 M) k 0 = 1) || decide (f3 (vb 1100 M) k 0 = 6)) && (decide (¬ nI k = y) && decide (nI (f3 (vb 1100 M) k 1) = x)))) = nI 1 from (bt_t (by show (anyB i _ || _) = _; rw [h47]; simp)).symm] at h
              exact h
            · refine J_iload C (dA DX8_hasFish_0 28 rfl) rfl ?_
              refine J_if_eq_n (tgt := 76) C (by decide) (dA DX8_hasFish_0 29 rfl) (by decide) (fun h52 => ?_) (fun h52 => ?_)
              · refine J_iconst (v := nI 0) C (dA DX8_hasFish_0 41 rfl) (by decide) ?_
                refine J_ist_3_6 C (dA DX8_hasFish_0 42 rfl) rfl ?_
                first | refine J_inc1_4_6 C (dA DX8_hasFish_0 43 rfl) rfl ?_ | refine J_iinc_4_6 C (dA DX8_hasFish_0 43 rfl) rfl ?_
                refine J_goto (tgt := 5) C (dA DX8_hasFish_0 44 rfl) (by decide) ?_
                have h := ih (i + 1) (some (.int (nI 0))) rfl (by omega)
                rw [show jb (anyB (i + 1) (fun k => (decide (f3 (vb 1100 M) k 0 = 1) || decide (f3 (vb 1100 M) k 0 = 6)) && (decide (¬ nI k = y) && decide (nI (f3 (vb 1100 M) k 1) = x)))) = nI 0 from (bt_f (by show (anyB i _ || _) = _; rw [h47]; simp [h24, h36])).symm] at h
                exact h
              · exact absurd h52 (by decide)
          · refine J_iconst (v := nI 1) C (dA DX8_hasFish_0 22 rfl) (by decide) ?_
            refine J_goto (tgt := 44) C (dA DX8_hasFish_0 23 rfl) (by decide) ?_
            refine J_ist_5_6 C (dA DX8_hasFish_0 25 rfl) ho ?_
            refine J_iload_n C (dA DX8_hasFish_0 26 rfl) rfl ?_
            refine J_if_ne_b (tgt := 72) C (dA DX8_hasFish_0 27 rfl) (by decide) (fun h47 => ?_) (fun h47 => ?_)
            · refine J_iconst (v := nI 1) C (dA DX8_hasFish_0 39 rfl) (by decide) ?_
              refine J_goto (tgt := 77) C (dA DX8_hasFish_0 40 rfl) (by decide) ?_
              refine J_ist_3_6 C (dA DX8_hasFish_0 42 rfl) rfl ?_
              first | refine J_inc1_4_6 C (dA DX8_hasFish_0 43 rfl) rfl ?_ | refine J_iinc_4_6 C (dA DX8_hasFish_0 43 rfl) rfl ?_
              refine J_goto (tgt := 5) C (dA DX8_hasFish_0 44 rfl) (by decide) ?_
              have h := ih (i + 1) (some (.int (nI 1))) rfl (by omega)
              rw [show jb (anyB (i + 1) (fun k => (decide (f3 (vb 1100 M) k 0 = 1) || decide (f3 (vb 1100 M) k 0 = 6)) && (decide (¬ nI k = y) && decide (nI (f3 (vb 1100 M) k 1) = x)))) = nI 1 from (bt_t (by show (anyB i _ || _) = _; rw [h47]; simp)).symm] at h
              exact h
            · refine J_iload C (dA DX8_hasFish_0 28 rfl) rfl ?_
              refine J_if_eq_n (tgt := 76) C (by decide) (dA DX8_hasFish_0 29 rfl) (by decide) (fun h52 => ?_) (fun h52 => ?_)
              · exact absurd h52 (by decide)
              · refine J_iload C (dA DX8_hasFish_0 30 rfl) rfl ?_
                refine J_iload_n C (dA DX8_hasFish_0 31 rfl) rfl ?_
                refine J_icmp_eq (tgt := 76) C (dA DX8_hasFish_0 32 rfl) (by decide) (fun h58 => ?_) (fun h58 => ?_)
                · refine J_iconst (v := nI 0) C (dA DX8_hasFish_0 41 rfl) (by decide) ?_
                  refine J_ist_3_6 C (dA DX8_hasFish_0 42 rfl) rfl ?_
                  first | refine J_inc1_4_6 C (dA DX8_hasFish_0 43 rfl) rfl ?_ | refine J_iinc_4_6 C (dA DX8_hasFish_0 43 rfl) rfl ?_
                  refine J_goto (tgt := 5) C (dA DX8_hasFish_0 44 rfl) (by decide) ?_
                  have h := ih (i + 1) (some (.int (nI 1))) rfl (by omega)
                  rw [show jb (anyB (i + 1) (fun k => (decide (f3 (vb 1100 M) k 0 = 1) || decide (f3 (vb 1100 M) k 0 = 6)) && (decide (¬ nI k = y) && decide (nI (f3 (vb 1100 M) k 1) = x)))) = nI 0 from (bt_f (by show (anyB i _ || _) = _; rw [h47]; simp [h58])).symm] at h
                  exact h
                · refine J_aload_n C (dA DX8_hasFish_0 33 rfl) rfl ?_
                  refine J_iload C (dA DX8_hasFish_0 34 rfl) rfl ?_
                  refine J_iconst (v := nI 1) C (dA DX8_hasFish_0 35 rfl) (by decide) ?_
                  refine V_X8_get C (c_X8_get l E i 1 (by omega) (by omega) hS) wM_RX8_62 (by decide) (dA DX8_hasFish_0 36 rfl) rfl (Nat.le_of_ble_eq_true rfl) ?_
                  refine J_iload_n C (dA DX8_hasFish_0 37 rfl) rfl ?_
                  refine J_icmp_ne (tgt := 76) C (dA DX8_hasFish_0 38 rfl) (by decide) (fun h69 => ?_) (fun h69 => ?_)
                  · refine J_iconst (v := nI 0) C (dA DX8_hasFish_0 41 rfl) (by decide) ?_
                    refine J_ist_3_6 C (dA DX8_hasFish_0 42 rfl) rfl ?_
                    first | refine J_inc1_4_6 C (dA DX8_hasFish_0 43 rfl) rfl ?_ | refine J_iinc_4_6 C (dA DX8_hasFish_0 43 rfl) rfl ?_
                    refine J_goto (tgt := 5) C (dA DX8_hasFish_0 44 rfl) (by decide) ?_
                    have h := ih (i + 1) (some (.int (nI 1))) rfl (by omega)
                    rw [show jb (anyB (i + 1) (fun k => (decide (f3 (vb 1100 M) k 0 = 1) || decide (f3 (vb 1100 M) k 0 = 6)) && (decide (¬ nI k = y) && decide (nI (f3 (vb 1100 M) k 1) = x)))) = nI 0 from (bt_f (by show (anyB i _ || _) = _; rw [h47]; simp [h69])).symm] at h
                    exact h
                  · refine J_iconst (v := nI 1) C (dA DX8_hasFish_0 39 rfl) (by decide) ?_
                    refine J_goto (tgt := 77) C (dA DX8_hasFish_0 40 rfl) (by decide) ?_
                    refine J_ist_3_6 C (dA DX8_hasFish_0 42 rfl) rfl ?_
                    first | refine J_inc1_4_6 C (dA DX8_hasFish_0 43 rfl) rfl ?_ | refine J_iinc_4_6 C (dA DX8_hasFish_0 43 rfl) rfl ?_
                    refine J_goto (tgt := 5) C (dA DX8_hasFish_0 44 rfl) (by decide) ?_
                    have h := ih (i + 1) (some (.int (nI 1))) rfl (by omega)
                    rw [show jb (anyB (i + 1) (fun k => (decide (f3 (vb 1100 M) k 0 = 1) || decide (f3 (vb 1100 M) k 0 = 6)) && (decide (¬ nI k = y) && decide (nI (f3 (vb 1100 M) k 1) = x)))) = nI 1 from (bt_t (by show (anyB i _ || _) = _; rw [h47]; simp [h24, h36, h58, h69])).symm] at h
                    exact h
  refine J_iconst (v := nI 0) C (dA DX8_hasFish_0 0 rfl) (by decide) ?_
  refine J_ist_3_6 C (dA DX8_hasFish_0 1 rfl) rfl ?_
  refine J_iconst (v := nI 0) C (dA DX8_hasFish_0 2 rfl) (by decide) ?_
  refine J_ist_4_6 C (dA DX8_hasFish_0 3 rfl) rfl ?_
  have h := loop _ 0 none rfl (Nat.zero_add _)
  exact h
set_option maxRecDepth 4000 in
theorem c_X8_asHeron (l : Launch) (E : jE) (p : Nat) (hp : p < 16) (hS : IS (vb 1100 M))  : K_X8_asHeron l E [.ref (ja E 60), .int (nI p)] M (nI (heronS (vb 1100 M) p)) (M) := by
  refine CT_intro (own := RX8) (by decide +kernel) rfl (by simp [Value.category]) (Nat.le_of_ble_eq_true rfl) rfl (fun X C G => ?_)
  show J E X 0 [some (.ref (ja E 60)), some (.int (nI p)), none, none] [] M
  have hN := leN hS
  have hb : ∀ i, i < 16 → bit (shwS (vb 1100 M) (nI p)) i = decide (f6 (vb 1100 M) i 0 = p) := fun i hi => by
    have h6 := lt60 hS hi
    unfold shwS
    rw [bit_bt (by omega), bt_orL (by omega) (by omega), decide_eq_true hi, Bool.true_and, decide_eq_decide, nI_eq (by omega) (by omega)]
  by_cases hz : shwS (vb 1100 M) (nI p) = 0
  · have hno : ∀ k, k < 16 → decide (f6 (vb 1100 M) k 0 = p) = false := fun k hk => by rw [← hb k hk, hz, bit_bt (by omega)]; exact b_0 k
    have e : heronS (vb 1100 M) p = frogS (vb 1100 M) p := by unfold heronS; rw [firstN_no (n := 16) hno, if_neg (by omega)]
    refine J_aload_n C (dA DX8_asHeron_0 0 rfl) rfl ?_
    refine J_iload_n C (dA DX8_asHeron_0 1 rfl) rfl ?_
    refine V_X8_showing C (c_X8_showing l E _ hS) wM_RX8_76 (by decide) (dA DX8_asHeron_0 2 rfl) rfl (Nat.le_of_ble_eq_true rfl) ?_
    refine J_ist_2_4 C (dA DX8_asHeron_0 3 rfl) rfl ?_
    refine J_iconst (v := nI 0) C (dA DX8_asHeron_0 4 rfl) (by decide) ?_
    refine J_ist_3_4 C (dA DX8_asHeron_0 5 rfl) rfl ?_
    refine J_iload_n C (dA DX8_asHeron_0 6 rfl) rfl ?_
    refine J_if_eq (tgt := 26) C (dA DX8_asHeron_0 7 rfl) (by decide) (fun h9 => ?_) (fun h9 => ?_)
    · refine J_iload_n C (dA DX8_asHeron_0 16 rfl) rfl ?_
      refine J_if_eq (tgt := 43) C (dA DX8_asHeron_0 17 rfl) (by decide) (fun h27 => ?_) (fun h27 => ?_)
      · refine J_aload_n C (dA DX8_asHeron_0 25 rfl) rfl ?_
        refine J_iload_n C (dA DX8_asHeron_0 26 rfl) rfl ?_
        refine V_X8_asFrog C (c_X8_asFrog l E p hp hS) wM_RX8_83 (by decide) (dA DX8_asHeron_0 27 rfl) rfl (Nat.le_of_ble_eq_true rfl) ?_
        exact J_iret C G (dA DX8_asHeron_0 28 rfl) ⟨oi (by rw [e]), rfl⟩
      · exact absurd hz h27
    · exact absurd hz h9
  · have loop : ∀ n i, i + n = 16 → (∀ k, k < i → decide (f6 (vb 1100 M) k 0 = p) = false) → J E X 8 [some (.ref (ja E 60)), some (.int (nI p)), some (.int (shwS (vb 1100 M) (nI p))), some (.int (nI i))] [] M := by
      intro n
      induction n with
      | zero =>
        intro i hi hno
        refine absurd ?_ hz
        unfold shwS
        refine (orL_z (by omega)).mpr (fun k hk => ?_)
        have h6 := lt60 hS hk
        have h := hno k (by omega)
        rw [decide_eq_false_iff_not] at h ⊢
        rw [nI_eq (by omega) (by omega)]
        exact h
      | succ n ih =>
        intro i hi hno
        refine J_iload_n C (dA DX8_asHeron_0 6 rfl) rfl ?_
        refine J_if_eq (tgt := 26) C (dA DX8_asHeron_0 7 rfl) (by decide) (fun h9 => ?_) (fun h9 => ?_)
        · exact absurd h9 hz
        · refine J_iload_n C (dA DX8_asHeron_0 8 rfl) rfl ?_
          refine J_iload_n C (dA DX8_asHeron_0 9 rfl) rfl ?_
          refine J_ishr C (dA DX8_asHeron_0 10 rfl) ?_
          refine J_iconst (v := nI 1) C (dA DX8_asHeron_0 11 rfl) (by decide) ?_
          refine J_iand C (dA DX8_asHeron_0 12 rfl) ?_
          refine J_if_ne (tgt := 26) C (dA DX8_asHeron_0 13 rfl) (by decide) (fun h17 => ?_) (fun h17 => ?_)
          · have hbi : decide (f6 (vb 1100 M) i 0 = p) = true := by rw [← hb i (by omega)]; exact decide_eq_true h17
            have e : firstN 16 (fun q => decide (f6 (vb 1100 M) q 0 = p)) = i := firstN_eq (by omega) hno hbi
            refine J_iload_n C (dA DX8_asHeron_0 16 rfl) rfl ?_
            refine J_if_eq (tgt := 43) C (dA DX8_asHeron_0 17 rfl) (by decide) (fun h27 => ?_) (fun h27 => ?_)
            · exact absurd h27 hz
            · refine J_aload_n C (dA DX8_asHeron_0 18 rfl) rfl ?_
              refine J_iload_n C (dA DX8_asHeron_0 19 rfl) rfl ?_
              refine J_iconst (v := (-1)) C (dA DX8_asHeron_0 20 rfl) (by decide) ?_
              refine V_X8_hasFish C (c_X8_hasFish l E (nI i) (-1) hS) wM_RX8_79 (by decide) (dA DX8_asHeron_0 21 rfl) rfl (Nat.le_of_ble_eq_true rfl) ?_
              first | refine J_if_eq_b (tgt := 43) C (dA DX8_asHeron_0 22 rfl) (by decide) (fun h36 => ?_) (fun h36 => ?_) | refine J_if_eq_n (tgt := 43) C (by omega) (dA DX8_asHeron_0 22 rfl) (by decide) (fun h36 => ?_) (fun h36 => ?_) | refine J_if_eq_t (tgt := 43) C (dA DX8_asHeron_0 22 rfl) (by decide) (fun h36 => ?_) (fun h36 => ?_)
              · refine J_aload_n C (dA DX8_asHeron_0 25 rfl) rfl ?_
                refine J_iload_n C (dA DX8_asHeron_0 26 rfl) rfl ?_
                refine V_X8_asFrog C (c_X8_asFrog l E p hp hS) wM_RX8_83 (by decide) (dA DX8_asHeron_0 27 rfl) rfl (Nat.le_of_ble_eq_true rfl) ?_
                exact J_iret C G (dA DX8_asHeron_0 28 rfl) ⟨oi (by unfold heronS; rw [hasFB_m1 hS] at h36; rw [e, if_pos (by omega), h36]; rfl), rfl⟩
              · refine J_iload_n C (dA DX8_asHeron_0 23 rfl) rfl ?_
                refine J_goto (tgt := 48) C (dA DX8_asHeron_0 24 rfl) (by decide) ?_
                exact J_iret C G (dA DX8_asHeron_0 28 rfl) ⟨oi (by unfold heronS; rw [hasFB_m1 hS] at h36; rw [e, if_pos (by omega), h36]; rfl), rfl⟩
          · first | refine J_inc1_3_4 C (dA DX8_asHeron_0 14 rfl) rfl ?_ | refine J_iinc_3_4 C (dA DX8_asHeron_0 14 rfl) rfl ?_
            refine J_goto (tgt := 8) C (dA DX8_asHeron_0 15 rfl) (by decide) ?_
            refine ih (i + 1) (by omega) (fun k hk => ?_)
            by_cases e : k = i
            · subst e; rw [← hb k (by omega)]; exact decide_eq_false (fun z => z (Decidable.not_not.mp (fun q => q h17)))
            · exact hno k (by omega)
    refine J_aload_n C (dA DX8_asHeron_0 0 rfl) rfl ?_
    refine J_iload_n C (dA DX8_asHeron_0 1 rfl) rfl ?_
    refine V_X8_showing C (c_X8_showing l E _ hS) wM_RX8_76 (by decide) (dA DX8_asHeron_0 2 rfl) rfl (Nat.le_of_ble_eq_true rfl) ?_
    refine J_ist_2_4 C (dA DX8_asHeron_0 3 rfl) rfl ?_
    refine J_iconst (v := nI 0) C (dA DX8_asHeron_0 4 rfl) (by decide) ?_
    refine J_ist_3_4 C (dA DX8_asHeron_0 5 rfl) rfl ?_
    exact loop _ 0 (Nat.zero_add _) (fun k hk => by omega)
set_option maxRecDepth 4000 in
theorem c_X8_dryNext (l : Launch) (E : jE) (t : Nat) (ht : t < iN (vb 1100 M)) (hS : IS (vb 1100 M))  : K_X8_dryNext l E [.ref (ja E 60), .int (nI t)] M (nI (dryS (vb 1100 M) t)) (M) := by
  refine CT_intro (own := RX8) (by decide +kernel) rfl (by simp [Value.category]) (Nat.le_of_ble_eq_true rfl) rfl (fun X C G => ?_)
  show J E X 0 [some (.ref (ja E 60)), some (.int (nI t)), none, none, none] [] M
  have hN := leN hS
  have ht8 : t < 8 := by omega
  have h30 := lt30 hS ht8
  have h31 := lt31 hS ht8
  have h32 := le3 hS ht8 (w := 2) (by decide)
  have e32 : mx3 2 = 99 := rfl
  have h60 := lt60 hS h31
  have h64 := lt64 hS h31
  have h65 := le6 hS h31 (w := 5) (by decide)
  have e65 : mx6 5 = 99 := rfl
  refine J_aload_n C (dA DX8_dryNext_0 0 rfl) rfl ?_
  refine J_iload_n C (dA DX8_dryNext_0 1 rfl) rfl ?_
  refine J_iconst (v := nI 1) C (dA DX8_dryNext_0 2 rfl) (by decide) ?_
  refine V_X8_get C (c_X8_get l E t 1 ht8 (by omega) hS) wM_RX8_62 (by decide) (dA DX8_dryNext_0 3 rfl) rfl (Nat.le_of_ble_eq_true rfl) ?_
  refine J_ist_2_5 C (dA DX8_dryNext_0 4 rfl) rfl ?_
  refine J_aload_n C (dA DX8_dryNext_0 5 rfl) rfl ?_
  refine J_iload_n C (dA DX8_dryNext_0 6 rfl) rfl ?_
  refine J_iconst (v := nI 0) C (dA DX8_dryNext_0 7 rfl) (by decide) ?_
  refine V_X8_of1 C (c_X8_of1 l E _ 0 h31 (by omega) hS) wM_RX8_66 (by decide) (dA DX8_dryNext_0 8 rfl) rfl (Nat.le_of_ble_eq_true rfl) ?_
  refine J_ist_3_5 C (dA DX8_dryNext_0 9 rfl) rfl ?_
  refine J_aload_n C (dA DX8_dryNext_0 10 rfl) rfl ?_
  refine J_iload_n C (dA DX8_dryNext_0 11 rfl) rfl ?_
  refine J_iconst (v := nI 4) C (dA DX8_dryNext_0 12 rfl) (by decide) ?_
  refine V_X8_of1 C (c_X8_of1 l E _ 4 h31 (by omega) hS) wM_RX8_66 (by decide) (dA DX8_dryNext_0 13 rfl) rfl (Nat.le_of_ble_eq_true rfl) ?_
  refine J_ist_4_5 C (dA DX8_dryNext_0 14 rfl) rfl ?_
  refine J_aload_n C (dA DX8_dryNext_0 15 rfl) rfl ?_
  refine J_iload_n C (dA DX8_dryNext_0 16 rfl) rfl ?_
  refine J_iconst (v := nI 0) C (dA DX8_dryNext_0 17 rfl) (by decide) ?_
  refine V_X8_get C (c_X8_get l E t 0 ht8 (by omega) hS) wM_RX8_62 (by decide) (dA DX8_dryNext_0 18 rfl) rfl (Nat.le_of_ble_eq_true rfl) ?_
  rcases (show f3 (vb 1100 M) t 0 = 0 ∨ f3 (vb 1100 M) t 0 = 1 ∨ f3 (vb 1100 M) t 0 = 2 ∨ f3 (vb 1100 M) t 0 = 3 ∨ f3 (vb 1100 M) t 0 = 4 ∨ f3 (vb 1100 M) t 0 = 5 ∨ f3 (vb 1100 M) t 0 = 6 by omega) with e | e | e | e | e | e | e
  · refine J_tabOut C (dA DX8_dryNext_0 19 rfl) (Or.inl (by rw [e]; decide)) (tgt := 123) (by decide) ?_
    refine J_iload_n C (dA DX8_dryNext_0 54 rfl) rfl ?_
    exact J_iret C G (dA DX8_dryNext_0 55 rfl) ⟨oi (by unfold dryS; rw [e]; rfl), rfl⟩
  · refine J_tabIn C (dA DX8_dryNext_0 19 rfl) (by rw [e]; decide) (by rw [e]; decide) (off := 40) (by rw [e]; rfl) (tgt := 68) (by decide) ?_
    refine J_iload C (dA DX8_dryNext_0 20 rfl) rfl ?_
    exact J_iret C G (dA DX8_dryNext_0 21 rfl) ⟨oi (by unfold dryS; rw [e]; rfl), rfl⟩
  · refine J_tabIn C (dA DX8_dryNext_0 19 rfl) (by rw [e]; decide) (by rw [e]; decide) (off := 43) (by rw [e]; rfl) (tgt := 71) (by decide) ?_
    refine J_iload_n C (dA DX8_dryNext_0 22 rfl) rfl ?_
    exact J_iret C G (dA DX8_dryNext_0 23 rfl) ⟨oi (by unfold dryS; rw [e]; rfl), rfl⟩
  · refine J_tabIn C (dA DX8_dryNext_0 19 rfl) (by rw [e]; decide) (by rw [e]; decide) (off := 45) (by rw [e]; rfl) (tgt := 73) (by decide) ?_
    refine J_aload_n C (dA DX8_dryNext_0 24 rfl) rfl ?_
    refine J_iload_n C (dA DX8_dryNext_0 25 rfl) rfl ?_
    refine V_X8_asFrog C (c_X8_asFrog l E _ h31 hS) wM_RX8_83 (by decide) (dA DX8_dryNext_0 26 rfl) rfl (Nat.le_of_ble_eq_true rfl) ?_
    exact J_iret C G (dA DX8_dryNext_0 27 rfl) ⟨oi (by unfold dryS; rw [e]; rfl), rfl⟩
  · refine J_tabIn C (dA DX8_dryNext_0 19 rfl) (by rw [e]; decide) (by rw [e]; decide) (off := 51) (by rw [e]; rfl) (tgt := 79) (by decide) ?_
    refine J_aload_n C (dA DX8_dryNext_0 28 rfl) rfl ?_
    refine J_iload_n C (dA DX8_dryNext_0 29 rfl) rfl ?_
    refine V_X8_asHeron C (c_X8_asHeron l E _ h31 hS) wM_RX8_86 (by decide) (dA DX8_dryNext_0 30 rfl) rfl (Nat.le_of_ble_eq_true rfl) ?_
    exact J_iret C G (dA DX8_dryNext_0 31 rfl) ⟨oi (by unfold dryS; rw [e]; rfl), rfl⟩
  · refine J_tabIn C (dA DX8_dryNext_0 19 rfl) (by rw [e]; decide) (by rw [e]; decide) (off := 57) (by rw [e]; rfl) (tgt := 85) (by decide) ?_
    refine J_aload_n C (dA DX8_dryNext_0 32 rfl) rfl ?_
    refine J_iload_n C (dA DX8_dryNext_0 33 rfl) rfl ?_
    refine J_iconst (v := nI 5) C (dA DX8_dryNext_0 34 rfl) (by decide) ?_
    refine V_X8_of1 C (c_X8_of1 l E _ 5 h31 (by omega) hS) wM_RX8_66 (by decide) (dA DX8_dryNext_0 35 rfl) rfl (Nat.le_of_ble_eq_true rfl) ?_
    refine J_aload_n C (dA DX8_dryNext_0 36 rfl) rfl ?_
    refine J_iload_n C (dA DX8_dryNext_0 37 rfl) rfl ?_
    refine J_iconst (v := nI 2) C (dA DX8_dryNext_0 38 rfl) (by decide) ?_
    refine V_X8_get C (c_X8_get l E t 2 ht8 (by omega) hS) wM_RX8_62 (by decide) (dA DX8_dryNext_0 39 rfl) rfl (Nat.le_of_ble_eq_true rfl) ?_
    first | refine J_icmp_ge_n (tgt := 105) C (by omega) (by omega) (dA DX8_dryNext_0 40 rfl) (by decide) (fun h97 => ?_) (fun h97 => ?_) | refine J_icmp_ge_c (tgt := 105) C (by omega) (dA DX8_dryNext_0 40 rfl) (by decide) (fun h97 => ?_) (fun h97 => ?_) | refine J_icmp_ge_t (tgt := 105) C (dA DX8_dryNext_0 40 rfl) (by decide) (fun h97 => ?_) (fun h97 => ?_)
    · refine J_iload_n C (dA DX8_dryNext_0 43 rfl) rfl ?_
      exact J_iret C G (dA DX8_dryNext_0 44 rfl) ⟨oi (by unfold dryS; rw [e]; simp only [if_neg (show ¬ f6 (vb 1100 M) (f3 (vb 1100 M) t 1) 5 < f3 (vb 1100 M) t 2 by omega)]), rfl⟩
    · refine J_iload C (dA DX8_dryNext_0 41 rfl) rfl ?_
      refine J_goto (tgt := 106) C (dA DX8_dryNext_0 42 rfl) (by decide) ?_
      exact J_iret C G (dA DX8_dryNext_0 44 rfl) ⟨oi (by unfold dryS; rw [e]; simp only [if_pos (show f6 (vb 1100 M) (f3 (vb 1100 M) t 1) 5 < f3 (vb 1100 M) t 2 by omega)]), rfl⟩
  · refine J_tabIn C (dA DX8_dryNext_0 19 rfl) (by rw [e]; decide) (by rw [e]; decide) (off := 79) (by rw [e]; rfl) (tgt := 107) (by decide) ?_
    refine J_aload_n C (dA DX8_dryNext_0 45 rfl) rfl ?_
    refine J_iload_n C (dA DX8_dryNext_0 46 rfl) rfl ?_
    refine J_iload_n C (dA DX8_dryNext_0 47 rfl) rfl ?_
    refine V_X8_hasFish C (c_X8_hasFish l E _ _ hS) wM_RX8_79 (by decide) (dA DX8_dryNext_0 48 rfl) rfl (Nat.le_of_ble_eq_true rfl) ?_
    first | refine J_if_eq_b (tgt := 120) C (dA DX8_dryNext_0 49 rfl) (by decide) (fun h113 => ?_) (fun h113 => ?_) | refine J_if_eq_n (tgt := 120) C (by omega) (dA DX8_dryNext_0 49 rfl) (by decide) (fun h113 => ?_) (fun h113 => ?_) | refine J_if_eq_t (tgt := 120) C (dA DX8_dryNext_0 49 rfl) (by decide) (fun h113 => ?_) (fun h113 => ?_)
    · refine J_iload C (dA DX8_dryNext_0 52 rfl) rfl ?_
      exact J_iret C G (dA DX8_dryNext_0 53 rfl) ⟨oi (by rw [hasFB_k hS ht] at h113; unfold dryS; rw [e]; unfold pikeS; rw [h113]; rfl), rfl⟩
    · refine J_iload_n C (dA DX8_dryNext_0 50 rfl) rfl ?_
      refine J_goto (tgt := 122) C (dA DX8_dryNext_0 51 rfl) (by decide) ?_
      exact J_iret C G (dA DX8_dryNext_0 53 rfl) ⟨oi (by rw [hasFB_k hS ht] at h113; unfold dryS; rw [e]; unfold pikeS; rw [h113]; rfl), rfl⟩
set_option maxRecDepth 4000 in
theorem c_X8_nextOf (l : Launch) (E : jE) (t : Nat) (ht : t < iN (vb 1100 M)) (hS : IS (vb 1100 M))  : K_X8_nextOf l E [.ref (ja E 60), .int (nI t)] M (nI (nxtS (vb 1100 M) t)) (M) := by
  refine CT_intro (own := RX8) (by decide +kernel) rfl (by simp [Value.category]) (Nat.le_of_ble_eq_true rfl) rfl (fun X C G => ?_)
  show J E X 0 [some (.ref (ja E 60)), some (.int (nI t))] [] M
  have hN := leN hS
  have hd := dry_lt hS (k := t) (by omega)
  have hR := leR hS
  refine J_aload_n C (dA DX8_nextOf_0 0 rfl) rfl ?_
  refine J_iload_n C (dA DX8_nextOf_0 1 rfl) rfl ?_
  refine V_X8_dryNext C (c_X8_dryNext l E t ht hS) wM_RX8_89 (by decide) (dA DX8_nextOf_0 2 rfl) rfl (Nat.le_of_ble_eq_true rfl) ?_
  refine J_aload_n C (dA DX8_nextOf_0 3 rfl) rfl ?_
  refine G_X8_s C wF_RX8_9 (dA DX8_nextOf_0 4 rfl) ?_
  refine J_iconst (v := nI 3) C (dA DX8_nextOf_0 5 rfl) (by decide) ?_
  refine Q_s3 C hS (dA DX8_nextOf_0 6 rfl) ?_
  first | refine J_iadd_n C (dA DX8_nextOf_0 7 rfl) ?_ | refine J_iadd C (dA DX8_nextOf_0 7 rfl) ?_
  refine J_bipush (v := nI 16) C (dA DX8_nextOf_0 8 rfl) (by decide) ?_
  refine J_irem_n C (by omega) (by omega) (by omega) (dA DX8_nextOf_0 9 rfl) ?_
  exact J_iret C G (dA DX8_nextOf_0 10 rfl) ⟨rfl, rfl⟩
set_option maxRecDepth 4000 in
theorem c_X8_minute (l : Launch) (E : jE) (hS : IS (vb 1100 M))  : K_X8_minute l E [.ref (ja E 60)] M (lay 1100 M (minS (vb 1100 M))) := by
  refine CT_intro (own := RX8) (by decide +kernel) rfl (by simp [Value.category]) (Nat.le_of_ble_eq_true rfl) rfl (fun X C G => ?_)
  show J E X 0 [some (.ref (ja E 60)), none] [] M
  have loop : ∀ n i (M' : jM), i + n = iN (vb 1100 M) → M' = lay 1100 M (moveS (vb 1100 M) i) → J E X 2 [some (.ref (ja E 60)), some (.int (nI i))] [] M' := by
    intro n
    induction n with
    | zero =>
      intro i M' hi hM
      have hN := leN hS
      have hmv := IS_mv hS i (by omega)
      have hv : vb 1100 M' = moveS (vb 1100 M) i := by rw [hM, vb_lay hmv.1.1]
      have hS' : IS (vb 1100 M') := hv ▸ hmv.1
      have hN' : iN (vb 1100 M') = iN (vb 1100 M) := by rw [hv]; exact hmv.2.1
      have hM' : iM (vb 1100 M') = iM (vb 1100 M) := by rw [hv]; exact hmv.2.2
      have hle := leM hS
      refine J_iload_n C (dA DX8_minute_0 2 rfl) rfl ?_
      refine J_aload_n C (dA DX8_minute_0 3 rfl) rfl ?_
      refine G_X8_s C wF_RX8_9 (dA DX8_minute_0 4 rfl) ?_
      refine J_iconst (v := nI 1) C (dA DX8_minute_0 5 rfl) (by decide) ?_
      refine Q_s1 C hS' (dA DX8_minute_0 6 rfl) ?_
      first | refine J_icmp_ge_n (tgt := 29) C (by omega) (by omega) (dA DX8_minute_0 7 rfl) (by decide) (fun h9 => ?_) (fun h9 => ?_) | refine J_icmp_ge_c (tgt := 29) C (by omega) (dA DX8_minute_0 7 rfl) (by decide) (fun h9 => ?_) (fun h9 => ?_) | refine J_icmp_ge_t (tgt := 29) C (dA DX8_minute_0 7 rfl) (by decide) (fun h9 => ?_) (fun h9 => ?_)
      · refine J_aload_n C (dA DX8_minute_0 17 rfl) rfl ?_
        refine G_X8_s C wF_RX8_9 (dA DX8_minute_0 18 rfl) ?_
        refine J_iconst (v := nI 0) C (dA DX8_minute_0 19 rfl) (by decide) ?_
        refine J_ldc (v := nI 99999) C wK_RX8_98 (dA DX8_minute_0 20 rfl) ?_
        refine J_aload_n C (dA DX8_minute_0 21 rfl) rfl ?_
        refine G_X8_s C wF_RX8_9 (dA DX8_minute_0 22 rfl) ?_
        refine J_iconst (v := nI 0) C (dA DX8_minute_0 23 rfl) (by decide) ?_
        refine Q_s0 C hS' (dA DX8_minute_0 24 rfl) ?_
        refine J_iconst (v := nI 1) C (dA DX8_minute_0 25 rfl) (by decide) ?_
        first | refine J_iadd_n C (dA DX8_minute_0 26 rfl) ?_ | refine J_iadd C (dA DX8_minute_0 26 rfl) ?_
        refine V_X8_less C (c_X8_less l E _ _ (by decide) (by omega)) wM_RX8_99 (by decide) (dA DX8_minute_0 27 rfl) rfl (Nat.le_of_ble_eq_true rfl) ?_
        refine S_1 C (hk := rfl) rfl (by omega) (dA DX8_minute_0 28 rfl) ?_
        have e : upd M' 1100 (nI (min 99999 (iM (vb 1100 M') + 1))) = lay 1100 M (upd (moveS (vb 1100 M) i) 0 (nI (min (iM (vb 1100 M) + 1) 99999))) := by
          rw [hM', hM, Nat.min_comm]; exact upd_lay (b := 1100) (j := 0) hmv.1.1 (by decide)
        exact J_vret C G (dA DX8_minute_0 29 rfl) ⟨rfl, by rw [e, show i = iN (vb 1100 M) by omega]; rfl⟩
      · exfalso; omega
    | succ n ih =>
      intro i M' hi hM
      have hN := leN hS
      have hmv := IS_mv hS i (by omega)
      have hv : vb 1100 M' = moveS (vb 1100 M) i := by rw [hM, vb_lay hmv.1.1]
      have hS' : IS (vb 1100 M') := hv ▸ hmv.1
      have hN' : iN (vb 1100 M') = iN (vb 1100 M) := by rw [hv]; exact hmv.2.1
      have hM' : iM (vb 1100 M') = iM (vb 1100 M) := by rw [hv]; exact hmv.2.2
      have hle := leM hS
      refine J_iload_n C (dA DX8_minute_0 2 rfl) rfl ?_
      refine J_aload_n C (dA DX8_minute_0 3 rfl) rfl ?_
      refine G_X8_s C wF_RX8_9 (dA DX8_minute_0 4 rfl) ?_
      refine J_iconst (v := nI 1) C (dA DX8_minute_0 5 rfl) (by decide) ?_
      refine Q_s1 C hS' (dA DX8_minute_0 6 rfl) ?_
      first | refine J_icmp_ge_n (tgt := 29) C (by omega) (by omega) (dA DX8_minute_0 7 rfl) (by decide) (fun h9 => ?_) (fun h9 => ?_) | refine J_icmp_ge_c (tgt := 29) C (by omega) (dA DX8_minute_0 7 rfl) (by decide) (fun h9 => ?_) (fun h9 => ?_) | refine J_icmp_ge_t (tgt := 29) C (dA DX8_minute_0 7 rfl) (by decide) (fun h9 => ?_) (fun h9 => ?_)
      · exfalso; omega
      · refine J_aload_n C (dA DX8_minute_0 8 rfl) rfl ?_
        refine J_iload_n C (dA DX8_minute_0 9 rfl) rfl ?_
        refine J_iconst (v := nI 1) C (dA DX8_minute_0 10 rfl) (by decide) ?_
        refine J_aload_n C (dA DX8_minute_0 11 rfl) rfl ?_
        refine J_iload_n C (dA DX8_minute_0 12 rfl) rfl ?_
        refine V_X8_nextOf C (c_X8_nextOf l E i (by omega) hS') wM_RX8_92 (by decide) (dA DX8_minute_0 13 rfl) rfl (Nat.le_of_ble_eq_true rfl) ?_
        refine V_X8_puts C (c_X8_puts l E i 1 (by omega) (by omega) _) wM_RX8_95 (by decide) (dA DX8_minute_0 14 rfl) rfl (Nat.le_of_ble_eq_true rfl) ?_
        first | refine J_inc1_1_2 C (dA DX8_minute_0 15 rfl) rfl ?_ | refine J_iinc_1_2 C (dA DX8_minute_0 15 rfl) rfl ?_
        refine J_goto (tgt := 2) C (dA DX8_minute_0 16 rfl) (by decide) ?_
        exact ih (i + 1) _ (by omega) (by rw [hv, hM, lay_lay]; rfl)
  refine J_iconst (v := nI 0) C (dA DX8_minute_0 0 rfl) (by decide) ?_
  refine J_ist_1_2 C (dA DX8_minute_0 1 rfl) rfl ?_
  exact loop _ 0 M (Nat.zero_add _) lay_vb.symm
set_option maxRecDepth 4000 in
theorem c_X8_addsThing (l : Launch) (E : jE) (a p : Nat) (ha : a ≤ 6) (hp : p ≤ 15) (hn : iN (vb 1100 M) < 8) (hS : IS (vb 1100 M))  : K_X8_addsThing l E [.ref (ja E 60), .int (nI a), .int (nI p)] M (lay 1100 M (addS (vb 1100 M) a p 9)) := by
  refine CT_intro (own := RX8) (by decide +kernel) rfl (by simp [Value.category]) (Nat.le_of_ble_eq_true rfl) rfl (fun X C G => ?_)
  show J E X 0 [some (.ref (ja E 60)), some (.int (nI a)), some (.int (nI p)), none] [] M
  have hN := leN hS
  have i1 := IS_u3 hS (k := iN (vb 1100 M)) (w := 0) (v := a) (by omega) (by omega) (by show a ≤ 6; omega)
  have i2 := IS_u3 i1 (k := iN (vb 1100 M)) (w := 1) (v := p) (by omega) (by omega) (by show p ≤ 15; omega)
  have i3 := IS_u3 i2 (k := iN (vb 1100 M)) (w := 2) (v := 9) (by omega) (by omega) (by decide)
  have v1 := vb_lay (b := 1100) (M := M) i1.1
  have v2 := vb_lay (b := 1100) (M := M) i2.1
  have v3 := vb_lay (b := 1100) (M := M) i3.1
  refine J_aload_n C (dA DX8_addsThing_0 0 rfl) rfl ?_
  refine G_X8_s C wF_RX8_9 (dA DX8_addsThing_0 1 rfl) ?_
  refine J_iconst (v := nI 1) C (dA DX8_addsThing_0 2 rfl) (by decide) ?_
  refine Q_s1 C hS (dA DX8_addsThing_0 3 rfl) ?_
  refine J_ist_3_4 C (dA DX8_addsThing_0 4 rfl) rfl ?_
  refine J_aload_n C (dA DX8_addsThing_0 5 rfl) rfl ?_
  refine J_iload_n C (dA DX8_addsThing_0 6 rfl) rfl ?_
  refine J_iconst (v := nI 0) C (dA DX8_addsThing_0 7 rfl) (by decide) ?_
  refine J_iload_n C (dA DX8_addsThing_0 8 rfl) rfl ?_
  refine V_X8_puts C (c_X8_puts l E (iN (vb 1100 M)) 0 (by omega) (by omega) _) wM_RX8_95 (by decide) (dA DX8_addsThing_0 9 rfl) rfl (Nat.le_of_ble_eq_true rfl) ?_
  refine J_aload_n C (dA DX8_addsThing_0 10 rfl) rfl ?_
  refine J_iload_n C (dA DX8_addsThing_0 11 rfl) rfl ?_
  refine J_iconst (v := nI 1) C (dA DX8_addsThing_0 12 rfl) (by decide) ?_
  refine J_iload_n C (dA DX8_addsThing_0 13 rfl) rfl ?_
  refine V_X8_puts C (c_X8_puts l E (iN (vb 1100 M)) 1 (by omega) (by omega) _) wM_RX8_95 (by decide) (dA DX8_addsThing_0 14 rfl) rfl (Nat.le_of_ble_eq_true rfl) ?_
  refine J_aload_n C (dA DX8_addsThing_0 15 rfl) rfl ?_
  refine J_iload_n C (dA DX8_addsThing_0 16 rfl) rfl ?_
  refine J_iconst (v := nI 2) C (dA DX8_addsThing_0 17 rfl) (by decide) ?_
  refine J_bipush (v := nI 9) C (dA DX8_addsThing_0 18 rfl) (by decide) ?_
  refine V_X8_puts C (c_X8_puts l E (iN (vb 1100 M)) 2 (by omega) (by omega) _) wM_RX8_95 (by decide) (dA DX8_addsThing_0 19 rfl) rfl (Nat.le_of_ble_eq_true rfl) ?_
  simp only [v1, lay_lay, v2]
  have hN3 : iN (upd (upd (upd (vb 1100 M) (100 + 3 * iN (vb 1100 M) + 0) (nI a)) (100 + 3 * iN (vb 1100 M) + 1) (nI p)) (100 + 3 * iN (vb 1100 M) + 2) (nI 9)) = iN (vb 1100 M) := by unfold iN; rw [pk_un (by unfold iN at *; omega), pk_un (by unfold iN at *; omega), pk_un (by unfold iN at *; omega)]
  obtain ⟨M3, hM3⟩ : ∃ M3, M3 = lay 1100 M (upd (upd (upd (vb 1100 M) (100 + 3 * iN (vb 1100 M) + 0) (nI a)) (100 + 3 * iN (vb 1100 M) + 1) (nI p)) (100 + 3 * iN (vb 1100 M) + 2) (nI 9)) := ⟨_, rfl⟩
  rw [← hM3] at v3 ⊢
  have hS3 : IS (vb 1100 M3) := v3 ▸ i3
  have hn3 : iN (vb 1100 M3) = iN (vb 1100 M) := by rw [v3, hN3]
  refine J_aload_n C (dA DX8_addsThing_0 20 rfl) rfl ?_
  refine G_X8_s C wF_RX8_9 (dA DX8_addsThing_0 21 rfl) ?_
  refine J_iconst (v := nI 1) C (dA DX8_addsThing_0 22 rfl) (by decide) ?_
  refine J_dup2 C (dA DX8_addsThing_0 23 rfl) rfl rfl ?_
  refine Q_s1 C hS3 (dA DX8_addsThing_0 24 rfl) ?_
  refine J_iconst (v := nI 1) C (dA DX8_addsThing_0 25 rfl) (by decide) ?_
  first | refine J_iadd_n C (dA DX8_addsThing_0 26 rfl) ?_ | refine J_iadd C (dA DX8_addsThing_0 26 rfl) ?_
  refine S_1 C (hk := rfl) rfl (by omega) (dA DX8_addsThing_0 27 rfl) ?_
  exact J_vret C G (dA DX8_addsThing_0 28 rfl) ⟨rfl, by rw [hn3, hM3]; exact upd_lay (b := 1100) (j := 1) i3.1 (by decide)⟩
end MM
def l4 (b : Nat) (M : jM) (e z t f : Int32) : jM := upd (upd (upd (upd M b e) (b + 1) z) (b + 2) t) (b + 3) f
theorem l4_0 {b : Nat} {M : jM} {e z t f : Int32} : l4 b M e z t f b = e := by unfold l4; rw [pk_un (by omega), pk_un (by omega), pk_un (by omega)]; exact pk_us
theorem l4_1 {b : Nat} {M : jM} {e z t f : Int32} : l4 b M e z t f (b + 1) = z := by unfold l4; rw [pk_un (by omega), pk_un (by omega)]; exact pk_us
theorem l4_2 {b : Nat} {M : jM} {e z t f : Int32} : l4 b M e z t f (b + 2) = t := by unfold l4; rw [pk_un (by omega)]; exact pk_us
theorem l4_3 {b : Nat} {M : jM} {e z t f : Int32} : l4 b M e z t f (b + 3) = f := by unfold l4; exact pk_us
theorem l4_o {b a : Nat} {M : jM} {e z t f : Int32} (h : a < b ∨ b + 4 ≤ a) : l4 b M e z t f a = M a := by unfold l4; rw [pk_un (by omega), pk_un (by omega), pk_un (by omega), pk_un (by omega)]
theorem l4_u0 {b : Nat} {M : jM} {e z t f x : Int32} : upd (l4 b M e z t f) b x = l4 b M x z t f := by
  funext a
  unfold l4 upd
  rcases (show a = b ∨ a = b + 1 ∨ a = b + 2 ∨ a = b + 3 ∨ (a ≠ b ∧ a ≠ b + 1 ∧ a ≠ b + 2 ∧ a ≠ b + 3) by omega) with rfl | rfl | rfl | rfl | ⟨h0, h1, h2, h3⟩ <;> simp [*]
theorem l4_u1 {b : Nat} {M : jM} {e z t f x : Int32} : upd (l4 b M e z t f) (b + 1) x = l4 b M e x t f := by
  funext a
  unfold l4 upd
  rcases (show a = b ∨ a = b + 1 ∨ a = b + 2 ∨ a = b + 3 ∨ (a ≠ b ∧ a ≠ b + 1 ∧ a ≠ b + 2 ∧ a ≠ b + 3) by omega) with rfl | rfl | rfl | rfl | ⟨h0, h1, h2, h3⟩ <;> simp [*]
theorem l4_u2 {b : Nat} {M : jM} {e z t f x : Int32} : upd (l4 b M e z t f) (b + 2) x = l4 b M e z x f := by
  funext a
  unfold l4 upd
  rcases (show a = b ∨ a = b + 1 ∨ a = b + 2 ∨ a = b + 3 ∨ (a ≠ b ∧ a ≠ b + 1 ∧ a ≠ b + 2 ∧ a ≠ b + 3) by omega) with rfl | rfl | rfl | rfl | ⟨h0, h1, h2, h3⟩ <;> simp [*]
theorem l4_u3 {b : Nat} {M : jM} {e z t f x : Int32} : upd (l4 b M e z t f) (b + 3) x = l4 b M e z t x := by
  funext a
  unfold l4 upd
  rcases (show a = b ∨ a = b + 1 ∨ a = b + 2 ∨ a = b + 3 ∨ (a ≠ b ∧ a ≠ b + 1 ∧ a ≠ b + 2 ∧ a ≠ b + 3) by omega) with rfl | rfl | rfl | rfl | ⟨h0, h1, h2, h3⟩ <;> simp [*]
theorem vb_l4 {b b' : Nat} {M : jM} {e z t f : Int32} (h : b' + 134 ≤ b ∨ b + 4 ≤ b') : vb b' (l4 b M e z t f) = vb b' M := by
  funext j; unfold vb; split
  · rw [l4_o (by omega)]
  · rfl
/-- how large, turned, flipped a chain's end is -/
def chZ (S : Nat → Int32) (p : Nat) : Nat → Nat
  | 0 => 81
  | i + 1 => min (chZ S p i * f6 S (itr S i p) 1 / 3) 99999
def chF (S : Nat → Int32) (p : Nat) : Nat → Nat
  | 0 => 0
  | i + 1 => (chF S p i + f6 S (itr S i p) 3) % 2
def chT (S : Nat → Int32) (p : Nat) : Nat → Nat
  | 0 => 0
  | i + 1 => (chT S p i + (if chF S p i = 0 then f6 S (itr S i p) 2 else 4 - f6 S (itr S i p) 2)) % 4
theorem chZ_le (S : Nat → Int32) (p : Nat) : ∀ i, chZ S p i ≤ 99999
  | 0 => by simp [chZ]
  | _ + 1 => Nat.min_le_right _ _
theorem chF_lt (S : Nat → Int32) (p : Nat) : ∀ i, chF S p i < 2
  | 0 => by simp [chF]
  | _ + 1 => Nat.mod_lt _ (by decide)
theorem chT_lt (S : Nat → Int32) (p : Nat) : ∀ i, chT S p i < 4
  | 0 => by simp [chT]
  | _ + 1 => Nat.mod_lt _ (by decide)
theorem x2 : ∀ a, a < 2 → ∀ b, b < 2 → nI a ^^^ nI b = nI ((a + b) % 2) := by decide +kernel
def chM (b : Nat) (S : Nat → Int32) (p i : Nat) (M : jM) : jM := l4 b M (nI (itr S i p)) (nI (chZ S p i)) (nI (chT S p i)) (nI (chF S p i))
section MM
variable {M : jM}
set_option maxRecDepth 4000 in
theorem c_X8_begins (l : Launch) (E : jE) (p : Int32)  : K_X8_begins l E [.ref (ja E 60), .int p] M (l4 1854 M p (nI 81) (nI 0) (nI 0)) := by
  refine CT_intro (own := RX8) (by decide +kernel) rfl (by simp [Value.category]) (Nat.le_of_ble_eq_true rfl) rfl (fun X C G => ?_)
  show J E X 0 [some (.ref (ja E 60)), some (.int p)] [] M
  refine J_aload_n C (dA DX8_begins_0 0 rfl) rfl ?_
  refine J_iload_n C (dA DX8_begins_0 1 rfl) rfl ?_
  refine P_X8_ends C wF_RX8_130 (dA DX8_begins_0 2 rfl) ?_
  refine J_aload_n C (dA DX8_begins_0 3 rfl) rfl ?_
  refine J_bipush (v := nI 81) C (dA DX8_begins_0 4 rfl) (by decide) ?_
  refine P_X8_size C wF_RX8_134 (dA DX8_begins_0 5 rfl) ?_
  refine J_aload_n C (dA DX8_begins_0 6 rfl) rfl ?_
  refine J_iconst (v := nI 0) C (dA DX8_begins_0 7 rfl) (by decide) ?_
  refine P_X8_turned C wF_RX8_137 (dA DX8_begins_0 8 rfl) ?_
  refine J_aload_n C (dA DX8_begins_0 9 rfl) rfl ?_
  refine J_iconst (v := nI 0) C (dA DX8_begins_0 10 rfl) (by decide) ?_
  refine P_X8_flipped C wF_RX8_140 (dA DX8_begins_0 11 rfl) ?_
  exact J_vret C G (dA DX8_begins_0 12 rfl) ⟨rfl, rfl⟩
set_option maxRecDepth 4000 in
theorem c_X8_steps (l : Launch) (E : jE) (p z t f : Nat) (hp : p < 16) (hz : z ≤ 99999) (ht : t < 4) (hf : f < 2) (hS : IS (vb 1100 M))  : K_X8_steps l E [.ref (ja E 60)] (l4 1854 M (nI p) (nI z) (nI t) (nI f)) (l4 1854 M (nI (f6 (vb 1100 M) p 0)) (nI (min (z * f6 (vb 1100 M) p 1 / 3) 99999)) (nI ((t + (if f = 0 then f6 (vb 1100 M) p 2 else 4 - f6 (vb 1100 M) p 2)) % 4)) (nI ((f + f6 (vb 1100 M) p 3) % 2))) := by
  refine CT_intro (own := RX8) (by decide +kernel) rfl (by simp [Value.category]) (Nat.le_of_ble_eq_true rfl) rfl (fun X C G => ?_)
  show J E X 0 [some (.ref (ja E 60))] [] (l4 1854 M (nI p) (nI z) (nI t) (nI f))
  have hS4 : ∀ {e z t f : Int32}, IS (vb 1100 (l4 1854 M e z t f)) := fun {e z t f} => by rw [vb_l4 (by omega)]; exact hS
  have hv : ∀ {e z t f : Int32}, vb 1100 (l4 1854 M e z t f) = vb 1100 M := fun {e z t f} => vb_l4 (by omega)
  have k1 := le6 hS hp (w := 1) (by decide)
  have k2 := le6 hS hp (w := 2) (by decide)
  have k3 := le6 hS hp (w := 3) (by decide)
  have m1 : mx6 1 = 9 := rfl
  have m2 : mx6 2 = 3 := rfl
  have m3 : mx6 3 = 1 := rfl
  have hmul : z * f6 (vb 1100 M) p 1 ≤ 99999 * 9 := Nat.mul_le_mul hz (by omega)
  refine J_aload_n C (dA DX8_steps_0 0 rfl) rfl ?_
  refine J_ldc (v := nI 99999) C wK_RX8_98 (dA DX8_steps_0 1 rfl) ?_
  refine J_aload_n C (dA DX8_steps_0 2 rfl) rfl ?_
  refine G_X8_size C wF_RX8_134 (dA DX8_steps_0 3 rfl) ?_
  rw [show (1855 : Nat) = 1854 + 1 from rfl, l4_1]
  refine J_aload_n C (dA DX8_steps_0 4 rfl) rfl ?_
  refine J_aload_n C (dA DX8_steps_0 5 rfl) rfl ?_
  refine G_X8_ends C wF_RX8_130 (dA DX8_steps_0 6 rfl) ?_
  rw [l4_0]
  refine J_iconst (v := nI 1) C (dA DX8_steps_0 7 rfl) (by decide) ?_
  refine V_X8_of1 C (c_X8_of1 l E _ 1 hp (by omega) hS4) wM_RX8_66 (by decide) (dA DX8_steps_0 8 rfl) rfl (Nat.le_of_ble_eq_true rfl) ?_
  rw [hv]
  first | refine J_imul_n C (dA DX8_steps_0 9 rfl) ?_ | refine J_imul C (dA DX8_steps_0 9 rfl) ?_
  refine J_iconst (v := nI 3) C (dA DX8_steps_0 10 rfl) (by decide) ?_
  refine J_idiv_n C (by omega) (by omega) (by omega) (dA DX8_steps_0 11 rfl) ?_
  refine V_X8_less C (c_X8_less l E _ _ (by decide) (by omega)) wM_RX8_99 (by decide) (dA DX8_steps_0 12 rfl) rfl (Nat.le_of_ble_eq_true rfl) ?_
  refine P_X8_size C wF_RX8_134 (dA DX8_steps_0 13 rfl) ?_
  rw [show (1855 : Nat) = 1854 + 1 from rfl, l4_u1]
  refine J_aload_n C (dA DX8_steps_0 14 rfl) rfl ?_
  refine J_aload_n C (dA DX8_steps_0 15 rfl) rfl ?_
  refine G_X8_turned C wF_RX8_137 (dA DX8_steps_0 16 rfl) ?_
  rw [show (1856 : Nat) = 1854 + 2 from rfl, l4_2]
  refine J_aload_n C (dA DX8_steps_0 17 rfl) rfl ?_
  refine G_X8_flipped C wF_RX8_140 (dA DX8_steps_0 18 rfl) ?_
  rw [show (1857 : Nat) = 1854 + 3 from rfl, l4_3]
  refine J_if_ne_n (tgt := 49) C (by omega) (dA DX8_steps_0 19 rfl) (by decide) (fun h34 => ?_) (fun h34 => ?_)
  · refine J_iconst (v := nI 4) C (dA DX8_steps_0 26 rfl) (by decide) ?_
    refine J_aload_n C (dA DX8_steps_0 27 rfl) rfl ?_
    refine J_aload_n C (dA DX8_steps_0 28 rfl) rfl ?_
    refine G_X8_ends C wF_RX8_130 (dA DX8_steps_0 29 rfl) ?_
    rw [l4_0]
    refine J_iconst (v := nI 2) C (dA DX8_steps_0 30 rfl) (by decide) ?_
    refine V_X8_of1 C (c_X8_of1 l E _ 2 hp (by omega) hS4) wM_RX8_66 (by decide) (dA DX8_steps_0 31 rfl) rfl (Nat.le_of_ble_eq_true rfl) ?_
    rw [hv]
    first | refine J_isub_n C (by omega) (dA DX8_steps_0 32 rfl) ?_ | refine J_isub C (dA DX8_steps_0 32 rfl) ?_
    first | refine J_iadd_n C (dA DX8_steps_0 33 rfl) ?_ | refine J_iadd C (dA DX8_steps_0 33 rfl) ?_
    refine J_iconst (v := nI 4) C (dA DX8_steps_0 34 rfl) (by decide) ?_
    refine J_irem_n C (by omega) (by omega) (by omega) (dA DX8_steps_0 35 rfl) ?_
    refine P_X8_turned C wF_RX8_137 (dA DX8_steps_0 36 rfl) ?_
    rw [show (1856 : Nat) = 1854 + 2 from rfl, l4_u2]
    refine J_aload_n C (dA DX8_steps_0 37 rfl) rfl ?_
    refine J_dup C (dA DX8_steps_0 38 rfl) rfl ?_
    refine G_X8_flipped C wF_RX8_140 (dA DX8_steps_0 39 rfl) ?_
    rw [show (1857 : Nat) = 1854 + 3 from rfl, l4_3]
    refine J_aload_n C (dA DX8_steps_0 40 rfl) rfl ?_
    refine J_aload_n C (dA DX8_steps_0 41 rfl) rfl ?_
    refine G_X8_ends C wF_RX8_130 (dA DX8_steps_0 42 rfl) ?_
    rw [l4_0]
    refine J_iconst (v := nI 3) C (dA DX8_steps_0 43 rfl) (by decide) ?_
    refine V_X8_of1 C (c_X8_of1 l E _ 3 hp (by omega) hS4) wM_RX8_66 (by decide) (dA DX8_steps_0 44 rfl) rfl (Nat.le_of_ble_eq_true rfl) ?_
    rw [hv]
    refine J_ixor C (dA DX8_steps_0 45 rfl) ?_
    rw [x2 _ hf _ (by omega)]
    refine P_X8_flipped C wF_RX8_140 (dA DX8_steps_0 46 rfl) ?_
    rw [show (1857 : Nat) = 1854 + 3 from rfl, l4_u3]
    refine J_aload_n C (dA DX8_steps_0 47 rfl) rfl ?_
    refine J_aload_n C (dA DX8_steps_0 48 rfl) rfl ?_
    refine J_aload_n C (dA DX8_steps_0 49 rfl) rfl ?_
    refine G_X8_ends C wF_RX8_130 (dA DX8_steps_0 50 rfl) ?_
    rw [l4_0]
    refine J_iconst (v := nI 0) C (dA DX8_steps_0 51 rfl) (by decide) ?_
    refine V_X8_of1 C (c_X8_of1 l E _ 0 hp (by omega) hS4) wM_RX8_66 (by decide) (dA DX8_steps_0 52 rfl) rfl (Nat.le_of_ble_eq_true rfl) ?_
    rw [hv]
    refine P_X8_ends C wF_RX8_130 (dA DX8_steps_0 53 rfl) ?_
    exact J_vret C G (dA DX8_steps_0 54 rfl) ⟨rfl, by rw [l4_u0, Nat.min_comm]; congr 2; simp only [if_neg h34]⟩
  · refine J_aload_n C (dA DX8_steps_0 20 rfl) rfl ?_
    refine J_aload_n C (dA DX8_steps_0 21 rfl) rfl ?_
    refine G_X8_ends C wF_RX8_130 (dA DX8_steps_0 22 rfl) ?_
    rw [l4_0]
    refine J_iconst (v := nI 2) C (dA DX8_steps_0 23 rfl) (by decide) ?_
    refine V_X8_of1 C (c_X8_of1 l E _ 2 hp (by omega) hS4) wM_RX8_66 (by decide) (dA DX8_steps_0 24 rfl) rfl (Nat.le_of_ble_eq_true rfl) ?_
    rw [hv]
    refine J_goto (tgt := 60) C (dA DX8_steps_0 25 rfl) (by decide) ?_
    first | refine J_iadd_n C (dA DX8_steps_0 33 rfl) ?_ | refine J_iadd C (dA DX8_steps_0 33 rfl) ?_
    refine J_iconst (v := nI 4) C (dA DX8_steps_0 34 rfl) (by decide) ?_
    refine J_irem_n C (by omega) (by omega) (by omega) (dA DX8_steps_0 35 rfl) ?_
    refine P_X8_turned C wF_RX8_137 (dA DX8_steps_0 36 rfl) ?_
    rw [show (1856 : Nat) = 1854 + 2 from rfl, l4_u2]
    refine J_aload_n C (dA DX8_steps_0 37 rfl) rfl ?_
    refine J_dup C (dA DX8_steps_0 38 rfl) rfl ?_
    refine G_X8_flipped C wF_RX8_140 (dA DX8_steps_0 39 rfl) ?_
    rw [show (1857 : Nat) = 1854 + 3 from rfl, l4_3]
    refine J_aload_n C (dA DX8_steps_0 40 rfl) rfl ?_
    refine J_aload_n C (dA DX8_steps_0 41 rfl) rfl ?_
    refine G_X8_ends C wF_RX8_130 (dA DX8_steps_0 42 rfl) ?_
    rw [l4_0]
    refine J_iconst (v := nI 3) C (dA DX8_steps_0 43 rfl) (by decide) ?_
    refine V_X8_of1 C (c_X8_of1 l E _ 3 hp (by omega) hS4) wM_RX8_66 (by decide) (dA DX8_steps_0 44 rfl) rfl (Nat.le_of_ble_eq_true rfl) ?_
    rw [hv]
    refine J_ixor C (dA DX8_steps_0 45 rfl) ?_
    rw [x2 _ hf _ (by omega)]
    refine P_X8_flipped C wF_RX8_140 (dA DX8_steps_0 46 rfl) ?_
    rw [show (1857 : Nat) = 1854 + 3 from rfl, l4_u3]
    refine J_aload_n C (dA DX8_steps_0 47 rfl) rfl ?_
    refine J_aload_n C (dA DX8_steps_0 48 rfl) rfl ?_
    refine J_aload_n C (dA DX8_steps_0 49 rfl) rfl ?_
    refine G_X8_ends C wF_RX8_130 (dA DX8_steps_0 50 rfl) ?_
    rw [l4_0]
    refine J_iconst (v := nI 0) C (dA DX8_steps_0 51 rfl) (by decide) ?_
    refine V_X8_of1 C (c_X8_of1 l E _ 0 hp (by omega) hS4) wM_RX8_66 (by decide) (dA DX8_steps_0 52 rfl) rfl (Nat.le_of_ble_eq_true rfl) ?_
    rw [hv]
    refine P_X8_ends C wF_RX8_130 (dA DX8_steps_0 53 rfl) ?_
    exact J_vret C G (dA DX8_steps_0 54 rfl) ⟨rfl, by rw [l4_u0, Nat.min_comm]; congr 2; simp only [if_pos h34]⟩
end MM
