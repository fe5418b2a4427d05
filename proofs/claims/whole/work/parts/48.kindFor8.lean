section PA
variable {M : jM}
set_option maxRecDepth 4000 in
theorem c_X8_kindFor (l : Launch) (E : jE) (a : Int32) (hS : IS (vb 1100 M))  : K_X8_kindFor l E [.ref (ja E 60), .int a] M (aKind (vb 1100 M) a) (eKind8 a M) := by
  refine CT_intro (own := RX8) (by decide +kernel) rfl (by simp [Value.category]) (Nat.le_of_ble_eq_true rfl) rfl (fun X C G => ?_)
  show J E X 0 [some (.ref (ja E 60)), some (.int a), none, none, none, none, none] [] M
  have hN0 := leN hS
  refine J_aload_n C (dA DX8_kindFor_0 0 rfl) rfl ?_
  refine J_iload_n C (dA DX8_kindFor_0 1 rfl) rfl ?_
  refine V_X8_isThing C (c_X8_isThing l E _ hS) wM_RX8_116 (by decide) (dA DX8_kindFor_0 2 rfl) rfl (Nat.le_of_ble_eq_true rfl) ?_
  refine J_if_ne_b (tgt := 14) C (dA DX8_kindFor_0 3 rfl) (by decide) (fun h5 => ?_) (fun h5 => ?_)
  · try have g5 := inr_t h5
    try have g5 := inr_f h5
    obtain ⟨p, hp, rfl⟩ := toNI (x := a) (n := (iN (vb 1100 M))) (by omega) (by omega)
    have ta := tI (n := p) (by omega)
    have na : nv (nI p) = p := nv_nI (by omega)
    have hN := leN hS
    have hc : ∀ k, k < 7 → rcK (vb 1100 M) p k ≤ 16 := fun k hk => rcK_le hS (by omega) hk
    have loop : ∀ n i (o5 o6 : Option Value), (∀ x y z : Int32, jok [some (.ref (ja E 60)), some (.int (nI p)), some (.int x), some (.int y), some (.int z), o5, o6] 5 = true) → (∀ x y z u : Int32, jok [some (.ref (ja E 60)), some (.int (nI p)), some (.int x), some (.int y), some (.int z), some (.int u), o6] 6 = true) → i + n = 7 → J E X 25 [some (.ref (ja E 60)), some (.int (nI p)), some (.int (nI (bK (rcK (vb 1100 M) p) i))), some (.int (nI (mK (rcK (vb 1100 M) p) i))), some (.int (nI i)), o5, o6] [] (asd M) := by
      intro n
      induction n with
      | zero =>
        intro i o5 o6 k5 k6 hi
        obtain rfl : 7 = i := by omega
        refine J_iload C (dA DX8_kindFor_0 16 rfl) rfl ?_
        refine J_bipush (v := nI 6) C (dA DX8_kindFor_0 17 rfl) (by decide) ?_
        first | refine J_icmp_gt_n (tgt := 128) C (by omega) (by omega) (dA DX8_kindFor_0 18 rfl) (by decide) (fun h29 => ?_) (fun h29 => ?_) | refine J_icmp_gt_c (tgt := 128) C (by omega) (dA DX8_kindFor_0 18 rfl) (by decide) (fun h29 => ?_) (fun h29 => ?_) | refine J_icmp_gt_t (tgt := 128) C (dA DX8_kindFor_0 18 rfl) (by decide) (fun h29 => ?_) (fun h29 => ?_)
        · try have g29 := inr_t h29
          try have g29 := inr_f h29
          refine J_iload_n C (dA DX8_kindFor_0 70 rfl) rfl ?_
          exact J_iret C G (dA DX8_kindFor_0 71 rfl) ⟨oi (by unfold aKind; rw [if_pos (show inr (nI p) 0 ((iN (vb 1100 M) : Int) - 1) = true from decide_eq_true (by omega)), na]), by unfold eKind8; rw [if_pos (show inr (nI p) 0 ((iN (vb 1100 M) : Int) - 1) = true from decide_eq_true (by omega))]⟩
        · exfalso; omega
      | succ n ih =>
        intro i o5 o6 k5 k6 hi
        have hT := IS_kv hS (show p < 8 by omega) (show i < 7 by omega)
        have c1 := mK_le hc i (by omega)
        have c2 := hc i (by omega)
        have hv16 := s16_vis hT (show p < 8 by omega) 60
        have er : bcN (visS (kvT (vb 1100 M) p i) p 60) = rcK (vb 1100 M) p i := rfl
        have em : mK (rcK (vb 1100 M) p) (i + 1) = if mK (rcK (vb 1100 M) p) i < rcK (vb 1100 M) p i then rcK (vb 1100 M) p i else mK (rcK (vb 1100 M) p) i := rfl
        have eb : bK (rcK (vb 1100 M) p) (i + 1) = if mK (rcK (vb 1100 M) p) i < rcK (vb 1100 M) p i then i else bK (rcK (vb 1100 M) p) i := rfl
        have inner : ∀ m j, j + m = 60 → J E X 53 [some (.ref (ja E 60)), some (.int (nI p)), some (.int (nI (bK (rcK (vb 1100 M) p) i))), some (.int (nI (mK (rcK (vb 1100 M) p) i))), some (.int (nI i)), some (.int (visS (kvT (vb 1100 M) p i) p j)), some (.int (nI j))] [] (lay 1100 (asd M) (minsS (kvT (vb 1100 M) p i) j)) := by
          intro m
          induction m with
          | zero =>
            intro j hj
            obtain rfl : 60 = j := by omega
            refine J_iload C (dA DX8_kindFor_0 33 rfl) rfl ?_
            refine J_bipush (v := nI 60) C (dA DX8_kindFor_0 34 rfl) (by decide) ?_
            first | refine J_icmp_ge_n (tgt := 83) C (by omega) (by omega) (dA DX8_kindFor_0 35 rfl) (by decide) (fun h57 => ?_) (fun h57 => ?_) | refine J_icmp_ge_c (tgt := 83) C (by omega) (dA DX8_kindFor_0 35 rfl) (by decide) (fun h57 => ?_) (fun h57 => ?_) | refine J_icmp_ge_t (tgt := 83) C (dA DX8_kindFor_0 35 rfl) (by decide) (fun h57 => ?_) (fun h57 => ?_)
            · try have g57 := inr_t h57
              try have g57 := inr_f h57
              refine J_aload_n C (dA DX8_kindFor_0 49 rfl) rfl ?_
              refine V_X8_laysBack C (c_X8_laysBack l E) wM_RX8_168 (by decide) (dA DX8_kindFor_0 50 rfl) rfl (Nat.le_of_ble_eq_true rfl) ?_
              rw [asd_back]
              refine J_iload C (dA DX8_kindFor_0 51 rfl) rfl ?_
              refine V_X8_bits C (c_bx l E _ hv16) wM_RX8_159 (by decide) (dA DX8_kindFor_0 52 rfl) rfl (Nat.le_of_ble_eq_true rfl) ?_
              rw [er]
              refine J_iload_n C (dA DX8_kindFor_0 53 rfl) rfl ?_
              refine J_icmp_le_n (tgt := 101) C (by omega) (by omega) (dA DX8_kindFor_0 54 rfl) (by decide) (fun h93 => ?_) (fun h93 => ?_)
              · try have g93 := inr_t h93
                try have g93 := inr_f h93
                refine J_iload_n C (dA DX8_kindFor_0 57 rfl) rfl ?_
                refine J_ist_2_7 C (dA DX8_kindFor_0 58 rfl) rfl ?_
                refine J_iload C (dA DX8_kindFor_0 59 rfl) rfl ?_
                refine V_X8_bits C (c_bx l E _ hv16) wM_RX8_159 (by decide) (dA DX8_kindFor_0 60 rfl) rfl (Nat.le_of_ble_eq_true rfl) ?_
                rw [er]
                refine J_iload_n C (dA DX8_kindFor_0 61 rfl) rfl ?_
                refine J_icmp_le_n (tgt := 120) C (by omega) (by omega) (dA DX8_kindFor_0 62 rfl) (by decide) (fun h109 => ?_) (fun h109 => ?_)
                · try have g109 := inr_t h109
                  try have g109 := inr_f h109
                  refine J_iload_n C (dA DX8_kindFor_0 66 rfl) rfl ?_
                  refine J_ist_3_7 C (dA DX8_kindFor_0 67 rfl) rfl ?_
                  first | refine J_inc1_4_7 C (dA DX8_kindFor_0 68 rfl) rfl ?_ | refine J_iinc_4_7 C (dA DX8_kindFor_0 68 rfl) rfl ?_
                  refine J_goto (tgt := 25) C (dA DX8_kindFor_0 69 rfl) (by decide) ?_
                  have h := ih (i + 1) (some (.int (visS (kvT (vb 1100 M) p i) p 60))) (some (.int (nI 60))) (fun _ _ _ => rfl) (fun _ _ _ _ => rfl) (by omega)
                  rw [em, eb, if_neg (show ¬ mK (rcK (vb 1100 M) p) i < rcK (vb 1100 M) p i by omega), if_neg (show ¬ mK (rcK (vb 1100 M) p) i < rcK (vb 1100 M) p i by omega)] at h
                  exact h
                · exfalso; omega
              · try have g93 := inr_t h93
                try have g93 := inr_f h93
                refine J_iload C (dA DX8_kindFor_0 55 rfl) rfl ?_
                refine J_goto (tgt := 102) C (dA DX8_kindFor_0 56 rfl) (by decide) ?_
                refine J_ist_2_7 C (dA DX8_kindFor_0 58 rfl) rfl ?_
                refine J_iload C (dA DX8_kindFor_0 59 rfl) rfl ?_
                refine V_X8_bits C (c_bx l E _ hv16) wM_RX8_159 (by decide) (dA DX8_kindFor_0 60 rfl) rfl (Nat.le_of_ble_eq_true rfl) ?_
                rw [er]
                refine J_iload_n C (dA DX8_kindFor_0 61 rfl) rfl ?_
                refine J_icmp_le_n (tgt := 120) C (by omega) (by omega) (dA DX8_kindFor_0 62 rfl) (by decide) (fun h109 => ?_) (fun h109 => ?_)
                · exfalso; omega
                · try have g109 := inr_t h109
                  try have g109 := inr_f h109
                  refine J_iload C (dA DX8_kindFor_0 63 rfl) rfl ?_
                  refine V_X8_bits C (c_bx l E _ hv16) wM_RX8_159 (by decide) (dA DX8_kindFor_0 64 rfl) rfl (Nat.le_of_ble_eq_true rfl) ?_
                  rw [er]
                  refine J_goto (tgt := 121) C (dA DX8_kindFor_0 65 rfl) (by decide) ?_
                  refine J_ist_3_7 C (dA DX8_kindFor_0 67 rfl) rfl ?_
                  first | refine J_inc1_4_7 C (dA DX8_kindFor_0 68 rfl) rfl ?_ | refine J_iinc_4_7 C (dA DX8_kindFor_0 68 rfl) rfl ?_
                  refine J_goto (tgt := 25) C (dA DX8_kindFor_0 69 rfl) (by decide) ?_
                  have h := ih (i + 1) (some (.int (visS (kvT (vb 1100 M) p i) p 60))) (some (.int (nI 60))) (fun _ _ _ => rfl) (fun _ _ _ _ => rfl) (by omega)
                  rw [em, eb, if_pos (show mK (rcK (vb 1100 M) p) i < rcK (vb 1100 M) p i by omega), if_pos (show mK (rcK (vb 1100 M) p) i < rcK (vb 1100 M) p i by omega)] at h
                  exact h
            · exfalso; omega
          | succ m ihm =>
            intro j hj
            have hmi := miI (M := asd M) hT (j + 1)
            have hI := hmi.2.1
            refine J_iload C (dA DX8_kindFor_0 33 rfl) rfl ?_
            refine J_bipush (v := nI 60) C (dA DX8_kindFor_0 34 rfl) (by decide) ?_
            first | refine J_icmp_ge_n (tgt := 83) C (by omega) (by omega) (dA DX8_kindFor_0 35 rfl) (by decide) (fun h57 => ?_) (fun h57 => ?_) | refine J_icmp_ge_c (tgt := 83) C (by omega) (dA DX8_kindFor_0 35 rfl) (by decide) (fun h57 => ?_) (fun h57 => ?_) | refine J_icmp_ge_t (tgt := 83) C (dA DX8_kindFor_0 35 rfl) (by decide) (fun h57 => ?_) (fun h57 => ?_)
            · exfalso; omega
            · try have g57 := inr_t h57
              try have g57 := inr_f h57
              refine J_aload_n C (dA DX8_kindFor_0 36 rfl) rfl ?_
              refine V_X8_minute C (c_mim (M := asd M) l E hT j) wM_RX8_119 (by decide) (dA DX8_kindFor_0 37 rfl) rfl (Nat.le_of_ble_eq_true rfl) ?_
              refine J_iload C (dA DX8_kindFor_0 38 rfl) rfl ?_
              refine J_iconst (v := nI 1) C (dA DX8_kindFor_0 39 rfl) (by decide) ?_
              refine J_aload_n C (dA DX8_kindFor_0 40 rfl) rfl ?_
              refine J_iload_n C (dA DX8_kindFor_0 41 rfl) rfl ?_
              refine J_iconst (v := nI 1) C (dA DX8_kindFor_0 42 rfl) (by decide) ?_
              refine V_X8_get C (c_X8_get l E p 1 (by omega) (by decide) hI) wM_RX8_62 (by decide) (dA DX8_kindFor_0 43 rfl) rfl (Nat.le_of_ble_eq_true rfl) ?_
              rw [hmi.1]
              refine J_ishl C (dA DX8_kindFor_0 44 rfl) ?_
              refine J_ior C (dA DX8_kindFor_0 45 rfl) ?_
              refine J_ist_5_7 C (dA DX8_kindFor_0 46 rfl) rfl ?_
              first | refine J_inc1_6_7 C (dA DX8_kindFor_0 47 rfl) rfl ?_ | refine J_iinc_6_7 C (dA DX8_kindFor_0 47 rfl) rfl ?_
              refine J_goto (tgt := 53) C (dA DX8_kindFor_0 48 rfl) (by decide) ?_
              exact ihm (j + 1) (by omega)
        have hm0 := miI (M := asd M) hT 0
        have hI0 := hm0.2.1
        refine J_iload C (dA DX8_kindFor_0 16 rfl) rfl ?_
        refine J_bipush (v := nI 6) C (dA DX8_kindFor_0 17 rfl) (by decide) ?_
        first | refine J_icmp_gt_n (tgt := 128) C (by omega) (by omega) (dA DX8_kindFor_0 18 rfl) (by decide) (fun h29 => ?_) (fun h29 => ?_) | refine J_icmp_gt_c (tgt := 128) C (by omega) (dA DX8_kindFor_0 18 rfl) (by decide) (fun h29 => ?_) (fun h29 => ?_) | refine J_icmp_gt_t (tgt := 128) C (dA DX8_kindFor_0 18 rfl) (by decide) (fun h29 => ?_) (fun h29 => ?_)
        · exfalso; omega
        · try have g29 := inr_t h29
          try have g29 := inr_f h29
          refine J_aload_n C (dA DX8_kindFor_0 19 rfl) rfl ?_
          refine J_iload_n C (dA DX8_kindFor_0 20 rfl) rfl ?_
          refine J_iconst (v := nI 0) C (dA DX8_kindFor_0 21 rfl) (by decide) ?_
          refine J_iload C (dA DX8_kindFor_0 22 rfl) rfl ?_
          refine V_X8_puts C (c_X8_puts l E p 0 (by omega) (by decide) _) wM_RX8_95 (by decide) (dA DX8_kindFor_0 23 rfl) rfl (Nat.le_of_ble_eq_true rfl) ?_
          rw [vb_asd, show upd (vb 1100 M) (100 + 3 * p + 0) (nI i) = minsS (kvT (vb 1100 M) p i) 0 from rfl]
          refine J_iconst (v := nI 1) C (dA DX8_kindFor_0 24 rfl) (by decide) ?_
          refine J_aload_n C (dA DX8_kindFor_0 25 rfl) rfl ?_
          refine J_iload_n C (dA DX8_kindFor_0 26 rfl) rfl ?_
          refine J_iconst (v := nI 1) C (dA DX8_kindFor_0 27 rfl) (by decide) ?_
          refine V_X8_get C (c_X8_get l E p 1 (by omega) (by decide) hI0) wM_RX8_62 (by decide) (dA DX8_kindFor_0 28 rfl) rfl (Nat.le_of_ble_eq_true rfl) ?_
          rw [hm0.1]
          refine J_ishl C (dA DX8_kindFor_0 29 rfl) ?_
          refine J_ist_5_7 C (dA DX8_kindFor_0 30 rfl) (k5 _ _ _) ?_
          refine J_iconst (v := nI 0) C (dA DX8_kindFor_0 31 rfl) (by decide) ?_
          refine J_ist_6_7 C (dA DX8_kindFor_0 32 rfl) (k6 _ _ _ _) ?_
          exact inner 60 0 (Nat.zero_add _)
    refine J_iconst (v := nI 0) C (dA DX8_kindFor_0 8 rfl) (by decide) ?_
    refine J_ist_2_7 C (dA DX8_kindFor_0 9 rfl) rfl ?_
    refine J_iconst (v := nI 0) C (dA DX8_kindFor_0 10 rfl) (by decide) ?_
    refine J_ist_3_7 C (dA DX8_kindFor_0 11 rfl) rfl ?_
    refine J_aload_n C (dA DX8_kindFor_0 12 rfl) rfl ?_
    refine V_X8_setsAside C (c_X8_setsAside l E) wM_RX8_165 (by decide) (dA DX8_kindFor_0 13 rfl) rfl (Nat.le_of_ble_eq_true rfl) ?_
    refine J_iconst (v := nI 0) C (dA DX8_kindFor_0 14 rfl) (by decide) ?_
    refine J_ist_4_7 C (dA DX8_kindFor_0 15 rfl) rfl ?_
    exact loop 7 0 none none (fun _ _ _ => rfl) (fun _ _ _ _ => rfl) (Nat.zero_add _)
  · try have g5 := inr_t h5
    try have g5 := inr_f h5
    refine J_aload_n C (dA DX8_kindFor_0 4 rfl) rfl ?_
    refine J_iconst (v := nI 0) C (dA DX8_kindFor_0 5 rfl) (by decide) ?_
    refine V_X8_no C (c_X8_no l E _ (by decide)) wM_RX8_106 (by decide) (dA DX8_kindFor_0 6 rfl) rfl (Nat.le_of_ble_eq_true rfl) ?_
    exact J_iret C G (dA DX8_kindFor_0 7 rfl) ⟨oi (by unfold aKind; rw [if_neg (fun z => by have z := inr_t z; omega)]; rfl), by unfold eKind8; rw [if_neg (fun z => by have z := inr_t z; omega)]⟩
end PA
