theorem ey_t {S : Nat → Int32} (h : IS S) {i : Nat} (hi : i < 16) (hf : flP S i = true) (hl : lsS S i < 16) : orL 16 (fun q => eyG S q && decide (f6 S q 0 < i)) ||| b1 (lsS S i) = orL 16 (fun q => eyG S q && decide (f6 S q 0 < i + 1)) := b_ext (fun j hj => by
  have h2 : f6 S (lsS S i) 0 = i := of_decide_eq_true (firstN_lt (n := 16) hl).2
  rw [b_or, bt_orL (by decide) hj, bt_orL (by decide) hj, bt_b1 _ (by omega) j hj]
  by_cases e : j = lsS S i
  · have hG : eyG S j = true := by
      unfold eyG
      rw [e, h2, hf, decide_eq_true rfl]; rfl
    rw [hG, decide_eq_true e, e, h2, decide_eq_true hl, decide_eq_true (show i < i + 1 by omega), Bool.or_true]
    rfl
  · rw [decide_eq_false e, Bool.or_false]
    by_cases z : f6 S j 0 = i
    · have hG : eyG S j = false := by
        unfold eyG
        rw [z, decide_eq_false (show ¬ lsS S i = j from fun y => e y.symm), Bool.and_false]
      rw [hG, Bool.false_and, Bool.false_and]
    · rw [show decide (f6 S j 0 < i + 1) = decide (f6 S j 0 < i) from decide_eq_decide.mpr (by omega)])
theorem ey_f {S : Nat → Int32} {i : Nat} (hf : flP S i = false) : orL 16 (fun q => eyG S q && decide (f6 S q 0 < i)) = orL 16 (fun q => eyG S q && decide (f6 S q 0 < i + 1)) := orL_ext (fun j _ => by
  by_cases z : f6 S j 0 = i
  · have hG : eyG S j = false := by
      unfold eyG
      rw [z, hf, Bool.false_and]
    rw [hG, Bool.false_and, Bool.false_and]
  · rw [show decide (f6 S j 0 < i + 1) = decide (f6 S j 0 < i) from decide_eq_decide.mpr (by omega)])
theorem ey_16 {S : Nat → Int32} (h : IS S) : orL 16 (fun q => eyG S q && decide (f6 S q 0 < 16)) = orL 16 (eyG S) := orL_ext (fun j hj => by rw [decide_eq_true (lt60 h hj), Bool.and_true])
theorem ey_0 {S : Nat → Int32} : nI 0 = orL 16 (fun q => eyG S q && decide (f6 S q 0 < 0)) := ((orL_z (by decide)).mpr (fun k _ => by rw [decide_eq_false (Nat.not_lt_zero _), Bool.and_false])).symm
theorem eyX_no {S : Nat → Int32} (h : IS S) (hg : ∀ p, p < 16 → flP S p = true → lsS S p < 16) : eyX S = false := by
  have hN := leN h
  unfold eyX
  exact anyB_no (fun k hk => decide_eq_false (fun z => z (hg _ (lt31 h (by omega)) (flP_iff.mpr ⟨k, hk, rfl⟩))))
theorem eyX_yes {S : Nat → Int32} {p : Nat} (hf : flP S p = true) (hl : ¬ lsS S p < 16) : eyX S = true := by
  obtain ⟨k, hk, e⟩ := flP_iff.mp hf
  exact anyB_yes hk (decide_eq_true (by rw [e]; exact hl))
theorem ls_z {S : Nat → Int32} (h : IS S) {p : Nat} (hp : p < 16) : shwS S (nI p) = orL 16 (fun q => decide (f6 S q 0 = p)) := orL_ext (fun q hq => by
  have := lt60 h hq
  exact decide_eq_decide.mpr (nI_eq (by omega) (by omega)))
section PA
variable {M : jM}
set_option maxRecDepth 4000 in
theorem c_X7_eyes (l : Launch) (E : jE) (hS : IS (vb (fb 0) M))  : K_X7_eyes l E [.ref (ja E 59)] M (aEyes (vb (fb 0) M)) (eEyes (vb (fb 0) M) 1076 M) := by
  refine CT_intro (own := RX7) (by decide +kernel) rfl (by simp [Value.category]) (Nat.le_of_ble_eq_true rfl) rfl (fun X C G => ?_)
  show J E X 0 [some (.ref (ja E 59)), none, none, none, none] [] M
  have loop : ∀ n i (o : Option Value), (∀ x y z : Int32, jok [some (.ref (ja E 59)), some (.int x), some (.int y), some (.int z), o] 4 = true) → i + n = 16 → (∀ p, p < i → flP (vb (fb 0) M) p = true → lsS (vb (fb 0) M) p < 16) → J E X 12 [some (.ref (ja E 59)), some (.int (fillS (vb (fb 0) M))), some (.int (orL 16 (fun q => eyG (vb (fb 0) M) q && decide (f6 (vb (fb 0) M) q 0 < i)))), some (.int (nI i)), o] [] M := by
    intro n
    induction n with
    | zero =>
      intro i o k4 hi hg
      obtain rfl : 16 = i := by omega
      have hx : eyX (vb (fb 0) M) = false := eyX_no hS hg
      refine J_iload_n C (dA DX7_eyes_0 8 rfl) rfl ?_
      refine J_bipush (v := nI 16) C (dA DX7_eyes_0 9 rfl) (by decide) ?_
      refine J_icmp_ge_n (tgt := 62) C (by omega) (by omega) (dA DX7_eyes_0 10 rfl) (by decide) (fun h15 => ?_) (fun h15 => ?_)
      · refine J_iload_n C (dA DX7_eyes_0 35 rfl) rfl ?_
        exact J_iret C G (dA DX7_eyes_0 36 rfl) ⟨oi (by unfold aEyes; rw [hx, if_neg (by decide), ey_16 hS]), by unfold eEyes; rw [hx, if_neg (by decide)]⟩
      · exfalso; omega
    | succ n ih =>
      intro i o k4 hi hg
      have hi16 : i < 16 := by omega
      have hfb := fill_bit hS hi16
      have hls := ls_z hS hi16
      refine J_iload_n C (dA DX7_eyes_0 8 rfl) rfl ?_
      refine J_bipush (v := nI 16) C (dA DX7_eyes_0 9 rfl) (by decide) ?_
      refine J_icmp_ge_n (tgt := 62) C (by omega) (by omega) (dA DX7_eyes_0 10 rfl) (by decide) (fun h15 => ?_) (fun h15 => ?_)
      · exfalso; omega
      · refine J_iload_n C (dA DX7_eyes_0 11 rfl) rfl ?_
        refine J_iload_n C (dA DX7_eyes_0 12 rfl) rfl ?_
        refine J_ishr C (dA DX7_eyes_0 13 rfl) ?_
        refine J_iconst (v := nI 1) C (dA DX7_eyes_0 14 rfl) (by decide) ?_
        refine J_iand C (dA DX7_eyes_0 15 rfl) ?_
        refine J_if_eq (tgt := 56) C (dA DX7_eyes_0 16 rfl) (by decide) (fun h23 => ?_) (fun h23 => ?_)
        · first | refine J_inc1_3_5 C (dA DX7_eyes_0 33 rfl) rfl ?_ | refine J_iinc_3_5 C (dA DX7_eyes_0 33 rfl) rfl ?_
          refine J_goto (tgt := 12) C (dA DX7_eyes_0 34 rfl) (by decide) ?_
          have hf : flP (vb (fb 0) M) i = false := by rw [← hfb]; exact decide_eq_false (fun z => z h23)
          rw [ey_f hf]
          exact ih (i + 1) o k4 (by omega) (fun p hp hfp => by
            rcases Nat.lt_or_ge p i with z | z
            · exact hg p z hfp
            · rw [show p = i by omega, hf] at hfp; exact absurd hfp (by decide))
        · have hf : flP (vb (fb 0) M) i = true := by rw [← hfb]; exact decide_eq_true h23
          refine J_aload_n C (dA DX7_eyes_0 17 rfl) rfl ?_
          refine G_X7_fen C wF_RX7_12 (dA DX7_eyes_0 18 rfl) ?_
          refine J_iload_n C (dA DX7_eyes_0 19 rfl) rfl ?_
          refine V_X1_showersOf C (by decide) (c_X1_showersOf l E 0 (by decide) _ hS) wM_RX7_109 (by decide) (dA DX7_eyes_0 20 rfl) rfl (Nat.le_of_ble_eq_true rfl) ?_
          refine J_ist_4_5 C (dA DX7_eyes_0 21 rfl) (k4 _ _ _) ?_
          refine J_iload C (dA DX7_eyes_0 22 rfl) rfl ?_
          rw [hls]
          refine J_if_ne (tgt := 48) C (dA DX7_eyes_0 23 rfl) (by decide) (fun h38 => ?_) (fun h38 => ?_)
          · have hlt : lsS (vb (fb 0) M) i < 16 := Classical.byContradiction (fun z => h38 ((orL_z (by decide)).mpr (fun k hk => firstN_z z k hk)))
            have hff := firstN_lt (n := 16) hlt
            refine J_iload_n C (dA DX7_eyes_0 28 rfl) rfl ?_
            refine J_iload C (dA DX7_eyes_0 29 rfl) rfl ?_
            refine V_J6_lowestOneBit_0f7a4 C (c_J6_low l E _ hlt hff.1 hff.2) wM_RX7_221 (by decide) (dA DX7_eyes_0 30 rfl) rfl (Nat.le_of_ble_eq_true rfl) ?_
            refine J_ior C (dA DX7_eyes_0 31 rfl) ?_
            refine J_ist_2_5 C (dA DX7_eyes_0 32 rfl) rfl ?_
            first | refine J_inc1_3_5 C (dA DX7_eyes_0 33 rfl) rfl ?_ | refine J_iinc_3_5 C (dA DX7_eyes_0 33 rfl) rfl ?_
            refine J_goto (tgt := 12) C (dA DX7_eyes_0 34 rfl) (by decide) ?_
            rw [ey_t hS hi16 hf hlt]
            exact ih (i + 1) _ (fun _ _ _ => rfl) (by omega) (fun p hp hfp => by
              rcases Nat.lt_or_ge p i with z | z
              · exact hg p z hfp
              · rw [show p = i by omega]; exact hlt)
          · refine J_aload_n C (dA DX7_eyes_0 24 rfl) rfl ?_
            refine J_ldc (v := (-1000004)) C wK_RX7_165 (dA DX7_eyes_0 25 rfl) ?_
            refine V_X7_finding C (c_X7_finding l E 3 (by decide) _ (by decide)) wM_RX7_70 (by decide) (dA DX7_eyes_0 26 rfl) rfl (Nat.le_of_ble_eq_true rfl) ?_
            have hx : eyX (vb (fb 0) M) = true := eyX_yes hf (fun z => Bool.eq_false_iff.mp ((orL_z (by decide)).mp h38 _ z) (firstN_lt (n := 16) z).2)
            exact J_iret C G (dA DX7_eyes_0 27 rfl) ⟨oi (by unfold aEyes; rw [hx, if_pos rfl]; rfl), by unfold eEyes; rw [hx, if_pos rfl]⟩
  refine J_aload_n C (dA DX7_eyes_0 0 rfl) rfl ?_
  refine G_X7_fen C wF_RX7_12 (dA DX7_eyes_0 1 rfl) ?_
  refine V_X1_pondsWithThings C (by decide) (c_X1_pondsWithThings l E 0 (by decide) hS) wM_RX7_128 (by decide) (dA DX7_eyes_0 2 rfl) rfl (Nat.le_of_ble_eq_true rfl) ?_
  refine J_ist_1_5 C (dA DX7_eyes_0 3 rfl) rfl ?_
  refine J_iconst (v := nI 0) C (dA DX7_eyes_0 4 rfl) (by decide) ?_
  refine J_ist_2_5 C (dA DX7_eyes_0 5 rfl) rfl ?_
  refine J_iconst (v := nI 0) C (dA DX7_eyes_0 6 rfl) (by decide) ?_
  refine J_ist_3_5 C (dA DX7_eyes_0 7 rfl) rfl ?_
  have h := loop 16 0 none (fun _ _ _ => rfl) (Nat.zero_add _) (fun p hp => by omega)
  rw [← ey_0 (S := vb (fb 0) M)] at h
  exact h
set_option maxRecDepth 4000 in
theorem c_X8_eyes (l : Launch) (E : jE) (hS : IS (vb 1100 M))  : K_X8_eyes l E [.ref (ja E 60)] M (aEyes (vb 1100 M)) (eEyes (vb 1100 M) 1502 M) := by
  refine CT_intro (own := RX8) (by decide +kernel) rfl (by simp [Value.category]) (Nat.le_of_ble_eq_true rfl) rfl (fun X C G => ?_)
  show J E X 0 [some (.ref (ja E 60)), none, none, none, none] [] M
  have hN := leN hS
  have inner : ∀ (s : Nat) (x : Int32) (o3 o4 : Option Value), s < 65536 → (∀ a b : Int32, jok [some (.ref (ja E 60)), some (.int a), some (.int b), o3, o4] 3 = true) → (∀ a b c : Int32, jok [some (.ref (ja E 60)), some (.int a), some (.int b), some (.int c), o4] 4 = true) → (∀ a b : Int32, J E X 83 [some (.ref (ja E 60)), some (.int (if feB (vb 1100 M) s = true then nI s else x)), some (.int (nI s)), some (.int a), some (.int b)] [] M) → J E X 25 [some (.ref (ja E 60)), some (.int x), some (.int (nI s)), o3, o4] [] M := by
    intro s x o3 o4 hs k3 k4 hK
    have h0 : feB (vb 1100 M) s = false → ∀ k, k ≤ 8 → J E X 30 [some (.ref (ja E 60)), some (.int x), some (.int (nI s)), some (.int (nI 0)), some (.int (nI k))] [] M := by
      intro hf k hk
      refine J_iload C (dA DX8_eyes_0 18 rfl) rfl ?_
      refine J_aload_n C (dA DX8_eyes_0 19 rfl) rfl ?_
      refine G_X8_s C wF_RX8_9 (dA DX8_eyes_0 20 rfl) ?_
      refine J_iconst (v := nI 1) C (dA DX8_eyes_0 21 rfl) (by decide) ?_
      refine Q_s1 C hS (dA DX8_eyes_0 22 rfl) ?_
      refine J_icmp_ge_n (tgt := 73) C (by omega) (by omega) (dA DX8_eyes_0 23 rfl) (by decide) (fun h38 => ?_) (fun h38 => ?_)
      · refine J_iload_n C (dA DX8_eyes_0 41 rfl) rfl ?_
        refine J_if_eq_n (tgt := 81) C (by decide) (dA DX8_eyes_0 42 rfl) (by decide) (fun h74 => ?_) (fun h74 => ?_)
        · refine J_iload_n C (dA DX8_eyes_0 45 rfl) rfl ?_
          refine J_ist_1_5 C (dA DX8_eyes_0 46 rfl) rfl ?_
          have h := hK (nI 0) (nI k)
          rw [hf, if_neg (by decide)] at h
          exact h
        · exact absurd rfl h74
      · refine J_iload_n C (dA DX8_eyes_0 24 rfl) rfl ?_
        refine J_if_eq_n (tgt := 73) C (by decide) (dA DX8_eyes_0 25 rfl) (by decide) (fun h42 => ?_) (fun h42 => ?_)
        · refine J_iload_n C (dA DX8_eyes_0 41 rfl) rfl ?_
          refine J_if_eq_n (tgt := 81) C (by decide) (dA DX8_eyes_0 42 rfl) (by decide) (fun h74 => ?_) (fun h74 => ?_)
          · refine J_iload_n C (dA DX8_eyes_0 45 rfl) rfl ?_
            refine J_ist_1_5 C (dA DX8_eyes_0 46 rfl) rfl ?_
            have h := hK (nI 0) (nI k)
            rw [hf, if_neg (by decide)] at h
            exact h
          · exact absurd rfl h74
        · exact absurd rfl h42
    have loop : ∀ n k, k + n = iN (vb 1100 M) → (∀ j, j < k → decide (shwS (vb 1100 M) (nI (f3 (vb 1100 M) j 1)) &&& nI s = 0) = false) → J E X 30 [some (.ref (ja E 60)), some (.int x), some (.int (nI s)), some (.int (nI 1)), some (.int (nI k))] [] M := by
      intro n
      induction n with
      | zero =>
        intro k hk hg
        obtain rfl : iN (vb 1100 M) = k := by omega
        have hf : feB (vb 1100 M) s = true := decide_eq_true (firstN_no hg)
        refine J_iload C (dA DX8_eyes_0 18 rfl) rfl ?_
        refine J_aload_n C (dA DX8_eyes_0 19 rfl) rfl ?_
        refine G_X8_s C wF_RX8_9 (dA DX8_eyes_0 20 rfl) ?_
        refine J_iconst (v := nI 1) C (dA DX8_eyes_0 21 rfl) (by decide) ?_
        refine Q_s1 C hS (dA DX8_eyes_0 22 rfl) ?_
        refine J_icmp_ge_n (tgt := 73) C (by omega) (by omega) (dA DX8_eyes_0 23 rfl) (by decide) (fun h38 => ?_) (fun h38 => ?_)
        · refine J_iload_n C (dA DX8_eyes_0 41 rfl) rfl ?_
          refine J_if_eq_n (tgt := 81) C (by decide) (dA DX8_eyes_0 42 rfl) (by decide) (fun h74 => ?_) (fun h74 => ?_)
          · exact absurd h74 (by decide)
          · refine J_iload_n C (dA DX8_eyes_0 43 rfl) rfl ?_
            refine J_goto (tgt := 82) C (dA DX8_eyes_0 44 rfl) (by decide) ?_
            refine J_ist_1_5 C (dA DX8_eyes_0 46 rfl) rfl ?_
            have h := hK (nI 1) (nI (iN (vb 1100 M)))
            rw [hf, if_pos rfl] at h
            exact h
        · exfalso; omega
      | succ n ih =>
        intro k hk hg
        have h31 := lt31 hS (k := k) (by omega)
        refine J_iload C (dA DX8_eyes_0 18 rfl) rfl ?_
        refine J_aload_n C (dA DX8_eyes_0 19 rfl) rfl ?_
        refine G_X8_s C wF_RX8_9 (dA DX8_eyes_0 20 rfl) ?_
        refine J_iconst (v := nI 1) C (dA DX8_eyes_0 21 rfl) (by decide) ?_
        refine Q_s1 C hS (dA DX8_eyes_0 22 rfl) ?_
        refine J_icmp_ge_n (tgt := 73) C (by omega) (by omega) (dA DX8_eyes_0 23 rfl) (by decide) (fun h38 => ?_) (fun h38 => ?_)
        · exfalso; omega
        · refine J_iload_n C (dA DX8_eyes_0 24 rfl) rfl ?_
          refine J_if_eq_n (tgt := 73) C (by decide) (dA DX8_eyes_0 25 rfl) (by decide) (fun h42 => ?_) (fun h42 => ?_)
          · exact absurd h42 (by decide)
          · refine J_aload_n C (dA DX8_eyes_0 26 rfl) rfl ?_
            refine J_aload_n C (dA DX8_eyes_0 27 rfl) rfl ?_
            refine J_iload C (dA DX8_eyes_0 28 rfl) rfl ?_
            refine J_iconst (v := nI 1) C (dA DX8_eyes_0 29 rfl) (by decide) ?_
            refine V_X8_get C (c_X8_get l E k 1 (by omega) (by decide) hS) wM_RX8_62 (by decide) (dA DX8_eyes_0 30 rfl) rfl (Nat.le_of_ble_eq_true rfl) ?_
            refine V_X8_showing C (c_X8_showing l E _ hS) wM_RX8_76 (by decide) (dA DX8_eyes_0 31 rfl) rfl (Nat.le_of_ble_eq_true rfl) ?_
            refine J_iload_n C (dA DX8_eyes_0 32 rfl) rfl ?_
            refine J_iand C (dA DX8_eyes_0 33 rfl) ?_
            refine J_if_eq (tgt := 65) C (dA DX8_eyes_0 34 rfl) (by decide) (fun h58 => ?_) (fun h58 => ?_)
            · refine J_iconst (v := nI 0) C (dA DX8_eyes_0 37 rfl) (by decide) ?_
              refine J_ist_3_5 C (dA DX8_eyes_0 38 rfl) rfl ?_
              first | refine J_inc1_4_5 C (dA DX8_eyes_0 39 rfl) rfl ?_ | refine J_iinc_4_5 C (dA DX8_eyes_0 39 rfl) rfl ?_
              refine J_goto (tgt := 30) C (dA DX8_eyes_0 40 rfl) (by decide) ?_
              refine h0 (decide_eq_false (fun z => ?_)) (k + 1) (by omega)
              exact absurd (firstN_out z k (by omega)) (by rw [decide_eq_true h58]; decide)
            · refine J_iconst (v := nI 1) C (dA DX8_eyes_0 35 rfl) (by decide) ?_
              refine J_goto (tgt := 66) C (dA DX8_eyes_0 36 rfl) (by decide) ?_
              refine J_ist_3_5 C (dA DX8_eyes_0 38 rfl) rfl ?_
              first | refine J_inc1_4_5 C (dA DX8_eyes_0 39 rfl) rfl ?_ | refine J_iinc_4_5 C (dA DX8_eyes_0 39 rfl) rfl ?_
              refine J_goto (tgt := 30) C (dA DX8_eyes_0 40 rfl) (by decide) ?_
              exact ih (k + 1) (by omega) (fun j hj => by
                rcases Nat.lt_or_ge j k with z | z
                · exact hg j z
                · rw [show j = k by omega]; exact decide_eq_false h58)
    refine J_iconst (v := nI 1) C (dA DX8_eyes_0 14 rfl) (by decide) ?_
    refine J_ist_3_5 C (dA DX8_eyes_0 15 rfl) (k3 _ _) ?_
    refine J_iconst (v := nI 0) C (dA DX8_eyes_0 16 rfl) (by decide) ?_
    refine J_ist_4_5 C (dA DX8_eyes_0 17 rfl) (k4 _ _ _) ?_
    exact loop _ 0 (Nat.zero_add _) (fun j hj => by omega)
  have hG := eyG_lt (vb 1100 M)
  have fin0 : eyX (vb 1100 M) = true → ∀ o3 o4, J E X 89 [some (.ref (ja E 60)), some (.int (-1)), some (.int (nI 65536)), o3, o4] [] M := by
    intro hx o3 o4
    refine J_iload_n C (dA DX8_eyes_0 49 rfl) rfl ?_
    refine J_if_ge (tgt := 101) C (dA DX8_eyes_0 50 rfl) (by decide) (fun h90 => ?_) (fun h90 => ?_)
    · exact absurd h90 (by decide)
    · refine J_aload_n C (dA DX8_eyes_0 51 rfl) rfl ?_
      refine J_iconst (v := nI 3) C (dA DX8_eyes_0 52 rfl) (by decide) ?_
      refine V_X8_no C (c_X8_no l E 3 (by decide)) wM_RX8_106 (by decide) (dA DX8_eyes_0 53 rfl) rfl (Nat.le_of_ble_eq_true rfl) ?_
      refine J_goto (tgt := 102) C (dA DX8_eyes_0 54 rfl) (by decide) ?_
      exact J_iret C G (dA DX8_eyes_0 56 rfl) ⟨oi (by unfold aEyes; rw [hx, if_pos rfl]; rfl), by unfold eEyes; rw [hx, if_pos rfl]⟩
  have fin1 : eyX (vb 1100 M) = false → ∀ o3 o4, J E X 89 [some (.ref (ja E 60)), some (.int (nI (mk 16 (eyG (vb 1100 M))))), some (.int (nI 65536)), o3, o4] [] M := by
    intro hx o3 o4
    refine J_iload_n C (dA DX8_eyes_0 49 rfl) rfl ?_
    refine J_if_ge_n (tgt := 101) C (by omega) (dA DX8_eyes_0 50 rfl) (by decide) (fun h90 => ?_) (fun h90 => ?_)
    · refine J_iload_n C (dA DX8_eyes_0 55 rfl) rfl ?_
      exact J_iret C G (dA DX8_eyes_0 56 rfl) ⟨oi (by unfold aEyes; rw [hx, if_neg (by decide), orL_mk (by decide)]), by unfold eEyes; rw [hx, if_neg (by decide)]⟩
    · exfalso; omega
  have lp1 : eyX (vb 1100 M) = false → ∀ n s o3 o4, s + n = 65536 → mk 16 (eyG (vb 1100 M)) < s → (∀ a b : Int32, jok [some (.ref (ja E 60)), some (.int a), some (.int b), o3, o4] 3 = true) → (∀ a b c : Int32, jok [some (.ref (ja E 60)), some (.int a), some (.int b), some (.int c), o4] 4 = true) → J E X 4 [some (.ref (ja E 60)), some (.int (nI (mk 16 (eyG (vb 1100 M))))), some (.int (nI s)), o3, o4] [] M := by
    intro hx n
    induction n with
    | zero =>
      intro s o3 o4 hs hlt k3 k4
      obtain rfl : 65536 = s := by omega
      refine J_iload_n C (dA DX8_eyes_0 4 rfl) rfl ?_
      refine J_ldc (v := nI 65536) C wK_RX8_196 (dA DX8_eyes_0 5 rfl) ?_
      refine J_icmp_ge_n (tgt := 89) C (by decide) (by decide) (dA DX8_eyes_0 6 rfl) (by decide) (fun h7 => ?_) (fun h7 => ?_)
      · exact fin1 hx o3 o4
      · exact absurd h7 (by decide)
    | succ n ih =>
      intro s o3 o4 hs hlt k3 k4
      have hs2 : s < 65536 := by omega
      have hp1 := pcN_le hs2
      have hp2 := pcN_le hG
      refine J_iload_n C (dA DX8_eyes_0 4 rfl) rfl ?_
      refine J_ldc (v := nI 65536) C wK_RX8_196 (dA DX8_eyes_0 5 rfl) ?_
      refine J_icmp_ge_n (tgt := 89) C (by omega) (by decide) (dA DX8_eyes_0 6 rfl) (by decide) (fun h7 => ?_) (fun h7 => ?_)
      · exfalso; omega
      · refine J_iload_n C (dA DX8_eyes_0 7 rfl) rfl ?_
        refine J_if_lt_n (tgt := 25) C (by omega) (dA DX8_eyes_0 8 rfl) (by decide) (fun h11 => ?_) (fun h11 => ?_)
        · exfalso; omega
        · refine J_iload_n C (dA DX8_eyes_0 9 rfl) rfl ?_
          refine V_X8_bits C (c_X8_bits l E _ hs2) wM_RX8_159 (by decide) (dA DX8_eyes_0 10 rfl) rfl (Nat.le_of_ble_eq_true rfl) ?_
          refine J_iload_n C (dA DX8_eyes_0 11 rfl) rfl ?_
          refine V_X8_bits C (c_X8_bits l E _ hG) wM_RX8_159 (by decide) (dA DX8_eyes_0 12 rfl) rfl (Nat.le_of_ble_eq_true rfl) ?_
          refine J_icmp_ge_n (tgt := 83) C (by omega) (by omega) (dA DX8_eyes_0 13 rfl) (by decide) (fun h22 => ?_) (fun h22 => ?_)
          · first | refine J_inc1_2_5 C (dA DX8_eyes_0 47 rfl) rfl ?_ | refine J_iinc_2_5 C (dA DX8_eyes_0 47 rfl) rfl ?_
            refine J_goto (tgt := 4) C (dA DX8_eyes_0 48 rfl) (by decide) ?_
            exact ih (s + 1) _ _ (by omega) (by omega) k3 k4
          · refine inner s _ _ _ hs2 k3 k4 (fun a b => ?_)
            rw [if_neg (show ¬ feB (vb 1100 M) s = true from fun z => by have := (fe_min hS hs2 z).2; omega)]
            first | refine J_inc1_2_5 C (dA DX8_eyes_0 47 rfl) rfl ?_ | refine J_iinc_2_5 C (dA DX8_eyes_0 47 rfl) rfl ?_
            refine J_goto (tgt := 4) C (dA DX8_eyes_0 48 rfl) (by decide) ?_
            exact ih (s + 1) _ _ (by omega) (by omega) (fun _ _ => rfl) (fun _ _ _ => rfl)
  have lp0 : ∀ n s o3 o4, s + n = 65536 → (eyX (vb 1100 M) = false → s ≤ mk 16 (eyG (vb 1100 M))) → (∀ a b : Int32, jok [some (.ref (ja E 60)), some (.int a), some (.int b), o3, o4] 3 = true) → (∀ a b c : Int32, jok [some (.ref (ja E 60)), some (.int a), some (.int b), some (.int c), o4] 4 = true) → J E X 4 [some (.ref (ja E 60)), some (.int (-1)), some (.int (nI s)), o3, o4] [] M := by
    intro n
    induction n with
    | zero =>
      intro s o3 o4 hs hlt k3 k4
      obtain rfl : 65536 = s := by omega
      have hx : eyX (vb 1100 M) = true := by
        cases z : eyX (vb 1100 M) with
        | true => rfl
        | false => have := hlt z; omega
      refine J_iload_n C (dA DX8_eyes_0 4 rfl) rfl ?_
      refine J_ldc (v := nI 65536) C wK_RX8_196 (dA DX8_eyes_0 5 rfl) ?_
      refine J_icmp_ge_n (tgt := 89) C (by decide) (by decide) (dA DX8_eyes_0 6 rfl) (by decide) (fun h7 => ?_) (fun h7 => ?_)
      · exact fin0 hx o3 o4
      · exact absurd h7 (by decide)
    | succ n ih =>
      intro s o3 o4 hs hlt k3 k4
      have hs2 : s < 65536 := by omega
      refine J_iload_n C (dA DX8_eyes_0 4 rfl) rfl ?_
      refine J_ldc (v := nI 65536) C wK_RX8_196 (dA DX8_eyes_0 5 rfl) ?_
      refine J_icmp_ge_n (tgt := 89) C (by omega) (by decide) (dA DX8_eyes_0 6 rfl) (by decide) (fun h7 => ?_) (fun h7 => ?_)
      · exfalso; omega
      · refine J_iload_n C (dA DX8_eyes_0 7 rfl) rfl ?_
        refine J_if_lt (tgt := 25) C (dA DX8_eyes_0 8 rfl) (by decide) (fun h11 => ?_) (fun h11 => ?_)
        · refine inner s _ _ _ hs2 k3 k4 (fun a b => ?_)
          by_cases hf : feB (vb 1100 M) s = true
          · have hx : eyX (vb 1100 M) = false := by
              cases z : eyX (vb 1100 M) with
              | false => rfl
              | true => rw [fe_X hS z hs2] at hf; exact absurd hf (by decide)
            have e : s = mk 16 (eyG (vb 1100 M)) := by
              have h1 := (fe_min hS hs2 hf).1
              have h2 := hlt hx
              omega
            rw [if_pos hf]
            first | refine J_inc1_2_5 C (dA DX8_eyes_0 47 rfl) rfl ?_ | refine J_iinc_2_5 C (dA DX8_eyes_0 47 rfl) rfl ?_
            refine J_goto (tgt := 4) C (dA DX8_eyes_0 48 rfl) (by decide) ?_
            rw [e]
            exact lp1 hx n (mk 16 (eyG (vb 1100 M)) + 1) _ _ (by omega) (by omega) (fun _ _ => rfl) (fun _ _ _ => rfl)
          · rw [if_neg hf]
            first | refine J_inc1_2_5 C (dA DX8_eyes_0 47 rfl) rfl ?_ | refine J_iinc_2_5 C (dA DX8_eyes_0 47 rfl) rfl ?_
            refine J_goto (tgt := 4) C (dA DX8_eyes_0 48 rfl) (by decide) ?_
            exact ih (s + 1) _ _ (by omega) (fun hx => by
              have h1 := hlt hx
              rcases Nat.lt_or_ge s (mk 16 (eyG (vb 1100 M))) with z | z
              · omega
              · exact absurd (fe_G hS hx) (by rw [show mk 16 (eyG (vb 1100 M)) = s by omega]; exact hf)) (fun _ _ => rfl) (fun _ _ _ => rfl)
        · exact absurd h11 (by decide)
  refine J_iconst (v := (-1)) C (dA DX8_eyes_0 0 rfl) (by decide) ?_
  refine J_ist_1_5 C (dA DX8_eyes_0 1 rfl) rfl ?_
  refine J_iconst (v := nI 0) C (dA DX8_eyes_0 2 rfl) (by decide) ?_
  refine J_ist_2_5 C (dA DX8_eyes_0 3 rfl) rfl ?_
  exact lp0 65536 0 none none (Nat.zero_add _) (fun _ => Nat.zero_le _) (fun _ _ => rfl) (fun _ _ _ => rfl)
end PA
