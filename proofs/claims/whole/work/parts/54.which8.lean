/-- the reference takes thing by thing away: those below j are looked at -/
def whI (Z : Nat → Nat → Int32) (q : Nat) (S : Nat → Int32) (i j t : Nat) : Bool := whQ Z q S i t && (!(decide (t < j)) || whP Z q S i t)
def whJ (Z : Nat → Nat → Int32) (q : Nat) (S : Nat → Int32) (i j : Nat) : Int32 := orL (iN S) (whI Z q S i j)
theorem whJ_0 {Z : Nat → Nat → Int32} {q : Nat} {S : Nat → Int32} {i : Nat} : whJ Z q S i 0 = whS Z q S i := orL_ext (fun k _ => by
  unfold whI
  rw [decide_eq_false (Nat.not_lt_zero k)]
  simp)
theorem whJ_e {Z : Nat → Nat → Int32} {q : Nat} {S : Nat → Int32} {i : Nat} : whJ Z q S i (iN S) = whS Z q S (i + 1) := orL_ext (fun k hk => by
  unfold whI
  rw [decide_eq_true hk]
  rfl)
theorem whJ_y {Z : Nat → Nat → Int32} {q : Nat} {S : Nat → Int32} {i j : Nat} (hN : iN S ≤ 32) (h : whP Z q S i j = true) : whJ Z q S i j &&& whJ Z q S i j = whJ Z q S i (j + 1) := by
  unfold whJ
  rw [orL_and hN]
  refine orL_ext (fun k hk => ?_)
  rw [Bool.and_self]
  unfold whI
  by_cases e : k = j
  · subst e; rw [h, Bool.or_true, Bool.or_true]
  · rw [show decide (k < j + 1) = decide (k < j) from decide_eq_decide.mpr (by omega)]
theorem whJ_n {Z : Nat → Nat → Int32} {q : Nat} {S : Nat → Int32} {i j : Nat} (hN : iN S ≤ 32) (hj : j < 32) (h : whP Z q S i j = false) : whJ Z q S i j &&& (b1 j ^^^ (-1)) = whJ Z q S i (j + 1) := by
  unfold whJ
  rw [orL_clr hN hj]
  refine orL_ext (fun k hk => ?_)
  unfold whI
  by_cases e : k = j
  · subst e; rw [h, decide_eq_true (show k < k + 1 by omega), decide_eq_true (show k = k from rfl)]; simp
  · rw [show decide (k < j + 1) = decide (k < j) from decide_eq_decide.mpr (by omega), decide_eq_false e]; simp
section PA
variable {M : jM}
set_option maxRecDepth 4000 in
theorem c_X8_which (l : Launch) (E : jE) (a : Int32) (hZ : QS (sv8 M)) (hS : IS (vb 1100 M))  : K_X8_which l E [.ref (ja E 60), .int a] M (aWhich (sv8 M) (vb 1100 M) a) (eWhich (sv8 M) 1502 a (asd M) M) := by
  refine CT_intro (own := RX8) (by decide +kernel) rfl (by simp [Value.category]) (Nat.le_of_ble_eq_true rfl) rfl (fun X C G => ?_)
  show J E X 0 [some (.ref (ja E 60)), some (.int a), none, none, none, none] [] M
  rcases lkS_c (Z := sv8 M) (a := a) with ⟨hi, e⟩ | ⟨q, hq, rfl, hz, e⟩ | ⟨q, hq, rfl, hz, e⟩
  · refine J_aload_n C (dA DX8_which_0 0 rfl) rfl ?_
    refine J_iload_n C (dA DX8_which_0 1 rfl) rfl ?_
    refine V_X8_wrongSheet C (c_X8_wrongSheet l E _) wM_RX8_184 (by decide) (dA DX8_which_0 2 rfl) rfl (Nat.le_of_ble_eq_true rfl) ?_
    rw [e, show lk8 0 = nI 0 from rfl]
    refine J_ist_2_6 C (dA DX8_which_0 3 rfl) rfl ?_
    refine J_iload_n C (dA DX8_which_0 4 rfl) rfl ?_
    refine J_if_lt (tgt := 16) C (dA DX8_which_0 5 rfl) (by decide) (fun h7 => ?_) (fun h7 => ?_)
    · exact absurd h7 (by decide)
    · refine J_aload_n C (dA DX8_which_0 6 rfl) rfl ?_
      refine J_iload_n C (dA DX8_which_0 7 rfl) rfl ?_
      refine V_X8_no C (c_X8_no l E 0 (by decide)) wM_RX8_106 (by decide) (dA DX8_which_0 8 rfl) rfl (Nat.le_of_ble_eq_true rfl) ?_
      exact J_iret C G (dA DX8_which_0 9 rfl) ⟨oi (by unfold aWhich; rw [if_neg (by rw [e]; decide), e] <;> rfl), by unfold eWhich; rw [if_neg (by rw [e]; decide), e]⟩
  · refine J_aload_n C (dA DX8_which_0 0 rfl) rfl ?_
    refine J_iload_n C (dA DX8_which_0 1 rfl) rfl ?_
    refine V_X8_wrongSheet C (c_X8_wrongSheet l E _) wM_RX8_184 (by decide) (dA DX8_which_0 2 rfl) rfl (Nat.le_of_ble_eq_true rfl) ?_
    rw [e, show lk8 5 = nI 5 from rfl]
    refine J_ist_2_6 C (dA DX8_which_0 3 rfl) rfl ?_
    refine J_iload_n C (dA DX8_which_0 4 rfl) rfl ?_
    refine J_if_lt (tgt := 16) C (dA DX8_which_0 5 rfl) (by decide) (fun h7 => ?_) (fun h7 => ?_)
    · exact absurd h7 (by decide)
    · refine J_aload_n C (dA DX8_which_0 6 rfl) rfl ?_
      refine J_iload_n C (dA DX8_which_0 7 rfl) rfl ?_
      refine V_X8_no C (c_X8_no l E 5 (by decide)) wM_RX8_106 (by decide) (dA DX8_which_0 8 rfl) rfl (Nat.le_of_ble_eq_true rfl) ?_
      exact J_iret C G (dA DX8_which_0 9 rfl) ⟨oi (by unfold aWhich; rw [if_neg (by rw [e]; decide), e] <;> rfl), by unfold eWhich; rw [if_neg (by rw [e]; decide), e]⟩
  · have na : nv (nI q) = q := nv_nI (by omega)
    have hN := leN hS
    have hZ2 := hZ
    obtain ⟨b, n, hb, hn, e0, e1, h0⟩ := hZ2 q hq
    have hl : lnq (sv8 M) q = n := by unfold lnq; rw [e1, nv_nI (by omega)]
    refine J_aload_n C (dA DX8_which_0 0 rfl) rfl ?_
    refine J_iload_n C (dA DX8_which_0 1 rfl) rfl ?_
    refine V_X8_wrongSheet C (c_X8_wrongSheet l E _) wM_RX8_184 (by decide) (dA DX8_which_0 2 rfl) rfl (Nat.le_of_ble_eq_true rfl) ?_
    rw [e, show lk8 7 = (-1) from rfl]
    refine J_ist_2_6 C (dA DX8_which_0 3 rfl) rfl ?_
    refine J_iload_n C (dA DX8_which_0 4 rfl) rfl ?_
    refine J_if_lt (tgt := 16) C (dA DX8_which_0 5 rfl) (by decide) (fun h7 => ?_) (fun h7 => ?_)
    · refine J_iconst (v := nI 1) C (dA DX8_which_0 10 rfl) (by decide) ?_
      refine J_aload_n C (dA DX8_which_0 11 rfl) rfl ?_
      refine G_X8_s C wF_RX8_9 (dA DX8_which_0 12 rfl) ?_
      refine J_iconst (v := nI 1) C (dA DX8_which_0 13 rfl) (by decide) ?_
      refine Q_s1 C hS (dA DX8_which_0 14 rfl) ?_
      refine J_ishl C (dA DX8_which_0 15 rfl) ?_
      refine J_iconst (v := nI 1) C (dA DX8_which_0 16 rfl) (by decide) ?_
      refine J_isub C (dA DX8_which_0 17 rfl) ?_
      rw [show nI 1 <<< (nI (iN (vb 1100 M)) &&& 31) - nI 1 = whS (sv8 M) q (vb 1100 M) 0 from ws_0 hS]
      refine J_ist_3_6 C (dA DX8_which_0 18 rfl) rfl ?_
      refine J_aload_n C (dA DX8_which_0 19 rfl) rfl ?_
      refine V_X8_setsAside C (c_X8_setsAside l E) wM_RX8_165 (by decide) (dA DX8_which_0 20 rfl) rfl (Nat.le_of_ble_eq_true rfl) ?_
      have loop : ∀ k i (o5 : Option Value), (∀ y z : Int32, jok [some (.ref (ja E 60)), some (.int (nI q)), some (.int (-1)), some (.int y), some (.int z), o5] 5 = true) → i + k = n → J E X 34 [some (.ref (ja E 60)), some (.int (nI q)), some (.int (-1)), some (.int (whS (sv8 M) q (vb 1100 M) i)), some (.int (nI i)), o5] [] (lay 1100 (asd M) (minsS (vb 1100 M) i)) := by
        intro k
        induction k with
        | zero =>
          intro i o5 k5 hi
          have sz : sv8 (lay 1100 (asd M) (minsS (vb 1100 M) i)) = sv8 M := sv8_lay.trans sv8_asd
          refine J_iload C (dA DX8_which_0 23 rfl) rfl ?_
          refine J_aload_n C (dA DX8_which_0 24 rfl) rfl ?_
          refine G_X8_sizes C wF_RX8_44 (dA DX8_which_0 25 rfl) ?_
          refine J_iload_n C (dA DX8_which_0 26 rfl) rfl ?_
          refine R_1 C (hk := rfl) rfl (by omega) (dA DX8_which_0 27 rfl) ?_
          rw [show (lay 1100 (asd M) (minsS (vb 1100 M) i)) (1649 + q) = nI n from (sv8_1 hq).trans (by rw [sz]; exact e1)]
          refine J_icmp_ge_n (tgt := 116) C (by omega) (by omega) (dA DX8_which_0 28 rfl) (by decide) (fun h42 => ?_) (fun h42 => ?_)
          · try have g42 := inr_t h42
            try have g42 := inr_f h42
            refine J_aload_n C (dA DX8_which_0 68 rfl) rfl ?_
            refine V_X8_laysBack C (c_X8_laysBack l E) wM_RX8_168 (by decide) (dA DX8_which_0 69 rfl) rfl (Nat.le_of_ble_eq_true rfl) ?_
            rw [asd_back]
            obtain rfl : n = i := by omega
            refine J_iload_n C (dA DX8_which_0 70 rfl) rfl ?_
            exact J_iret C G (dA DX8_which_0 71 rfl) ⟨oi (by unfold aWhich; rw [if_pos e, na, hl]), by unfold eWhich; rw [if_pos e]⟩
          · exfalso; omega
        | succ k ih =>
          intro i o5 k5 hi
          have sz : sv8 (lay 1100 (asd M) (minsS (vb 1100 M) i)) = sv8 M := sv8_lay.trans sv8_asd
          have hmi := miI (M := asd M) hS i
          have hI := hmi.2.1
          have inner : ∀ m j, j + m = iN (vb 1100 M) → J E X 48 [some (.ref (ja E 60)), some (.int (nI q)), some (.int (-1)), some (.int (whJ (sv8 M) q (vb 1100 M) i j)), some (.int (nI i)), some (.int (nI j))] [] (lay 1100 (asd M) (minsS (vb 1100 M) i)) := by
            intro m
            induction m with
            | zero =>
              intro j hj
              obtain rfl : iN (vb 1100 M) = j := by omega
              rw [whJ_e]
              refine J_iload C (dA DX8_which_0 31 rfl) rfl ?_
              refine J_aload_n C (dA DX8_which_0 32 rfl) rfl ?_
              refine G_X8_s C wF_RX8_9 (dA DX8_which_0 33 rfl) ?_
              refine J_iconst (v := nI 1) C (dA DX8_which_0 34 rfl) (by decide) ?_
              refine Q_s1 C hI (dA DX8_which_0 35 rfl) ?_
              rw [hmi.1, hmi.2.2]
              refine J_icmp_ge_n (tgt := 106) C (by omega) (by omega) (dA DX8_which_0 36 rfl) (by decide) (fun h56 => ?_) (fun h56 => ?_)
              · try have g56 := inr_t h56
                try have g56 := inr_f h56
                refine J_aload_n C (dA DX8_which_0 64 rfl) rfl ?_
                refine V_X8_minute C (c_mim (M := asd M) l E hS i) wM_RX8_119 (by decide) (dA DX8_which_0 65 rfl) rfl (Nat.le_of_ble_eq_true rfl) ?_
                first | refine J_inc1_4_6 C (dA DX8_which_0 66 rfl) rfl ?_ | refine J_iinc_4_6 C (dA DX8_which_0 66 rfl) rfl ?_
                refine J_goto (tgt := 34) C (dA DX8_which_0 67 rfl) (by decide) ?_
                exact ih (i + 1) _ (fun _ _ => rfl) (by omega)
              · exfalso; omega
            | succ m ihm =>
              intro j hj
              refine J_iload C (dA DX8_which_0 31 rfl) rfl ?_
              refine J_aload_n C (dA DX8_which_0 32 rfl) rfl ?_
              refine G_X8_s C wF_RX8_9 (dA DX8_which_0 33 rfl) ?_
              refine J_iconst (v := nI 1) C (dA DX8_which_0 34 rfl) (by decide) ?_
              refine Q_s1 C hI (dA DX8_which_0 35 rfl) ?_
              rw [hmi.1, hmi.2.2]
              refine J_icmp_ge_n (tgt := 106) C (by omega) (by omega) (dA DX8_which_0 36 rfl) (by decide) (fun h56 => ?_) (fun h56 => ?_)
              · exfalso; omega
              · try have g56 := inr_t h56
                try have g56 := inr_f h56
                refine J_iload_n C (dA DX8_which_0 37 rfl) rfl ?_
                refine J_aload_n C (dA DX8_which_0 38 rfl) rfl ?_
                refine J_iload_n C (dA DX8_which_0 39 rfl) rfl ?_
                refine J_iload C (dA DX8_which_0 40 rfl) rfl ?_
                refine V_X8_told C (c_X8_told l E q i hq (by omega)) wM_RX8_187 (by decide) (dA DX8_which_0 41 rfl) rfl (Nat.le_of_ble_eq_true rfl) ?_
                rw [sz]
                refine J_iconst (v := (-1)) C (dA DX8_which_0 42 rfl) (by decide) ?_
                refine J_icmp_eq (tgt := 88) C (dA DX8_which_0 43 rfl) (by decide) (fun h68 => ?_) (fun h68 => ?_)
                · refine J_iload_n C (dA DX8_which_0 53 rfl) rfl ?_
                  refine J_goto (tgt := 98) C (dA DX8_which_0 54 rfl) (by decide) ?_
                  refine J_iand C (dA DX8_which_0 60 rfl) ?_
                  refine J_ist_3_6 C (dA DX8_which_0 61 rfl) rfl ?_
                  first | refine J_inc1_5_6 C (dA DX8_which_0 62 rfl) rfl ?_ | refine J_iinc_5_6 C (dA DX8_which_0 62 rfl) rfl ?_
                  refine J_goto (tgt := 48) C (dA DX8_which_0 63 rfl) (by decide) ?_
                  have ep : whP (sv8 M) q (vb 1100 M) i j = true := decide_eq_true (Or.inl (by first | exact h68 | exact Classical.byContradiction h68))
                  rw [whJ_y (by omega) ep]
                  exact ihm (j + 1) (by omega)
                · refine J_aload_n C (dA DX8_which_0 44 rfl) rfl ?_
                  refine J_iload_n C (dA DX8_which_0 45 rfl) rfl ?_
                  refine J_iload C (dA DX8_which_0 46 rfl) rfl ?_
                  refine V_X8_told C (c_X8_told l E q i hq (by omega)) wM_RX8_187 (by decide) (dA DX8_which_0 47 rfl) rfl (Nat.le_of_ble_eq_true rfl) ?_
                  rw [sz]
                  refine J_aload_n C (dA DX8_which_0 48 rfl) rfl ?_
                  refine J_iload C (dA DX8_which_0 49 rfl) rfl ?_
                  refine J_iconst (v := nI 1) C (dA DX8_which_0 50 rfl) (by decide) ?_
                  refine V_X8_get C (c_X8_get l E j 1 (by omega) (by decide) hI) wM_RX8_62 (by decide) (dA DX8_which_0 51 rfl) rfl (Nat.le_of_ble_eq_true rfl) ?_
                  rw [hmi.1]
                  refine J_icmp_ne (tgt := 92) C (dA DX8_which_0 52 rfl) (by decide) (fun h85 => ?_) (fun h85 => ?_)
                  · refine J_iconst (v := nI 1) C (dA DX8_which_0 55 rfl) (by decide) ?_
                    refine J_iload C (dA DX8_which_0 56 rfl) rfl ?_
                    refine J_ishl C (dA DX8_which_0 57 rfl) ?_
                    refine J_iconst (v := (-1)) C (dA DX8_which_0 58 rfl) (by decide) ?_
                    refine J_ixor C (dA DX8_which_0 59 rfl) ?_
                    refine J_iand C (dA DX8_which_0 60 rfl) ?_
                    refine J_ist_3_6 C (dA DX8_which_0 61 rfl) rfl ?_
                    first | refine J_inc1_5_6 C (dA DX8_which_0 62 rfl) rfl ?_ | refine J_iinc_5_6 C (dA DX8_which_0 62 rfl) rfl ?_
                    refine J_goto (tgt := 48) C (dA DX8_which_0 63 rfl) (by decide) ?_
                    have ep : whP (sv8 M) q (vb 1100 M) i j = false := decide_eq_false (fun z => z.elim h68 (fun y => h85 y.symm))
                    rw [show nI 1 <<< (nI j &&& 31) = b1 j from rfl, whJ_n (by omega) (by omega) ep]
                    exact ihm (j + 1) (by omega)
                  · refine J_iload_n C (dA DX8_which_0 53 rfl) rfl ?_
                    refine J_goto (tgt := 98) C (dA DX8_which_0 54 rfl) (by decide) ?_
                    refine J_iand C (dA DX8_which_0 60 rfl) ?_
                    refine J_ist_3_6 C (dA DX8_which_0 61 rfl) rfl ?_
                    first | refine J_inc1_5_6 C (dA DX8_which_0 62 rfl) rfl ?_ | refine J_iinc_5_6 C (dA DX8_which_0 62 rfl) rfl ?_
                    refine J_goto (tgt := 48) C (dA DX8_which_0 63 rfl) (by decide) ?_
                    have ep : whP (sv8 M) q (vb 1100 M) i j = true := decide_eq_true (Or.inr (by first | exact h85.symm | exact (Classical.byContradiction h85).symm))
                    rw [whJ_y (by omega) ep]
                    exact ihm (j + 1) (by omega)
          refine J_iload C (dA DX8_which_0 23 rfl) rfl ?_
          refine J_aload_n C (dA DX8_which_0 24 rfl) rfl ?_
          refine G_X8_sizes C wF_RX8_44 (dA DX8_which_0 25 rfl) ?_
          refine J_iload_n C (dA DX8_which_0 26 rfl) rfl ?_
          refine R_1 C (hk := rfl) rfl (by omega) (dA DX8_which_0 27 rfl) ?_
          rw [show (lay 1100 (asd M) (minsS (vb 1100 M) i)) (1649 + q) = nI n from (sv8_1 hq).trans (by rw [sz]; exact e1)]
          refine J_icmp_ge_n (tgt := 116) C (by omega) (by omega) (dA DX8_which_0 28 rfl) (by decide) (fun h42 => ?_) (fun h42 => ?_)
          · exfalso; omega
          · try have g42 := inr_t h42
            try have g42 := inr_f h42
            refine J_iconst (v := nI 0) C (dA DX8_which_0 29 rfl) (by decide) ?_
            refine J_ist_5_6 C (dA DX8_which_0 30 rfl) (k5 _ _) ?_
            rw [← whJ_0]
            exact inner _ 0 (Nat.zero_add _)
      refine J_iconst (v := nI 0) C (dA DX8_which_0 21 rfl) (by decide) ?_
      refine J_ist_4_6 C (dA DX8_which_0 22 rfl) rfl ?_
      have h := loop n 0 none (fun _ _ => rfl) (Nat.zero_add _)
      rw [show lay 1100 (asd M) (minsS (vb 1100 M) 0) = asd M by rw [← vb_asd (M := M)]; exact lay_vb] at h
      exact h
    · exact absurd h7 (by decide)

end PA
