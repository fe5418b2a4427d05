theorem lkP_c {Z : Nat → Nat → Int32} {a b : Int32} : lkP Z a b = 0 ∨ lkP Z a b = 5 ∨ (∃ q p, q < 4 ∧ p < 16 ∧ a = nI q ∧ b = nI p ∧ lkP Z a b = 7) := by
  unfold lkP
  rcases lkS_c (Z := Z) (a := a) with ⟨hi, e⟩ | ⟨q, hq, rfl, hz, e⟩ | ⟨q, hq, rfl, hz, e⟩
  · rw [if_neg (by rw [e]; decide), e]; exact Or.inl rfl
  · rw [if_neg (by rw [e]; decide), e]; exact Or.inr (Or.inl rfl)
  · rw [if_pos e]
    by_cases h : inr b 0 15 = true
    · have g := inr_t h
      obtain ⟨p, hp, rfl⟩ := toNI (x := b) (n := 16) (by omega) (by omega)
      exact Or.inr (Or.inr ⟨q, p, hq, hp, rfl, rfl, if_pos h⟩)
    · exact Or.inl (if_neg h)
/-- whether a pond could show v so that its sights are as told -/
def lnP (Z : Nat → Nat → Int32) (S : Nat → Int32) (q p v : Nat) : Bool := !(decide (v = p)) && decide (fitN Z q (shT S p v) p (lnq Z q) = lnq Z q)
def lnM (M : jM) (Z : Nat → Nat → Int32) (S : Nat → Int32) (q p : Nat) : Nat → jM
  | 0 => M
  | i + 1 => if i = p then lnM M Z S q p i else dr M (minsS (shT S p i) (fitN Z q (shT S p i) p (lnq Z q)))
theorem lnM_c (M : jM) (Z : Nat → Nat → Int32) (S : Nat → Int32) (q p : Nat) : ∀ i, lnM M Z S q p i = M ∨ ∃ X, lnM M Z S q p i = dr M X
  | 0 => Or.inl rfl
  | i + 1 => by
    simp only [lnM]
    split
    · exact lnM_c M Z S q p i
    · exact Or.inr ⟨_, rfl⟩
theorem bc_orL (P : Nat → Bool) : bcN (orL 16 P) = cnt 16 P := by
  unfold bcN
  have h := mk_lt P 16
  rw [orL_mk (by decide), nv_nI (by omega), mk_pc P 16 (by decide)]
def aFits (Z : Nat → Nat → Int32) (S : Nat → Int32) (a b : Int32) : Int32 := if lkP Z a b = 7 then nI (cnt 16 (lnP Z S (nv a) (nv b))) else fi (lkP Z a b)
def eFits (Z : Nat → Nat → Int32) (F : Nat) (a b : Int32) (W M : jM) : jM := if lkP Z a b = 7 then W else Fl F (lkP Z a b) M
def aLens (Z : Nat → Nat → Int32) (S : Nat → Int32) (a b : Int32) : Int32 := if lkP Z a b = 7 then (if firstN 16 (lnP Z S (nv a) (nv b)) < 16 then nI (firstN 16 (lnP Z S (nv a) (nv b))) else fi 3) else fi (lkP Z a b)
def eLens (Z : Nat → Nat → Int32) (S : Nat → Int32) (F : Nat) (a b : Int32) (W M : jM) : jM := if lkP Z a b = 7 then (if firstN 16 (lnP Z S (nv a) (nv b)) < 16 then W else Fl F 3 W) else Fl F (lkP Z a b) M
theorem asd_asd {M : jM} : asd (asd M) = asd M := by
  show lay 1368 (asd M) (vb 1100 (asd M)) = asd M
  rw [vb_asd]
  exact lay_lay
section PA
variable {M : jM}
theorem c_bec (l : Launch) (E : jE) {Z : Nat → Nat → Int32} {S : Nat → Int32} {q p : Nat} (i : Nat) : K_X1_become l E [.ref (ja E (fo 1)), .ref (ja E (fo 0))] (lnM M Z S q p i) (dr M (minsS (vb (fb 0) M) 0)) := by
  rcases lnM_c M Z S q p i with h | ⟨X, h⟩
  · rw [h]; exact c_drb l E
  · rw [h]; exact c_drb2 l E
theorem dr_sh {S : Nat → Int32} {p v : Nat} (hS : IS S) (hp : p < 16) : upd (dr M (minsS S 0)) (fb 1 + (4 + 6 * p + 0)) (nI v) = dr M (minsS (shT S p v) 0) := upd_lay hS.1 (by omega)
theorem c_fA (l : Launch) (E : jE) (Mx : jM) (hx : Mx = M ∨ Mx = asd M) (q p v n : Nat) (hq : q < 4) (hp : p < 16) (hv : v < 16) (hne : v ≠ p) (hn : n ≤ 40) (e1 : sv8 M q 1 = nI n) (hS : IS (vb 1100 M)) : K_X8_fitsAs l E [.ref (ja E 60), .int (nI q), .int (nI p), .int (nI v)] Mx (jb (decide (fitN (sv8 M) q (shT (vb 1100 M) p v) p n = n))) (asd M) := by
  rcases hx with rfl | rfl
  · exact c_X8_fitsAs l E q p v n hq hp hv hne hn e1 hS
  · have h := c_X8_fitsAs (M := asd M) l E q p v n hq hp hv hne hn (by rw [sv8_asd]; exact e1) (by rw [vb_asd]; exact hS)
    rw [sv8_asd, vb_asd, asd_asd] at h
    exact h
set_option maxRecDepth 4000 in
theorem c_X7_lensesFor (l : Launch) (E : jE) (q p n : Nat) (hq : q < 4) (hp : p < 16) (hn : n ≤ 40) (e1 : sv7 M q 1 = nI n) (hS : IS (vb (fb 0) M))  : K_X7_lensesFor l E [.ref (ja E 59), .ref (ja E (so q)), .int (nI p)] M (orL 16 (lnP (sv7 M) (vb (fb 0) M) q p)) (lnM M (sv7 M) (vb (fb 0) M) q p 16) := by
  refine CT_intro (own := RX7) (by decide +kernel) rfl (by simp [Value.category]) (Nat.le_of_ble_eq_true rfl) rfl (fun X C G => ?_)
  show J E X 0 [some (.ref (ja E 59)), some (.ref (ja E (so q))), some (.int (nI p)), none, none] [] M
  have hl : lnq (sv7 M) q = n := by unfold lnq; rw [e1, nv_nI (by omega)]
  have loop : ∀ k i, i + k = 16 → J E X 5 [some (.ref (ja E 59)), some (.ref (ja E (so q))), some (.int (nI p)), some (.int (orL i (lnP (sv7 M) (vb (fb 0) M) q p))), some (.int (nI i))] [] (lnM M (sv7 M) (vb (fb 0) M) q p i) := by
    intro k
    induction k with
    | zero =>
      intro i hi
      obtain rfl : 16 = i := by omega
      refine J_iload C (dA DX7_lensesFor_0 4 rfl) rfl ?_
      refine J_bipush (v := nI 16) C (dA DX7_lensesFor_0 5 rfl) (by decide) ?_
      first | refine J_icmp_ge_n (tgt := 71) C (by omega) (by omega) (dA DX7_lensesFor_0 6 rfl) (by decide) (fun h9 => ?_) (fun h9 => ?_) | refine J_icmp_ge_c (tgt := 71) C (by omega) (dA DX7_lensesFor_0 6 rfl) (by decide) (fun h9 => ?_) (fun h9 => ?_) | refine J_icmp_ge_t (tgt := 71) C (dA DX7_lensesFor_0 6 rfl) (by decide) (fun h9 => ?_) (fun h9 => ?_)
      · try have g9 := inr_t h9
        try have g9 := inr_f h9
        refine J_iload_n C (dA DX7_lensesFor_0 39 rfl) rfl ?_
        exact J_iret C G (dA DX7_lensesFor_0 40 rfl) ⟨rfl, rfl⟩
      · exfalso; omega
    | succ k ih =>
      intro i hi
      refine J_iload C (dA DX7_lensesFor_0 4 rfl) rfl ?_
      refine J_bipush (v := nI 16) C (dA DX7_lensesFor_0 5 rfl) (by decide) ?_
      first | refine J_icmp_ge_n (tgt := 71) C (by omega) (by omega) (dA DX7_lensesFor_0 6 rfl) (by decide) (fun h9 => ?_) (fun h9 => ?_) | refine J_icmp_ge_c (tgt := 71) C (by omega) (dA DX7_lensesFor_0 6 rfl) (by decide) (fun h9 => ?_) (fun h9 => ?_) | refine J_icmp_ge_t (tgt := 71) C (dA DX7_lensesFor_0 6 rfl) (by decide) (fun h9 => ?_) (fun h9 => ?_)
      · exfalso; omega
      · try have g9 := inr_t h9
        try have g9 := inr_f h9
        refine J_iload C (dA DX7_lensesFor_0 7 rfl) rfl ?_
        refine J_iload_n C (dA DX7_lensesFor_0 8 rfl) rfl ?_
        refine J_icmp_eq_n (tgt := 65) C (by omega) (by omega) (dA DX7_lensesFor_0 9 rfl) (by decide) (fun h15 => ?_) (fun h15 => ?_)
        · try have g15 := inr_t h15
          try have g15 := inr_f h15
          first | refine J_inc1_4_5 C (dA DX7_lensesFor_0 37 rfl) rfl ?_ | refine J_iinc_4_5 C (dA DX7_lensesFor_0 37 rfl) rfl ?_
          refine J_goto (tgt := 5) C (dA DX7_lensesFor_0 38 rfl) (by decide) ?_
          have e : lnP (sv7 M) (vb (fb 0) M) q p i = false := by unfold lnP; rw [decide_eq_true (show i = p by omega)]; rfl
          have h := ih (i + 1) (by omega)
          rw [← orL_f (P := (lnP (sv7 M) (vb (fb 0) M) q p)) e, show lnM M (sv7 M) (vb (fb 0) M) q p (i + 1) = lnM M (sv7 M) (vb (fb 0) M) q p i from if_pos (by omega)] at h
          exact h
        · try have g15 := inr_t h15
          try have g15 := inr_f h15
          refine J_aload_n C (dA DX7_lensesFor_0 10 rfl) rfl ?_
          refine G_X7_draft C wF_RX7_16 (dA DX7_lensesFor_0 11 rfl) ?_
          refine J_aload_n C (dA DX7_lensesFor_0 12 rfl) rfl ?_
          refine G_X7_fen C wF_RX7_12 (dA DX7_lensesFor_0 13 rfl) ?_
          refine V_X1_become C (by decide) (c_bec l E i) wM_RX7_179 (by decide) (dA DX7_lensesFor_0 14 rfl) rfl (Nat.le_of_ble_eq_true rfl) ?_
          refine J_aload_n C (dA DX7_lensesFor_0 15 rfl) rfl ?_
          refine G_X7_draft C wF_RX7_16 (dA DX7_lensesFor_0 16 rfl) ?_
          refine G_X1_ponds C (by decide) wF_RX7_80 (dA DX7_lensesFor_0 17 rfl) ?_
          refine J_iconst (v := nI 0) C (dA DX7_lensesFor_0 18 rfl) (by decide) ?_
          refine R_fp C (by decide) rfl (by omega) (dA DX7_lensesFor_0 19 rfl) ?_
          refine J_iload_n C (dA DX7_lensesFor_0 20 rfl) rfl ?_
          refine J_iload C (dA DX7_lensesFor_0 21 rfl) rfl ?_
          refine S_fr C (by decide) (by decide) rfl (by omega) (dA DX7_lensesFor_0 22 rfl) ?_
          rw [dr_sh hS hp]
          refine J_aload_n C (dA DX7_lensesFor_0 23 rfl) rfl ?_
          refine G_X7_foresight C wF_RX7_36 (dA DX7_lensesFor_0 24 rfl) ?_
          refine J_aload_n C (dA DX7_lensesFor_0 25 rfl) rfl ?_
          refine G_X7_draft C wF_RX7_16 (dA DX7_lensesFor_0 26 rfl) ?_
          refine J_iload_n C (dA DX7_lensesFor_0 27 rfl) rfl ?_
          refine J_aload_n C (dA DX7_lensesFor_0 28 rfl) rfl ?_
          refine V_X2_showsAsTold C (c_X2_showsAsTold l E (IS_sh hS hp (show i < 16 by omega) (by omega)) q p n hq hp hn e1) wM_RX7_294 (by decide) (dA DX7_lensesFor_0 29 rfl) rfl (Nat.le_of_ble_eq_true rfl) ?_
          refine J_if_eq_b (tgt := 65) C (dA DX7_lensesFor_0 30 rfl) (by decide) (fun h55 => ?_) (fun h55 => ?_)
          · try have g55 := inr_t h55
            try have g55 := inr_f h55
            first | refine J_inc1_4_5 C (dA DX7_lensesFor_0 37 rfl) rfl ?_ | refine J_iinc_4_5 C (dA DX7_lensesFor_0 37 rfl) rfl ?_
            refine J_goto (tgt := 5) C (dA DX7_lensesFor_0 38 rfl) (by decide) ?_
            have e : lnP (sv7 M) (vb (fb 0) M) q p i = false := by unfold lnP; rw [decide_eq_false (show ¬ i = p by omega), hl, h55]; rfl
            have h := ih (i + 1) (by omega)
            rw [← orL_f (P := (lnP (sv7 M) (vb (fb 0) M) q p)) e, show lnM M (sv7 M) (vb (fb 0) M) q p (i + 1) = dr M (minsS (shT (vb (fb 0) M) p i) (fitN (sv7 M) q (shT (vb (fb 0) M) p i) p (lnq (sv7 M) q))) from if_neg (by omega), hl] at h
            exact h
          · try have g55 := inr_t h55
            try have g55 := inr_f h55
            refine J_iload_n C (dA DX7_lensesFor_0 31 rfl) rfl ?_
            refine J_iconst (v := nI 1) C (dA DX7_lensesFor_0 32 rfl) (by decide) ?_
            refine J_iload C (dA DX7_lensesFor_0 33 rfl) rfl ?_
            refine J_ishl C (dA DX7_lensesFor_0 34 rfl) ?_
            refine J_ior C (dA DX7_lensesFor_0 35 rfl) ?_
            refine J_ist_3_5 C (dA DX7_lensesFor_0 36 rfl) rfl ?_
            first | refine J_inc1_4_5 C (dA DX7_lensesFor_0 37 rfl) rfl ?_ | refine J_iinc_4_5 C (dA DX7_lensesFor_0 37 rfl) rfl ?_
            refine J_goto (tgt := 5) C (dA DX7_lensesFor_0 38 rfl) (by decide) ?_
            have e : lnP (sv7 M) (vb (fb 0) M) q p i = true := by unfold lnP; rw [decide_eq_false (show ¬ i = p by omega), hl, h55]; rfl
            have h := ih (i + 1) (by omega)
            rw [← orL_t (P := (lnP (sv7 M) (vb (fb 0) M) q p)) e, show lnM M (sv7 M) (vb (fb 0) M) q p (i + 1) = dr M (minsS (shT (vb (fb 0) M) p i) (fitN (sv7 M) q (shT (vb (fb 0) M) p i) p (lnq (sv7 M) q))) from if_neg (by omega), hl] at h
            exact h
  refine J_iconst (v := nI 0) C (dA DX7_lensesFor_0 0 rfl) (by decide) ?_
  refine J_ist_3_5 C (dA DX7_lensesFor_0 1 rfl) rfl ?_
  refine J_iconst (v := nI 0) C (dA DX7_lensesFor_0 2 rfl) (by decide) ?_
  refine J_ist_4_5 C (dA DX7_lensesFor_0 3 rfl) rfl ?_
  exact loop 16 0 (Nat.zero_add _)
set_option maxRecDepth 4000 in
theorem c_X7_fits (l : Launch) (E : jE) (a b : Int32) (hZ : QS (sv7 M)) (hS : IS (vb (fb 0) M))  : K_X7_fits l E [.ref (ja E 59), .int a, .int b] M (aFits (sv7 M) (vb (fb 0) M) a b) (eFits (sv7 M) 1076 a b (lnM M (sv7 M) (vb (fb 0) M) (nv a) (nv b) 16) M) := by
  refine CT_intro (own := RX7) (by decide +kernel) rfl (by simp [Value.category]) (Nat.le_of_ble_eq_true rfl) rfl (fun X C G => ?_)
  show J E X 0 [some (.ref (ja E 59)), some (.int a), some (.int b), none] [] M
  rcases lkP_c (Z := sv7 M) (a := a) (b := b) with e | e | ⟨q, p, hq, hp, rfl, rfl, e⟩
  · refine J_aload_n C (dA DX7_fits_0 0 rfl) rfl ?_
    refine J_iload_n C (dA DX7_fits_0 1 rfl) rfl ?_
    refine J_iload_n C (dA DX7_fits_0 2 rfl) rfl ?_
    refine V_X7_lackOfSight C (c_X7_lackOfSight l E _ _) wM_RX7_204 (by decide) (dA DX7_fits_0 3 rfl) rfl (Nat.le_of_ble_eq_true rfl) ?_
    rw [e, show lk7 0 = fi 0 from rfl]
    refine J_ist_3_4 C (dA DX7_fits_0 4 rfl) rfl ?_
    refine J_iload_n C (dA DX7_fits_0 5 rfl) rfl ?_
    refine J_if_eq (tgt := 17) C (dA DX7_fits_0 6 rfl) (by decide) (fun h8 => ?_) (fun h8 => ?_)
    · exact absurd h8 (by decide)
    · refine J_aload_n C (dA DX7_fits_0 7 rfl) rfl ?_
      refine J_iload_n C (dA DX7_fits_0 8 rfl) rfl ?_
      refine V_X7_finding C (c_X7_finding l E 0 (by decide) _ rfl) wM_RX7_70 (by decide) (dA DX7_fits_0 9 rfl) rfl (Nat.le_of_ble_eq_true rfl) ?_
      exact J_iret C G (dA DX7_fits_0 10 rfl) ⟨oi (by unfold aFits; rw [if_neg (by rw [e]; decide), e] <;> rfl), by unfold eFits; rw [if_neg (by rw [e]; decide), e]⟩
  · refine J_aload_n C (dA DX7_fits_0 0 rfl) rfl ?_
    refine J_iload_n C (dA DX7_fits_0 1 rfl) rfl ?_
    refine J_iload_n C (dA DX7_fits_0 2 rfl) rfl ?_
    refine V_X7_lackOfSight C (c_X7_lackOfSight l E _ _) wM_RX7_204 (by decide) (dA DX7_fits_0 3 rfl) rfl (Nat.le_of_ble_eq_true rfl) ?_
    rw [e, show lk7 5 = fi 5 from rfl]
    refine J_ist_3_4 C (dA DX7_fits_0 4 rfl) rfl ?_
    refine J_iload_n C (dA DX7_fits_0 5 rfl) rfl ?_
    refine J_if_eq (tgt := 17) C (dA DX7_fits_0 6 rfl) (by decide) (fun h8 => ?_) (fun h8 => ?_)
    · exact absurd h8 (by decide)
    · refine J_aload_n C (dA DX7_fits_0 7 rfl) rfl ?_
      refine J_iload_n C (dA DX7_fits_0 8 rfl) rfl ?_
      refine V_X7_finding C (c_X7_finding l E 5 (by decide) _ rfl) wM_RX7_70 (by decide) (dA DX7_fits_0 9 rfl) rfl (Nat.le_of_ble_eq_true rfl) ?_
      exact J_iret C G (dA DX7_fits_0 10 rfl) ⟨oi (by unfold aFits; rw [if_neg (by rw [e]; decide), e] <;> rfl), by unfold eFits; rw [if_neg (by rw [e]; decide), e]⟩
  · have na : nv (nI q) = q := nv_nI (by omega)
    have nb : nv (nI p) = p := nv_nI (by omega)
    have hZ2 := hZ
    obtain ⟨b, n, hb, hn, e0, e1, h0⟩ := hZ2 q hq
    refine J_aload_n C (dA DX7_fits_0 0 rfl) rfl ?_
    refine J_iload_n C (dA DX7_fits_0 1 rfl) rfl ?_
    refine J_iload_n C (dA DX7_fits_0 2 rfl) rfl ?_
    refine V_X7_lackOfSight C (c_X7_lackOfSight l E _ _) wM_RX7_204 (by decide) (dA DX7_fits_0 3 rfl) rfl (Nat.le_of_ble_eq_true rfl) ?_
    rw [e, show lk7 7 = nI 0 from rfl]
    refine J_ist_3_4 C (dA DX7_fits_0 4 rfl) rfl ?_
    refine J_iload_n C (dA DX7_fits_0 5 rfl) rfl ?_
    refine J_if_eq (tgt := 17) C (dA DX7_fits_0 6 rfl) (by decide) (fun h8 => ?_) (fun h8 => ?_)
    · refine J_aload_n C (dA DX7_fits_0 11 rfl) rfl ?_
      refine J_aload_n C (dA DX7_fits_0 12 rfl) rfl ?_
      refine G_X7_sheets C wF_RX7_57 (dA DX7_fits_0 13 rfl) ?_
      refine J_iload_n C (dA DX7_fits_0 14 rfl) rfl ?_
      refine R_sh C rfl (by omega) (dA DX7_fits_0 15 rfl) ?_
      refine J_iload_n C (dA DX7_fits_0 16 rfl) rfl ?_
      refine V_X7_lensesFor C (c_X7_lensesFor l E q p n hq hp hn e1 hS) wM_RX7_207 (by decide) (dA DX7_fits_0 17 rfl) rfl (Nat.le_of_ble_eq_true rfl) ?_
      refine V_J6_bitCount_0f7a4 C (c_bc l E _ (s16_orL (by decide) _)) wM_RX7_199 (by decide) (dA DX7_fits_0 18 rfl) rfl (Nat.le_of_ble_eq_true rfl) ?_
      exact J_iret C G (dA DX7_fits_0 19 rfl) ⟨oi (by unfold aFits; rw [if_pos e, na, nb, bc_orL]), by unfold eFits; rw [if_pos e, na, nb]⟩
    · exact absurd rfl h8

set_option maxRecDepth 4000 in
theorem c_X8_fits (l : Launch) (E : jE) (a b : Int32) (hZ : QS (sv8 M)) (hS : IS (vb 1100 M))  : K_X8_fits l E [.ref (ja E 60), .int a, .int b] M (aFits (sv8 M) (vb 1100 M) a b) (eFits (sv8 M) 1502 a b (asd M) M) := by
  refine CT_intro (own := RX8) (by decide +kernel) rfl (by simp [Value.category]) (Nat.le_of_ble_eq_true rfl) rfl (fun X C G => ?_)
  show J E X 0 [some (.ref (ja E 60)), some (.int a), some (.int b), none, none, none] [] M
  rcases lkP_c (Z := sv8 M) (a := a) (b := b) with e | e | ⟨q, p, hq, hp, rfl, rfl, e⟩
  · refine J_aload_n C (dA DX8_fits_0 0 rfl) rfl ?_
    refine J_iload_n C (dA DX8_fits_0 1 rfl) rfl ?_
    refine J_iload_n C (dA DX8_fits_0 2 rfl) rfl ?_
    refine V_X8_wrongSight C (c_X8_wrongSight l E _ _) wM_RX8_190 (by decide) (dA DX8_fits_0 3 rfl) rfl (Nat.le_of_ble_eq_true rfl) ?_
    rw [e, show lk8 0 = nI 0 from rfl]
    refine J_ist_3_6 C (dA DX8_fits_0 4 rfl) rfl ?_
    refine J_iload_n C (dA DX8_fits_0 5 rfl) rfl ?_
    refine J_if_lt (tgt := 17) C (dA DX8_fits_0 6 rfl) (by decide) (fun h8 => ?_) (fun h8 => ?_)
    · exact absurd h8 (by decide)
    · refine J_aload_n C (dA DX8_fits_0 7 rfl) rfl ?_
      refine J_iload_n C (dA DX8_fits_0 8 rfl) rfl ?_
      refine V_X8_no C (c_X8_no l E 0 (by decide)) wM_RX8_106 (by decide) (dA DX8_fits_0 9 rfl) rfl (Nat.le_of_ble_eq_true rfl) ?_
      exact J_iret C G (dA DX8_fits_0 10 rfl) ⟨oi (by unfold aFits; rw [if_neg (by rw [e]; decide), e] <;> rfl), by unfold eFits; rw [if_neg (by rw [e]; decide), e]⟩
  · refine J_aload_n C (dA DX8_fits_0 0 rfl) rfl ?_
    refine J_iload_n C (dA DX8_fits_0 1 rfl) rfl ?_
    refine J_iload_n C (dA DX8_fits_0 2 rfl) rfl ?_
    refine V_X8_wrongSight C (c_X8_wrongSight l E _ _) wM_RX8_190 (by decide) (dA DX8_fits_0 3 rfl) rfl (Nat.le_of_ble_eq_true rfl) ?_
    rw [e, show lk8 5 = nI 5 from rfl]
    refine J_ist_3_6 C (dA DX8_fits_0 4 rfl) rfl ?_
    refine J_iload_n C (dA DX8_fits_0 5 rfl) rfl ?_
    refine J_if_lt (tgt := 17) C (dA DX8_fits_0 6 rfl) (by decide) (fun h8 => ?_) (fun h8 => ?_)
    · exact absurd h8 (by decide)
    · refine J_aload_n C (dA DX8_fits_0 7 rfl) rfl ?_
      refine J_iload_n C (dA DX8_fits_0 8 rfl) rfl ?_
      refine V_X8_no C (c_X8_no l E 5 (by decide)) wM_RX8_106 (by decide) (dA DX8_fits_0 9 rfl) rfl (Nat.le_of_ble_eq_true rfl) ?_
      exact J_iret C G (dA DX8_fits_0 10 rfl) ⟨oi (by unfold aFits; rw [if_neg (by rw [e]; decide), e] <;> rfl), by unfold eFits; rw [if_neg (by rw [e]; decide), e]⟩
  · have na : nv (nI q) = q := nv_nI (by omega)
    have nb : nv (nI p) = p := nv_nI (by omega)
    have hZ2 := hZ
    obtain ⟨b, n, hb, hn, e0, e1, h0⟩ := hZ2 q hq
    refine J_aload_n C (dA DX8_fits_0 0 rfl) rfl ?_
    refine J_iload_n C (dA DX8_fits_0 1 rfl) rfl ?_
    refine J_iload_n C (dA DX8_fits_0 2 rfl) rfl ?_
    refine V_X8_wrongSight C (c_X8_wrongSight l E _ _) wM_RX8_190 (by decide) (dA DX8_fits_0 3 rfl) rfl (Nat.le_of_ble_eq_true rfl) ?_
    rw [e, show lk8 7 = (-1) from rfl]
    refine J_ist_3_6 C (dA DX8_fits_0 4 rfl) rfl ?_
    refine J_iload_n C (dA DX8_fits_0 5 rfl) rfl ?_
    refine J_if_lt (tgt := 17) C (dA DX8_fits_0 6 rfl) (by decide) (fun h8 => ?_) (fun h8 => ?_)
    · refine J_iconst (v := nI 0) C (dA DX8_fits_0 11 rfl) (by decide) ?_
      refine J_ist_4_6 C (dA DX8_fits_0 12 rfl) rfl ?_
      refine J_iconst (v := nI 0) C (dA DX8_fits_0 13 rfl) (by decide) ?_
      refine J_ist_5_6 C (dA DX8_fits_0 14 rfl) rfl ?_
      have hl : lnq (sv8 M) q = n := by unfold lnq; rw [e1, nv_nI (by omega)]
      have loop : ∀ k i (Mx : jM), i + k = 16 → ((Mx = M ∧ (i = 0 ∨ (i = 1 ∧ p = 0))) ∨ Mx = asd M) → J E X 23 [some (.ref (ja E 60)), some (.int (nI q)), some (.int (nI p)), some (.int (-1)), some (.int (nI (cnt i (lnP (sv8 M) (vb 1100 M) q p)))), some (.int (nI i))] [] Mx := by
        intro k
        induction k with
        | zero =>
          intro i Mx hi hm
          obtain rfl : 16 = i := by omega
          have hm2 : Mx = asd M := by rcases hm with ⟨_, z⟩ | z
                                      · omega
                                      · exact z
          rw [hm2]
          refine J_iload C (dA DX8_fits_0 15 rfl) rfl ?_
          refine J_bipush (v := nI 16) C (dA DX8_fits_0 16 rfl) (by decide) ?_
          first | refine J_icmp_ge_n (tgt := 63) C (by omega) (by omega) (dA DX8_fits_0 17 rfl) (by decide) (fun h27 => ?_) (fun h27 => ?_) | refine J_icmp_ge_c (tgt := 63) C (by omega) (dA DX8_fits_0 17 rfl) (by decide) (fun h27 => ?_) (fun h27 => ?_) | refine J_icmp_ge_t (tgt := 63) C (dA DX8_fits_0 17 rfl) (by decide) (fun h27 => ?_) (fun h27 => ?_)
          · try have g27 := inr_t h27
            try have g27 := inr_f h27
            refine J_iload C (dA DX8_fits_0 35 rfl) rfl ?_
            exact J_iret C G (dA DX8_fits_0 36 rfl) ⟨oi (by unfold aFits; rw [if_pos e, na, nb]), by unfold eFits; rw [if_pos e]⟩
          · exfalso; omega
        | succ k ih =>
          intro i Mx hi hm
          have hx : Mx = M ∨ Mx = asd M := hm.elim (fun z => Or.inl z.1) Or.inr
          refine J_iload C (dA DX8_fits_0 15 rfl) rfl ?_
          refine J_bipush (v := nI 16) C (dA DX8_fits_0 16 rfl) (by decide) ?_
          first | refine J_icmp_ge_n (tgt := 63) C (by omega) (by omega) (dA DX8_fits_0 17 rfl) (by decide) (fun h27 => ?_) (fun h27 => ?_) | refine J_icmp_ge_c (tgt := 63) C (by omega) (dA DX8_fits_0 17 rfl) (by decide) (fun h27 => ?_) (fun h27 => ?_) | refine J_icmp_ge_t (tgt := 63) C (dA DX8_fits_0 17 rfl) (by decide) (fun h27 => ?_) (fun h27 => ?_)
          · exfalso; omega
          · try have g27 := inr_t h27
            try have g27 := inr_f h27
            refine J_iload C (dA DX8_fits_0 18 rfl) rfl ?_
            refine J_iload C (dA DX8_fits_0 19 rfl) rfl ?_
            refine J_iload_n C (dA DX8_fits_0 20 rfl) rfl ?_
            refine J_icmp_eq_n (tgt := 53) C (by omega) (by omega) (dA DX8_fits_0 21 rfl) (by decide) (fun h35 => ?_) (fun h35 => ?_)
            · try have g35 := inr_t h35
              try have g35 := inr_f h35
              refine J_iconst (v := nI 0) C (dA DX8_fits_0 30 rfl) (by decide) ?_
              refine J_iadd_n C (dA DX8_fits_0 31 rfl) ?_
              refine J_ist_4_6 C (dA DX8_fits_0 32 rfl) rfl ?_
              first | refine J_inc1_5_6 C (dA DX8_fits_0 33 rfl) rfl ?_ | refine J_iinc_5_6 C (dA DX8_fits_0 33 rfl) rfl ?_
              refine J_goto (tgt := 23) C (dA DX8_fits_0 34 rfl) (by decide) ?_
              have ep : lnP (sv8 M) (vb 1100 M) q p i = false := by unfold lnP; rw [decide_eq_true (show i = p by omega)]; rfl
              have h := ih (i + 1) Mx (by omega) (hm.elim (fun z => Or.inl ⟨z.1, by omega⟩) Or.inr)
              rw [show cnt (i + 1) (lnP (sv8 M) (vb 1100 M) q p) = cnt i (lnP (sv8 M) (vb 1100 M) q p) + 0 by show cnt i _ + (if lnP (sv8 M) (vb 1100 M) q p i = true then 1 else 0) = _; rw [ep]; rfl] at h
              exact h
            · try have g35 := inr_t h35
              try have g35 := inr_f h35
              refine J_aload_n C (dA DX8_fits_0 22 rfl) rfl ?_
              refine J_iload_n C (dA DX8_fits_0 23 rfl) rfl ?_
              refine J_iload_n C (dA DX8_fits_0 24 rfl) rfl ?_
              refine J_iload C (dA DX8_fits_0 25 rfl) rfl ?_
              refine V_X8_fitsAs C (c_fA l E Mx hx q p i n hq hp (by omega) (by omega) hn e1 hS) wM_RX8_193 (by decide) (dA DX8_fits_0 26 rfl) rfl (Nat.le_of_ble_eq_true rfl) ?_
              refine J_if_eq_b (tgt := 53) C (dA DX8_fits_0 27 rfl) (by decide) (fun h46 => ?_) (fun h46 => ?_)
              · try have g46 := inr_t h46
                try have g46 := inr_f h46
                refine J_iconst (v := nI 0) C (dA DX8_fits_0 30 rfl) (by decide) ?_
                refine J_iadd_n C (dA DX8_fits_0 31 rfl) ?_
                refine J_ist_4_6 C (dA DX8_fits_0 32 rfl) rfl ?_
                first | refine J_inc1_5_6 C (dA DX8_fits_0 33 rfl) rfl ?_ | refine J_iinc_5_6 C (dA DX8_fits_0 33 rfl) rfl ?_
                refine J_goto (tgt := 23) C (dA DX8_fits_0 34 rfl) (by decide) ?_
                have ep : lnP (sv8 M) (vb 1100 M) q p i = false := by unfold lnP; rw [decide_eq_false (show ¬ i = p by omega), hl, h46]; rfl
                have h := ih (i + 1) (asd M) (by omega) (Or.inr rfl)
                rw [show cnt (i + 1) (lnP (sv8 M) (vb 1100 M) q p) = cnt i (lnP (sv8 M) (vb 1100 M) q p) + 0 by show cnt i _ + (if lnP (sv8 M) (vb 1100 M) q p i = true then 1 else 0) = _; rw [ep]; rfl] at h
                exact h
              · try have g46 := inr_t h46
                try have g46 := inr_f h46
                refine J_iconst (v := nI 1) C (dA DX8_fits_0 28 rfl) (by decide) ?_
                refine J_goto (tgt := 54) C (dA DX8_fits_0 29 rfl) (by decide) ?_
                refine J_iadd_n C (dA DX8_fits_0 31 rfl) ?_
                refine J_ist_4_6 C (dA DX8_fits_0 32 rfl) rfl ?_
                first | refine J_inc1_5_6 C (dA DX8_fits_0 33 rfl) rfl ?_ | refine J_iinc_5_6 C (dA DX8_fits_0 33 rfl) rfl ?_
                refine J_goto (tgt := 23) C (dA DX8_fits_0 34 rfl) (by decide) ?_
                have ep : lnP (sv8 M) (vb 1100 M) q p i = true := by unfold lnP; rw [decide_eq_false (show ¬ i = p by omega), hl, h46]; rfl
                have h := ih (i + 1) (asd M) (by omega) (Or.inr rfl)
                rw [show cnt (i + 1) (lnP (sv8 M) (vb 1100 M) q p) = cnt i (lnP (sv8 M) (vb 1100 M) q p) + 1 by show cnt i _ + (if lnP (sv8 M) (vb 1100 M) q p i = true then 1 else 0) = _; rw [ep]; rfl] at h
                exact h
      exact loop 16 0 M (Nat.zero_add _) (Or.inl ⟨rfl, Or.inl rfl⟩)
    · exact absurd h8 (by decide)

set_option maxRecDepth 4000 in
theorem c_X8_lens (l : Launch) (E : jE) (a b : Int32) (hZ : QS (sv8 M)) (hS : IS (vb 1100 M))  : K_X8_lens l E [.ref (ja E 60), .int a, .int b] M (aLens (sv8 M) (vb 1100 M) a b) (eLens (sv8 M) (vb 1100 M) 1502 a b (asd M) M) := by
  refine CT_intro (own := RX8) (by decide +kernel) rfl (by simp [Value.category]) (Nat.le_of_ble_eq_true rfl) rfl (fun X C G => ?_)
  show J E X 0 [some (.ref (ja E 60)), some (.int a), some (.int b), none, none] [] M
  rcases lkP_c (Z := sv8 M) (a := a) (b := b) with e | e | ⟨q, p, hq, hp, rfl, rfl, e⟩
  · refine J_aload_n C (dA DX8_lens_0 0 rfl) rfl ?_
    refine J_iload_n C (dA DX8_lens_0 1 rfl) rfl ?_
    refine J_iload_n C (dA DX8_lens_0 2 rfl) rfl ?_
    refine V_X8_wrongSight C (c_X8_wrongSight l E _ _) wM_RX8_190 (by decide) (dA DX8_lens_0 3 rfl) rfl (Nat.le_of_ble_eq_true rfl) ?_
    rw [e, show lk8 0 = nI 0 from rfl]
    refine J_ist_3_5 C (dA DX8_lens_0 4 rfl) rfl ?_
    refine J_iload_n C (dA DX8_lens_0 5 rfl) rfl ?_
    refine J_if_lt (tgt := 17) C (dA DX8_lens_0 6 rfl) (by decide) (fun h8 => ?_) (fun h8 => ?_)
    · exact absurd h8 (by decide)
    · refine J_aload_n C (dA DX8_lens_0 7 rfl) rfl ?_
      refine J_iload_n C (dA DX8_lens_0 8 rfl) rfl ?_
      refine V_X8_no C (c_X8_no l E 0 (by decide)) wM_RX8_106 (by decide) (dA DX8_lens_0 9 rfl) rfl (Nat.le_of_ble_eq_true rfl) ?_
      exact J_iret C G (dA DX8_lens_0 10 rfl) ⟨oi (by unfold aLens; rw [if_neg (by rw [e]; decide), e] <;> rfl), by unfold eLens; rw [if_neg (by rw [e]; decide), e]⟩
  · refine J_aload_n C (dA DX8_lens_0 0 rfl) rfl ?_
    refine J_iload_n C (dA DX8_lens_0 1 rfl) rfl ?_
    refine J_iload_n C (dA DX8_lens_0 2 rfl) rfl ?_
    refine V_X8_wrongSight C (c_X8_wrongSight l E _ _) wM_RX8_190 (by decide) (dA DX8_lens_0 3 rfl) rfl (Nat.le_of_ble_eq_true rfl) ?_
    rw [e, show lk8 5 = nI 5 from rfl]
    refine J_ist_3_5 C (dA DX8_lens_0 4 rfl) rfl ?_
    refine J_iload_n C (dA DX8_lens_0 5 rfl) rfl ?_
    refine J_if_lt (tgt := 17) C (dA DX8_lens_0 6 rfl) (by decide) (fun h8 => ?_) (fun h8 => ?_)
    · exact absurd h8 (by decide)
    · refine J_aload_n C (dA DX8_lens_0 7 rfl) rfl ?_
      refine J_iload_n C (dA DX8_lens_0 8 rfl) rfl ?_
      refine V_X8_no C (c_X8_no l E 5 (by decide)) wM_RX8_106 (by decide) (dA DX8_lens_0 9 rfl) rfl (Nat.le_of_ble_eq_true rfl) ?_
      exact J_iret C G (dA DX8_lens_0 10 rfl) ⟨oi (by unfold aLens; rw [if_neg (by rw [e]; decide), e] <;> rfl), by unfold eLens; rw [if_neg (by rw [e]; decide), e]⟩
  · have na : nv (nI q) = q := nv_nI (by omega)
    have nb : nv (nI p) = p := nv_nI (by omega)
    have hZ2 := hZ
    obtain ⟨b, n, hb, hn, e0, e1, h0⟩ := hZ2 q hq
    refine J_aload_n C (dA DX8_lens_0 0 rfl) rfl ?_
    refine J_iload_n C (dA DX8_lens_0 1 rfl) rfl ?_
    refine J_iload_n C (dA DX8_lens_0 2 rfl) rfl ?_
    refine V_X8_wrongSight C (c_X8_wrongSight l E _ _) wM_RX8_190 (by decide) (dA DX8_lens_0 3 rfl) rfl (Nat.le_of_ble_eq_true rfl) ?_
    rw [e, show lk8 7 = (-1) from rfl]
    refine J_ist_3_5 C (dA DX8_lens_0 4 rfl) rfl ?_
    refine J_iload_n C (dA DX8_lens_0 5 rfl) rfl ?_
    refine J_if_lt (tgt := 17) C (dA DX8_lens_0 6 rfl) (by decide) (fun h8 => ?_) (fun h8 => ?_)
    · refine J_iconst (v := nI 0) C (dA DX8_lens_0 11 rfl) (by decide) ?_
      refine J_ist_4_5 C (dA DX8_lens_0 12 rfl) rfl ?_
      have hl : lnq (sv8 M) q = n := by unfold lnq; rw [e1, nv_nI (by omega)]
      have loop : ∀ k i (Mx : jM), i + k = 16 → ((Mx = M ∧ (i = 0 ∨ (i = 1 ∧ p = 0))) ∨ Mx = asd M) → (∀ j, j < i → lnP (sv8 M) (vb 1100 M) q p j = false) → J E X 20 [some (.ref (ja E 60)), some (.int (nI q)), some (.int (nI p)), some (.int (-1)), some (.int (nI i))] [] Mx := by
        intro k
        induction k with
        | zero =>
          intro i Mx hi hm hg
          obtain rfl : 16 = i := by omega
          have hm2 : Mx = asd M := by rcases hm with ⟨_, z⟩ | z
                                      · omega
                                      · exact z
          rw [hm2]
          refine J_iload C (dA DX8_lens_0 13 rfl) rfl ?_
          refine J_bipush (v := nI 16) C (dA DX8_lens_0 14 rfl) (by decide) ?_
          first | refine J_icmp_ge_n (tgt := 53) C (by omega) (by omega) (dA DX8_lens_0 15 rfl) (by decide) (fun h24 => ?_) (fun h24 => ?_) | refine J_icmp_ge_c (tgt := 53) C (by omega) (dA DX8_lens_0 15 rfl) (by decide) (fun h24 => ?_) (fun h24 => ?_) | refine J_icmp_ge_t (tgt := 53) C (dA DX8_lens_0 15 rfl) (by decide) (fun h24 => ?_) (fun h24 => ?_)
          · try have g24 := inr_t h24
            try have g24 := inr_f h24
            refine J_aload_n C (dA DX8_lens_0 29 rfl) rfl ?_
            refine J_iconst (v := nI 3) C (dA DX8_lens_0 30 rfl) (by decide) ?_
            refine V_X8_no C (c_X8_no l E 3 (by decide)) wM_RX8_106 (by decide) (dA DX8_lens_0 31 rfl) rfl (Nat.le_of_ble_eq_true rfl) ?_
            have ef := firstN_no (n := 16) hg
            exact J_iret C G (dA DX8_lens_0 32 rfl) ⟨oi (by unfold aLens; rw [if_pos e, na, nb, ef, if_neg (Nat.lt_irrefl _)]; rfl), by unfold eLens; rw [if_pos e, na, nb, ef, if_neg (Nat.lt_irrefl _)]⟩
          · exfalso; omega
        | succ k ih =>
          intro i Mx hi hm hg
          have hx : Mx = M ∨ Mx = asd M := hm.elim (fun z => Or.inl z.1) Or.inr
          refine J_iload C (dA DX8_lens_0 13 rfl) rfl ?_
          refine J_bipush (v := nI 16) C (dA DX8_lens_0 14 rfl) (by decide) ?_
          first | refine J_icmp_ge_n (tgt := 53) C (by omega) (by omega) (dA DX8_lens_0 15 rfl) (by decide) (fun h24 => ?_) (fun h24 => ?_) | refine J_icmp_ge_c (tgt := 53) C (by omega) (dA DX8_lens_0 15 rfl) (by decide) (fun h24 => ?_) (fun h24 => ?_) | refine J_icmp_ge_t (tgt := 53) C (dA DX8_lens_0 15 rfl) (by decide) (fun h24 => ?_) (fun h24 => ?_)
          · exfalso; omega
          · try have g24 := inr_t h24
            try have g24 := inr_f h24
            refine J_iload C (dA DX8_lens_0 16 rfl) rfl ?_
            refine J_iload_n C (dA DX8_lens_0 17 rfl) rfl ?_
            refine J_icmp_eq_n (tgt := 47) C (by omega) (by omega) (dA DX8_lens_0 18 rfl) (by decide) (fun h30 => ?_) (fun h30 => ?_)
            · try have g30 := inr_t h30
              try have g30 := inr_f h30
              first | refine J_inc1_4_5 C (dA DX8_lens_0 27 rfl) rfl ?_ | refine J_iinc_4_5 C (dA DX8_lens_0 27 rfl) rfl ?_
              refine J_goto (tgt := 20) C (dA DX8_lens_0 28 rfl) (by decide) ?_
              have ep : lnP (sv8 M) (vb 1100 M) q p i = false := by unfold lnP; rw [decide_eq_true (show i = p by omega)]; rfl
              exact ih (i + 1) Mx (by omega) (hm.elim (fun z => Or.inl ⟨z.1, by omega⟩) Or.inr) (fun j hj => by rcases Nat.lt_or_ge j i with z | z; exact hg j z; rw [show j = i by omega]; exact ep)
            · try have g30 := inr_t h30
              try have g30 := inr_f h30
              refine J_aload_n C (dA DX8_lens_0 19 rfl) rfl ?_
              refine J_iload_n C (dA DX8_lens_0 20 rfl) rfl ?_
              refine J_iload_n C (dA DX8_lens_0 21 rfl) rfl ?_
              refine J_iload C (dA DX8_lens_0 22 rfl) rfl ?_
              refine V_X8_fitsAs C (c_fA l E Mx hx q p i n hq hp (by omega) (by omega) hn e1 hS) wM_RX8_193 (by decide) (dA DX8_lens_0 23 rfl) rfl (Nat.le_of_ble_eq_true rfl) ?_
              refine J_if_eq_b (tgt := 47) C (dA DX8_lens_0 24 rfl) (by decide) (fun h41 => ?_) (fun h41 => ?_)
              · try have g41 := inr_t h41
                try have g41 := inr_f h41
                first | refine J_inc1_4_5 C (dA DX8_lens_0 27 rfl) rfl ?_ | refine J_iinc_4_5 C (dA DX8_lens_0 27 rfl) rfl ?_
                refine J_goto (tgt := 20) C (dA DX8_lens_0 28 rfl) (by decide) ?_
                have ep : lnP (sv8 M) (vb 1100 M) q p i = false := by unfold lnP; rw [decide_eq_false (show ¬ i = p by omega), hl, h41]; rfl
                exact ih (i + 1) (asd M) (by omega) (Or.inr rfl) (fun j hj => by rcases Nat.lt_or_ge j i with z | z; exact hg j z; rw [show j = i by omega]; exact ep)
              · try have g41 := inr_t h41
                try have g41 := inr_f h41
                refine J_iload C (dA DX8_lens_0 25 rfl) rfl ?_
                have ep : lnP (sv8 M) (vb 1100 M) q p i = true := by unfold lnP; rw [decide_eq_false (show ¬ i = p by omega), hl, h41]; rfl
                have ef := firstN_eq (n := 16) (by omega) hg ep
                exact J_iret C G (dA DX8_lens_0 26 rfl) ⟨oi (by unfold aLens; rw [if_pos e, na, nb, ef, if_pos (by omega)]), by unfold eLens; rw [if_pos e, na, nb, ef, if_pos (by omega)]⟩
      exact loop 16 0 M (Nat.zero_add _) (Or.inl ⟨rfl, Or.inl rfl⟩) (fun j hj => by omega)
    · exact absurd h8 (by decide)

end PA
