/-- numbers of a sheet that are depths, up to the first that isn't -/
def ldP (Z : Nat → Nat → Int32) (q : Nat) : Nat → Bool := fun i => !(decide (i < 16) && inr (Z q (2 + i)) 0 99)
def ldC (Z : Nat → Nat → Int32) (q : Nat) : Nat := firstN (nv (Z q 1)) (ldP Z q)
def ldN (Z : Nat → Nat → Int32) (S : Nat → Int32) (q i : Nat) : Nat → Int32 := fun x => if 4 ≤ x ∧ x < 4 + 6 * i ∧ (x - 4) % 6 = 5 then Z q (2 + (x - 4) / 6) else S x
theorem ldN_0 {Z : Nat → Nat → Int32} {S : Nat → Int32} {q : Nat} : ldN Z S q 0 = S := by funext x; unfold ldN; rw [if_neg (by omega)]
theorem ldN_s {Z : Nat → Nat → Int32} {S : Nat → Int32} {q i : Nat} : upd (ldN Z S q i) (4 + 6 * i + 5) (Z q (2 + i)) = ldN Z S q (i + 1) := by
  funext x
  unfold upd ldN
  by_cases e : x = 4 + 6 * i + 5
  · rw [if_pos e, if_pos (by omega), show (x - 4) / 6 = i by omega]
  · rw [if_neg e]
    by_cases e2 : 4 ≤ x ∧ x < 4 + 6 * i ∧ (x - 4) % 6 = 5
    · rw [if_pos e2, if_pos (by omega)]
    · rw [if_neg e2, if_neg (by omega)]
theorem Can_ldN {Z : Nat → Nat → Int32} {S : Nat → Int32} {q i : Nat} (h : Can S) (hi : i ≤ 16) : Can (ldN Z S q i) := fun x hx => by unfold ldN; rw [if_neg (by omega)]; exact h x hx
theorem lay_s {b : Nat} {M : jM} {S : Nat → Int32} {j : Nat} {x : Int32} (hS : Can S) (hj : j < 134) : upd (lay b M S) (b + j) x = lay b M (upd S j x) := by
  rw [lay_upd hj, vb_lay hS, lay_lay]
theorem sv7_lay {M : jM} {T : Nat → Int32} : sv7 (lay (fb 0) M T) = sv7 M := by
  funext q k
  unfold sv7 lay fb
  split
  · rw [if_neg (by omega)]
  · rfl
theorem sv8_lay {M : jM} {T : Nat → Int32} : sv8 (lay 1100 M T) = sv8 M := by
  funext q k
  unfold sv8
  by_cases e : q < 4 ∧ k < 42
  · rw [if_pos e, if_pos e]
    unfold lay
    rw [if_neg (by split <;> (try split) <;> omega)]
  · rw [if_neg e, if_neg e]
theorem IS_ldN {Z : Nat → Nat → Int32} {S : Nat → Int32} {q : Nat} (hS : IS S) : ∀ i, i ≤ 16 → (∀ k, k < i → inr (Z q (2 + k)) 0 99 = true) → IS (ldN Z S q i)
  | 0, _, _ => by rw [ldN_0]; exact hS
  | i + 1, hi, hg => by
    have ih := IS_ldN (Z := Z) (q := q) hS i (by omega) (fun k hk => hg k (by omega))
    have g := inr_t (hg i (by omega))
    obtain ⟨v, hv, e⟩ := toNI (x := Z q (2 + i)) (n := 100) (by omega) (by omega)
    rw [← ldN_s, e]
    exact IS_u6 ih (by omega) (by decide) (show v ≤ 99 by omega) (fun z => by omega) (fun z => by omega)
/-- the first number of a sheet that breaks a chain -/
def jgP (Z : Nat → Nat → Int32) (S : Nat → Int32) (q : Nat) : Nat → Bool := fun i => !(inr (Z q (2 + i)) 0 15 && (decide (i = 0) || decide (nI (f6 S (nv (Z q (2 + (i - 1)))) 0) = Z q (2 + i))))
def jgC (Z : Nat → Nat → Int32) (S : Nat → Int32) (q : Nat) : Nat := firstN (nv (Z q 1)) (jgP Z S q)
def aLoad (Z : Nat → Nat → Int32) (a : Int32) : Int32 := if lkS Z a = 7 then nI (ldC Z (nv a)) else fi (lkS Z a)
def eLoad (Z : Nat → Nat → Int32) (B F : Nat) (a : Int32) (M : jM) : jM := if lkS Z a = 7 then lay B M (ldN Z (vb B M) (nv a) (ldC Z (nv a))) else Fl F (lkS Z a) M
def aJudge (Z : Nat → Nat → Int32) (S : Nat → Int32) (a : Int32) : Int32 := if lkS Z a = 7 then (if jgC Z S (nv a) < nv (Z (nv a) 1) then nI (1 + jgC Z S (nv a)) else nI 0) else fi (lkS Z a)
def eJudge (Z : Nat → Nat → Int32) (F : Nat) (a : Int32) (M : jM) : jM := if lkS Z a = 7 then M else Fl F (lkS Z a) M
section PA
variable {M : jM}
set_option maxRecDepth 4000 in
theorem c_X7_load (l : Launch) (E : jE) (a : Int32) (hZ : QS (sv7 M)) (hS : IS (vb (fb 0) M))  : K_X7_load l E [.ref (ja E 59), .int a] M (aLoad (sv7 M) a) (eLoad (sv7 M) (fb 0) 1076 a M) := by
  refine CT_intro (own := RX7) (by decide +kernel) rfl (by simp [Value.category]) (Nat.le_of_ble_eq_true rfl) rfl (fun X C G => ?_)
  show J E X 0 [some (.ref (ja E 59)), some (.int a), none, none, none] [] M
  rcases lkS_c (Z := sv7 M) (a := a) with ⟨hi, e⟩ | ⟨q, hq, rfl, hz, e⟩ | ⟨q, hq, rfl, hz, e⟩
  · refine J_aload_n C (dA DX7_load_0 0 rfl) rfl ?_
    refine J_iload_n C (dA DX7_load_0 1 rfl) rfl ?_
    refine V_X7_lackOfSheet C (c_X7_lackOfSheet l E _) wM_RX7_214 (by decide) (dA DX7_load_0 2 rfl) rfl (Nat.le_of_ble_eq_true rfl) ?_
    rw [e, show lk7 0 = fi 0 from rfl]
    refine J_ist_2_5 C (dA DX7_load_0 3 rfl) rfl ?_
    refine J_iload_n C (dA DX7_load_0 4 rfl) rfl ?_
    refine J_if_eq (tgt := 16) C (dA DX7_load_0 5 rfl) (by decide) (fun h7 => ?_) (fun h7 => ?_)
    · exact absurd h7 (by decide)
    · refine J_aload_n C (dA DX7_load_0 6 rfl) rfl ?_
      refine J_iload_n C (dA DX7_load_0 7 rfl) rfl ?_
      refine V_X7_finding C (c_X7_finding l E 0 (by decide) _ rfl) wM_RX7_70 (by decide) (dA DX7_load_0 8 rfl) rfl (Nat.le_of_ble_eq_true rfl) ?_
      exact J_iret C G (dA DX7_load_0 9 rfl) ⟨oi (by unfold aLoad; rw [if_neg (by rw [e]; decide), e]), by unfold eLoad; rw [if_neg (by rw [e]; decide), e]⟩
  · refine J_aload_n C (dA DX7_load_0 0 rfl) rfl ?_
    refine J_iload_n C (dA DX7_load_0 1 rfl) rfl ?_
    refine V_X7_lackOfSheet C (c_X7_lackOfSheet l E _) wM_RX7_214 (by decide) (dA DX7_load_0 2 rfl) rfl (Nat.le_of_ble_eq_true rfl) ?_
    rw [e, show lk7 5 = fi 5 from rfl]
    refine J_ist_2_5 C (dA DX7_load_0 3 rfl) rfl ?_
    refine J_iload_n C (dA DX7_load_0 4 rfl) rfl ?_
    refine J_if_eq (tgt := 16) C (dA DX7_load_0 5 rfl) (by decide) (fun h7 => ?_) (fun h7 => ?_)
    · exact absurd h7 (by decide)
    · refine J_aload_n C (dA DX7_load_0 6 rfl) rfl ?_
      refine J_iload_n C (dA DX7_load_0 7 rfl) rfl ?_
      refine V_X7_finding C (c_X7_finding l E 5 (by decide) _ rfl) wM_RX7_70 (by decide) (dA DX7_load_0 8 rfl) rfl (Nat.le_of_ble_eq_true rfl) ?_
      exact J_iret C G (dA DX7_load_0 9 rfl) ⟨oi (by unfold aLoad; rw [if_neg (by rw [e]; decide), e]), by unfold eLoad; rw [if_neg (by rw [e]; decide), e]⟩
  · have na : nv (nI q) = q := nv_nI (by omega)
    have hZ2 := hZ
    obtain ⟨b, n, hb, hn, e0, e1, h0⟩ := hZ2 q hq
    have nn : nv (nI n) = n := nv_nI (by omega)
    have tn : (nI n).toInt = n := tI (by omega)
    refine J_aload_n C (dA DX7_load_0 0 rfl) rfl ?_
    refine J_iload_n C (dA DX7_load_0 1 rfl) rfl ?_
    refine V_X7_lackOfSheet C (c_X7_lackOfSheet l E _) wM_RX7_214 (by decide) (dA DX7_load_0 2 rfl) rfl (Nat.le_of_ble_eq_true rfl) ?_
    rw [e, show lk7 7 = nI 0 from rfl]
    refine J_ist_2_5 C (dA DX7_load_0 3 rfl) rfl ?_
    refine J_iload_n C (dA DX7_load_0 4 rfl) rfl ?_
    refine J_if_eq (tgt := 16) C (dA DX7_load_0 5 rfl) (by decide) (fun h7 => ?_) (fun h7 => ?_)
    · refine J_aload_n C (dA DX7_load_0 10 rfl) rfl ?_
      refine G_X7_sheets C wF_RX7_57 (dA DX7_load_0 11 rfl) ?_
      refine J_iload_n C (dA DX7_load_0 12 rfl) rfl ?_
      refine R_sh C rfl (by omega) (dA DX7_load_0 13 rfl) ?_
      refine J_ast_3_5 C (dA DX7_load_0 14 rfl) rfl ?_
      refine J_iconst (v := nI 0) C (dA DX7_load_0 15 rfl) (by decide) ?_
      refine J_ist_4_5 C (dA DX7_load_0 16 rfl) rfl ?_
      have loop : ∀ k i, i + k = n → i ≤ 16 → (∀ j, j < i → ldP (sv7 M) q j = false) → J E X 26 [some (.ref (ja E 59)), some (.int (nI q)), some (.int (nI 0)), some (.ref (ja E (so q))), some (.int (nI i))] [] (lay (fb 0) M (ldN (sv7 M) (vb (fb 0) M) q i)) := by
        intro k
        induction k with
        | zero =>
          intro i hi hi2 hg
          have hc : Can (ldN (sv7 M) (vb (fb 0) M) q i) := Can_ldN (Can_vb _ _) (by omega)
          have sz : sv7 (lay (fb 0) M (ldN (sv7 M) (vb (fb 0) M) q i)) = sv7 M := sv7_lay
          refine J_iload C (dA DX7_load_0 17 rfl) rfl ?_
          refine J_aload_n C (dA DX7_load_0 18 rfl) rfl ?_
          refine G_X3_length C hq wF_RX7_265 (dA DX7_load_0 19 rfl) ?_
          rw [show (lay (fb 0) M (ldN (sv7 M) (vb (fb 0) M) q i)) (sb q + 1) = nI n from (sv7_at hq (by decide)).trans (by rw [sz]; exact e1)]
          first | refine J_icmp_ge_n (tgt := 75) C (by omega) (by omega) (dA DX7_load_0 20 rfl) (by decide) (fun h32 => ?_) (fun h32 => ?_) | refine J_icmp_ge_c (tgt := 75) C (by omega) (dA DX7_load_0 20 rfl) (by decide) (fun h32 => ?_) (fun h32 => ?_) | refine J_icmp_ge_t (tgt := 75) C (dA DX7_load_0 20 rfl) (by decide) (fun h32 => ?_) (fun h32 => ?_)
          · try have g32 := inr_t h32
            try have g32 := inr_f h32
            refine J_iload C (dA DX7_load_0 41 rfl) rfl ?_
            have ec : ldC (sv7 M) q = i := by unfold ldC; rw [e1, nn, show n = i by omega]; exact firstN_no hg
            exact J_iret C G (dA DX7_load_0 42 rfl) ⟨oi (by unfold aLoad; rw [if_pos e, na, ec]), by unfold eLoad; rw [if_pos e, na, ec]⟩
          · exfalso; omega
        | succ k ih =>
          intro i hi hi2 hg
          have hc : Can (ldN (sv7 M) (vb (fb 0) M) q i) := Can_ldN (Can_vb _ _) (by omega)
          have sz : sv7 (lay (fb 0) M (ldN (sv7 M) (vb (fb 0) M) q i)) = sv7 M := sv7_lay
          refine J_iload C (dA DX7_load_0 17 rfl) rfl ?_
          refine J_aload_n C (dA DX7_load_0 18 rfl) rfl ?_
          refine G_X3_length C hq wF_RX7_265 (dA DX7_load_0 19 rfl) ?_
          rw [show (lay (fb 0) M (ldN (sv7 M) (vb (fb 0) M) q i)) (sb q + 1) = nI n from (sv7_at hq (by decide)).trans (by rw [sz]; exact e1)]
          first | refine J_icmp_ge_n (tgt := 75) C (by omega) (by omega) (dA DX7_load_0 20 rfl) (by decide) (fun h32 => ?_) (fun h32 => ?_) | refine J_icmp_ge_c (tgt := 75) C (by omega) (dA DX7_load_0 20 rfl) (by decide) (fun h32 => ?_) (fun h32 => ?_) | refine J_icmp_ge_t (tgt := 75) C (dA DX7_load_0 20 rfl) (by decide) (fun h32 => ?_) (fun h32 => ?_)
          · exfalso; omega
          · try have g32 := inr_t h32
            try have g32 := inr_f h32
            refine J_iload C (dA DX7_load_0 21 rfl) rfl ?_
            refine J_aload_n C (dA DX7_load_0 22 rfl) rfl ?_
            refine G_X3_numbers C hq wF_RX7_278 (dA DX7_load_0 23 rfl) ?_
            refine J_iload C (dA DX7_load_0 24 rfl) rfl ?_
            refine R_sn C hq rfl (by omega) (dA DX7_load_0 25 rfl) ?_
            rw [show (lay (fb 0) M (ldN (sv7 M) (vb (fb 0) M) q i)) (sb q + (2 + i)) = sv7 M q (2 + i) from (sv7_at hq (by omega)).trans (by rw [sz])]
            refine V_X7_fitsDepth C (c_X7_fitsDepth l E _ _) wM_RX7_287 (by decide) (dA DX7_load_0 26 rfl) rfl (Nat.le_of_ble_eq_true rfl) ?_
            refine J_if_eq_b (tgt := 75) C (dA DX7_load_0 27 rfl) (by decide) (fun h47 => ?_) (fun h47 => ?_)
            · try have g47 := inr_t h47
              try have g47 := inr_f h47
              refine J_iload C (dA DX7_load_0 41 rfl) rfl ?_
              have ec : ldC (sv7 M) q = i := by unfold ldC; rw [e1, nn]; exact firstN_eq (by omega) hg (by unfold ldP; have h := h47; rw [inr_n (by omega)] at h; by_cases hq2 : i < 16; rw [decide_eq_true (show 0 ≤ (i : Int) ∧ (i : Int) ≤ 15 by omega)] at h; rw [decide_eq_true hq2]; simp only [Bool.true_and] at h ⊢; rw [h]; rfl; rw [decide_eq_false hq2]; rfl)
              exact J_iret C G (dA DX7_load_0 42 rfl) ⟨oi (by unfold aLoad; rw [if_pos e, na, ec]), by unfold eLoad; rw [if_pos e, na, ec]⟩
            · try have g47 := inr_t h47
              try have g47 := inr_f h47
              have hi16 : i < 16 := by have := h47; simp only [Bool.and_eq_true] at this; have g := inr_t this.1; rw [tI (by omega)] at g; omega
              
              refine J_aload_n C (dA DX7_load_0 28 rfl) rfl ?_
              refine G_X7_fen C wF_RX7_12 (dA DX7_load_0 29 rfl) ?_
              refine G_X1_ponds C (by decide) wF_RX7_80 (dA DX7_load_0 30 rfl) ?_
              refine J_iconst (v := nI 5) C (dA DX7_load_0 31 rfl) (by decide) ?_
              refine R_fp C (by decide) rfl (by omega) (dA DX7_load_0 32 rfl) ?_
              refine J_iload C (dA DX7_load_0 33 rfl) rfl ?_
              refine J_aload_n C (dA DX7_load_0 34 rfl) rfl ?_
              refine G_X3_numbers C hq wF_RX7_278 (dA DX7_load_0 35 rfl) ?_
              refine J_iload C (dA DX7_load_0 36 rfl) rfl ?_
              refine R_sn C hq rfl (by omega) (dA DX7_load_0 37 rfl) ?_
              rw [show (lay (fb 0) M (ldN (sv7 M) (vb (fb 0) M) q i)) (sb q + (2 + i)) = sv7 M q (2 + i) from (sv7_at hq (by omega)).trans (by rw [sz])]
              refine S_fr C (by decide) (by decide) rfl (by omega) (dA DX7_load_0 38 rfl) ?_
              first | refine J_inc1_4_5 C (dA DX7_load_0 39 rfl) rfl ?_ | refine J_iinc_4_5 C (dA DX7_load_0 39 rfl) rfl ?_
              refine J_goto (tgt := 26) C (dA DX7_load_0 40 rfl) (by decide) ?_
              rw [lay_s hc (by omega), ldN_s]
              refine ih (i + 1) (by omega) (by omega) (fun j hj => ?_)
              rcases Nat.lt_or_ge j i with z | z
              · exact hg j z
              · obtain rfl : j = i := by omega
                unfold ldP
                rw [decide_eq_true hi16]
                have h2 := h47
                simp only [Bool.and_eq_true] at h2
                rw [h2.2]
                rfl
      have h := loop n 0 (Nat.zero_add _) (by omega) (fun j hj => by omega)
      rw [ldN_0, lay_vb] at h
      exact h
    · exact absurd rfl h7

set_option maxRecDepth 4000 in
theorem c_X8_load (l : Launch) (E : jE) (a : Int32) (hZ : QS (sv8 M)) (hS : IS (vb 1100 M))  : K_X8_load l E [.ref (ja E 60), .int a] M (aLoad (sv8 M) a) (eLoad (sv8 M) 1100 1502 a M) := by
  refine CT_intro (own := RX8) (by decide +kernel) rfl (by simp [Value.category]) (Nat.le_of_ble_eq_true rfl) rfl (fun X C G => ?_)
  show J E X 0 [some (.ref (ja E 60)), some (.int a), none, none] [] M
  rcases lkS_c (Z := sv8 M) (a := a) with ⟨hi, e⟩ | ⟨q, hq, rfl, hz, e⟩ | ⟨q, hq, rfl, hz, e⟩
  · refine J_aload_n C (dA DX8_load_0 0 rfl) rfl ?_
    refine J_iload_n C (dA DX8_load_0 1 rfl) rfl ?_
    refine V_X8_wrongSheet C (c_X8_wrongSheet l E _) wM_RX8_184 (by decide) (dA DX8_load_0 2 rfl) rfl (Nat.le_of_ble_eq_true rfl) ?_
    rw [e, show lk8 0 = nI 0 from rfl]
    refine J_ist_2_4 C (dA DX8_load_0 3 rfl) rfl ?_
    refine J_iload_n C (dA DX8_load_0 4 rfl) rfl ?_
    refine J_if_lt (tgt := 16) C (dA DX8_load_0 5 rfl) (by decide) (fun h7 => ?_) (fun h7 => ?_)
    · exact absurd h7 (by decide)
    · refine J_aload_n C (dA DX8_load_0 6 rfl) rfl ?_
      refine J_iload_n C (dA DX8_load_0 7 rfl) rfl ?_
      refine V_X8_no C (c_X8_no l E 0 (by decide)) wM_RX8_106 (by decide) (dA DX8_load_0 8 rfl) rfl (Nat.le_of_ble_eq_true rfl) ?_
      exact J_iret C G (dA DX8_load_0 9 rfl) ⟨oi (by unfold aLoad; rw [if_neg (by rw [e]; decide), e] <;> rfl), by unfold eLoad; rw [if_neg (by rw [e]; decide), e]⟩
  · refine J_aload_n C (dA DX8_load_0 0 rfl) rfl ?_
    refine J_iload_n C (dA DX8_load_0 1 rfl) rfl ?_
    refine V_X8_wrongSheet C (c_X8_wrongSheet l E _) wM_RX8_184 (by decide) (dA DX8_load_0 2 rfl) rfl (Nat.le_of_ble_eq_true rfl) ?_
    rw [e, show lk8 5 = nI 5 from rfl]
    refine J_ist_2_4 C (dA DX8_load_0 3 rfl) rfl ?_
    refine J_iload_n C (dA DX8_load_0 4 rfl) rfl ?_
    refine J_if_lt (tgt := 16) C (dA DX8_load_0 5 rfl) (by decide) (fun h7 => ?_) (fun h7 => ?_)
    · exact absurd h7 (by decide)
    · refine J_aload_n C (dA DX8_load_0 6 rfl) rfl ?_
      refine J_iload_n C (dA DX8_load_0 7 rfl) rfl ?_
      refine V_X8_no C (c_X8_no l E 5 (by decide)) wM_RX8_106 (by decide) (dA DX8_load_0 8 rfl) rfl (Nat.le_of_ble_eq_true rfl) ?_
      exact J_iret C G (dA DX8_load_0 9 rfl) ⟨oi (by unfold aLoad; rw [if_neg (by rw [e]; decide), e] <;> rfl), by unfold eLoad; rw [if_neg (by rw [e]; decide), e]⟩
  · have na : nv (nI q) = q := nv_nI (by omega)
    have hZ2 := hZ
    obtain ⟨b, n, hb, hn, e0, e1, h0⟩ := hZ2 q hq
    have nn : nv (nI n) = n := nv_nI (by omega)
    have tn : (nI n).toInt = n := tI (by omega)
    refine J_aload_n C (dA DX8_load_0 0 rfl) rfl ?_
    refine J_iload_n C (dA DX8_load_0 1 rfl) rfl ?_
    refine V_X8_wrongSheet C (c_X8_wrongSheet l E _) wM_RX8_184 (by decide) (dA DX8_load_0 2 rfl) rfl (Nat.le_of_ble_eq_true rfl) ?_
    rw [e, show lk8 7 = (-1) from rfl]
    refine J_ist_2_4 C (dA DX8_load_0 3 rfl) rfl ?_
    refine J_iload_n C (dA DX8_load_0 4 rfl) rfl ?_
    refine J_if_lt (tgt := 16) C (dA DX8_load_0 5 rfl) (by decide) (fun h7 => ?_) (fun h7 => ?_)
    · refine J_iconst (v := nI 0) C (dA DX8_load_0 10 rfl) (by decide) ?_
      refine J_ist_3_4 C (dA DX8_load_0 11 rfl) rfl ?_
      have loop : ∀ k i, i + k = n → i ≤ 16 → (∀ j, j < i → ldP (sv8 M) q j = false) → J E X 18 [some (.ref (ja E 60)), some (.int (nI q)), some (.int (-1)), some (.int (nI i))] [] (lay 1100 M (ldN (sv8 M) (vb 1100 M) q i)) := by
        intro k
        induction k with
        | zero =>
          intro i hi hi2 hg
          have hc : Can (ldN (sv8 M) (vb 1100 M) q i) := Can_ldN (Can_vb _ _) (by omega)
          have sz : sv8 (lay 1100 M (ldN (sv8 M) (vb 1100 M) q i)) = sv8 M := sv8_lay
          refine J_iload_n C (dA DX8_load_0 12 rfl) rfl ?_
          refine J_aload_n C (dA DX8_load_0 13 rfl) rfl ?_
          refine G_X8_sizes C wF_RX8_44 (dA DX8_load_0 14 rfl) ?_
          refine J_iload_n C (dA DX8_load_0 15 rfl) rfl ?_
          refine R_1 C (hk := rfl) rfl (by omega) (dA DX8_load_0 16 rfl) ?_
          rw [show (lay 1100 M (ldN (sv8 M) (vb 1100 M) q i)) (1649 + q) = nI n from (sv8_1 hq).trans (by rw [sz]; exact e1)]
          first | refine J_icmp_ge_n (tgt := 67) C (by omega) (by omega) (dA DX8_load_0 17 rfl) (by decide) (fun h25 => ?_) (fun h25 => ?_) | refine J_icmp_ge_c (tgt := 67) C (by omega) (dA DX8_load_0 17 rfl) (by decide) (fun h25 => ?_) (fun h25 => ?_) | refine J_icmp_ge_t (tgt := 67) C (dA DX8_load_0 17 rfl) (by decide) (fun h25 => ?_) (fun h25 => ?_)
          · try have g25 := inr_t h25
            try have g25 := inr_f h25
            refine J_iload_n C (dA DX8_load_0 39 rfl) rfl ?_
            have ec : ldC (sv8 M) q = i := by unfold ldC; rw [e1, nn, show n = i by omega]; exact firstN_no hg
            exact J_iret C G (dA DX8_load_0 40 rfl) ⟨oi (by unfold aLoad; rw [if_pos e, na, ec]), by unfold eLoad; rw [if_pos e, na, ec]⟩
          · exfalso; omega
        | succ k ih =>
          intro i hi hi2 hg
          have hc : Can (ldN (sv8 M) (vb 1100 M) q i) := Can_ldN (Can_vb _ _) (by omega)
          have sz : sv8 (lay 1100 M (ldN (sv8 M) (vb 1100 M) q i)) = sv8 M := sv8_lay
          refine J_iload_n C (dA DX8_load_0 12 rfl) rfl ?_
          refine J_aload_n C (dA DX8_load_0 13 rfl) rfl ?_
          refine G_X8_sizes C wF_RX8_44 (dA DX8_load_0 14 rfl) ?_
          refine J_iload_n C (dA DX8_load_0 15 rfl) rfl ?_
          refine R_1 C (hk := rfl) rfl (by omega) (dA DX8_load_0 16 rfl) ?_
          rw [show (lay 1100 M (ldN (sv8 M) (vb 1100 M) q i)) (1649 + q) = nI n from (sv8_1 hq).trans (by rw [sz]; exact e1)]
          first | refine J_icmp_ge_n (tgt := 67) C (by omega) (by omega) (dA DX8_load_0 17 rfl) (by decide) (fun h25 => ?_) (fun h25 => ?_) | refine J_icmp_ge_c (tgt := 67) C (by omega) (dA DX8_load_0 17 rfl) (by decide) (fun h25 => ?_) (fun h25 => ?_) | refine J_icmp_ge_t (tgt := 67) C (dA DX8_load_0 17 rfl) (by decide) (fun h25 => ?_) (fun h25 => ?_)
          · exfalso; omega
          · try have g25 := inr_t h25
            try have g25 := inr_f h25
            refine J_iload_n C (dA DX8_load_0 18 rfl) rfl ?_
            refine J_bipush (v := nI 16) C (dA DX8_load_0 19 rfl) (by decide) ?_
            first | refine J_icmp_ge_n (tgt := 67) C (by omega) (by omega) (dA DX8_load_0 20 rfl) (by decide) (fun h31 => ?_) (fun h31 => ?_) | refine J_icmp_ge_c (tgt := 67) C (by omega) (dA DX8_load_0 20 rfl) (by decide) (fun h31 => ?_) (fun h31 => ?_) | refine J_icmp_ge_t (tgt := 67) C (dA DX8_load_0 20 rfl) (by decide) (fun h31 => ?_) (fun h31 => ?_)
            · try have g31 := inr_t h31
              try have g31 := inr_f h31
              refine J_iload_n C (dA DX8_load_0 39 rfl) rfl ?_
              have ec : ldC (sv8 M) q = i := by unfold ldC; rw [e1, nn]; exact firstN_eq (by omega) hg (by unfold ldP; rw [decide_eq_false (show ¬ i < 16 by omega)]; rfl)
              exact J_iret C G (dA DX8_load_0 40 rfl) ⟨oi (by unfold aLoad; rw [if_pos e, na, ec]), by unfold eLoad; rw [if_pos e, na, ec]⟩
            · try have g31 := inr_t h31
              try have g31 := inr_f h31
              refine J_aload_n C (dA DX8_load_0 21 rfl) rfl ?_
              refine J_iload_n C (dA DX8_load_0 22 rfl) rfl ?_
              refine J_iload_n C (dA DX8_load_0 23 rfl) rfl ?_
              refine V_X8_told C (c_X8_told l E q i hq (by omega)) wM_RX8_187 (by decide) (dA DX8_load_0 24 rfl) rfl (Nat.le_of_ble_eq_true rfl) ?_
              rw [sz]
              refine J_iconst (v := nI 0) C (dA DX8_load_0 25 rfl) (by decide) ?_
              refine J_bipush (v := nI 99) C (dA DX8_load_0 26 rfl) (by decide) ?_
              refine V_X8_in1 C (c_X8_in1n l E _ _ _ (by decide) (by decide)) wM_RX8_58 (by decide) (dA DX8_load_0 27 rfl) rfl (Nat.le_of_ble_eq_true rfl) ?_
              refine J_if_eq_b (tgt := 67) C (dA DX8_load_0 28 rfl) (by decide) (fun h46 => ?_) (fun h46 => ?_)
              · try have g46 := inr_t h46
                try have g46 := inr_f h46
                refine J_iload_n C (dA DX8_load_0 39 rfl) rfl ?_
                have ec : ldC (sv8 M) q = i := by unfold ldC; rw [e1, nn]; exact firstN_eq (by omega) hg (by unfold ldP; rw [show inr (sv8 M q (2 + i)) 0 99 = false from h46, Bool.and_false]; rfl)
                exact J_iret C G (dA DX8_load_0 40 rfl) ⟨oi (by unfold aLoad; rw [if_pos e, na, ec]), by unfold eLoad; rw [if_pos e, na, ec]⟩
              · try have g46 := inr_t h46
                try have g46 := inr_f h46
                refine J_aload_n C (dA DX8_load_0 29 rfl) rfl ?_
                refine J_iload_n C (dA DX8_load_0 30 rfl) rfl ?_
                refine J_iconst (v := nI 5) C (dA DX8_load_0 31 rfl) (by decide) ?_
                refine J_aload_n C (dA DX8_load_0 32 rfl) rfl ?_
                refine J_iload_n C (dA DX8_load_0 33 rfl) rfl ?_
                refine J_iload_n C (dA DX8_load_0 34 rfl) rfl ?_
                refine V_X8_told C (c_X8_told l E q i hq (by omega)) wM_RX8_187 (by decide) (dA DX8_load_0 35 rfl) rfl (Nat.le_of_ble_eq_true rfl) ?_
                rw [sz]
                refine V_X8_lays1 C (c_X8_lays1 l E i 5 (by omega) (by decide) _) wM_RX8_53 (by decide) (dA DX8_load_0 36 rfl) rfl (Nat.le_of_ble_eq_true rfl) ?_
                first | refine J_inc1_3_4 C (dA DX8_load_0 37 rfl) rfl ?_ | refine J_iinc_3_4 C (dA DX8_load_0 37 rfl) rfl ?_
                refine J_goto (tgt := 18) C (dA DX8_load_0 38 rfl) (by decide) ?_
                rw [vb_lay hc, lay_lay, ldN_s]
                refine ih (i + 1) (by omega) (by omega) (fun j hj => ?_)
                rcases Nat.lt_or_ge j i with z | z
                · exact hg j z
                · obtain rfl : j = i := by omega
                  unfold ldP
                  rw [decide_eq_true (show j < 16 by omega), show inr (sv8 M q (2 + j)) 0 99 = true from h46]
                  rfl
      have h := loop n 0 (Nat.zero_add _) (by omega) (fun j hj => by omega)
      rw [ldN_0, lay_vb] at h
      exact h
    · exact absurd h7 (by decide)

set_option maxRecDepth 4000 in
theorem c_X7_judge (l : Launch) (E : jE) (a : Int32) (hZ : QS (sv7 M)) (hS : IS (vb (fb 0) M))  : K_X7_judge l E [.ref (ja E 59), .int a] M (aJudge (sv7 M) (vb (fb 0) M) a) (eJudge (sv7 M) 1076 a M) := by
  refine CT_intro (own := RX7) (by decide +kernel) rfl (by simp [Value.category]) (Nat.le_of_ble_eq_true rfl) rfl (fun X C G => ?_)
  show J E X 0 [some (.ref (ja E 59)), some (.int a), none, none, none, none] [] M
  rcases lkS_c (Z := sv7 M) (a := a) with ⟨hi, e⟩ | ⟨q, hq, rfl, hz, e⟩ | ⟨q, hq, rfl, hz, e⟩
  · refine J_aload_n C (dA DX7_judge_0 0 rfl) rfl ?_
    refine J_iload_n C (dA DX7_judge_0 1 rfl) rfl ?_
    refine V_X7_lackOfSheet C (c_X7_lackOfSheet l E _) wM_RX7_214 (by decide) (dA DX7_judge_0 2 rfl) rfl (Nat.le_of_ble_eq_true rfl) ?_
    rw [e, show lk7 0 = fi 0 from rfl]
    refine J_ist_2_6 C (dA DX7_judge_0 3 rfl) rfl ?_
    refine J_iload_n C (dA DX7_judge_0 4 rfl) rfl ?_
    refine J_if_eq (tgt := 16) C (dA DX7_judge_0 5 rfl) (by decide) (fun h7 => ?_) (fun h7 => ?_)
    · exact absurd h7 (by decide)
    · refine J_aload_n C (dA DX7_judge_0 6 rfl) rfl ?_
      refine J_iload_n C (dA DX7_judge_0 7 rfl) rfl ?_
      refine V_X7_finding C (c_X7_finding l E 0 (by decide) _ rfl) wM_RX7_70 (by decide) (dA DX7_judge_0 8 rfl) rfl (Nat.le_of_ble_eq_true rfl) ?_
      exact J_iret C G (dA DX7_judge_0 9 rfl) ⟨oi (by unfold aJudge; rw [if_neg (by rw [e]; decide), e]), by unfold eJudge; rw [if_neg (by rw [e]; decide), e]⟩
  · refine J_aload_n C (dA DX7_judge_0 0 rfl) rfl ?_
    refine J_iload_n C (dA DX7_judge_0 1 rfl) rfl ?_
    refine V_X7_lackOfSheet C (c_X7_lackOfSheet l E _) wM_RX7_214 (by decide) (dA DX7_judge_0 2 rfl) rfl (Nat.le_of_ble_eq_true rfl) ?_
    rw [e, show lk7 5 = fi 5 from rfl]
    refine J_ist_2_6 C (dA DX7_judge_0 3 rfl) rfl ?_
    refine J_iload_n C (dA DX7_judge_0 4 rfl) rfl ?_
    refine J_if_eq (tgt := 16) C (dA DX7_judge_0 5 rfl) (by decide) (fun h7 => ?_) (fun h7 => ?_)
    · exact absurd h7 (by decide)
    · refine J_aload_n C (dA DX7_judge_0 6 rfl) rfl ?_
      refine J_iload_n C (dA DX7_judge_0 7 rfl) rfl ?_
      refine V_X7_finding C (c_X7_finding l E 5 (by decide) _ rfl) wM_RX7_70 (by decide) (dA DX7_judge_0 8 rfl) rfl (Nat.le_of_ble_eq_true rfl) ?_
      exact J_iret C G (dA DX7_judge_0 9 rfl) ⟨oi (by unfold aJudge; rw [if_neg (by rw [e]; decide), e]), by unfold eJudge; rw [if_neg (by rw [e]; decide), e]⟩
  · have na : nv (nI q) = q := nv_nI (by omega)
    have hZ2 := hZ
    obtain ⟨b, n, hb, hn, e0, e1, h0⟩ := hZ2 q hq
    have nn : nv (nI n) = n := nv_nI (by omega)
    have tn : (nI n).toInt = n := tI (by omega)
    refine J_aload_n C (dA DX7_judge_0 0 rfl) rfl ?_
    refine J_iload_n C (dA DX7_judge_0 1 rfl) rfl ?_
    refine V_X7_lackOfSheet C (c_X7_lackOfSheet l E _) wM_RX7_214 (by decide) (dA DX7_judge_0 2 rfl) rfl (Nat.le_of_ble_eq_true rfl) ?_
    rw [e, show lk7 7 = nI 0 from rfl]
    refine J_ist_2_6 C (dA DX7_judge_0 3 rfl) rfl ?_
    refine J_iload_n C (dA DX7_judge_0 4 rfl) rfl ?_
    refine J_if_eq (tgt := 16) C (dA DX7_judge_0 5 rfl) (by decide) (fun h7 => ?_) (fun h7 => ?_)
    · refine J_aload_n C (dA DX7_judge_0 10 rfl) rfl ?_
      refine G_X7_sheets C wF_RX7_57 (dA DX7_judge_0 11 rfl) ?_
      refine J_iload_n C (dA DX7_judge_0 12 rfl) rfl ?_
      refine R_sh C rfl (by omega) (dA DX7_judge_0 13 rfl) ?_
      refine J_ast_3_6 C (dA DX7_judge_0 14 rfl) rfl ?_
      refine J_iconst (v := nI 0) C (dA DX7_judge_0 15 rfl) (by decide) ?_
      refine J_ist_4_6 C (dA DX7_judge_0 16 rfl) rfl ?_
      have loop : ∀ k i (o5 : Option Value), jok [some (.ref (ja E 59)), some (.int (nI q)), some (.int (nI 0)), some (.ref (ja E (so q))), some (.int (nI i)), o5] 5 = true → i + k = n → (∀ j, j < i → jgP (sv7 M) (vb (fb 0) M) q j = false) → J E X 26 [some (.ref (ja E 59)), some (.int (nI q)), some (.int (nI 0)), some (.ref (ja E (so q))), some (.int (nI i)), o5] [] M := by
        intro k
        induction k with
        | zero =>
          intro i o5 k5 hi hg
          refine J_iload C (dA DX7_judge_0 17 rfl) rfl ?_
          refine J_aload_n C (dA DX7_judge_0 18 rfl) rfl ?_
          refine G_X3_length C hq wF_RX7_265 (dA DX7_judge_0 19 rfl) ?_
          rw [show M (sb q + 1) = nI n from (sv7_at hq (by decide)).trans e1]
          first | refine J_icmp_ge_n (tgt := 92) C (by omega) (by omega) (dA DX7_judge_0 20 rfl) (by decide) (fun h32 => ?_) (fun h32 => ?_) | refine J_icmp_ge_c (tgt := 92) C (by omega) (dA DX7_judge_0 20 rfl) (by decide) (fun h32 => ?_) (fun h32 => ?_) | refine J_icmp_ge_t (tgt := 92) C (dA DX7_judge_0 20 rfl) (by decide) (fun h32 => ?_) (fun h32 => ?_)
          · try have g32 := inr_t h32
            try have g32 := inr_f h32
            refine J_iconst (v := nI 0) C (dA DX7_judge_0 51 rfl) (by decide) ?_
            have ec : jgC (sv7 M) (vb (fb 0) M) q = n := by unfold jgC; rw [e1, nn]; exact firstN_no (fun k hk => hg k (by omega))
            exact J_iret C G (dA DX7_judge_0 52 rfl) ⟨oi (by unfold aJudge; rw [if_pos e, na, e1, nn, ec, if_neg (Nat.lt_irrefl _)]), by unfold eJudge; rw [if_pos e]⟩
          · exfalso; omega
        | succ k ih =>
          intro i o5 k5 hi hg
          refine J_iload C (dA DX7_judge_0 17 rfl) rfl ?_
          refine J_aload_n C (dA DX7_judge_0 18 rfl) rfl ?_
          refine G_X3_length C hq wF_RX7_265 (dA DX7_judge_0 19 rfl) ?_
          rw [show M (sb q + 1) = nI n from (sv7_at hq (by decide)).trans e1]
          first | refine J_icmp_ge_n (tgt := 92) C (by omega) (by omega) (dA DX7_judge_0 20 rfl) (by decide) (fun h32 => ?_) (fun h32 => ?_) | refine J_icmp_ge_c (tgt := 92) C (by omega) (dA DX7_judge_0 20 rfl) (by decide) (fun h32 => ?_) (fun h32 => ?_) | refine J_icmp_ge_t (tgt := 92) C (dA DX7_judge_0 20 rfl) (by decide) (fun h32 => ?_) (fun h32 => ?_)
          · exfalso; omega
          · try have g32 := inr_t h32
            try have g32 := inr_f h32
            refine J_aload_n C (dA DX7_judge_0 21 rfl) rfl ?_
            refine G_X3_numbers C hq wF_RX7_278 (dA DX7_judge_0 22 rfl) ?_
            refine J_iload C (dA DX7_judge_0 23 rfl) rfl ?_
            refine R_sn C hq rfl (by omega) (dA DX7_judge_0 24 rfl) ?_
            rw [show M (sb q + (2 + i)) = sv7 M q (2 + i) from sv7_at hq (by omega)]
            refine J_ist_5_6 C (dA DX7_judge_0 25 rfl) k5 ?_
            refine J_iload C (dA DX7_judge_0 26 rfl) rfl ?_
            refine V_X7_isPond C (c_X7_isPond l E _) wM_RX7_65 (by decide) (dA DX7_judge_0 27 rfl) rfl (Nat.le_of_ble_eq_true rfl) ?_
            refine J_if_eq_b (tgt := 81) C (dA DX7_judge_0 28 rfl) (by decide) (fun h49 => ?_) (fun h49 => ?_)
            · try have g49 := inr_t h49
              try have g49 := inr_f h49
              refine J_iconst (v := nI 1) C (dA DX7_judge_0 45 rfl) (by decide) ?_
              refine J_iload C (dA DX7_judge_0 46 rfl) rfl ?_
              first | refine J_iadd_n C (dA DX7_judge_0 47 rfl) ?_ | refine J_iadd C (dA DX7_judge_0 47 rfl) ?_
              have ec : jgC (sv7 M) (vb (fb 0) M) q = i := by unfold jgC; rw [e1, nn]; exact firstN_eq (by omega) hg (by unfold jgP; rw [show inr ((sv7 M) q (2 + i)) 0 15 = false from h49]; rfl)
              exact J_iret C G (dA DX7_judge_0 48 rfl) ⟨oi (by unfold aJudge; rw [if_pos e, na, e1, nn, ec, if_pos (by omega)]), by unfold eJudge; rw [if_pos e]⟩
            · try have g49 := inr_t h49
              try have g49 := inr_f h49
              refine J_iload C (dA DX7_judge_0 29 rfl) rfl ?_
              refine J_if_le_n (tgt := 86) C (by omega) (dA DX7_judge_0 30 rfl) (by decide) (fun h54 => ?_) (fun h54 => ?_)
              · try have g54 := inr_t h54
                try have g54 := inr_f h54
                first | refine J_inc1_4_6 C (dA DX7_judge_0 49 rfl) rfl ?_ | refine J_iinc_4_6 C (dA DX7_judge_0 49 rfl) rfl ?_
                refine J_goto (tgt := 26) C (dA DX7_judge_0 50 rfl) (by decide) ?_
                refine ih (i + 1) (some (.int ((sv7 M) q (2 + i)))) rfl (by omega) (fun j hj => ?_)
                rcases Nat.lt_or_ge j i with z | z
                · exact hg j z
                · rw [show j = i by omega]
                  unfold jgP
                  rw [show inr ((sv7 M) q (2 + i)) 0 15 = true from h49, decide_eq_true (show i = 0 by omega)]; rfl
              · try have g54 := inr_t h54
                try have g54 := inr_f h54
                have hgp := hg (i - 1) (by omega)
                have hin1 : inr ((sv7 M) q (2 + (i - 1))) 0 15 = true := by revert hgp; unfold jgP; cases inr ((sv7 M) q (2 + (i - 1))) 0 15 <;> simp
                obtain ⟨p, hp, ep⟩ := toNI (x := (sv7 M) q (2 + (i - 1))) (n := 16) (by have := inr_t hin1; omega) (by have := inr_t hin1; omega)
                have np : nv (nI p) = p := nv_nI (by omega)
                refine J_aload_n C (dA DX7_judge_0 31 rfl) rfl ?_
                refine G_X7_fen C wF_RX7_12 (dA DX7_judge_0 32 rfl) ?_
                refine G_X1_ponds C (by decide) wF_RX7_80 (dA DX7_judge_0 33 rfl) ?_
                refine J_iconst (v := nI 0) C (dA DX7_judge_0 34 rfl) (by decide) ?_
                refine R_fp C (by decide) rfl (by omega) (dA DX7_judge_0 35 rfl) ?_
                refine J_aload_n C (dA DX7_judge_0 36 rfl) rfl ?_
                refine G_X3_numbers C hq wF_RX7_278 (dA DX7_judge_0 37 rfl) ?_
                refine J_iload C (dA DX7_judge_0 38 rfl) rfl ?_
                refine J_iconst (v := nI 1) C (dA DX7_judge_0 39 rfl) (by decide) ?_
                first | refine J_isub_n C (by omega) (dA DX7_judge_0 40 rfl) ?_ | refine J_isub C (dA DX7_judge_0 40 rfl) ?_
                refine R_sn C hq rfl (by omega) (dA DX7_judge_0 41 rfl) ?_
                rw [show M (sb q + (2 + (i - 1))) = nI p from (sv7_at hq (by omega)).trans ep]
                refine Q_fr C (by decide) hS (by decide) rfl (by omega) (dA DX7_judge_0 42 rfl) ?_
                refine J_iload C (dA DX7_judge_0 43 rfl) rfl ?_
                refine J_icmp_eq (tgt := 86) C (dA DX7_judge_0 44 rfl) (by decide) (fun h78 => ?_) (fun h78 => ?_)
                · first | refine J_inc1_4_6 C (dA DX7_judge_0 49 rfl) rfl ?_ | refine J_iinc_4_6 C (dA DX7_judge_0 49 rfl) rfl ?_
                  refine J_goto (tgt := 26) C (dA DX7_judge_0 50 rfl) (by decide) ?_
                  refine ih (i + 1) (some (.int ((sv7 M) q (2 + i)))) rfl (by omega) (fun j hj => ?_)
                  rcases Nat.lt_or_ge j i with z | z
                  · exact hg j z
                  · rw [show j = i by omega]
                    unfold jgP
                    rw [show inr ((sv7 M) q (2 + i)) 0 15 = true from h49, ep, np, decide_eq_true (show nI (f6 (vb (fb 0) M) p 0) = (sv7 M) q (2 + i) from h78), Bool.or_true]; rfl
                · refine J_iconst (v := nI 1) C (dA DX7_judge_0 45 rfl) (by decide) ?_
                  refine J_iload C (dA DX7_judge_0 46 rfl) rfl ?_
                  first | refine J_iadd_n C (dA DX7_judge_0 47 rfl) ?_ | refine J_iadd C (dA DX7_judge_0 47 rfl) ?_
                  have ec : jgC (sv7 M) (vb (fb 0) M) q = i := by unfold jgC; rw [e1, nn]; exact firstN_eq (by omega) hg (by unfold jgP; rw [show inr ((sv7 M) q (2 + i)) 0 15 = true from h49, ep, np, decide_eq_false (show ¬ nI (f6 (vb (fb 0) M) p 0) = (sv7 M) q (2 + i) from h78), decide_eq_false (show ¬ i = 0 by omega)]; rfl)
                  exact J_iret C G (dA DX7_judge_0 48 rfl) ⟨oi (by unfold aJudge; rw [if_pos e, na, e1, nn, ec, if_pos (by omega)]), by unfold eJudge; rw [if_pos e]⟩
      exact loop n 0 none rfl (Nat.zero_add _) (fun j hj => by omega)
    · exact absurd rfl h7

set_option maxRecDepth 4000 in
theorem c_X8_judge (l : Launch) (E : jE) (a : Int32) (hZ : QS (sv8 M)) (hS : IS (vb 1100 M))  : K_X8_judge l E [.ref (ja E 60), .int a] M (aJudge (sv8 M) (vb 1100 M) a) (eJudge (sv8 M) 1502 a M) := by
  refine CT_intro (own := RX8) (by decide +kernel) rfl (by simp [Value.category]) (Nat.le_of_ble_eq_true rfl) rfl (fun X C G => ?_)
  show J E X 0 [some (.ref (ja E 60)), some (.int a), none, none, none] [] M
  rcases lkS_c (Z := sv8 M) (a := a) with ⟨hi, e⟩ | ⟨q, hq, rfl, hz, e⟩ | ⟨q, hq, rfl, hz, e⟩
  · refine J_aload_n C (dA DX8_judge_0 0 rfl) rfl ?_
    refine J_iload_n C (dA DX8_judge_0 1 rfl) rfl ?_
    refine V_X8_wrongSheet C (c_X8_wrongSheet l E _) wM_RX8_184 (by decide) (dA DX8_judge_0 2 rfl) rfl (Nat.le_of_ble_eq_true rfl) ?_
    rw [e, show lk8 0 = nI 0 from rfl]
    refine J_ist_2_5 C (dA DX8_judge_0 3 rfl) rfl ?_
    refine J_iload_n C (dA DX8_judge_0 4 rfl) rfl ?_
    refine J_if_lt (tgt := 16) C (dA DX8_judge_0 5 rfl) (by decide) (fun h7 => ?_) (fun h7 => ?_)
    · exact absurd h7 (by decide)
    · refine J_aload_n C (dA DX8_judge_0 6 rfl) rfl ?_
      refine J_iload_n C (dA DX8_judge_0 7 rfl) rfl ?_
      refine V_X8_no C (c_X8_no l E 0 (by decide)) wM_RX8_106 (by decide) (dA DX8_judge_0 8 rfl) rfl (Nat.le_of_ble_eq_true rfl) ?_
      exact J_iret C G (dA DX8_judge_0 9 rfl) ⟨oi (by unfold aJudge; rw [if_neg (by rw [e]; decide), e] <;> rfl), by unfold eJudge; rw [if_neg (by rw [e]; decide), e]⟩
  · refine J_aload_n C (dA DX8_judge_0 0 rfl) rfl ?_
    refine J_iload_n C (dA DX8_judge_0 1 rfl) rfl ?_
    refine V_X8_wrongSheet C (c_X8_wrongSheet l E _) wM_RX8_184 (by decide) (dA DX8_judge_0 2 rfl) rfl (Nat.le_of_ble_eq_true rfl) ?_
    rw [e, show lk8 5 = nI 5 from rfl]
    refine J_ist_2_5 C (dA DX8_judge_0 3 rfl) rfl ?_
    refine J_iload_n C (dA DX8_judge_0 4 rfl) rfl ?_
    refine J_if_lt (tgt := 16) C (dA DX8_judge_0 5 rfl) (by decide) (fun h7 => ?_) (fun h7 => ?_)
    · exact absurd h7 (by decide)
    · refine J_aload_n C (dA DX8_judge_0 6 rfl) rfl ?_
      refine J_iload_n C (dA DX8_judge_0 7 rfl) rfl ?_
      refine V_X8_no C (c_X8_no l E 5 (by decide)) wM_RX8_106 (by decide) (dA DX8_judge_0 8 rfl) rfl (Nat.le_of_ble_eq_true rfl) ?_
      exact J_iret C G (dA DX8_judge_0 9 rfl) ⟨oi (by unfold aJudge; rw [if_neg (by rw [e]; decide), e] <;> rfl), by unfold eJudge; rw [if_neg (by rw [e]; decide), e]⟩
  · have na : nv (nI q) = q := nv_nI (by omega)
    have hZ2 := hZ
    obtain ⟨b, n, hb, hn, e0, e1, h0⟩ := hZ2 q hq
    have nn : nv (nI n) = n := nv_nI (by omega)
    have tn : (nI n).toInt = n := tI (by omega)
    refine J_aload_n C (dA DX8_judge_0 0 rfl) rfl ?_
    refine J_iload_n C (dA DX8_judge_0 1 rfl) rfl ?_
    refine V_X8_wrongSheet C (c_X8_wrongSheet l E _) wM_RX8_184 (by decide) (dA DX8_judge_0 2 rfl) rfl (Nat.le_of_ble_eq_true rfl) ?_
    rw [e, show lk8 7 = (-1) from rfl]
    refine J_ist_2_5 C (dA DX8_judge_0 3 rfl) rfl ?_
    refine J_iload_n C (dA DX8_judge_0 4 rfl) rfl ?_
    refine J_if_lt (tgt := 16) C (dA DX8_judge_0 5 rfl) (by decide) (fun h7 => ?_) (fun h7 => ?_)
    · refine J_iconst (v := nI 0) C (dA DX8_judge_0 10 rfl) (by decide) ?_
      refine J_ist_3_5 C (dA DX8_judge_0 11 rfl) rfl ?_
      have loop : ∀ k i (o5 : Option Value), jok [some (.ref (ja E 60)), some (.int (nI q)), some (.int (-1)), some (.int (nI i)), o5] 4 = true → i + k = n → (∀ j, j < i → jgP (sv8 M) (vb 1100 M) q j = false) → J E X 18 [some (.ref (ja E 60)), some (.int (nI q)), some (.int (-1)), some (.int (nI i)), o5] [] M := by
        intro k
        induction k with
        | zero =>
          intro i o5 k5 hi hg
          refine J_iload_n C (dA DX8_judge_0 12 rfl) rfl ?_
          refine J_aload_n C (dA DX8_judge_0 13 rfl) rfl ?_
          refine G_X8_sizes C wF_RX8_44 (dA DX8_judge_0 14 rfl) ?_
          refine J_iload_n C (dA DX8_judge_0 15 rfl) rfl ?_
          refine R_1 C (hk := rfl) rfl (by omega) (dA DX8_judge_0 16 rfl) ?_
          rw [show M (1649 + q) = nI n from (sv8_1 hq).trans e1]
          first | refine J_icmp_ge_n (tgt := 88) C (by omega) (by omega) (dA DX8_judge_0 17 rfl) (by decide) (fun h25 => ?_) (fun h25 => ?_) | refine J_icmp_ge_c (tgt := 88) C (by omega) (dA DX8_judge_0 17 rfl) (by decide) (fun h25 => ?_) (fun h25 => ?_) | refine J_icmp_ge_t (tgt := 88) C (dA DX8_judge_0 17 rfl) (by decide) (fun h25 => ?_) (fun h25 => ?_)
          · try have g25 := inr_t h25
            try have g25 := inr_f h25
            refine J_iconst (v := nI 0) C (dA DX8_judge_0 52 rfl) (by decide) ?_
            have ec : jgC (sv8 M) (vb 1100 M) q = n := by unfold jgC; rw [e1, nn]; exact firstN_no (fun k hk => hg k (by omega))
            exact J_iret C G (dA DX8_judge_0 53 rfl) ⟨oi (by unfold aJudge; rw [if_pos e, na, e1, nn, ec, if_neg (Nat.lt_irrefl _)]), by unfold eJudge; rw [if_pos e]⟩
          · exfalso; omega
        | succ k ih =>
          intro i o5 k5 hi hg
          refine J_iload_n C (dA DX8_judge_0 12 rfl) rfl ?_
          refine J_aload_n C (dA DX8_judge_0 13 rfl) rfl ?_
          refine G_X8_sizes C wF_RX8_44 (dA DX8_judge_0 14 rfl) ?_
          refine J_iload_n C (dA DX8_judge_0 15 rfl) rfl ?_
          refine R_1 C (hk := rfl) rfl (by omega) (dA DX8_judge_0 16 rfl) ?_
          rw [show M (1649 + q) = nI n from (sv8_1 hq).trans e1]
          first | refine J_icmp_ge_n (tgt := 88) C (by omega) (by omega) (dA DX8_judge_0 17 rfl) (by decide) (fun h25 => ?_) (fun h25 => ?_) | refine J_icmp_ge_c (tgt := 88) C (by omega) (dA DX8_judge_0 17 rfl) (by decide) (fun h25 => ?_) (fun h25 => ?_) | refine J_icmp_ge_t (tgt := 88) C (dA DX8_judge_0 17 rfl) (by decide) (fun h25 => ?_) (fun h25 => ?_)
          · exfalso; omega
          · try have g25 := inr_t h25
            try have g25 := inr_f h25
            refine J_aload_n C (dA DX8_judge_0 18 rfl) rfl ?_
            refine J_iload_n C (dA DX8_judge_0 19 rfl) rfl ?_
            refine J_iload_n C (dA DX8_judge_0 20 rfl) rfl ?_
            refine V_X8_told C (c_X8_told l E q i hq (by omega)) wM_RX8_187 (by decide) (dA DX8_judge_0 21 rfl) rfl (Nat.le_of_ble_eq_true rfl) ?_
            refine V_X8_isPond C (c_X8_isPond l E _) wM_RX8_102 (by decide) (dA DX8_judge_0 22 rfl) rfl (Nat.le_of_ble_eq_true rfl) ?_
            refine J_if_eq_b (tgt := 70) C (dA DX8_judge_0 23 rfl) (by decide) (fun h37 => ?_) (fun h37 => ?_)
            · try have g37 := inr_t h37
              try have g37 := inr_f h37
              refine J_iconst (v := nI 0) C (dA DX8_judge_0 42 rfl) (by decide) ?_
              refine J_ist_4_5 C (dA DX8_judge_0 43 rfl) k5 ?_
              refine J_iload C (dA DX8_judge_0 44 rfl) rfl ?_
              refine J_if_ne (tgt := 82) C (dA DX8_judge_0 45 rfl) (by decide) (fun h75 => ?_) (fun h75 => ?_)
              · exact absurd rfl h75
              · refine J_iconst (v := nI 1) C (dA DX8_judge_0 46 rfl) (by decide) ?_
                refine J_iload_n C (dA DX8_judge_0 47 rfl) rfl ?_
                first | refine J_iadd_n C (dA DX8_judge_0 48 rfl) ?_ | refine J_iadd C (dA DX8_judge_0 48 rfl) ?_
                have ec : jgC (sv8 M) (vb 1100 M) q = i := by unfold jgC; rw [e1, nn]; exact firstN_eq (by omega) hg (by unfold jgP; rw [show inr ((sv8 M) q (2 + i)) 0 15 = false from h37]; rfl)
                exact J_iret C G (dA DX8_judge_0 49 rfl) ⟨oi (by unfold aJudge; rw [if_pos e, na, e1, nn, ec, if_pos (by omega)]), by unfold eJudge; rw [if_pos e]⟩
            · try have g37 := inr_t h37
              try have g37 := inr_f h37
              refine J_iload_n C (dA DX8_judge_0 24 rfl) rfl ?_
              refine J_if_eq_n (tgt := 66) C (by omega) (dA DX8_judge_0 25 rfl) (by decide) (fun h41 => ?_) (fun h41 => ?_)
              · try have g41 := inr_t h41
                try have g41 := inr_f h41
                refine J_iconst (v := nI 1) C (dA DX8_judge_0 40 rfl) (by decide) ?_
                refine J_goto (tgt := 71) C (dA DX8_judge_0 41 rfl) (by decide) ?_
                refine J_ist_4_5 C (dA DX8_judge_0 43 rfl) k5 ?_
                refine J_iload C (dA DX8_judge_0 44 rfl) rfl ?_
                refine J_if_ne (tgt := 82) C (dA DX8_judge_0 45 rfl) (by decide) (fun h75 => ?_) (fun h75 => ?_)
                · first | refine J_inc1_3_5 C (dA DX8_judge_0 50 rfl) rfl ?_ | refine J_iinc_3_5 C (dA DX8_judge_0 50 rfl) rfl ?_
                  refine J_goto (tgt := 18) C (dA DX8_judge_0 51 rfl) (by decide) ?_
                  refine ih (i + 1) (some (.int (nI 1))) rfl (by omega) (fun j hj => ?_)
                  rcases Nat.lt_or_ge j i with z | z
                  · exact hg j z
                  · rw [show j = i by omega]
                    unfold jgP
                    rw [show inr ((sv8 M) q (2 + i)) 0 15 = true from h37, decide_eq_true (show i = 0 by omega)]; rfl
                · exact absurd h75 (by decide)
              · try have g41 := inr_t h41
                try have g41 := inr_f h41
                have hgp := hg (i - 1) (by omega)
                have hin1 : inr ((sv8 M) q (2 + (i - 1))) 0 15 = true := by revert hgp; unfold jgP; cases inr ((sv8 M) q (2 + (i - 1))) 0 15 <;> simp
                obtain ⟨p, hp, ep⟩ := toNI (x := (sv8 M) q (2 + (i - 1))) (n := 16) (by have := inr_t hin1; omega) (by have := inr_t hin1; omega)
                have np : nv (nI p) = p := nv_nI (by omega)
                refine J_aload_n C (dA DX8_judge_0 26 rfl) rfl ?_
                refine J_aload_n C (dA DX8_judge_0 27 rfl) rfl ?_
                refine J_iload_n C (dA DX8_judge_0 28 rfl) rfl ?_
                refine J_iload_n C (dA DX8_judge_0 29 rfl) rfl ?_
                refine J_iconst (v := nI 1) C (dA DX8_judge_0 30 rfl) (by decide) ?_
                first | refine J_isub_n C (by omega) (dA DX8_judge_0 31 rfl) ?_ | refine J_isub C (dA DX8_judge_0 31 rfl) ?_
                refine V_X8_told C (c_X8_told l E q (i - 1) hq (by omega)) wM_RX8_187 (by decide) (dA DX8_judge_0 32 rfl) rfl (Nat.le_of_ble_eq_true rfl) ?_
                rw [ep]
                refine J_iconst (v := nI 0) C (dA DX8_judge_0 33 rfl) (by decide) ?_
                refine V_X8_of1 C (c_X8_of1 l E _ _ (by omega) (by omega) hS) wM_RX8_66 (by decide) (dA DX8_judge_0 34 rfl) rfl (Nat.le_of_ble_eq_true rfl) ?_
                refine J_aload_n C (dA DX8_judge_0 35 rfl) rfl ?_
                refine J_iload_n C (dA DX8_judge_0 36 rfl) rfl ?_
                refine J_iload_n C (dA DX8_judge_0 37 rfl) rfl ?_
                refine V_X8_told C (c_X8_told l E q i hq (by omega)) wM_RX8_187 (by decide) (dA DX8_judge_0 38 rfl) rfl (Nat.le_of_ble_eq_true rfl) ?_
                refine J_icmp_ne (tgt := 70) C (dA DX8_judge_0 39 rfl) (by decide) (fun h63 => ?_) (fun h63 => ?_)
                · refine J_iconst (v := nI 0) C (dA DX8_judge_0 42 rfl) (by decide) ?_
                  refine J_ist_4_5 C (dA DX8_judge_0 43 rfl) k5 ?_
                  refine J_iload C (dA DX8_judge_0 44 rfl) rfl ?_
                  refine J_if_ne (tgt := 82) C (dA DX8_judge_0 45 rfl) (by decide) (fun h75 => ?_) (fun h75 => ?_)
                  · exact absurd rfl h75
                  · refine J_iconst (v := nI 1) C (dA DX8_judge_0 46 rfl) (by decide) ?_
                    refine J_iload_n C (dA DX8_judge_0 47 rfl) rfl ?_
                    first | refine J_iadd_n C (dA DX8_judge_0 48 rfl) ?_ | refine J_iadd C (dA DX8_judge_0 48 rfl) ?_
                    have ec : jgC (sv8 M) (vb 1100 M) q = i := by unfold jgC; rw [e1, nn]; exact firstN_eq (by omega) hg (by unfold jgP; rw [show inr ((sv8 M) q (2 + i)) 0 15 = true from h37, ep, np, decide_eq_false (show ¬ nI (f6 (vb 1100 M) p 0) = (sv8 M) q (2 + i) from h63), decide_eq_false (show ¬ i = 0 by omega)]; rfl)
                    exact J_iret C G (dA DX8_judge_0 49 rfl) ⟨oi (by unfold aJudge; rw [if_pos e, na, e1, nn, ec, if_pos (by omega)]), by unfold eJudge; rw [if_pos e]⟩
                · refine J_iconst (v := nI 1) C (dA DX8_judge_0 40 rfl) (by decide) ?_
                  refine J_goto (tgt := 71) C (dA DX8_judge_0 41 rfl) (by decide) ?_
                  refine J_ist_4_5 C (dA DX8_judge_0 43 rfl) k5 ?_
                  refine J_iload C (dA DX8_judge_0 44 rfl) rfl ?_
                  refine J_if_ne (tgt := 82) C (dA DX8_judge_0 45 rfl) (by decide) (fun h75 => ?_) (fun h75 => ?_)
                  · first | refine J_inc1_3_5 C (dA DX8_judge_0 50 rfl) rfl ?_ | refine J_iinc_3_5 C (dA DX8_judge_0 50 rfl) rfl ?_
                    refine J_goto (tgt := 18) C (dA DX8_judge_0 51 rfl) (by decide) ?_
                    refine ih (i + 1) (some (.int (nI 1))) rfl (by omega) (fun j hj => ?_)
                    rcases Nat.lt_or_ge j i with z | z
                    · exact hg j z
                    · rw [show j = i by omega]
                      unfold jgP
                      rw [show inr ((sv8 M) q (2 + i)) 0 15 = true from h37, ep, np, decide_eq_true (show nI (f6 (vb 1100 M) p 0) = (sv8 M) q (2 + i) from (by first | exact h63 | exact Classical.byContradiction h63)), Bool.or_true]; rfl
                  · exact absurd h75 (by decide)
      exact loop n 0 none rfl (Nat.zero_add _) (fun j hj => by omega)
    · exact absurd h7 (by decide)

end PA
