theorem rs_id {m : jM} {S : Nat → Int32} (h3 : m 543 = -1) (h4 : m 544 = nI 0) (hS : vb (fb 1) m = S) : rs m 0 (-1) S = m := by
  unfold rs
  rw [← hS, lay_vb]
  funext a
  unfold upd
  by_cases e : a = 544
  · subst e; simp [h4]
  · by_cases e2 : a = 543
    · subst e2; simp [h3]
    · simp [e, e2]
theorem rd_inv {c : Bool} {g : Nat → Int32} {n : Nat} (hn : n ≤ 120) : ∀ (f it : Nat) (q : pT), 1 ≤ it → WQ g n q → (q.1 = true → it ≤ q.2.1) → 1 ≤ (pRd c g n f it q).2 ∧ WQ g n (pRd c g n f it q).1 ∧ ((pRd c g n f it q).1.1 = true → (pRd c g n f it q).2 ≤ (pRd c g n f it q).1.2.1)
  | 0, it, q, h1, h2, h3 => ⟨h1, h2, h3⟩
  | f + 1, it, q, h1, h2, h3 => by
    simp only [pRd]
    by_cases e : q.1 = true ∧ tS g n q.2.1 = 3
    · rw [if_pos e]
      have hk := tk_s hn h2.1 (by rw [e.2]; decide)
      have h4 := h3 e.1
      exact rd_inv hn f (it + 1) _ (by omega) (WQ_item hn hk (h2.2.2 e.1)) (fun z => by have := item_k hn hk z; omega)
    · rw [if_neg e]; exact ⟨h1, h2, h3⟩
theorem tx_inv {c : Bool} {g : Nat → Int32} {n : Nat} {S : Nat → Int32} (hn : n ≤ 120) (hS : IS S) : 1 ≤ (pTx c g n S).2 ∧ WQ g n (pTx c g n S).1 ∧ ((pTx c g n S).1.1 = true → (pTx c g n S).2 ≤ (pTx c g n S).1.2.1) :=
  rd_inv hn 121 1 _ (Nat.le_refl 1) (WQ_item hn (Nat.zero_le _) hS) (fun z => by have := item_k hn (Nat.zero_le _) z; omega)
theorem rd_no {c : Bool} {g : Nat → Int32} {n f it : Nat} {q : pT} (h : ¬ (q.1 = true ∧ tS g n q.2.1 = 3)) : pRd c g n f it q = (q, it) := by
  cases f with
  | zero => rfl
  | succ f => show (if q.1 = true ∧ tS g n q.2.1 = 3 then _ else _) = _; rw [if_neg h]
def flF (g : Nat → Int32) (n : Nat) (r : pT × Nat) : Int32 := if txOK g n r = true then -1 else nI (tB g n r.1.2.1)
def rdM (g : Nat → Int32) (n : Nat) (m : jM) (r : pT × Nat) : jM := rs m r.1.2.1 (flF g n r) r.1.2.2
section PA
variable {M m : jM} {g : Nat → Int32} {n : Nat} {S : Nat → Int32}
set_option maxRecDepth 4000 in
theorem c_X5_readNumber (l : Launch) (E : jE) (hn : n ≤ 120) (hT : TK g n m) (k : Nat) (hk : k ≤ tK g n) (lo hi : Nat) (hlo : lo < 2 ^ 31) (hhi : hi < 2 ^ 31) (x : Int32)  : K_X5_readNumber l E [.ref (ja E 44), .int (nI lo), .int (nI hi), .int x] (rs m k (-1) S) ((if numB g n k lo hi x = true then nI (tV g n k) else nI lo)) ((if numB g n k lo hi x = true then rs m (k + 1) (-1) S else rs m k (nI (tB g n k)) S)) := by
  refine CT_intro (own := RX5) (by decide +kernel) rfl (by simp [Value.category]) (Nat.le_of_ble_eq_true rfl) rfl (fun X C G => ?_)
  show J E X 0 [some (.ref (ja E 44)), some (.int (nI lo)), some (.int (nI hi)), some (.int x), none] [] (rs m k (-1) S)
  have hVl : tV g n k ≤ 1000 := oV_le g n (tB g n k)
  refine J_aload_n C (dA DX5_readNumber_0 0 rfl) rfl ?_
  refine G_X5_tokens C wF_RX5_12 (dA DX5_readNumber_0 1 rfl) ?_
  refine V_X6_value C (c_X6_value l E hn (rs_TK hT) k hk rs_544) wM_RX5_64 (by decide) (dA DX5_readNumber_0 2 rfl) rfl (Nat.le_of_ble_eq_true rfl) ?_
  rw [rs_o (by omega)]
  refine J_ist_4_5 C (dA DX5_readNumber_0 3 rfl) rfl ?_
  refine J_aload_n C (dA DX5_readNumber_0 4 rfl) rfl ?_
  refine V_X5_hasNumber C (c_X5_hasNumber l E hn (rs_TK hT) k hk rs_544 (-1) rs_543) wM_RX5_92 (by decide) (dA DX5_readNumber_0 5 rfl) rfl (Nat.le_of_ble_eq_true rfl) ?_
  refine J_if_eq_b (tgt := 34) C (dA DX5_readNumber_0 6 rfl) (by decide) (fun h13 => ?_) (fun h13 => ?_)
  · refine J_aload_n C (dA DX5_readNumber_0 16 rfl) rfl ?_
    refine V_X5_fail C (c_X5_fail0 l E hn (rs_TK hT) k hk rs_544 rs_543) wM_RX5_41 (by decide) (dA DX5_readNumber_0 17 rfl) rfl (Nat.le_of_ble_eq_true rfl) ?_
    rw [rs_f]
    refine J_iload_n C (dA DX5_readNumber_0 18 rfl) rfl ?_
    have hb : ¬ numB g n k lo hi x = true := fun z => by
      obtain ⟨z1, z2, z3, z4⟩ := of_decide_eq_true z
      rw [decide_eq_true z1] at h13
      exact absurd h13 (by decide)
    exact J_iret C G (dA DX5_readNumber_0 19 rfl) ⟨oi (by rw [if_neg hb]), by rw [if_neg hb]⟩
  · have hs : tS g n k = 2 := by
      rw [Bool.and_eq_true] at h13
      exact of_decide_eq_true h13.2
    rw [(hT k hk).2.2 (Or.inr hs)]
    refine J_iload C (dA DX5_readNumber_0 7 rfl) rfl ?_
    refine J_iload_n C (dA DX5_readNumber_0 8 rfl) rfl ?_
    refine J_icmp_lt_n (tgt := 34) C (by omega) (by omega) (dA DX5_readNumber_0 9 rfl) (by decide) (fun h19 => ?_) (fun h19 => ?_)
    · refine J_aload_n C (dA DX5_readNumber_0 16 rfl) rfl ?_
      refine V_X5_fail C (c_X5_fail0 l E hn (rs_TK hT) k hk rs_544 rs_543) wM_RX5_41 (by decide) (dA DX5_readNumber_0 17 rfl) rfl (Nat.le_of_ble_eq_true rfl) ?_
      rw [rs_f]
      refine J_iload_n C (dA DX5_readNumber_0 18 rfl) rfl ?_
      have hb : ¬ numB g n k lo hi x = true := fun z => by
        obtain ⟨z1, z2, z3, z4⟩ := of_decide_eq_true z
        omega
      exact J_iret C G (dA DX5_readNumber_0 19 rfl) ⟨oi (by rw [if_neg hb]), by rw [if_neg hb]⟩
    · refine J_iload C (dA DX5_readNumber_0 10 rfl) rfl ?_
      refine J_iload_n C (dA DX5_readNumber_0 11 rfl) rfl ?_
      refine J_icmp_gt_n (tgt := 34) C (by omega) (by omega) (dA DX5_readNumber_0 12 rfl) (by decide) (fun h25 => ?_) (fun h25 => ?_)
      · refine J_aload_n C (dA DX5_readNumber_0 16 rfl) rfl ?_
        refine V_X5_fail C (c_X5_fail0 l E hn (rs_TK hT) k hk rs_544 rs_543) wM_RX5_41 (by decide) (dA DX5_readNumber_0 17 rfl) rfl (Nat.le_of_ble_eq_true rfl) ?_
        rw [rs_f]
        refine J_iload_n C (dA DX5_readNumber_0 18 rfl) rfl ?_
        have hb : ¬ numB g n k lo hi x = true := fun z => by
          obtain ⟨z1, z2, z3, z4⟩ := of_decide_eq_true z
          omega
        exact J_iret C G (dA DX5_readNumber_0 19 rfl) ⟨oi (by rw [if_neg hb]), by rw [if_neg hb]⟩
      · refine J_iload C (dA DX5_readNumber_0 13 rfl) rfl ?_
        refine J_iload_n C (dA DX5_readNumber_0 14 rfl) rfl ?_
        refine J_icmp_ne (tgt := 40) C (dA DX5_readNumber_0 15 rfl) (by decide) (fun h31 => ?_) (fun h31 => ?_)
        · refine J_aload_n C (dA DX5_readNumber_0 20 rfl) rfl ?_
          refine G_X5_tokens C wF_RX5_12 (dA DX5_readNumber_0 21 rfl) ?_
          refine V_X6_advance C (c_X6_advance l E hn (rs_TK hT) k hk rs_544 (by omega)) wM_RX5_34 (by decide) (dA DX5_readNumber_0 22 rfl) rfl (Nat.le_of_ble_eq_true rfl) ?_
          rw [rs_k]
          refine J_iload C (dA DX5_readNumber_0 23 rfl) rfl ?_
          have hb : numB g n k lo hi x = true := decide_eq_true ⟨hs, by omega, by omega, h31⟩
          exact J_iret C G (dA DX5_readNumber_0 24 rfl) ⟨oi (by rw [if_pos hb]), by rw [if_pos hb]⟩
        · refine J_aload_n C (dA DX5_readNumber_0 16 rfl) rfl ?_
          refine V_X5_fail C (c_X5_fail0 l E hn (rs_TK hT) k hk rs_544 rs_543) wM_RX5_41 (by decide) (dA DX5_readNumber_0 17 rfl) rfl (Nat.le_of_ble_eq_true rfl) ?_
          rw [rs_f]
          refine J_iload_n C (dA DX5_readNumber_0 18 rfl) rfl ?_
          have hb : ¬ numB g n k lo hi x = true := fun z => by
            obtain ⟨z1, z2, z3, z4⟩ := of_decide_eq_true z
            exact z4 h31
          exact J_iret C G (dA DX5_readNumber_0 19 rfl) ⟨oi (by rw [if_neg hb]), by rw [if_neg hb]⟩
def trV (g : Nat → Int32) (n p w k : Nat) : Int32 := if w = 3 then nI 1 else if numB g n k (lo6 w) (mx6 w) (trX w p) = true then nI (tV g n k) else nI (lo6 w)
def trM (g : Nat → Int32) (n p w k : Nat) (m : jM) (S : Nat → Int32) : jM := if w = 3 then rs m k (-1) S else if numB g n k (lo6 w) (mx6 w) (trX w p) = true then rs m (k + 1) (-1) S else rs m k (nI (tB g n k)) S
set_option maxRecDepth 4000 in
theorem c_X5_readPond (l : Launch) (E : jE) (hn : n ≤ 120) (hT : TK g n m) (k : Nat) (hk : k ≤ tK g n) (hS : IS S)  : K_X5_readPond l E [.ref (ja E 44), .ref (ja E (fo 1))] (rs m k (-1) S) (psM g n m (pPond true g n k S)) := by
  refine CT_intro (own := RX5) (by decide +kernel) rfl (by simp [Value.category]) (Nat.le_of_ble_eq_true rfl) rfl (fun X C G => ?_)
  show J E X 0 [some (.ref (ja E 44)), some (.ref (ja E (fo 1))), none, none] [] (rs m k (-1) S)
  have seg : ∀ (w p k' : Nat) (S' : Nat → Int32) (x : Nat), w < 6 → k' ≤ tK g n → J E X 73 [some (.ref (ja E 44)), some (.ref (ja E (fo 1))), some (.int (nI p)), some (.int (nI w))] [.int (trV g n p w k'), .int (nI p), .ref x] (trM g n p w k' m S') → J E X 41 [some (.ref (ja E 44)), some (.ref (ja E (fo 1))), some (.int (nI p)), some (.int (nI w))] [.int (nI p), .ref x] (rs m k' (-1) S') := by
    intro w p k' S' x hw hk' h
    rcases (show w = 0 ∨ w = 1 ∨ w = 2 ∨ w = 3 ∨ w = 4 ∨ w = 5 by omega) with rfl | rfl | rfl | rfl | rfl | rfl
    · refine J_iload_n C (dA DX5_readPond_0 25 rfl) rfl ?_
      refine J_iconst (v := nI 3) C (dA DX5_readPond_0 26 rfl) (by decide) ?_
      refine J_icmp_ne_n (tgt := 50) C (by decide) (by decide) (dA DX5_readPond_0 27 rfl) (by decide) (fun h43 => ?_) (fun h43 => ?_)
      · refine J_aload_n C (dA DX5_readPond_0 30 rfl) rfl ?_
        refine J_getsN C (k := 0) (by decide) (by decide +kernel) (dA DX5_readPond_0 31 rfl) ?_
        refine J_iload_n C (dA DX5_readPond_0 32 rfl) rfl ?_
        refine J_tab C (k := 0) (j := 0) (by decide) rfl (by decide) (dA DX5_readPond_0 33 rfl) ?_
        rw [show (jtV 0).getD 0 0 = nI (lo6 0) by decide +kernel]
        refine J_getsN C (k := 1) (by decide) (by decide +kernel) (dA DX5_readPond_0 34 rfl) ?_
        refine J_iload_n C (dA DX5_readPond_0 35 rfl) rfl ?_
        refine J_tab C (k := 1) (j := 0) (by decide) rfl (by decide) (dA DX5_readPond_0 36 rfl) ?_
        rw [show (jtV 1).getD 0 0 = nI (mx6 0) by decide +kernel]
        refine J_iload_n C (dA DX5_readPond_0 37 rfl) rfl ?_
        refine J_if_ne_n (tgt := 69) C (by decide) (dA DX5_readPond_0 38 rfl) (by decide) (fun h62 => ?_) (fun h62 => ?_)
        · exact absurd rfl h62
        · refine J_iload_n C (dA DX5_readPond_0 39 rfl) rfl ?_
          refine J_goto (tgt := 70) C (dA DX5_readPond_0 40 rfl) (by decide) ?_
          refine V_X5_readNumber C (c_X5_readNumber (S := S') l E hn hT k' hk' (lo6 0) (mx6 0) (by decide) (by decide) _) wM_RX5_75 (by decide) (dA DX5_readPond_0 42 rfl) rfl (Nat.le_of_ble_eq_true rfl) ?_
          exact h
      · exact absurd h43 (by decide)
    · refine J_iload_n C (dA DX5_readPond_0 25 rfl) rfl ?_
      refine J_iconst (v := nI 3) C (dA DX5_readPond_0 26 rfl) (by decide) ?_
      refine J_icmp_ne_n (tgt := 50) C (by decide) (by decide) (dA DX5_readPond_0 27 rfl) (by decide) (fun h43 => ?_) (fun h43 => ?_)
      · refine J_aload_n C (dA DX5_readPond_0 30 rfl) rfl ?_
        refine J_getsN C (k := 0) (by decide) (by decide +kernel) (dA DX5_readPond_0 31 rfl) ?_
        refine J_iload_n C (dA DX5_readPond_0 32 rfl) rfl ?_
        refine J_tab C (k := 0) (j := 1) (by decide) rfl (by decide) (dA DX5_readPond_0 33 rfl) ?_
        rw [show (jtV 0).getD 1 0 = nI (lo6 1) by decide +kernel]
        refine J_getsN C (k := 1) (by decide) (by decide +kernel) (dA DX5_readPond_0 34 rfl) ?_
        refine J_iload_n C (dA DX5_readPond_0 35 rfl) rfl ?_
        refine J_tab C (k := 1) (j := 1) (by decide) rfl (by decide) (dA DX5_readPond_0 36 rfl) ?_
        rw [show (jtV 1).getD 1 0 = nI (mx6 1) by decide +kernel]
        refine J_iload_n C (dA DX5_readPond_0 37 rfl) rfl ?_
        refine J_if_ne_n (tgt := 69) C (by decide) (dA DX5_readPond_0 38 rfl) (by decide) (fun h62 => ?_) (fun h62 => ?_)
        · refine J_iconst (v := (-1)) C (dA DX5_readPond_0 41 rfl) (by decide) ?_
          refine V_X5_readNumber C (c_X5_readNumber (S := S') l E hn hT k' hk' (lo6 1) (mx6 1) (by decide) (by decide) _) wM_RX5_75 (by decide) (dA DX5_readPond_0 42 rfl) rfl (Nat.le_of_ble_eq_true rfl) ?_
          exact h
        · exact absurd h62 (by decide)
      · exact absurd h43 (by decide)
    · refine J_iload_n C (dA DX5_readPond_0 25 rfl) rfl ?_
      refine J_iconst (v := nI 3) C (dA DX5_readPond_0 26 rfl) (by decide) ?_
      refine J_icmp_ne_n (tgt := 50) C (by decide) (by decide) (dA DX5_readPond_0 27 rfl) (by decide) (fun h43 => ?_) (fun h43 => ?_)
      · refine J_aload_n C (dA DX5_readPond_0 30 rfl) rfl ?_
        refine J_getsN C (k := 0) (by decide) (by decide +kernel) (dA DX5_readPond_0 31 rfl) ?_
        refine J_iload_n C (dA DX5_readPond_0 32 rfl) rfl ?_
        refine J_tab C (k := 0) (j := 2) (by decide) rfl (by decide) (dA DX5_readPond_0 33 rfl) ?_
        rw [show (jtV 0).getD 2 0 = nI (lo6 2) by decide +kernel]
        refine J_getsN C (k := 1) (by decide) (by decide +kernel) (dA DX5_readPond_0 34 rfl) ?_
        refine J_iload_n C (dA DX5_readPond_0 35 rfl) rfl ?_
        refine J_tab C (k := 1) (j := 2) (by decide) rfl (by decide) (dA DX5_readPond_0 36 rfl) ?_
        rw [show (jtV 1).getD 2 0 = nI (mx6 2) by decide +kernel]
        refine J_iload_n C (dA DX5_readPond_0 37 rfl) rfl ?_
        refine J_if_ne_n (tgt := 69) C (by decide) (dA DX5_readPond_0 38 rfl) (by decide) (fun h62 => ?_) (fun h62 => ?_)
        · refine J_iconst (v := (-1)) C (dA DX5_readPond_0 41 rfl) (by decide) ?_
          refine V_X5_readNumber C (c_X5_readNumber (S := S') l E hn hT k' hk' (lo6 2) (mx6 2) (by decide) (by decide) _) wM_RX5_75 (by decide) (dA DX5_readPond_0 42 rfl) rfl (Nat.le_of_ble_eq_true rfl) ?_
          exact h
        · exact absurd h62 (by decide)
      · exact absurd h43 (by decide)
    · refine J_iload_n C (dA DX5_readPond_0 25 rfl) rfl ?_
      refine J_iconst (v := nI 3) C (dA DX5_readPond_0 26 rfl) (by decide) ?_
      refine J_icmp_ne_n (tgt := 50) C (by decide) (by decide) (dA DX5_readPond_0 27 rfl) (by decide) (fun h43 => ?_) (fun h43 => ?_)
      · exact absurd rfl h43
      · refine J_iconst (v := nI 1) C (dA DX5_readPond_0 28 rfl) (by decide) ?_
        refine J_goto (tgt := 73) C (dA DX5_readPond_0 29 rfl) (by decide) ?_
        exact h
    · refine J_iload_n C (dA DX5_readPond_0 25 rfl) rfl ?_
      refine J_iconst (v := nI 3) C (dA DX5_readPond_0 26 rfl) (by decide) ?_
      refine J_icmp_ne_n (tgt := 50) C (by decide) (by decide) (dA DX5_readPond_0 27 rfl) (by decide) (fun h43 => ?_) (fun h43 => ?_)
      · refine J_aload_n C (dA DX5_readPond_0 30 rfl) rfl ?_
        refine J_getsN C (k := 0) (by decide) (by decide +kernel) (dA DX5_readPond_0 31 rfl) ?_
        refine J_iload_n C (dA DX5_readPond_0 32 rfl) rfl ?_
        refine J_tab C (k := 0) (j := 4) (by decide) rfl (by decide) (dA DX5_readPond_0 33 rfl) ?_
        rw [show (jtV 0).getD 4 0 = nI (lo6 4) by decide +kernel]
        refine J_getsN C (k := 1) (by decide) (by decide +kernel) (dA DX5_readPond_0 34 rfl) ?_
        refine J_iload_n C (dA DX5_readPond_0 35 rfl) rfl ?_
        refine J_tab C (k := 1) (j := 4) (by decide) rfl (by decide) (dA DX5_readPond_0 36 rfl) ?_
        rw [show (jtV 1).getD 4 0 = nI (mx6 4) by decide +kernel]
        refine J_iload_n C (dA DX5_readPond_0 37 rfl) rfl ?_
        refine J_if_ne_n (tgt := 69) C (by decide) (dA DX5_readPond_0 38 rfl) (by decide) (fun h62 => ?_) (fun h62 => ?_)
        · refine J_iconst (v := (-1)) C (dA DX5_readPond_0 41 rfl) (by decide) ?_
          refine V_X5_readNumber C (c_X5_readNumber (S := S') l E hn hT k' hk' (lo6 4) (mx6 4) (by decide) (by decide) _) wM_RX5_75 (by decide) (dA DX5_readPond_0 42 rfl) rfl (Nat.le_of_ble_eq_true rfl) ?_
          exact h
        · exact absurd h62 (by decide)
      · exact absurd h43 (by decide)
    · refine J_iload_n C (dA DX5_readPond_0 25 rfl) rfl ?_
      refine J_iconst (v := nI 3) C (dA DX5_readPond_0 26 rfl) (by decide) ?_
      refine J_icmp_ne_n (tgt := 50) C (by decide) (by decide) (dA DX5_readPond_0 27 rfl) (by decide) (fun h43 => ?_) (fun h43 => ?_)
      · refine J_aload_n C (dA DX5_readPond_0 30 rfl) rfl ?_
        refine J_getsN C (k := 0) (by decide) (by decide +kernel) (dA DX5_readPond_0 31 rfl) ?_
        refine J_iload_n C (dA DX5_readPond_0 32 rfl) rfl ?_
        refine J_tab C (k := 0) (j := 5) (by decide) rfl (by decide) (dA DX5_readPond_0 33 rfl) ?_
        rw [show (jtV 0).getD 5 0 = nI (lo6 5) by decide +kernel]
        refine J_getsN C (k := 1) (by decide) (by decide +kernel) (dA DX5_readPond_0 34 rfl) ?_
        refine J_iload_n C (dA DX5_readPond_0 35 rfl) rfl ?_
        refine J_tab C (k := 1) (j := 5) (by decide) rfl (by decide) (dA DX5_readPond_0 36 rfl) ?_
        rw [show (jtV 1).getD 5 0 = nI (mx6 5) by decide +kernel]
        refine J_iload_n C (dA DX5_readPond_0 37 rfl) rfl ?_
        refine J_if_ne_n (tgt := 69) C (by decide) (dA DX5_readPond_0 38 rfl) (by decide) (fun h62 => ?_) (fun h62 => ?_)
        · refine J_iconst (v := (-1)) C (dA DX5_readPond_0 41 rfl) (by decide) ?_
          refine V_X5_readNumber C (c_X5_readNumber (S := S') l E hn hT k' hk' (lo6 5) (mx6 5) (by decide) (by decide) _) wM_RX5_75 (by decide) (dA DX5_readPond_0 42 rfl) rfl (Nat.le_of_ble_eq_true rfl) ?_
          exact h
        · exact absurd h62 (by decide)
      · exact absurd h43 (by decide)
  have loop : ∀ (p : Nat) (q0 : pT), p < 16 → WQ g n q0 → pPond true g n k S = trN true g n p q0 6 → ∀ j w, w + j = 6 → J E X 11 [some (.ref (ja E 44)), some (.ref (ja E (fo 1))), some (.int (nI p)), some (.int (nI w))] [] (psM g n m (trN true g n p q0 w)) := by
    intro p q0 hp hq0 hr j
    induction j with
    | zero =>
      intro w hw
      obtain rfl : 6 = w := by omega
      refine J_iload_n C (dA DX5_readPond_0 8 rfl) rfl ?_
      refine J_iconst (v := nI 5) C (dA DX5_readPond_0 9 rfl) (by decide) ?_
      refine J_icmp_gt_n (tgt := 80) C (by omega) (by omega) (dA DX5_readPond_0 10 rfl) (by decide) (fun h13 => ?_) (fun h13 => ?_)
      · exact J_vret C G (dA DX5_readPond_0 46 rfl) ⟨rfl, by rw [hr]⟩
      · exfalso; omega
    | succ j ih =>
      intro w hw
      have hWQ := WQ_trN (c := true) hn hp hq0 w (by omega)
      have hnx : trN true g n p q0 (w + 1) = trS true g n p w (trN true g n p q0 w) := rfl
      have hih := ih (w + 1) (by omega)
      rw [hnx] at hih
      generalize (trN true g n p q0 w) = q at hWQ hih ⊢
      obtain ⟨hqk, hqC, hqI⟩ := hWQ
      unfold psM
      refine J_iload_n C (dA DX5_readPond_0 8 rfl) rfl ?_
      refine J_iconst (v := nI 5) C (dA DX5_readPond_0 9 rfl) (by decide) ?_
      refine J_icmp_gt_n (tgt := 80) C (by omega) (by omega) (dA DX5_readPond_0 10 rfl) (by decide) (fun h13 => ?_) (fun h13 => ?_)
      · exfalso; omega
      · refine J_aload_n C (dA DX5_readPond_0 11 rfl) rfl ?_
        refine J_bipush (v := nI 7) C (dA DX5_readPond_0 12 rfl) (by decide) ?_
        refine J_iload_n C (dA DX5_readPond_0 13 rfl) rfl ?_
        refine J_iadd_n C (dA DX5_readPond_0 14 rfl) ?_
        refine V_X5_hasWord C (c_X5_hasWord l E hn (rs_TK hT) q.2.1 hqk rs_544 (flq g n q) rs_543 (7 + w) (by omega)) wM_RX5_50 (by decide) (dA DX5_readPond_0 15 rfl) rfl (Nat.le_of_ble_eq_true rfl) ?_
        rw [flq_lt hn]
        refine J_if_eq_b (tgt := 74) C (dA DX5_readPond_0 16 rfl) (by decide) (fun h24 => ?_) (fun h24 => ?_)
        · first | refine J_inc1_3_4 C (dA DX5_readPond_0 44 rfl) rfl ?_ | refine J_iinc_3_4 C (dA DX5_readPond_0 44 rfl) rfl ?_
          refine J_goto (tgt := 11) C (dA DX5_readPond_0 45 rfl) (by decide) ?_
          have e : trS true g n p w q = q := by
            unfold trS
            rw [if_neg (fun z => by rw [z.1, z.2] at h24; exact absurd h24 (by decide))]
          rw [e] at hih
          exact hih
        · rw [Bool.and_eq_true] at h24
          obtain ⟨hq1, hq2⟩ := h24
          have hk1 := hW_s hn hqk hq2
          have hf : flq g n q = -1 := by unfold flq; rw [if_pos hq1]
          refine J_aload_n C (dA DX5_readPond_0 17 rfl) rfl ?_
          refine G_X5_tokens C wF_RX5_12 (dA DX5_readPond_0 18 rfl) ?_
          refine V_X6_advance C (c_X6_advance l E hn (rs_TK hT) q.2.1 hqk rs_544 (by have := (of_decide_eq_true hq2).1; omega)) wM_RX5_34 (by decide) (dA DX5_readPond_0 19 rfl) rfl (Nat.le_of_ble_eq_true rfl) ?_
          rw [rs_k, hf]
          refine J_aload_n C (dA DX5_readPond_0 20 rfl) rfl ?_
          refine G_X1_ponds C (by decide) wF_RX5_82 (dA DX5_readPond_0 21 rfl) ?_
          refine J_iload_n C (dA DX5_readPond_0 22 rfl) rfl ?_
          refine R_fp C (by decide) rfl (by omega) (dA DX5_readPond_0 23 rfl) ?_
          refine J_iload_n C (dA DX5_readPond_0 24 rfl) rfl ?_
          refine seg w p (q.2.1 + 1) q.2.2 _ (by omega) hk1 ?_
          refine S_fr C (by decide) (by omega) rfl hp (dA DX5_readPond_0 43 rfl) ?_
          first | refine J_inc1_3_4 C (dA DX5_readPond_0 44 rfl) rfl ?_ | refine J_iinc_3_4 C (dA DX5_readPond_0 44 rfl) rfl ?_
          refine J_goto (tgt := 11) C (dA DX5_readPond_0 45 rfl) (by decide) ?_
          have e : trS true g n p w q = trY true g n p w q := by
            unfold trS
            rw [if_pos ⟨hq1, hq2⟩]
          rw [e] at hih
          unfold trV trM
          unfold trY at hih
          by_cases e3 : w = 3
          · rw [if_pos e3, if_pos e3, rs_S hqC (by omega)]
            rw [if_pos e3] at hih
            exact hih
          · rw [if_neg e3, if_neg e3]
            rw [if_neg e3] at hih
            by_cases hb : numB g n (q.2.1 + 1) (lo6 w) (mx6 w) (trX w p) = true
            · rw [if_pos hb, if_pos hb, rs_S hqC (by omega)]
              rw [if_pos hb] at hih
              exact hih
            · rw [if_neg hb, if_neg hb, rs_S hqC (by omega)]
              rw [if_neg hb] at hih
              exact hih
  refine J_aload_n C (dA DX5_readPond_0 0 rfl) rfl ?_
  refine J_iconst (v := nI 0) C (dA DX5_readPond_0 1 rfl) (by decide) ?_
  refine J_bipush (v := nI 15) C (dA DX5_readPond_0 2 rfl) (by decide) ?_
  refine J_iconst (v := (-1)) C (dA DX5_readPond_0 3 rfl) (by decide) ?_
  refine V_X5_readNumber C (c_X5_readNumber (S := S) l E hn hT k hk 0 15 (by decide) (by decide) (-1)) wM_RX5_75 (by decide) (dA DX5_readPond_0 4 rfl) rfl (Nat.le_of_ble_eq_true rfl) ?_
  by_cases hb : numB g n k 0 15 (-1) = true
  · rw [if_pos hb, if_pos hb]
    have hp := (of_decide_eq_true hb).2.2.1
    have hk1 := numB_s hn hk hb
    have hr : pPond true g n k S = trN true g n (tV g n k) (true, k + 1, S) 6 := by unfold pPond; rw [if_pos hb]
    have h := loop (tV g n k) (true, k + 1, S) (by omega) ⟨hk1, hS.1, fun _ => hS⟩ hr 6 0 (Nat.zero_add _)
    refine J_ist_2_4 C (dA DX5_readPond_0 5 rfl) rfl ?_
    refine J_iconst (v := nI 0) C (dA DX5_readPond_0 6 rfl) (by decide) ?_
    refine J_ist_3_4 C (dA DX5_readPond_0 7 rfl) rfl ?_
    exact h
  · rw [if_neg hb, if_neg hb]
    have hr : pPond true g n k S = trN true g n 0 (false, k, S) 6 := by unfold pPond; rw [if_neg hb, trN_f rfl]
    have h := loop 0 (false, k, S) (by decide) ⟨hk, hS.1, fun z => ff z⟩ hr 6 0 (Nat.zero_add _)
    refine J_ist_2_4 C (dA DX5_readPond_0 5 rfl) rfl ?_
    refine J_iconst (v := nI 0) C (dA DX5_readPond_0 6 rfl) (by decide) ?_
    refine J_ist_3_4 C (dA DX5_readPond_0 7 rfl) rfl ?_
    exact h
set_option maxRecDepth 4000 in
theorem c_X5_readThing (l : Launch) (E : jE) (hn : n ≤ 120) (hT : TK g n m) (k : Nat) (hk : k ≤ tK g n) (h1 : tS g n k = 1) (h7 : tV g n k < 7) (hS : IS S)  : K_X5_readThing l E [.ref (ja E 44), .ref (ja E (fo 1))] (rs m k (-1) S) (psM g n m (pThing true g n k S)) := by
  refine CT_intro (own := RX5) (by decide +kernel) rfl (by simp [Value.category]) (Nat.le_of_ble_eq_true rfl) rfl (fun X C G => ?_)
  show J E X 0 [some (.ref (ja E 44)), some (.ref (ja E (fo 1))), none, none, none] [] (rs m k (-1) S)
  have hN := leN hS
  have hv : ∀ (k : Nat) (fl : Int32), vb (fb 1) (rs m k fl S) = S := fun k fl => rs_vb hS.1
  have hI : ∀ (k : Nat) (fl : Int32), IS (vb (fb 1) (rs m k fl S)) := fun k fl => by rw [hv]; exact hS
  have last : ∀ (r : Bool × Nat × Nat), ¬ iN S = 8 → (thI g n k).2.2 ≤ 15 → r.2.2 ≤ 99 → thL true g n (thI g n k) = r → J E X 98 [some (.ref (ja E 44)), some (.ref (ja E (fo 1))), some (.int (nI (tV g n k))), some (.int (nI (thI g n k).2.2)), some (.int (nI r.2.2))] [] (psM g n m (r.1, r.2.1, S)) := by
    intro r h8 hp hq hr
    unfold psM
    refine J_aload_n C (dA DX5_readThing_0 51 rfl) rfl ?_
    refine J_iload_n C (dA DX5_readThing_0 52 rfl) rfl ?_
    refine J_iload_n C (dA DX5_readThing_0 53 rfl) rfl ?_
    refine J_iload C (dA DX5_readThing_0 54 rfl) rfl ?_
    refine V_X1_add C (by decide) (c_X1_add l E 1 (by decide) (tV g n k) (thI g n k).2.2 r.2.2 (by omega) hp hq (by rw [hv]; omega) (hI _ _)) wM_RX5_79 (by decide) (dA DX5_readThing_0 55 rfl) rfl (Nat.le_of_ble_eq_true rfl) ?_
    rw [hv, rs_lay]
    refine J_pop C (dA DX5_readThing_0 56 rfl) rfl ?_
    exact J_vret C G (dA DX5_readThing_0 57 rfl) ⟨rfl, by unfold pThing; rw [if_neg h8, hr]; rfl⟩
  have mid : ∀ (r : Bool × Nat × Nat), ¬ iN S = 8 → r.2.1 ≤ tK g n → r.2.2 ≤ 15 → thI g n k = r → J E X 65 [some (.ref (ja E 44)), some (.ref (ja E (fo 1))), some (.int (nI (tV g n k))), some (.int (nI r.2.2)), some (.int (nI 9))] [] (psM g n m (r.1, r.2.1, S)) := by
    intro r h8 hk2 hp hr
    have hls := fun r2 => last r2 h8 (by rw [hr]; exact hp)
    rw [hr] at hls
    unfold psM
    refine J_aload_n C (dA DX5_readThing_0 34 rfl) rfl ?_
    refine J_bipush (v := nI 14) C (dA DX5_readThing_0 35 rfl) (by decide) ?_
    refine V_X5_hasWord C (c_X5_hasWord l E hn (rs_TK hT) r.2.1 hk2 rs_544 (flq g n (r.1, r.2.1, S)) rs_543 14 (by decide)) wM_RX5_50 (by decide) (dA DX5_readThing_0 36 rfl) rfl (Nat.le_of_ble_eq_true rfl) ?_
    rw [flq_lt hn]
    refine J_if_eq_b (tgt := 98) C (dA DX5_readThing_0 37 rfl) (by decide) (fun h71 => ?_) (fun h71 => ?_)
    · have e : thL true g n r = (r.1, r.2.1, 9) := by unfold thL; rw [if_neg (fun z => by rw [z.1, z.2] at h71; exact absurd h71 (by decide))]
      exact hls (r.1, r.2.1, 9) (show 9 ≤ 99 by decide) e
    · rw [Bool.and_eq_true] at h71
      obtain ⟨hq1, hq2⟩ := h71
      have hk3 := hW_s hn hk2 hq2
      have hf : flq g n (r.1, r.2.1, S) = -1 := by unfold flq; rw [if_pos hq1]
      refine J_aload_n C (dA DX5_readThing_0 38 rfl) rfl ?_
      refine G_X5_tokens C wF_RX5_12 (dA DX5_readThing_0 39 rfl) ?_
      refine V_X6_advance C (c_X6_advance l E hn (rs_TK hT) r.2.1 hk2 rs_544 (by have := (of_decide_eq_true hq2).1; omega)) wM_RX5_34 (by decide) (dA DX5_readThing_0 40 rfl) rfl (Nat.le_of_ble_eq_true rfl) ?_
      rw [rs_k, hf]
      refine J_aload_n C (dA DX5_readThing_0 41 rfl) rfl ?_
      refine J_getsN C (k := 2) (by decide) (by decide +kernel) (dA DX5_readThing_0 42 rfl) ?_
      refine J_iconst (v := nI 2) C (dA DX5_readThing_0 43 rfl) (by decide) ?_
      refine J_tab C (k := 2) (j := 2) (by decide) rfl (by decide) (dA DX5_readThing_0 44 rfl) ?_
      rw [show (jtV 2).getD 2 0 = nI 1 by decide +kernel]
      refine J_getsN C (k := 3) (by decide) (by decide +kernel) (dA DX5_readThing_0 45 rfl) ?_
      refine J_iconst (v := nI 2) C (dA DX5_readThing_0 46 rfl) (by decide) ?_
      refine J_tab C (k := 3) (j := 2) (by decide) rfl (by decide) (dA DX5_readThing_0 47 rfl) ?_
      rw [show (jtV 3).getD 2 0 = nI 99 by decide +kernel]
      refine J_iconst (v := (-1)) C (dA DX5_readThing_0 48 rfl) (by decide) ?_
      refine V_X5_readNumber C (c_X5_readNumber (S := S) l E hn hT (r.2.1 + 1) hk3 1 99 (by decide) (by decide) (-1)) wM_RX5_75 (by decide) (dA DX5_readThing_0 49 rfl) rfl (Nat.le_of_ble_eq_true rfl) ?_
      refine J_ist_4_5 C (dA DX5_readThing_0 50 rfl) rfl ?_
      by_cases hb : numB g n (r.2.1 + 1) 1 99 (-1) = true
      · rw [if_pos hb, if_pos hb]
        have e : thL true g n r = (true, r.2.1 + 2, tV g n (r.2.1 + 1)) := by unfold thL; rw [if_pos ⟨hq1, hq2⟩, if_pos hb]
        exact hls (true, r.2.1 + 2, tV g n (r.2.1 + 1)) (of_decide_eq_true hb).2.2.1 e
      · rw [if_neg hb, if_neg hb]
        have e : thL true g n r = (false, r.2.1 + 1, 1) := by unfold thL; rw [if_pos ⟨hq1, hq2⟩, if_neg hb]; rfl
        exact hls (false, r.2.1 + 1, 1) (show 1 ≤ 99 by decide) e
  refine J_aload_n C (dA DX5_readThing_0 0 rfl) rfl ?_
  refine V_X1_isFull C (by decide) (c_X1_isFull l E 1 (by decide) (hI _ _)) wM_RX5_61 (by decide) (dA DX5_readThing_0 1 rfl) rfl (Nat.le_of_ble_eq_true rfl) ?_
  rw [hv]
  refine J_if_eq_b (tgt := 12) C (dA DX5_readThing_0 2 rfl) (by decide) (fun h4 => ?_) (fun h4 => ?_)
  · have h8 := of_decide_eq_false h4
    have hk1 := tk_s hn hk (show ¬ tS g n k = 0 by omega)
    refine J_aload_n C (dA DX5_readThing_0 6 rfl) rfl ?_
    refine G_X5_tokens C wF_RX5_12 (dA DX5_readThing_0 7 rfl) ?_
    refine V_X6_value C (c_X6_value l E hn (rs_TK hT) k hk rs_544) wM_RX5_64 (by decide) (dA DX5_readThing_0 8 rfl) rfl (Nat.le_of_ble_eq_true rfl) ?_
    rw [rs_o (by omega), (hT k hk).2.2 (Or.inl h1)]
    refine J_ist_2_5 C (dA DX5_readThing_0 9 rfl) rfl ?_
    refine J_iconst (v := nI 0) C (dA DX5_readThing_0 10 rfl) (by decide) ?_
    refine J_ist_3_5 C (dA DX5_readThing_0 11 rfl) rfl ?_
    refine J_bipush (v := nI 9) C (dA DX5_readThing_0 12 rfl) (by decide) ?_
    refine J_ist_4_5 C (dA DX5_readThing_0 13 rfl) rfl ?_
    refine J_aload_n C (dA DX5_readThing_0 14 rfl) rfl ?_
    refine G_X5_tokens C wF_RX5_12 (dA DX5_readThing_0 15 rfl) ?_
    refine V_X6_advance C (c_X6_advance l E hn (rs_TK hT) k hk rs_544 (by omega)) wM_RX5_34 (by decide) (dA DX5_readThing_0 16 rfl) rfl (Nat.le_of_ble_eq_true rfl) ?_
    rw [rs_k]
    refine J_aload_n C (dA DX5_readThing_0 17 rfl) rfl ?_
    refine J_bipush (v := nI 13) C (dA DX5_readThing_0 18 rfl) (by decide) ?_
    refine V_X5_hasWord C (c_X5_hasWord l E hn (rs_TK hT) (k + 1) hk1 rs_544 (-1) rs_543 13 (by decide)) wM_RX5_50 (by decide) (dA DX5_readThing_0 19 rfl) rfl (Nat.le_of_ble_eq_true rfl) ?_
    refine J_if_eq_b (tgt := 65) C (dA DX5_readThing_0 20 rfl) (by decide) (fun h39 => ?_) (fun h39 => ?_)
    · have e : thI g n k = (true, k + 1, 0) := by unfold thI; rw [if_neg (fun z => by rw [z] at h39; exact absurd h39 (by decide))]
      exact mid (true, k + 1, 0) h8 hk1 (show 0 ≤ 15 by decide) e
    · rw [Bool.and_eq_true] at h39
      obtain ⟨_, hq2⟩ := h39
      have hk3 := hW_s hn hk1 hq2
      refine J_aload_n C (dA DX5_readThing_0 21 rfl) rfl ?_
      refine G_X5_tokens C wF_RX5_12 (dA DX5_readThing_0 22 rfl) ?_
      refine V_X6_advance C (c_X6_advance l E hn (rs_TK hT) (k + 1) hk1 rs_544 (by have := (of_decide_eq_true hq2).1; omega)) wM_RX5_34 (by decide) (dA DX5_readThing_0 23 rfl) rfl (Nat.le_of_ble_eq_true rfl) ?_
      rw [rs_k]
      refine J_aload_n C (dA DX5_readThing_0 24 rfl) rfl ?_
      refine J_getsN C (k := 2) (by decide) (by decide +kernel) (dA DX5_readThing_0 25 rfl) ?_
      refine J_iconst (v := nI 1) C (dA DX5_readThing_0 26 rfl) (by decide) ?_
      refine J_tab C (k := 2) (j := 1) (by decide) rfl (by decide) (dA DX5_readThing_0 27 rfl) ?_
      rw [show (jtV 2).getD 1 0 = nI 0 by decide +kernel]
      refine J_getsN C (k := 3) (by decide) (by decide +kernel) (dA DX5_readThing_0 28 rfl) ?_
      refine J_iconst (v := nI 1) C (dA DX5_readThing_0 29 rfl) (by decide) ?_
      refine J_tab C (k := 3) (j := 1) (by decide) rfl (by decide) (dA DX5_readThing_0 30 rfl) ?_
      rw [show (jtV 3).getD 1 0 = nI 15 by decide +kernel]
      refine J_iconst (v := (-1)) C (dA DX5_readThing_0 31 rfl) (by decide) ?_
      refine V_X5_readNumber C (c_X5_readNumber (S := S) l E hn hT (k + 2) hk3 0 15 (by decide) (by decide) (-1)) wM_RX5_75 (by decide) (dA DX5_readThing_0 32 rfl) rfl (Nat.le_of_ble_eq_true rfl) ?_
      refine J_ist_3_5 C (dA DX5_readThing_0 33 rfl) rfl ?_
      by_cases hb : numB g n (k + 2) 0 15 (-1) = true
      · rw [if_pos hb, if_pos hb]
        have e : thI g n k = (true, k + 3, tV g n (k + 2)) := by unfold thI; rw [if_pos hq2, if_pos hb]
        exact mid (true, k + 3, tV g n (k + 2)) h8 (numB_s hn hk3 hb) (of_decide_eq_true hb).2.2.1 e
      · rw [if_neg hb, if_neg hb]
        have e : thI g n k = (false, k + 2, 0) := by unfold thI; rw [if_pos hq2, if_neg hb]
        exact mid (false, k + 2, 0) h8 hk3 (show 0 ≤ 15 by decide) e
  · refine J_aload_n C (dA DX5_readThing_0 3 rfl) rfl ?_
    refine V_X5_fail C (c_X5_fail0 l E hn (rs_TK hT) k hk rs_544 rs_543) wM_RX5_41 (by decide) (dA DX5_readThing_0 4 rfl) rfl (Nat.le_of_ble_eq_true rfl) ?_
    exact J_vret C G (dA DX5_readThing_0 5 rfl) ⟨rfl, by rw [rs_f]; unfold pThing; rw [if_pos (of_decide_eq_true h4)]; rfl⟩
set_option maxRecDepth 4000 in
theorem c_X5_readItem (l : Launch) (E : jE) (hn : n ≤ 120) (hT : TK g n m) (k : Nat) (hk : k ≤ tK g n) (hS : IS S)  : K_X5_readItem l E [.ref (ja E 44), .ref (ja E (fo 1))] (rs m k (-1) S) (psM g n m (pItem true g n k S)) := by
  refine CT_intro (own := RX5) (by decide +kernel) rfl (by simp [Value.category]) (Nat.le_of_ble_eq_true rfl) rfl (fun X C G => ?_)
  show J E X 0 [some (.ref (ja E 44)), some (.ref (ja E (fo 1)))] [] (rs m k (-1) S)
  refine J_aload_n C (dA DX5_readItem_0 0 rfl) rfl ?_
  refine V_X5_hasKind C (c_X5_hasKind l E hn (rs_TK hT) k hk rs_544 (-1) rs_543) wM_RX5_44 (by decide) (dA DX5_readItem_0 1 rfl) rfl (Nat.le_of_ble_eq_true rfl) ?_
  refine J_if_eq_b (tgt := 15) C (dA DX5_readItem_0 2 rfl) (by decide) (fun h4 => ?_) (fun h4 => ?_)
  · refine J_aload_n C (dA DX5_readItem_0 7 rfl) rfl ?_
    refine J_bipush (v := nI 15) C (dA DX5_readItem_0 8 rfl) (by decide) ?_
    refine V_X5_hasWord C (c_X5_hasWord l E hn (rs_TK hT) k hk rs_544 (-1) rs_543 15 (by decide)) wM_RX5_50 (by decide) (dA DX5_readItem_0 9 rfl) rfl (Nat.le_of_ble_eq_true rfl) ?_
    refine J_if_eq_b (tgt := 39) C (dA DX5_readItem_0 10 rfl) (by decide) (fun h21 => ?_) (fun h21 => ?_)
    · refine J_aload_n C (dA DX5_readItem_0 18 rfl) rfl ?_
      refine J_bipush (v := nI 16) C (dA DX5_readItem_0 19 rfl) (by decide) ?_
      refine V_X5_hasWord C (c_X5_hasWord l E hn (rs_TK hT) k hk rs_544 (-1) rs_543 16 (by decide)) wM_RX5_50 (by decide) (dA DX5_readItem_0 20 rfl) rfl (Nat.le_of_ble_eq_true rfl) ?_
      refine J_if_eq_b (tgt := 63) C (dA DX5_readItem_0 21 rfl) (by decide) (fun h45 => ?_) (fun h45 => ?_)
      · refine J_aload_n C (dA DX5_readItem_0 29 rfl) rfl ?_
        refine J_bipush (v := nI 17) C (dA DX5_readItem_0 30 rfl) (by decide) ?_
        refine V_X5_hasWord C (c_X5_hasWord l E hn (rs_TK hT) k hk rs_544 (-1) rs_543 17 (by decide)) wM_RX5_50 (by decide) (dA DX5_readItem_0 31 rfl) rfl (Nat.le_of_ble_eq_true rfl) ?_
        refine J_if_eq_b (tgt := 87) C (dA DX5_readItem_0 32 rfl) (by decide) (fun h69 => ?_) (fun h69 => ?_)
        · refine J_aload_n C (dA DX5_readItem_0 40 rfl) rfl ?_
          refine V_X5_fail C (c_X5_fail0 l E hn (rs_TK hT) k hk rs_544 rs_543) wM_RX5_41 (by decide) (dA DX5_readItem_0 41 rfl) rfl (Nat.le_of_ble_eq_true rfl) ?_
          exact J_vret C G (dA DX5_readItem_0 42 rfl) ⟨rfl, by unfold pItem; rw [if_neg (fun z => by rw [decide_eq_true z] at h4; exact absurd h4 (by decide)), if_neg (fun z => by rw [z] at h21; exact absurd h21 (by decide)), if_neg (fun z => by rw [z] at h45; exact absurd h45 (by decide)), if_neg (fun z => by rw [z] at h69; exact absurd h69 (by decide)), rs_f]; rfl⟩
        · refine J_aload_n C (dA DX5_readItem_0 33 rfl) rfl ?_
          refine G_X5_tokens C wF_RX5_12 (dA DX5_readItem_0 34 rfl) ?_
          refine V_X6_advance C (c_X6_advance l E hn (rs_TK hT) k hk rs_544 (by have := (of_decide_eq_true (Bool.and_eq_true_iff.mp h69).2).1; omega)) wM_RX5_34 (by decide) (dA DX5_readItem_0 35 rfl) rfl (Nat.le_of_ble_eq_true rfl) ?_
          rw [rs_k]
          refine J_aload_n C (dA DX5_readItem_0 36 rfl) rfl ?_
          refine J_iconst (v := nI 0) C (dA DX5_readItem_0 37 rfl) (by decide) ?_
          refine P_X1_rain C (by decide) wF_RX5_56 (dA DX5_readItem_0 38 rfl) ?_
          refine J_goto (tgt := 91) C (dA DX5_readItem_0 39 rfl) (by decide) ?_
          exact J_vret C G (dA DX5_readItem_0 42 rfl) ⟨rfl, by unfold pItem; rw [if_neg (fun z => by rw [decide_eq_true z] at h4; exact absurd h4 (by decide)), if_neg (fun z => by rw [z] at h21; exact absurd h21 (by decide)), if_neg (fun z => by rw [z] at h45; exact absurd h45 (by decide)), if_pos (Bool.and_eq_true_iff.mp h69).2, rs_S hS.1 (by decide)]; rfl⟩
      · refine J_aload_n C (dA DX5_readItem_0 22 rfl) rfl ?_
        refine G_X5_tokens C wF_RX5_12 (dA DX5_readItem_0 23 rfl) ?_
        refine V_X6_advance C (c_X6_advance l E hn (rs_TK hT) k hk rs_544 (by have := (of_decide_eq_true (Bool.and_eq_true_iff.mp h45).2).1; omega)) wM_RX5_34 (by decide) (dA DX5_readItem_0 24 rfl) rfl (Nat.le_of_ble_eq_true rfl) ?_
        rw [rs_k]
        refine J_aload_n C (dA DX5_readItem_0 25 rfl) rfl ?_
        refine J_iconst (v := nI 1) C (dA DX5_readItem_0 26 rfl) (by decide) ?_
        refine P_X1_rain C (by decide) wF_RX5_56 (dA DX5_readItem_0 27 rfl) ?_
        refine J_goto (tgt := 91) C (dA DX5_readItem_0 28 rfl) (by decide) ?_
        exact J_vret C G (dA DX5_readItem_0 42 rfl) ⟨rfl, by unfold pItem; rw [if_neg (fun z => by rw [decide_eq_true z] at h4; exact absurd h4 (by decide)), if_neg (fun z => by rw [z] at h21; exact absurd h21 (by decide)), if_pos (Bool.and_eq_true_iff.mp h45).2, rs_S hS.1 (by decide)]; rfl⟩
    · refine J_aload_n C (dA DX5_readItem_0 11 rfl) rfl ?_
      refine G_X5_tokens C wF_RX5_12 (dA DX5_readItem_0 12 rfl) ?_
      refine V_X6_advance C (c_X6_advance l E hn (rs_TK hT) k hk rs_544 (by have := (of_decide_eq_true (Bool.and_eq_true_iff.mp h21).2).1; omega)) wM_RX5_34 (by decide) (dA DX5_readItem_0 13 rfl) rfl (Nat.le_of_ble_eq_true rfl) ?_
      rw [rs_k]
      have hk1 := hW_s hn hk (Bool.and_eq_true_iff.mp h21).2
      refine J_aload_n C (dA DX5_readItem_0 14 rfl) rfl ?_
      refine J_aload_n C (dA DX5_readItem_0 15 rfl) rfl ?_
      refine V_X5_readPond C (c_X5_readPond l E hn hT (k + 1) hk1 hS) wM_RX5_53 (by decide) (dA DX5_readItem_0 16 rfl) rfl (Nat.le_of_ble_eq_true rfl) ?_
      refine J_goto (tgt := 91) C (dA DX5_readItem_0 17 rfl) (by decide) ?_
      exact J_vret C G (dA DX5_readItem_0 42 rfl) ⟨rfl, by unfold pItem; rw [if_neg (fun z => by rw [decide_eq_true z] at h4; exact absurd h4 (by decide)), if_pos (Bool.and_eq_true_iff.mp h21).2]⟩
  · refine J_aload_n C (dA DX5_readItem_0 3 rfl) rfl ?_
    refine J_aload_n C (dA DX5_readItem_0 4 rfl) rfl ?_
    have hkd := of_decide_eq_true (Bool.and_eq_true_iff.mp h4).2
    refine V_X5_readThing C (c_X5_readThing l E hn hT k hk hkd.1 hkd.2 hS) wM_RX5_47 (by decide) (dA DX5_readItem_0 5 rfl) rfl (Nat.le_of_ble_eq_true rfl) ?_
    refine J_goto (tgt := 91) C (dA DX5_readItem_0 6 rfl) (by decide) ?_
    exact J_vret C G (dA DX5_readItem_0 42 rfl) ⟨rfl, by unfold pItem; rw [if_pos (of_decide_eq_true (Bool.and_eq_true_iff.mp h4).2)]⟩
end PA
