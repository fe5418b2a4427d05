section PA
variable {M : jM} {g : Nat → Int32} {n : Nat}
set_option maxRecDepth 4000 in
theorem c_X5_read (l : Launch) (E : jE) (hn : n ≤ 120) (e0 : M 422 = nI n) (hg : ∀ j, j < n → M (423 + j) = g j) (hS : IS (vb (fb 1) M))  : K_X5_read l E [.ref (ja E 44), .ref (ja E 42), .ref (ja E (fo 1))] M (aText g n (pTx true g n (vb (fb 1) M))) (rdM g n (tkF g n (upd M 543 (-1))) (pTx true g n (vb (fb 1) M))) := by
  refine CT_intro (own := RX5) (by decide +kernel) rfl (by simp [Value.category]) (Nat.le_of_ble_eq_true rfl) rfl (fun X C G => ?_)
  show J E X 0 [some (.ref (ja E 44)), some (.ref (ja E 42)), some (.ref (ja E (fo 1))), none] [] M
  have hT : TK g n (tkF g n (upd M 543 (-1))) := tkF_TK hn
  have hS0 : vb (fb 1) (tkF g n (upd M 543 (-1))) = vb (fb 1) M := by
    have e : fb 1 = 134 := rfl
    funext j
    unfold vb
    split
    · rw [tkF_out hn (by omega), pk_un (by omega)]
    · rfl
  have h543 : (tkF g n (upd M 543 (-1))) 543 = -1 := by rw [tkF_out hn (by omega)]; exact pk_us
  have h544 : (tkF g n (upd M 543 (-1))) 544 = nI 0 := by unfold tkF; exact pk_us
  have hid : rs (tkF g n (upd M 543 (-1))) 0 (-1) (vb (fb 1) M) = (tkF g n (upd M 543 (-1))) := rs_id h543 h544 hS0
  obtain ⟨m, hm⟩ : ∃ m, m = (tkF g n (upd M 543 (-1))) := ⟨_, rfl⟩
  rw [← hm] at hT h543 h544 hid G
  have hSb : IS (vb (fb 1) M) := hS
  obtain ⟨f1, f2, f3⟩ := tx_inv (c := true) (g := g) hn hSb
  obtain ⟨RR, hRR⟩ : ∃ RR, pTx true g n (vb (fb 1) M) = RR := ⟨_, rfl⟩
  rw [hRR] at f1 f2 f3 G
  obtain ⟨⟨ok, kk, SS⟩, it⟩ := RR
  obtain ⟨fk, fC, fI⟩ := f2
  have hKK := (tK_p (g := g) hn).1
  have hBK := tB_le g n kk
  have last : J E X 51 [some (.ref (ja E 44)), some (.ref (ja E 42)), some (.ref (ja E (fo 1))), some (.int (nI it))] [] (psM g n m (ok, kk, SS)) := by
    have fk : kk ≤ tK g n := fk
    have f3 : ok = true → it ≤ kk := f3
    unfold psM
    cases ok with
    | true =>
      have hf : flq g n (true, kk, SS) = -1 := rfl
      rw [hf]
      have f3 := f3 rfl
      refine J_aload_n C (dA DX5_read_0 26 rfl) rfl ?_
      refine G_X5_tokens C wF_RX5_12 (dA DX5_read_0 27 rfl) ?_
      refine J_iconst (v := nI 0) C (dA DX5_read_0 28 rfl) (by decide) ?_
      refine V_X6_isSort C (c_X6_isSort l E hn (rs_TK hT) kk fk rs_544 0 (by decide)) wM_RX5_37 (by decide) (dA DX5_read_0 29 rfl) rfl (Nat.le_of_ble_eq_true rfl) ?_
      refine J_if_ne_b (tgt := 66) C (dA DX5_read_0 30 rfl) (by decide) (fun h59 => ?_) (fun h59 => ?_)
      · refine J_aload_n C (dA DX5_read_0 33 rfl) rfl ?_
        refine G_X5_fault C wF_RX5_18 (dA DX5_read_0 34 rfl) ?_
        rw [rs_543]
        refine J_if_lt (tgt := 82) C (dA DX5_read_0 35 rfl) (by decide) (fun h70 => ?_) (fun h70 => ?_)
        · refine J_iload_n C (dA DX5_read_0 41 rfl) rfl ?_
          have e : txOK g n ((true, kk, SS), it) = true := by show (true && decide (tS g n kk = 0)) = true; rw [h59]; rfl
          exact J_iret C G (dA DX5_read_0 42 rfl) ⟨oi (by unfold aText; rw [if_pos e]), by unfold rdM flF; rw [if_pos e]⟩
        · exact absurd (show (-1 : Int32) < 0 by decide) h70
      · refine J_aload_n C (dA DX5_read_0 31 rfl) rfl ?_
        refine V_X5_fail C (c_X5_fail0 l E hn (rs_TK hT) kk fk rs_544 rs_543) wM_RX5_41 (by decide) (dA DX5_read_0 32 rfl) rfl (Nat.le_of_ble_eq_true rfl) ?_
        rw [rs_f]
        refine J_aload_n C (dA DX5_read_0 33 rfl) rfl ?_
        refine G_X5_fault C wF_RX5_18 (dA DX5_read_0 34 rfl) ?_
        rw [rs_543]
        refine J_if_lt_n (tgt := 82) C (by omega) (dA DX5_read_0 35 rfl) (by decide) (fun h70 => ?_) (fun h70 => ?_)
        · exfalso; omega
        · refine J_iconst (v := (-1)) C (dA DX5_read_0 36 rfl) (by decide) ?_
          refine J_aload_n C (dA DX5_read_0 37 rfl) rfl ?_
          refine G_X5_fault C wF_RX5_18 (dA DX5_read_0 38 rfl) ?_
          rw [rs_543]
          refine J_isub C (dA DX5_read_0 39 rfl) ?_
          refine J_goto (tgt := 83) C (dA DX5_read_0 40 rfl) (by decide) ?_
          have e : ¬ txOK g n ((true, kk, SS), it) = true := by show ¬ (true && decide (tS g n kk = 0)) = true; rw [h59]; decide
          exact J_iret C G (dA DX5_read_0 42 rfl) ⟨oi (by unfold aText; rw [if_neg e]), by unfold rdM flF; rw [if_neg e]⟩
    | false =>
      have hf : flq g n (false, kk, SS) = nI (tB g n kk) := rfl
      rw [hf]
      refine J_aload_n C (dA DX5_read_0 26 rfl) rfl ?_
      refine G_X5_tokens C wF_RX5_12 (dA DX5_read_0 27 rfl) ?_
      refine J_iconst (v := nI 0) C (dA DX5_read_0 28 rfl) (by decide) ?_
      refine V_X6_isSort C (c_X6_isSort l E hn (rs_TK hT) kk fk rs_544 0 (by decide)) wM_RX5_37 (by decide) (dA DX5_read_0 29 rfl) rfl (Nat.le_of_ble_eq_true rfl) ?_
      refine J_if_ne_b (tgt := 66) C (dA DX5_read_0 30 rfl) (by decide) (fun h59 => ?_) (fun h59 => ?_)
      · refine J_aload_n C (dA DX5_read_0 33 rfl) rfl ?_
        refine G_X5_fault C wF_RX5_18 (dA DX5_read_0 34 rfl) ?_
        rw [rs_543]
        refine J_if_lt_n (tgt := 82) C (by omega) (dA DX5_read_0 35 rfl) (by decide) (fun h70 => ?_) (fun h70 => ?_)
        · exfalso; omega
        · refine J_iconst (v := (-1)) C (dA DX5_read_0 36 rfl) (by decide) ?_
          refine J_aload_n C (dA DX5_read_0 37 rfl) rfl ?_
          refine G_X5_fault C wF_RX5_18 (dA DX5_read_0 38 rfl) ?_
          rw [rs_543]
          refine J_isub C (dA DX5_read_0 39 rfl) ?_
          refine J_goto (tgt := 83) C (dA DX5_read_0 40 rfl) (by decide) ?_
          have e : ¬ txOK g n ((false, kk, SS), it) = true := fun z => ff z
          exact J_iret C G (dA DX5_read_0 42 rfl) ⟨oi (by unfold aText; rw [if_neg e]), by unfold rdM flF; rw [if_neg e]⟩
      · refine J_aload_n C (dA DX5_read_0 31 rfl) rfl ?_
        refine V_X5_fail C (c_X5_fail1 l E (nI (tB g n kk)) rs_543 (by rw [tI (by omega)]; omega)) wM_RX5_41 (by decide) (dA DX5_read_0 32 rfl) rfl (Nat.le_of_ble_eq_true rfl) ?_
        refine J_aload_n C (dA DX5_read_0 33 rfl) rfl ?_
        refine G_X5_fault C wF_RX5_18 (dA DX5_read_0 34 rfl) ?_
        rw [rs_543]
        refine J_if_lt_n (tgt := 82) C (by omega) (dA DX5_read_0 35 rfl) (by decide) (fun h70 => ?_) (fun h70 => ?_)
        · exfalso; omega
        · refine J_iconst (v := (-1)) C (dA DX5_read_0 36 rfl) (by decide) ?_
          refine J_aload_n C (dA DX5_read_0 37 rfl) rfl ?_
          refine G_X5_fault C wF_RX5_18 (dA DX5_read_0 38 rfl) ?_
          rw [rs_543]
          refine J_isub C (dA DX5_read_0 39 rfl) ?_
          refine J_goto (tgt := 83) C (dA DX5_read_0 40 rfl) (by decide) ?_
          have e : ¬ txOK g n ((false, kk, SS), it) = true := fun z => ff z
          exact J_iret C G (dA DX5_read_0 42 rfl) ⟨oi (by unfold aText; rw [if_neg e]), by unfold rdM flF; rw [if_neg e]⟩
  have loop : ∀ f i (q : pT), pRd true g n f i q = ((ok, kk, SS), it) → WQ g n q → (q.1 = true → i ≤ q.2.1 ∧ 121 ≤ f + q.2.1) → J E X 20 [some (.ref (ja E 44)), some (.ref (ja E 42)), some (.ref (ja E (fo 1))), some (.int (nI i))] [] (psM g n m q) := by
    intro f
    induction f with
    | zero =>
      intro i q hr hq h2
      have hqk := hq.1
      have hno : ¬ (q.1 = true ∧ tS g n q.2.1 = 3) := fun z => by
        have h3 := h2 z.1
        have := tk_s hn hqk (by rw [z.2]; decide)
        omega
      rw [rd_no hno] at hr
      obtain ⟨rfl, rfl⟩ := Prod.mk.inj hr
      unfold psM
      refine J_aload_n C (dA DX5_read_0 12 rfl) rfl ?_
      refine V_X5_hasSign C (c_X5_hasSign l E hn (rs_TK hT) kk hqk rs_544 (flq g n (ok, kk, SS)) rs_543) wM_RX5_30 (by decide) (dA DX5_read_0 13 rfl) rfl (Nat.le_of_ble_eq_true rfl) ?_
      rw [flq_lt hn]
      refine J_if_eq_b (tgt := 51) C (dA DX5_read_0 14 rfl) (by decide) (fun h24 => ?_) (fun h24 => ?_)
      · exact last
      · exact absurd ⟨(Bool.and_eq_true_iff.mp h24).1, of_decide_eq_true (Bool.and_eq_true_iff.mp h24).2⟩ hno
    | succ f ih =>
      intro i q hr hq h2
      have hqk := hq.1
      unfold psM
      refine J_aload_n C (dA DX5_read_0 12 rfl) rfl ?_
      refine V_X5_hasSign C (c_X5_hasSign l E hn (rs_TK hT) q.2.1 hqk rs_544 (flq g n q) rs_543) wM_RX5_30 (by decide) (dA DX5_read_0 13 rfl) rfl (Nat.le_of_ble_eq_true rfl) ?_
      rw [flq_lt hn]
      refine J_if_eq_b (tgt := 51) C (dA DX5_read_0 14 rfl) (by decide) (fun h24 => ?_) (fun h24 => ?_)
      · have hno : ¬ (q.1 = true ∧ tS g n q.2.1 = 3) := fun z => by rw [z.1, decide_eq_true z.2] at h24; exact absurd h24 (by decide)
        rw [rd_no hno] at hr
        obtain ⟨rfl, rfl⟩ := Prod.mk.inj hr
        exact last
      · rw [Bool.and_eq_true, decide_eq_true_iff] at h24
        have hk1 := tk_s hn hqk (by rw [h24.2]; decide)
        obtain ⟨h3, h4⟩ := h2 h24.1
        have hr : pRd true g n f (i + 1) (pItem true g n (q.2.1 + 1) q.2.2) = ((ok, kk, SS), it) := by rw [← hr]; show _ = (if q.1 = true ∧ tS g n q.2.1 = 3 then _ else _); rw [if_pos h24]
        have hf : flq g n q = -1 := by unfold flq; rw [if_pos h24.1]
        refine J_iload_n C (dA DX5_read_0 15 rfl) rfl ?_
        refine J_bipush (v := nI 120) C (dA DX5_read_0 16 rfl) (by decide) ?_
        refine J_icmp_gt_n (tgt := 51) C (by omega) (by decide) (dA DX5_read_0 17 rfl) (by decide) (fun h30 => ?_) (fun h30 => ?_)
        · exfalso; omega
        · refine J_aload_n C (dA DX5_read_0 18 rfl) rfl ?_
          refine G_X5_tokens C wF_RX5_12 (dA DX5_read_0 19 rfl) ?_
          refine V_X6_advance C (c_X6_advance l E hn (rs_TK hT) q.2.1 hqk rs_544 (by rw [h24.2]; decide)) wM_RX5_34 (by decide) (dA DX5_read_0 20 rfl) rfl (Nat.le_of_ble_eq_true rfl) ?_
          rw [rs_k, hf]
          refine J_aload_n C (dA DX5_read_0 21 rfl) rfl ?_
          refine J_aload_n C (dA DX5_read_0 22 rfl) rfl ?_
          refine V_X5_readItem C (c_X5_readItem l E hn hT (q.2.1 + 1) hk1 (hq.2.2 h24.1)) wM_RX5_26 (by decide) (dA DX5_read_0 23 rfl) rfl (Nat.le_of_ble_eq_true rfl) ?_
          first | refine J_inc1_3_4 C (dA DX5_read_0 24 rfl) rfl ?_ | refine J_iinc_3_4 C (dA DX5_read_0 24 rfl) rfl ?_
          refine J_goto (tgt := 20) C (dA DX5_read_0 25 rfl) (by decide) ?_
          exact ih (i + 1) _ hr (WQ_item hn hk1 (hq.2.2 h24.1)) (fun z => by have := item_k hn hk1 z; omega)
  refine J_aload_n C (dA DX5_read_0 0 rfl) rfl ?_
  refine J_iconst (v := (-1)) C (dA DX5_read_0 1 rfl) (by decide) ?_
  refine P_X5_fault C wF_RX5_18 (dA DX5_read_0 2 rfl) ?_
  refine J_aload_n C (dA DX5_read_0 3 rfl) rfl ?_
  refine G_X5_tokens C wF_RX5_12 (dA DX5_read_0 4 rfl) ?_
  refine J_aload_n C (dA DX5_read_0 5 rfl) rfl ?_
  refine V_X6_take C (c_X6_take l E g n hn (by rw [pk_un (by decide)]; exact e0) (fun j hj => by rw [pk_un (by omega)]; exact hg j hj)) wM_RX5_22 (by decide) (dA DX5_read_0 6 rfl) rfl (Nat.le_of_ble_eq_true rfl) ?_
  rw [← hm, ← hid]
  refine J_aload_n C (dA DX5_read_0 7 rfl) rfl ?_
  refine J_aload_n C (dA DX5_read_0 8 rfl) rfl ?_
  refine V_X5_readItem C (c_X5_readItem l E hn hT 0 (Nat.zero_le _) hSb) wM_RX5_26 (by decide) (dA DX5_read_0 9 rfl) rfl (Nat.le_of_ble_eq_true rfl) ?_
  refine J_iconst (v := nI 1) C (dA DX5_read_0 10 rfl) (by decide) ?_
  refine J_ist_3_4 C (dA DX5_read_0 11 rfl) rfl ?_
  exact loop 121 1 _ hRR (WQ_item hn (Nat.zero_le _) hSb) (fun z => by have := item_k hn (Nat.zero_le _) z; omega)
def m7T (g : Nat → Int32) (n : Nat) (M : jM) : jM := rdM g n (tkF g n (upd (lay (fb 1) M (vb (fb 0) M)) 543 (-1))) (pTx true g n (vb (fb 0) M))
def e7T (g : Nat → Int32) (n : Nat) (M : jM) : jM := upd (if txOK g n (pTx true g n (vb (fb 0) M)) = true then lay (fb 0) (m7T g n M) (pTx true g n (vb (fb 0) M)).1.2.2 else m7T g n M) 422 (nI 0)
theorem ng : ∀ b : Nat, b ≤ 120 → ¬ (0 : Int32) < -1 - nI b := by
  intro b hb z
  rw [Int32.lt_iff_toInt_lt] at z
  have : ∀ b : Nat, b < 121 → ¬ (0 : Int32).toInt < (-1 - nI b).toInt := by decide +kernel
  exact this b (by omega) z
set_option maxRecDepth 4000 in
theorem c_X7_text (l : Launch) (E : jE) (hn : n ≤ 120) (e0 : M 422 = nI n) (hg : ∀ j, j < n → M (423 + j) = g j) (hS : IS (vb (fb 0) M))  : K_X7_text l E [.ref (ja E 59)] M (aText g n (pTx true g n (vb (fb 0) M))) (e7T g n M) := by
  refine CT_intro (own := RX7) (by decide +kernel) rfl (by simp [Value.category]) (Nat.le_of_ble_eq_true rfl) rfl (fun X C G => ?_)
  show J E X 0 [some (.ref (ja E 59)), none] [] M
  have hv1 : vb (fb 1) (lay (fb 1) M (vb (fb 0) M)) = vb (fb 0) M := vb_lay (Can_vb _ _)
  have e422 : (lay (fb 1) M (vb (fb 0) M)) 422 = nI n := by
    have e : fb 1 = 134 := rfl
    rw [lay_out (by omega)]; exact e0
  have hg1 : ∀ j, j < n → (lay (fb 1) M (vb (fb 0) M)) (423 + j) = g j := fun j hj => by
    have e : fb 1 = 134 := rfl
    rw [lay_out (by omega)]; exact hg j hj
  obtain ⟨f1, f2, f3⟩ := tx_inv (c := true) (g := g) hn hS
  have hKK := (tK_p (g := g) hn).1
  have hBK := tB_le g n (pTx true g n (vb (fb 0) M)).1.2.1
  have hvm : vb (fb 1) (m7T g n M) = (pTx true g n (vb (fb 0) M)).1.2.2 := rs_vb f2.2.1
  have hm7 : rdM g n (tkF g n (upd (lay (fb 1) M (vb (fb 0) M)) 543 (-1))) (pTx true g n (vb (fb 0) M)) = m7T g n M := rfl
  refine J_aload_n C (dA DX7_text_0 0 rfl) rfl ?_
  refine G_X7_draft C wF_RX7_16 (dA DX7_text_0 1 rfl) ?_
  refine J_aload_n C (dA DX7_text_0 2 rfl) rfl ?_
  refine G_X7_fen C wF_RX7_12 (dA DX7_text_0 3 rfl) ?_
  refine V_X1_become C (by decide) (c_X1_become l E 1 (by decide) 0 (by decide) (by decide)) wM_RX7_179 (by decide) (dA DX7_text_0 4 rfl) rfl (Nat.le_of_ble_eq_true rfl) ?_
  refine J_aload_n C (dA DX7_text_0 5 rfl) rfl ?_
  refine G_X7_reader C wF_RX7_50 (dA DX7_text_0 6 rfl) ?_
  refine J_aload_n C (dA DX7_text_0 7 rfl) rfl ?_
  refine G_X7_tape C wF_RX7_43 (dA DX7_text_0 8 rfl) ?_
  refine J_aload_n C (dA DX7_text_0 9 rfl) rfl ?_
  refine G_X7_draft C wF_RX7_16 (dA DX7_text_0 10 rfl) ?_
  refine V_X5_read C (c_X5_read (g := g) (n := n) l E hn e422 hg1 (by rw [hv1]; exact hS)) wM_RX7_239 (by decide) (dA DX7_text_0 11 rfl) rfl (Nat.le_of_ble_eq_true rfl) ?_
  rw [hv1, hm7]
  refine J_ist_1_2 C (dA DX7_text_0 12 rfl) rfl ?_
  refine J_iload_n C (dA DX7_text_0 13 rfl) rfl ?_
  refine J_if_le (tgt := 42) C (dA DX7_text_0 14 rfl) (by decide) (fun h28 => ?_) (fun h28 => ?_)
  · have ht : ¬ txOK g n (pTx true g n (vb (fb 0) M)) = true := fun z => by
      unfold aText at h28
      rw [if_pos z] at h28
      have h3 := f3 (Bool.and_eq_true_iff.mp z).1
      have h4 := f2.1
      exact absurd h28 (nI_nle (by omega) (by omega))
    refine J_aload_n C (dA DX7_text_0 20 rfl) rfl ?_
    refine G_X7_tape C wF_RX7_43 (dA DX7_text_0 21 rfl) ?_
    refine J_iconst (v := nI 0) C (dA DX7_text_0 22 rfl) (by decide) ?_
    refine P_X4_length C wF_RX7_233 (dA DX7_text_0 23 rfl) ?_
    refine J_iload_n C (dA DX7_text_0 24 rfl) rfl ?_
    exact J_iret C G (dA DX7_text_0 25 rfl) ⟨rfl, by unfold e7T; rw [if_neg ht]⟩
  · have ht : txOK g n (pTx true g n (vb (fb 0) M)) = true := Classical.byContradiction (fun z => by
      unfold aText at h28
      rw [if_neg z] at h28
      exact h28 (Int32.not_lt.mp (ng _ (by omega))))
    refine J_aload_n C (dA DX7_text_0 15 rfl) rfl ?_
    refine G_X7_fen C wF_RX7_12 (dA DX7_text_0 16 rfl) ?_
    refine J_aload_n C (dA DX7_text_0 17 rfl) rfl ?_
    refine G_X7_draft C wF_RX7_16 (dA DX7_text_0 18 rfl) ?_
    refine V_X1_become C (by decide) (c_X1_become l E 0 (by decide) 1 (by decide) (by decide)) wM_RX7_179 (by decide) (dA DX7_text_0 19 rfl) rfl (Nat.le_of_ble_eq_true rfl) ?_
    rw [hvm]
    refine J_aload_n C (dA DX7_text_0 20 rfl) rfl ?_
    refine G_X7_tape C wF_RX7_43 (dA DX7_text_0 21 rfl) ?_
    refine J_iconst (v := nI 0) C (dA DX7_text_0 22 rfl) (by decide) ?_
    refine P_X4_length C wF_RX7_233 (dA DX7_text_0 23 rfl) ?_
    refine J_iload_n C (dA DX7_text_0 24 rfl) rfl ?_
    exact J_iret C G (dA DX7_text_0 25 rfl) ⟨rfl, by unfold e7T; rw [if_pos ht]⟩
end PA
