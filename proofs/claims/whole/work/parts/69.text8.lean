def m8T (M : jM) : jM := upd (asd M) 1861 (nI 0)
def e8T (g : Nat → Int32) (n : Nat) (M : jM) : jM := if txOK g n (pTx false g n (vb 1100 M)) = true then upd (rr g n (m8T M) (pTx false g n (vb 1100 M)).1.2.1 (pTx false g n (vb 1100 M)).1.2.2) 1858 (nI 0) else lay 1100 (upd (rr g n (m8T M) (pTx false g n (vb 1100 M)).1.2.1 (pTx false g n (vb 1100 M)).1.2.2) 1858 (nI 0)) (vb 1100 M)
section PA
variable {M : jM} {g : Nat → Int32} {n : Nat}
set_option maxRecDepth 4000 in
theorem c_X8_text (l : Launch) (E : jE) (hn : n ≤ 120) (e0 : M 1858 = nI n) (hg : ∀ j, j < n → M (1525 + j) = g j) (hL : LT M) (hS : IS (vb 1100 M))  : K_X8_text l E [.ref (ja E 60)] M (aText g n (pTx false g n (vb 1100 M))) (e8T g n M) := by
  refine CT_intro (own := RX8) (by decide +kernel) rfl (by simp [Value.category]) (Nat.le_of_ble_eq_true rfl) rfl (fun X C G => ?_)
  show J E X 0 [some (.ref (ja E 60)), none, none] [] M
  have ho : ∀ a, (a < 1368 ∨ 1502 ≤ a) → a ≠ 1861 → m8T M a = M a := fun a h h2 => by
    unfold m8T
    rw [pk_un h2]
    exact lay_out (by omega)
  have hB : RB g n (m8T M) := ⟨hn, by rw [ho _ (by omega) (by omega)]; exact e0, fun j hj => by rw [ho _ (by omega) (by omega)]; exact hg j hj, fun i hi => by rw [ho _ (by omega) (by omega)]; exact hL i hi⟩
  have hv0 : vb 1100 (m8T M) = vb 1100 M := by
    unfold m8T
    rw [vb_upd_ne (by omega)]
    exact vb_lay_ne (by omega)
  have hv2 : ∀ k S, vb 1368 (upd (rr g n (m8T M) k S) 1858 (nI 0)) = vb 1100 M := fun k S => by
    rw [vb_upd_ne (by omega)]
    have : vb 1368 (rr g n (m8T M) k S) = vb 1368 (m8T M) := by
      funext j
      unfold vb
      split
      · rw [rr_o (by omega)]
      · rfl
    rw [this]
    unfold m8T
    rw [vb_upd_ne (by omega)]
    exact vb_lay (Can_vb _ _)
  have hsta : K_X8_nextToken l E [.ref (ja E 60)] (m8T M) (rr g n (m8T M) 0 (vb 1100 M)) := by
    have h := c_X8_nextToken (M := m8T M) l E g n 0 hn (Nat.zero_le _) hB.2.1 pk_us hB.2.2.1
    have e : lay 1100 (m8T M) (vb 1100 M) = m8T M := by rw [← hv0]; exact lay_vb
    unfold rr
    rw [e]
    exact h
  obtain ⟨f1, f2, f3⟩ := tx_inv (c := false) (g := g) hn hS
  obtain ⟨RR, hRR⟩ : ∃ RR, pTx false g n (vb 1100 M) = RR := ⟨_, rfl⟩
  rw [hRR] at f1 f2 f3 G
  have hE8 : e8T g n M = if txOK g n RR = true then upd (rr g n (m8T M) RR.1.2.1 RR.1.2.2) 1858 (nI 0) else lay 1100 (upd (rr g n (m8T M) RR.1.2.1 RR.1.2.2) 1858 (nI 0)) (vb 1100 M) := by unfold e8T; rw [hRR]
  rw [hE8] at G
  obtain ⟨⟨ok, kk, SS⟩, it⟩ := RR
  have hrl := rS_le g n (tB g n kk)
  have hKK := (tK_p (g := g) hn).1
  have f2k : kk ≤ tK g n := f2.1
  have last : J E X 47 [some (.ref (ja E 60)), some (.int (nI it)), some (.int (jb ok))] [] (rr g n (m8T M) kk SS) := by
    cases ok with
    | true =>
      refine J_iload_n C (dA DX8_text_0 25 rfl) rfl ?_
      refine J_if_eq_b (tgt := 62) C (dA DX8_text_0 26 rfl) (by decide) (fun h48 => ?_) (fun h48 => ?_)
      · exact absurd h48 (by decide)
      · refine J_aload_n C (dA DX8_text_0 27 rfl) rfl ?_
        refine G_X8_token C wF_RX8_216 (dA DX8_text_0 28 rfl) ?_
        rw [show (rr g n (m8T M) kk SS) 1859 = nI (rSS g n (tB g n kk)) from t5_t]
        refine J_if_ne_n (tgt := 62) C (by omega) (dA DX8_text_0 29 rfl) (by decide) (fun h55 => ?_) (fun h55 => ?_)
        · refine J_iconst (v := nI 0) C (dA DX8_text_0 32 rfl) (by decide) ?_
          refine J_ist_2_3 C (dA DX8_text_0 33 rfl) rfl ?_
          refine J_aload_n C (dA DX8_text_0 34 rfl) rfl ?_
          refine J_iconst (v := nI 0) C (dA DX8_text_0 35 rfl) (by decide) ?_
          refine P_X8_taped C wF_RX8_203 (dA DX8_text_0 36 rfl) ?_
          refine J_iload_n C (dA DX8_text_0 37 rfl) rfl ?_
          refine J_if_ne_n (tgt := 84) C (by decide) (dA DX8_text_0 38 rfl) (by decide) (fun h70 => ?_) (fun h70 => ?_)
          · exact absurd rfl h70
          · refine J_aload_n C (dA DX8_text_0 39 rfl) rfl ?_
            refine V_X8_laysBack C (c_X8_laysBack l E) wM_RX8_168 (by decide) (dA DX8_text_0 40 rfl) rfl (Nat.le_of_ble_eq_true rfl) ?_
            rw [hv2]
            refine J_iconst (v := (-1)) C (dA DX8_text_0 41 rfl) (by decide) ?_
            refine J_aload_n C (dA DX8_text_0 42 rfl) rfl ?_
            refine G_X8_begun C wF_RX8_209 (dA DX8_text_0 43 rfl) ?_
            rw [show (lay 1100 (upd (rr g n (m8T M) kk SS) 1858 (nI 0)) (vb 1100 M)) 1860 = nI (tB g n kk) by
              rw [lay_out (by omega), pk_un (by decide)]
              exact t5_b]
            refine J_isub C (dA DX8_text_0 44 rfl) ?_
            have e : ¬ txOK g n ((true, kk, SS), it) = true := fun z => h55 (rS_0.mpr (of_decide_eq_true (Bool.and_eq_true_iff.mp z).2))
            exact J_iret C G (dA DX8_text_0 45 rfl) ⟨oi (by unfold aText; rw [if_neg e]), by rw [if_neg e]⟩
        · refine J_iconst (v := nI 1) C (dA DX8_text_0 30 rfl) (by decide) ?_
          refine J_goto (tgt := 63) C (dA DX8_text_0 31 rfl) (by decide) ?_
          refine J_ist_2_3 C (dA DX8_text_0 33 rfl) rfl ?_
          refine J_aload_n C (dA DX8_text_0 34 rfl) rfl ?_
          refine J_iconst (v := nI 0) C (dA DX8_text_0 35 rfl) (by decide) ?_
          refine P_X8_taped C wF_RX8_203 (dA DX8_text_0 36 rfl) ?_
          refine J_iload_n C (dA DX8_text_0 37 rfl) rfl ?_
          refine J_if_ne_n (tgt := 84) C (by decide) (dA DX8_text_0 38 rfl) (by decide) (fun h70 => ?_) (fun h70 => ?_)
          · refine J_iload_n C (dA DX8_text_0 46 rfl) rfl ?_
            have e : txOK g n ((true, kk, SS), it) = true := by
              show (true && decide (tS g n kk = 0)) = true
              rw [decide_eq_true (show tS g n kk = 0 from rS_0.mp h55)]; rfl
            exact J_iret C G (dA DX8_text_0 47 rfl) ⟨oi (by unfold aText; rw [if_pos e]), by rw [if_pos e]⟩
          · exact absurd h70 (by decide)
    | false =>
      refine J_iload_n C (dA DX8_text_0 25 rfl) rfl ?_
      refine J_if_eq_b (tgt := 62) C (dA DX8_text_0 26 rfl) (by decide) (fun h48 => ?_) (fun h48 => ?_)
      · refine J_iconst (v := nI 0) C (dA DX8_text_0 32 rfl) (by decide) ?_
        refine J_ist_2_3 C (dA DX8_text_0 33 rfl) rfl ?_
        refine J_aload_n C (dA DX8_text_0 34 rfl) rfl ?_
        refine J_iconst (v := nI 0) C (dA DX8_text_0 35 rfl) (by decide) ?_
        refine P_X8_taped C wF_RX8_203 (dA DX8_text_0 36 rfl) ?_
        refine J_iload_n C (dA DX8_text_0 37 rfl) rfl ?_
        refine J_if_ne_n (tgt := 84) C (by decide) (dA DX8_text_0 38 rfl) (by decide) (fun h70 => ?_) (fun h70 => ?_)
        · exact absurd rfl h70
        · refine J_aload_n C (dA DX8_text_0 39 rfl) rfl ?_
          refine V_X8_laysBack C (c_X8_laysBack l E) wM_RX8_168 (by decide) (dA DX8_text_0 40 rfl) rfl (Nat.le_of_ble_eq_true rfl) ?_
          rw [hv2]
          refine J_iconst (v := (-1)) C (dA DX8_text_0 41 rfl) (by decide) ?_
          refine J_aload_n C (dA DX8_text_0 42 rfl) rfl ?_
          refine G_X8_begun C wF_RX8_209 (dA DX8_text_0 43 rfl) ?_
          rw [show (lay 1100 (upd (rr g n (m8T M) kk SS) 1858 (nI 0)) (vb 1100 M)) 1860 = nI (tB g n kk) by
            rw [lay_out (by omega), pk_un (by decide)]
            exact t5_b]
          refine J_isub C (dA DX8_text_0 44 rfl) ?_
          have e : ¬ txOK g n ((false, kk, SS), it) = true := fun z => ff z
          exact J_iret C G (dA DX8_text_0 45 rfl) ⟨oi (by unfold aText; rw [if_neg e]), by rw [if_neg e]⟩
      · exact absurd h48 (by decide)
  have loop : ∀ f i (q : pT), pRd false g n f i q = ((ok, kk, SS), it) → WQ g n q → (q.1 = true → i ≤ q.2.1 ∧ 121 ≤ f + q.2.1) → J E X 20 [some (.ref (ja E 60)), some (.int (nI i)), some (.int (jb q.1))] [] (rr g n (m8T M) q.2.1 q.2.2) := by
    intro f
    induction f with
    | zero =>
      intro i q hr hq h2
      have hqk := hq.1
      have hrq := rS_le g n (tB g n q.2.1)
      have hno : ¬ (q.1 = true ∧ tS g n q.2.1 = 3) := fun z => by
        have h3 := h2 z.1
        have := tk_s hn hqk (by rw [z.2]; decide)
        omega
      rw [rd_no hno] at hr
      obtain ⟨rfl, rfl⟩ := Prod.mk.inj hr
      refine J_iload_n C (dA DX8_text_0 12 rfl) rfl ?_
      refine J_if_eq_b (tgt := 47) C (dA DX8_text_0 13 rfl) (by decide) (fun h21 => ?_) (fun h21 => ?_)
      · exact last
      · refine J_aload_n C (dA DX8_text_0 14 rfl) rfl ?_
        refine G_X8_token C wF_RX8_216 (dA DX8_text_0 15 rfl) ?_
        rw [show (rr g n (m8T M) (ok, kk, SS).2.1 (ok, kk, SS).2.2) 1859 = nI (rSS g n (tB g n (ok, kk, SS).2.1)) from t5_t]
        refine J_iconst (v := nI 3) C (dA DX8_text_0 16 rfl) (by decide) ?_
        refine J_icmp_ne_n (tgt := 47) C (by omega) (by decide) (dA DX8_text_0 17 rfl) (by decide) (fun h29 => ?_) (fun h29 => ?_)
        · exact last
        · exact absurd ⟨h21, rS_3.mp h29⟩ hno
    | succ f ih =>
      intro i q hr hq h2
      have hqk := hq.1
      have hrq := rS_le g n (tB g n q.2.1)
      refine J_iload_n C (dA DX8_text_0 12 rfl) rfl ?_
      refine J_if_eq_b (tgt := 47) C (dA DX8_text_0 13 rfl) (by decide) (fun h21 => ?_) (fun h21 => ?_)
      · have hno : ¬ (q.1 = true ∧ tS g n q.2.1 = 3) := fun z => by rw [h21] at z; exact ff z.1
        rw [rd_no hno] at hr
        obtain ⟨rfl, rfl⟩ := Prod.mk.inj hr
        exact last
      · refine J_aload_n C (dA DX8_text_0 14 rfl) rfl ?_
        refine G_X8_token C wF_RX8_216 (dA DX8_text_0 15 rfl) ?_
        rw [show (rr g n (m8T M) q.2.1 q.2.2) 1859 = nI (rSS g n (tB g n q.2.1)) from t5_t]
        refine J_iconst (v := nI 3) C (dA DX8_text_0 16 rfl) (by decide) ?_
        refine J_icmp_ne_n (tgt := 47) C (by omega) (by decide) (dA DX8_text_0 17 rfl) (by decide) (fun h29 => ?_) (fun h29 => ?_)
        · have hno : ¬ (q.1 = true ∧ tS g n q.2.1 = 3) := fun z => by exact h29 (rS_3.mpr z.2)
          rw [rd_no hno] at hr
          obtain ⟨rfl, rfl⟩ := Prod.mk.inj hr
          exact last
        · have h24 : q.1 = true ∧ tS g n q.2.1 = 3 := ⟨h21, rS_3.mp h29⟩
          have hk1 := tk_s hn hqk (by rw [h24.2]; decide)
          obtain ⟨h3, h4⟩ := h2 h24.1
          have hr : pRd false g n f (i + 1) (pItem false g n (q.2.1 + 1) q.2.2) = ((ok, kk, SS), it) := by rw [← hr]; show _ = (if q.1 = true ∧ tS g n q.2.1 = 3 then _ else _); rw [if_pos h24]
          refine J_aload_n C (dA DX8_text_0 18 rfl) rfl ?_
          refine V_X8_nextToken C (c_nt l E hB q.2.1) wM_RX8_237 (by decide) (dA DX8_text_0 19 rfl) rfl (Nat.le_of_ble_eq_true rfl) ?_
          refine J_aload_n C (dA DX8_text_0 20 rfl) rfl ?_
          refine V_X8_readsItem C (c_X8_readsItem l E hB (q.2.1 + 1) hk1 (hq.2.2 h24.1)) wM_RX8_254 (by decide) (dA DX8_text_0 21 rfl) rfl (Nat.le_of_ble_eq_true rfl) ?_
          refine J_ist_2_3 C (dA DX8_text_0 22 rfl) rfl ?_
          first | refine J_inc1_1_3 C (dA DX8_text_0 23 rfl) rfl ?_ | refine J_iinc_1_3 C (dA DX8_text_0 23 rfl) rfl ?_
          refine J_goto (tgt := 20) C (dA DX8_text_0 24 rfl) (by decide) ?_
          exact ih (i + 1) _ hr (WQ_item hn hk1 (hq.2.2 h24.1)) (fun z => by have := item_k hn hk1 z; omega)
  refine J_aload_n C (dA DX8_text_0 0 rfl) rfl ?_
  refine V_X8_setsAside C (c_X8_setsAside l E) wM_RX8_165 (by decide) (dA DX8_text_0 1 rfl) rfl (Nat.le_of_ble_eq_true rfl) ?_
  refine J_aload_n C (dA DX8_text_0 2 rfl) rfl ?_
  refine J_iconst (v := nI 0) C (dA DX8_text_0 3 rfl) (by decide) ?_
  refine P_X8_ended C wF_RX8_206 (dA DX8_text_0 4 rfl) ?_
  rw [show upd (lay 1368 M (vb 1100 M)) 1861 (nI 0) = m8T M from rfl]
  refine J_aload_n C (dA DX8_text_0 5 rfl) rfl ?_
  refine V_X8_nextToken C hsta wM_RX8_237 (by decide) (dA DX8_text_0 6 rfl) rfl (Nat.le_of_ble_eq_true rfl) ?_
  refine J_iconst (v := nI 1) C (dA DX8_text_0 7 rfl) (by decide) ?_
  refine J_ist_1_3 C (dA DX8_text_0 8 rfl) rfl ?_
  refine J_aload_n C (dA DX8_text_0 9 rfl) rfl ?_
  refine V_X8_readsItem C (c_X8_readsItem l E hB 0 (Nat.zero_le _) hS) wM_RX8_254 (by decide) (dA DX8_text_0 10 rfl) rfl (Nat.le_of_ble_eq_true rfl) ?_
  refine J_ist_2_3 C (dA DX8_text_0 11 rfl) rfl ?_
  exact loop 121 1 _ hRR (WQ_item hn (Nat.zero_le _) hS) (fun z => by have := item_k hn (Nat.zero_le _) z; omega)
end PA
