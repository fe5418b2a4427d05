def aHold (S : Nat → Int32) (a b : Int32) : Int32 := if inr a 0 9 = true ∧ (b = -1 ∨ inr b 0 ((iN S : Int) - 1) = true) then nI 1 else fi 0
def eHold (B F : Nat) (a b : Int32) (M : jM) : jM := if inr a 0 9 = true ∧ (b = -1 ∨ inr b 0 ((iN (vb B M) : Int) - 1) = true) then lay B M (upd (vb B M) (124 + nv a) b) else Fl F 0 M
def aAs (S : Nat → Int32) (a b : Int32) : Int32 := if inr a 0 9 = true ∧ inr b 0 6 = true then (if S (124 + nv a) = -1 then fi 5 else if kindS (nv b) (f3 S (nv (S (124 + nv a))) 0) = true then S (124 + nv a) else fi 2) else fi 0
def eAs (S : Nat → Int32) (F : Nat) (a b : Int32) (M : jM) : jM := if inr a 0 9 = true ∧ inr b 0 6 = true then (if S (124 + nv a) = -1 then Fl F 5 M else if kindS (nv b) (f3 S (nv (S (124 + nv a))) 0) = true then M else Fl F 2 M) else Fl F 0 M
def sumI : Nat → (Nat → Int32) → Int32
  | 0, _ => nI 0
  | n + 1, f => sumI n f + f n
def aStat (f : Nat → Int32) (a : Int32) : Int32 := if inr a (-1) 6 = true then (if a = -1 then sumI 7 f else f (nv a)) else fi 0
def eStat (F : Nat) (a : Int32) (M : jM) : jM := if inr a (-1) 6 = true then M else Fl F 0 M
theorem i_add0 (x : Int32) : x + nI 0 = x := Int32.add_zero x
theorem i_0add (x : Int32) : nI 0 + x = x := Int32.zero_add x
theorem sumI_cong {n : Nat} {f g : Nat → Int32} (h : ∀ k, k < n → f k = g k) : sumI n f = sumI n g := by
  induction n with
  | zero => rfl
  | succ n ih => simp only [sumI]; rw [ih (fun k hk => h k (by omega)), h n (by omega)]
theorem sumI_0 : ∀ {n : Nat} {f : Nat → Int32}, (∀ k, k < n → f k = nI 0) → sumI n f = nI 0
  | 0, _, _ => rfl
  | n + 1, f, h => by simp only [sumI]; rw [sumI_0 (fun k hk => h k (by omega)), h n (by omega)]; rfl
theorem sumI_1 {f : Nat → Int32} {j : Nat} : ∀ {n : Nat}, j < n → sumI n (fun k => if k = j then f k else nI 0) = f j
  | 0, h => by omega
  | n + 1, h => by
    simp only [sumI]
    by_cases e : n = j
    · subst e
      rw [if_pos rfl, sumI_0 (fun k hk => if_neg (by omega)), i_0add]
    · rw [if_neg e, sumI_1 (by omega), i_add0]
def abv (k : Nat) : Nat := if k = 3 then 2 else if k = 4 then 3 else if k = 6 then 1 else 0
def rnk (k : Nat) : Nat := if k = 0 then 0 else if k = 4 then 3 else if k = 3 then 2 else if k = 6 then 2 else 1
theorem abv_ok : ∀ k, k < 7 → abv k < 7 ∧ (k ≠ 0 → rnk (abv k) < rnk k) := by decide +kernel
theorem kind_up : ∀ d, d < 7 → ∀ k, k < 7 → kindS d k = (decide (k = d) || (!decide (k = 0) && kindS d (abv k))) := by decide +kernel
section PA
variable {M : jM}
set_option maxRecDepth 4000 in
theorem c_X7_seed (l : Launch) (E : jE) (a : Int32)  : K_X7_seed l E [.ref (ja E 59), .int a] M (M (fb 0 + 2)) (lay (fb 0) M (upd (vb (fb 0) M) 2 a)) := by
  refine CT_intro (own := RX7) (by decide +kernel) rfl (by simp [Value.category]) (Nat.le_of_ble_eq_true rfl) rfl (fun X C G => ?_)
  show J E X 0 [some (.ref (ja E 59)), some (.int a), none] [] M
  refine J_aload_n C (dA DX7_seed_0 0 rfl) rfl ?_
  refine G_X7_fen C wF_RX7_12 (dA DX7_seed_0 1 rfl) ?_
  refine G_X1_z C (by decide) wF_RX7_230 (dA DX7_seed_0 2 rfl) ?_
  refine J_ist_2_3 C (dA DX7_seed_0 3 rfl) rfl ?_
  refine J_aload_n C (dA DX7_seed_0 4 rfl) rfl ?_
  refine G_X7_fen C wF_RX7_12 (dA DX7_seed_0 5 rfl) ?_
  refine J_iload_n C (dA DX7_seed_0 6 rfl) rfl ?_
  refine P_X1_z C (by decide) wF_RX7_230 (dA DX7_seed_0 7 rfl) ?_
  refine J_iload_n C (dA DX7_seed_0 8 rfl) rfl ?_
  exact J_iret C G (dA DX7_seed_0 9 rfl) ⟨rfl, lay_upd (by decide)⟩
set_option maxRecDepth 4000 in
theorem c_X8_seed (l : Launch) (E : jE) (a : Int32)  : K_X8_seed l E [.ref (ja E 60), .int a] M (M (1100 + 2)) (lay 1100 M (upd (vb 1100 M) 2 a)) := by
  refine CT_intro (own := RX8) (by decide +kernel) rfl (by simp [Value.category]) (Nat.le_of_ble_eq_true rfl) rfl (fun X C G => ?_)
  show J E X 0 [some (.ref (ja E 60)), some (.int a), none] [] M
  refine J_aload_n C (dA DX8_seed_0 0 rfl) rfl ?_
  refine G_X8_s C wF_RX8_9 (dA DX8_seed_0 1 rfl) ?_
  refine J_iconst (v := nI 2) C (dA DX8_seed_0 2 rfl) (by decide) ?_
  refine R_1 C (hk := rfl) rfl (by omega) (dA DX8_seed_0 3 rfl) ?_
  refine J_ist_2_3 C (dA DX8_seed_0 4 rfl) rfl ?_
  refine J_aload_n C (dA DX8_seed_0 5 rfl) rfl ?_
  refine G_X8_s C wF_RX8_9 (dA DX8_seed_0 6 rfl) ?_
  refine J_iconst (v := nI 2) C (dA DX8_seed_0 7 rfl) (by decide) ?_
  refine J_iload_n C (dA DX8_seed_0 8 rfl) rfl ?_
  refine S_1 C (hk := rfl) rfl (by omega) (dA DX8_seed_0 9 rfl) ?_
  refine J_iload_n C (dA DX8_seed_0 10 rfl) rfl ?_
  exact J_iret C G (dA DX8_seed_0 11 rfl) ⟨rfl, lay_upd (b := 1100) (j := 2) (by decide)⟩
set_option maxRecDepth 4000 in
theorem c_X7_wipe (l : Launch) (E : jE)  : K_X7_wipe l E [.ref (ja E 59)] M (M 422) (upd M 422 (nI 0)) := by
  refine CT_intro (own := RX7) (by decide +kernel) rfl (by simp [Value.category]) (Nat.le_of_ble_eq_true rfl) rfl (fun X C G => ?_)
  show J E X 0 [some (.ref (ja E 59)), none] [] M
  refine J_aload_n C (dA DX7_wipe_0 0 rfl) rfl ?_
  refine G_X7_tape C wF_RX7_43 (dA DX7_wipe_0 1 rfl) ?_
  refine G_X4_length C wF_RX7_233 (dA DX7_wipe_0 2 rfl) ?_
  refine J_ist_1_2 C (dA DX7_wipe_0 3 rfl) rfl ?_
  refine J_aload_n C (dA DX7_wipe_0 4 rfl) rfl ?_
  refine G_X7_tape C wF_RX7_43 (dA DX7_wipe_0 5 rfl) ?_
  refine J_iconst (v := nI 0) C (dA DX7_wipe_0 6 rfl) (by decide) ?_
  refine P_X4_length C wF_RX7_233 (dA DX7_wipe_0 7 rfl) ?_
  refine J_iload_n C (dA DX7_wipe_0 8 rfl) rfl ?_
  exact J_iret C G (dA DX7_wipe_0 9 rfl) ⟨rfl, rfl⟩
set_option maxRecDepth 4000 in
theorem c_X8_wipe (l : Launch) (E : jE)  : K_X8_wipe l E [.ref (ja E 60)] M (M 1858) (upd M 1858 (nI 0)) := by
  refine CT_intro (own := RX8) (by decide +kernel) rfl (by simp [Value.category]) (Nat.le_of_ble_eq_true rfl) rfl (fun X C G => ?_)
  show J E X 0 [some (.ref (ja E 60)), none] [] M
  refine J_aload_n C (dA DX8_wipe_0 0 rfl) rfl ?_
  refine G_X8_taped C wF_RX8_203 (dA DX8_wipe_0 1 rfl) ?_
  refine J_ist_1_2 C (dA DX8_wipe_0 2 rfl) rfl ?_
  refine J_aload_n C (dA DX8_wipe_0 3 rfl) rfl ?_
  refine J_iconst (v := nI 0) C (dA DX8_wipe_0 4 rfl) (by decide) ?_
  refine P_X8_taped C wF_RX8_203 (dA DX8_wipe_0 5 rfl) ?_
  refine J_iload_n C (dA DX8_wipe_0 6 rfl) rfl ?_
  exact J_iret C G (dA DX8_wipe_0 7 rfl) ⟨rfl, rfl⟩
set_option maxRecDepth 4000 in
theorem c_X7_tear (l : Launch) (E : jE) (kp : Bool) (hk : M 1083 = jb kp)  : K_X7_tear l E [.ref (ja E 59)] M (jb kp) (upd M 1083 (nI 0)) := by
  refine CT_intro (own := RX7) (by decide +kernel) rfl (by simp [Value.category]) (Nat.le_of_ble_eq_true rfl) rfl (fun X C G => ?_)
  show J E X 0 [some (.ref (ja E 59)), none] [] M
  refine J_aload_n C (dA DX7_tear_0 0 rfl) rfl ?_
  refine G_X7_keeps C wF_RX7_22 (dA DX7_tear_0 1 rfl) ?_
  rw [hk]
  refine J_if_eq_b (tgt := 11) C (dA DX7_tear_0 2 rfl) (by decide) (fun h4 => ?_) (fun h4 => ?_)
  · try have g4 := inr_t h4
    try have g4 := inr_f h4
    refine J_iconst (v := nI 0) C (dA DX7_tear_0 5 rfl) (by decide) ?_
    refine J_ist_1_2 C (dA DX7_tear_0 6 rfl) rfl ?_
    refine J_aload_n C (dA DX7_tear_0 7 rfl) rfl ?_
    refine J_iconst (v := nI 0) C (dA DX7_tear_0 8 rfl) (by decide) ?_
    refine P_X7_keeps C false rfl wF_RX7_22 (dA DX7_tear_0 9 rfl) ?_
    refine J_iload_n C (dA DX7_tear_0 10 rfl) rfl ?_
    exact J_iret C G (dA DX7_tear_0 11 rfl) ⟨oi (bt_f h4), rfl⟩
  · try have g4 := inr_t h4
    try have g4 := inr_f h4
    refine J_iconst (v := nI 1) C (dA DX7_tear_0 3 rfl) (by decide) ?_
    refine J_goto (tgt := 12) C (dA DX7_tear_0 4 rfl) (by decide) ?_
    refine J_ist_1_2 C (dA DX7_tear_0 6 rfl) rfl ?_
    refine J_aload_n C (dA DX7_tear_0 7 rfl) rfl ?_
    refine J_iconst (v := nI 0) C (dA DX7_tear_0 8 rfl) (by decide) ?_
    refine P_X7_keeps C false rfl wF_RX7_22 (dA DX7_tear_0 9 rfl) ?_
    refine J_iload_n C (dA DX7_tear_0 10 rfl) rfl ?_
    exact J_iret C G (dA DX7_tear_0 11 rfl) ⟨oi (bt_t h4), rfl⟩
set_option maxRecDepth 4000 in
theorem c_X8_tear (l : Launch) (E : jE) (kp : Bool) (hk : M 1853 = jb kp)  : K_X8_tear l E [.ref (ja E 60)] M (jb kp) (upd M 1853 (nI 0)) := by
  refine CT_intro (own := RX8) (by decide +kernel) rfl (by simp [Value.category]) (Nat.le_of_ble_eq_true rfl) rfl (fun X C G => ?_)
  show J E X 0 [some (.ref (ja E 60)), none] [] M
  refine J_aload_n C (dA DX8_tear_0 0 rfl) rfl ?_
  refine G_X8_isKept C wF_RX8_263 (dA DX8_tear_0 1 rfl) ?_
  rw [hk]
  refine J_if_eq_b (tgt := 11) C (dA DX8_tear_0 2 rfl) (by decide) (fun h4 => ?_) (fun h4 => ?_)
  · try have g4 := inr_t h4
    try have g4 := inr_f h4
    refine J_iconst (v := nI 0) C (dA DX8_tear_0 5 rfl) (by decide) ?_
    refine J_ist_1_2 C (dA DX8_tear_0 6 rfl) rfl ?_
    refine J_aload_n C (dA DX8_tear_0 7 rfl) rfl ?_
    refine J_iconst (v := nI 0) C (dA DX8_tear_0 8 rfl) (by decide) ?_
    refine P_X8_isKept C false rfl wF_RX8_263 (dA DX8_tear_0 9 rfl) ?_
    refine J_iload_n C (dA DX8_tear_0 10 rfl) rfl ?_
    exact J_iret C G (dA DX8_tear_0 11 rfl) ⟨oi (bt_f h4), rfl⟩
  · try have g4 := inr_t h4
    try have g4 := inr_f h4
    refine J_iconst (v := nI 1) C (dA DX8_tear_0 3 rfl) (by decide) ?_
    refine J_goto (tgt := 12) C (dA DX8_tear_0 4 rfl) (by decide) ?_
    refine J_ist_1_2 C (dA DX8_tear_0 6 rfl) rfl ?_
    refine J_aload_n C (dA DX8_tear_0 7 rfl) rfl ?_
    refine J_iconst (v := nI 0) C (dA DX8_tear_0 8 rfl) (by decide) ?_
    refine P_X8_isKept C false rfl wF_RX8_263 (dA DX8_tear_0 9 rfl) ?_
    refine J_iload_n C (dA DX8_tear_0 10 rfl) rfl ?_
    exact J_iret C G (dA DX8_tear_0 11 rfl) ⟨oi (bt_t h4), rfl⟩
set_option maxRecDepth 4000 in
theorem c_X7_image (l : Launch) (E : jE)  : K_X7_image l E [.ref (ja E 59)] M (nI 1) (upd (lay (fb 2) M (vb (fb 0) M)) 1083 (nI 1)) := by
  refine CT_intro (own := RX7) (by decide +kernel) rfl (by simp [Value.category]) (Nat.le_of_ble_eq_true rfl) rfl (fun X C G => ?_)
  show J E X 0 [some (.ref (ja E 59))] [] M
  refine J_aload_n C (dA DX7_image_0 0 rfl) rfl ?_
  refine G_X7_kept C wF_RX7_19 (dA DX7_image_0 1 rfl) ?_
  refine J_aload_n C (dA DX7_image_0 2 rfl) rfl ?_
  refine G_X7_fen C wF_RX7_12 (dA DX7_image_0 3 rfl) ?_
  refine V_X1_become C (by decide) (c_X1_become l E 2 (by decide) 0 (by decide) (by decide)) wM_RX7_179 (by decide) (dA DX7_image_0 4 rfl) rfl (Nat.le_of_ble_eq_true rfl) ?_
  refine J_aload_n C (dA DX7_image_0 5 rfl) rfl ?_
  refine J_iconst (v := nI 1) C (dA DX7_image_0 6 rfl) (by decide) ?_
  refine P_X7_keeps C true rfl wF_RX7_22 (dA DX7_image_0 7 rfl) ?_
  refine J_iconst (v := nI 1) C (dA DX7_image_0 8 rfl) (by decide) ?_
  exact J_iret C G (dA DX7_image_0 9 rfl) ⟨rfl, rfl⟩
set_option maxRecDepth 4000 in
theorem c_X8_image (l : Launch) (E : jE)  : K_X8_image l E [.ref (ja E 60)] M (nI 1) (upd (lay 1234 M (vb 1100 M)) 1853 (nI 1)) := by
  refine CT_intro (own := RX8) (by decide +kernel) rfl (by simp [Value.category]) (Nat.le_of_ble_eq_true rfl) rfl (fun X C G => ?_)
  show J E X 0 [some (.ref (ja E 60)), none] [] M
  have loop : ∀ n i, i + n = 134 → J E X 2 [some (.ref (ja E 60)), some (.int (nI i))] [] (cpN M 1100 1234 i) := by
    intro n
    induction n with
    | zero =>
      intro i hi
      refine J_iload_n C (dA DX8_image_0 2 rfl) rfl ?_
      refine J_sipush (v := nI 134) C (dA DX8_image_0 3 rfl) (by decide) ?_
      first | refine J_icmp_ge_n (tgt := 27) C (by omega) (by omega) (dA DX8_image_0 4 rfl) (by decide) (fun h6 => ?_) (fun h6 => ?_) | refine J_icmp_ge_c (tgt := 27) C (by omega) (dA DX8_image_0 4 rfl) (by decide) (fun h6 => ?_) (fun h6 => ?_) | refine J_icmp_ge_t (tgt := 27) C (dA DX8_image_0 4 rfl) (by decide) (fun h6 => ?_) (fun h6 => ?_)
      · refine J_aload_n C (dA DX8_image_0 15 rfl) rfl ?_
        refine J_iconst (v := nI 1) C (dA DX8_image_0 16 rfl) (by decide) ?_
        refine P_X8_isKept C true rfl wF_RX8_263 (dA DX8_image_0 17 rfl) ?_
        refine J_iconst (v := nI 1) C (dA DX8_image_0 18 rfl) (by decide) ?_
        exact J_iret C G (dA DX8_image_0 19 rfl) ⟨rfl, by rw [show i = 134 by omega, cpN_134]⟩
      · exfalso; omega
    | succ n ih =>
      intro i hi
      refine J_iload_n C (dA DX8_image_0 2 rfl) rfl ?_
      refine J_sipush (v := nI 134) C (dA DX8_image_0 3 rfl) (by decide) ?_
      first | refine J_icmp_ge_n (tgt := 27) C (by omega) (by omega) (dA DX8_image_0 4 rfl) (by decide) (fun h6 => ?_) (fun h6 => ?_) | refine J_icmp_ge_c (tgt := 27) C (by omega) (dA DX8_image_0 4 rfl) (by decide) (fun h6 => ?_) (fun h6 => ?_) | refine J_icmp_ge_t (tgt := 27) C (dA DX8_image_0 4 rfl) (by decide) (fun h6 => ?_) (fun h6 => ?_)
      · exfalso; omega
      · refine J_aload_n C (dA DX8_image_0 5 rfl) rfl ?_
        refine G_X8_kept C wF_RX8_13 (dA DX8_image_0 6 rfl) ?_
        refine J_iload_n C (dA DX8_image_0 7 rfl) rfl ?_
        refine J_aload_n C (dA DX8_image_0 8 rfl) rfl ?_
        refine G_X8_s C wF_RX8_9 (dA DX8_image_0 9 rfl) ?_
        refine J_iload_n C (dA DX8_image_0 10 rfl) rfl ?_
        refine R_1 C (hk := rfl) rfl (by omega) (dA DX8_image_0 11 rfl) ?_
        refine S_1 C (hk := rfl) rfl (by omega) (dA DX8_image_0 12 rfl) ?_
        first | refine J_inc1_1_2 C (dA DX8_image_0 13 rfl) rfl ?_ | refine J_iinc_1_2 C (dA DX8_image_0 13 rfl) rfl ?_
        refine J_goto (tgt := 2) C (dA DX8_image_0 14 rfl) (by decide) ?_
        rw [cpN_s (by omega) (by omega)]
        exact ih (i + 1) (by omega)
  refine J_iconst (v := nI 0) C (dA DX8_image_0 0 rfl) (by decide) ?_
  refine J_ist_1_2 C (dA DX8_image_0 1 rfl) rfl ?_
  have h := loop _ 0 (Nat.zero_add _)
  rw [cpN_0] at h
  exact h
def aUndo (kp : Bool) (T : Nat → Int32) : Int32 := if kp = true then nI (iM T) else fi 3
def eUndo (kp : Bool) (B F : Nat) (T : Nat → Int32) (M : jM) : jM := if kp = true then lay B M T else Fl F 3 M
set_option maxRecDepth 4000 in
theorem c_X7_undo (l : Launch) (E : jE) (kp : Bool) (hk : M 1083 = jb kp) (hT : kp = true → IS (vb (fb 2) M))  : K_X7_undo l E [.ref (ja E 59)] M (aUndo kp (vb (fb 2) M)) (eUndo kp (fb 0) 1076 (vb (fb 2) M) M) := by
  refine CT_intro (own := RX7) (by decide +kernel) rfl (by simp [Value.category]) (Nat.le_of_ble_eq_true rfl) rfl (fun X C G => ?_)
  show J E X 0 [some (.ref (ja E 59))] [] M
  refine J_aload_n C (dA DX7_undo_0 0 rfl) rfl ?_
  refine G_X7_keeps C wF_RX7_22 (dA DX7_undo_0 1 rfl) ?_
  rw [hk]
  refine J_if_ne_b (tgt := 14) C (dA DX7_undo_0 2 rfl) (by decide) (fun h4 => ?_) (fun h4 => ?_)
  · try have g4 := inr_t h4
    try have g4 := inr_f h4
    have hT2 := hT h4
    have hv := vb_lay (b := fb 0) (M := M) hT2.1
    have hI : IS (vb (fb 0) (lay (fb 0) M (vb (fb 2) M))) := by rw [hv]; exact hT2
    refine J_aload_n C (dA DX7_undo_0 7 rfl) rfl ?_
    refine G_X7_fen C wF_RX7_12 (dA DX7_undo_0 8 rfl) ?_
    refine J_aload_n C (dA DX7_undo_0 9 rfl) rfl ?_
    refine G_X7_kept C wF_RX7_19 (dA DX7_undo_0 10 rfl) ?_
    refine V_X1_become C (by decide) (c_X1_become l E 0 (by decide) 2 (by decide) (by decide)) wM_RX7_179 (by decide) (dA DX7_undo_0 11 rfl) rfl (Nat.le_of_ble_eq_true rfl) ?_
    refine J_aload_n C (dA DX7_undo_0 12 rfl) rfl ?_
    refine G_X7_fen C wF_RX7_12 (dA DX7_undo_0 13 rfl) ?_
    refine H_X1_minute C (by decide) hI wF_RX7_120 (dA DX7_undo_0 14 rfl) ?_
    exact J_iret C G (dA DX7_undo_0 15 rfl) ⟨oi (by unfold aUndo; rw [if_pos h4, hv]), by unfold eUndo; rw [if_pos h4]⟩
  · try have g4 := inr_t h4
    try have g4 := inr_f h4
    refine J_aload_n C (dA DX7_undo_0 3 rfl) rfl ?_
    refine J_ldc (v := (-1000004)) C wK_RX7_165 (dA DX7_undo_0 4 rfl) ?_
    refine V_X7_finding C (c_X7_finding l E 3 (by decide) _ (by decide)) wM_RX7_70 (by decide) (dA DX7_undo_0 5 rfl) rfl (Nat.le_of_ble_eq_true rfl) ?_
    exact J_iret C G (dA DX7_undo_0 6 rfl) ⟨oi (by unfold aUndo; rw [if_neg (by rw [h4]; decide)]; rfl), by unfold eUndo; rw [if_neg (by rw [h4]; decide)]⟩
set_option maxRecDepth 4000 in
theorem c_X8_undo (l : Launch) (E : jE) (kp : Bool) (hk : M 1853 = jb kp) (hT : kp = true → IS (vb 1234 M))  : K_X8_undo l E [.ref (ja E 60)] M (aUndo kp (vb 1234 M)) (eUndo kp 1100 1502 (vb 1234 M) M) := by
  refine CT_intro (own := RX8) (by decide +kernel) rfl (by simp [Value.category]) (Nat.le_of_ble_eq_true rfl) rfl (fun X C G => ?_)
  show J E X 0 [some (.ref (ja E 60)), none] [] M
  by_cases h4 : kp = true
  · have hT2 := hT h4
    have hv := vb_lay (b := 1100) (M := M) hT2.1
    have hI : IS (vb 1100 (lay 1100 M (vb 1234 M))) := by rw [hv]; exact hT2
    have loop : ∀ n i, i + n = 134 → J E X 15 [some (.ref (ja E 60)), some (.int (nI i))] [] (cpN M 1234 1100 i) := by
      intro n
      induction n with
      | zero =>
        intro i hi
        refine J_iload_n C (dA DX8_undo_0 9 rfl) rfl ?_
        refine J_sipush (v := nI 134) C (dA DX8_undo_0 10 rfl) (by decide) ?_
        first | refine J_icmp_ge_n (tgt := 40) C (by omega) (by omega) (dA DX8_undo_0 11 rfl) (by decide) (fun h19 => ?_) (fun h19 => ?_) | refine J_icmp_ge_c (tgt := 40) C (by omega) (dA DX8_undo_0 11 rfl) (by decide) (fun h19 => ?_) (fun h19 => ?_) | refine J_icmp_ge_t (tgt := 40) C (dA DX8_undo_0 11 rfl) (by decide) (fun h19 => ?_) (fun h19 => ?_)
        · rw [show i = 134 by omega, cpN_134]
          refine J_aload_n C (dA DX8_undo_0 22 rfl) rfl ?_
          refine G_X8_s C wF_RX8_9 (dA DX8_undo_0 23 rfl) ?_
          refine J_iconst (v := nI 0) C (dA DX8_undo_0 24 rfl) (by decide) ?_
          refine Q_s0 C hI (dA DX8_undo_0 25 rfl) ?_
          exact J_iret C G (dA DX8_undo_0 26 rfl) ⟨oi (by unfold aUndo; rw [if_pos h4, hv]), by unfold eUndo; rw [if_pos h4]⟩
        · exfalso; omega
      | succ n ih =>
        intro i hi
        refine J_iload_n C (dA DX8_undo_0 9 rfl) rfl ?_
        refine J_sipush (v := nI 134) C (dA DX8_undo_0 10 rfl) (by decide) ?_
        first | refine J_icmp_ge_n (tgt := 40) C (by omega) (by omega) (dA DX8_undo_0 11 rfl) (by decide) (fun h19 => ?_) (fun h19 => ?_) | refine J_icmp_ge_c (tgt := 40) C (by omega) (dA DX8_undo_0 11 rfl) (by decide) (fun h19 => ?_) (fun h19 => ?_) | refine J_icmp_ge_t (tgt := 40) C (dA DX8_undo_0 11 rfl) (by decide) (fun h19 => ?_) (fun h19 => ?_)
        · exfalso; omega
        · refine J_aload_n C (dA DX8_undo_0 12 rfl) rfl ?_
          refine G_X8_s C wF_RX8_9 (dA DX8_undo_0 13 rfl) ?_
          refine J_iload_n C (dA DX8_undo_0 14 rfl) rfl ?_
          refine J_aload_n C (dA DX8_undo_0 15 rfl) rfl ?_
          refine G_X8_kept C wF_RX8_13 (dA DX8_undo_0 16 rfl) ?_
          refine J_iload_n C (dA DX8_undo_0 17 rfl) rfl ?_
          refine R_1 C (hk := rfl) rfl (by omega) (dA DX8_undo_0 18 rfl) ?_
          refine S_1 C (hk := rfl) rfl (by omega) (dA DX8_undo_0 19 rfl) ?_
          first | refine J_inc1_1_2 C (dA DX8_undo_0 20 rfl) rfl ?_ | refine J_iinc_1_2 C (dA DX8_undo_0 20 rfl) rfl ?_
          refine J_goto (tgt := 15) C (dA DX8_undo_0 21 rfl) (by decide) ?_
          rw [cpN_s (by omega) (by omega)]
          exact ih (i + 1) (by omega)
    refine J_aload_n C (dA DX8_undo_0 0 rfl) rfl ?_
    refine G_X8_isKept C wF_RX8_263 (dA DX8_undo_0 1 rfl) ?_
    rw [hk, h4]
    refine J_if_ne_b (tgt := 13) C (dA DX8_undo_0 2 rfl) (by decide) (fun h4q => ?_) (fun h4q => ?_)
    · skip
      skip
      refine J_iconst (v := nI 0) C (dA DX8_undo_0 7 rfl) (by decide) ?_
      refine J_ist_1_2 C (dA DX8_undo_0 8 rfl) rfl ?_
      have h := loop _ 0 (Nat.zero_add _)
      rw [cpN_0] at h
      exact h
    · cases h4q
  · refine J_aload_n C (dA DX8_undo_0 0 rfl) rfl ?_
    refine G_X8_isKept C wF_RX8_263 (dA DX8_undo_0 1 rfl) ?_
    rw [hk, Bool.eq_false_iff.mpr h4]
    refine J_if_ne_b (tgt := 13) C (dA DX8_undo_0 2 rfl) (by decide) (fun h4q => ?_) (fun h4q => ?_)
    · cases h4q
    · skip
      skip
      refine J_aload_n C (dA DX8_undo_0 3 rfl) rfl ?_
      refine J_iconst (v := nI 3) C (dA DX8_undo_0 4 rfl) (by decide) ?_
      refine V_X8_no C (c_X8_no l E _ (by decide)) wM_RX8_106 (by decide) (dA DX8_undo_0 5 rfl) rfl (Nat.le_of_ble_eq_true rfl) ?_
      exact J_iret C G (dA DX8_undo_0 6 rfl) ⟨oi (by unfold aUndo; rw [if_neg h4]; rfl), by unfold eUndo; rw [if_neg h4]⟩

set_option maxRecDepth 4000 in
theorem c_X7_hold (l : Launch) (E : jE) (a b : Int32) (hS : IS (vb (fb 0) M))  : K_X7_hold l E [.ref (ja E 59), .int a, .int b] M (aHold (vb (fb 0) M) a b) (eHold (fb 0) 1076 a b M) := by
  refine CT_intro (own := RX7) (by decide +kernel) rfl (by simp [Value.category]) (Nat.le_of_ble_eq_true rfl) rfl (fun X C G => ?_)
  show J E X 0 [some (.ref (ja E 59)), some (.int a), some (.int b)] [] M
  have hN := leN hS
  refine J_iload_n C (dA DX7_hold_0 0 rfl) rfl ?_
  refine V_X7_isSpot C (c_X7_isSpot l E _) wM_RX7_243 (by decide) (dA DX7_hold_0 1 rfl) rfl (Nat.le_of_ble_eq_true rfl) ?_
  refine J_if_eq_b (tgt := 23) C (dA DX7_hold_0 2 rfl) (by decide) (fun h4 => ?_) (fun h4 => ?_)
  · try have g4 := inr_t h4
    try have g4 := inr_f h4
    refine J_aload_n C (dA DX7_hold_0 11 rfl) rfl ?_
    refine J_ldc (v := (-1000001)) C wK_RX7_69 (dA DX7_hold_0 12 rfl) ?_
    refine V_X7_finding C (c_X7_finding l E 0 (by decide) _ (by decide)) wM_RX7_70 (by decide) (dA DX7_hold_0 13 rfl) rfl (Nat.le_of_ble_eq_true rfl) ?_
    exact J_iret C G (dA DX7_hold_0 14 rfl) ⟨oi (by unfold aHold; rw [if_neg (by rintro ⟨z1, z2⟩; rw [h4] at z1; cases z1)]; rfl), by unfold eHold; rw [if_neg (by rintro ⟨z1, z2⟩; rw [h4] at z1; cases z1)]⟩
  · try have g4 := inr_t h4
    try have g4 := inr_f h4
    refine J_iload_n C (dA DX7_hold_0 3 rfl) rfl ?_
    refine J_iconst (v := (-1)) C (dA DX7_hold_0 4 rfl) (by decide) ?_
    refine J_icmp_eq (tgt := 30) C (dA DX7_hold_0 5 rfl) (by decide) (fun h9 => ?_) (fun h9 => ?_)
    · obtain ⟨p, hp, rfl⟩ := toNI (x := a) (n := 10) (by omega) (by omega)
      have ta := tI (n := p) (by omega)
      have na : nv (nI p) = p := nv_nI (by omega)
      refine J_aload_n C (dA DX7_hold_0 15 rfl) rfl ?_
      refine G_X7_fen C wF_RX7_12 (dA DX7_hold_0 16 rfl) ?_
      refine G_X1_spots C (by decide) wF_RX7_246 (dA DX7_hold_0 17 rfl) ?_
      refine J_iload_n C (dA DX7_hold_0 18 rfl) rfl ?_
      refine J_iload_n C (dA DX7_hold_0 19 rfl) rfl ?_
      refine S_fs C (by decide) rfl (by omega) (dA DX7_hold_0 20 rfl) ?_
      refine J_iconst (v := nI 1) C (dA DX7_hold_0 21 rfl) (by decide) ?_
      exact J_iret C G (dA DX7_hold_0 22 rfl) ⟨oi (by unfold aHold; rw [if_pos ⟨h4, Or.inl h9⟩]), by unfold eHold; rw [if_pos ⟨h4, Or.inl h9⟩, na]; exact lay_upd (by omega)⟩
    · refine J_aload_n C (dA DX7_hold_0 6 rfl) rfl ?_
      refine G_X7_fen C wF_RX7_12 (dA DX7_hold_0 7 rfl) ?_
      refine J_iload_n C (dA DX7_hold_0 8 rfl) rfl ?_
      refine V_X1_has C (by decide) (c_X1_has l E _ (by decide) _ hS) wM_RX7_100 (by decide) (dA DX7_hold_0 9 rfl) rfl (Nat.le_of_ble_eq_true rfl) ?_
      refine J_if_ne_b (tgt := 30) C (dA DX7_hold_0 10 rfl) (by decide) (fun h20 => ?_) (fun h20 => ?_)
      · try have g20 := inr_t h20
        try have g20 := inr_f h20
        obtain ⟨p, hp, rfl⟩ := toNI (x := a) (n := 10) (by omega) (by omega)
        have ta := tI (n := p) (by omega)
        have na : nv (nI p) = p := nv_nI (by omega)
        refine J_aload_n C (dA DX7_hold_0 15 rfl) rfl ?_
        refine G_X7_fen C wF_RX7_12 (dA DX7_hold_0 16 rfl) ?_
        refine G_X1_spots C (by decide) wF_RX7_246 (dA DX7_hold_0 17 rfl) ?_
        refine J_iload_n C (dA DX7_hold_0 18 rfl) rfl ?_
        refine J_iload_n C (dA DX7_hold_0 19 rfl) rfl ?_
        refine S_fs C (by decide) rfl (by omega) (dA DX7_hold_0 20 rfl) ?_
        refine J_iconst (v := nI 1) C (dA DX7_hold_0 21 rfl) (by decide) ?_
        exact J_iret C G (dA DX7_hold_0 22 rfl) ⟨oi (by unfold aHold; rw [if_pos ⟨h4, Or.inr h20⟩]), by unfold eHold; rw [if_pos ⟨h4, Or.inr h20⟩, na]; exact lay_upd (by omega)⟩
      · try have g20 := inr_t h20
        try have g20 := inr_f h20
        refine J_aload_n C (dA DX7_hold_0 11 rfl) rfl ?_
        refine J_ldc (v := (-1000001)) C wK_RX7_69 (dA DX7_hold_0 12 rfl) ?_
        refine V_X7_finding C (c_X7_finding l E 0 (by decide) _ (by decide)) wM_RX7_70 (by decide) (dA DX7_hold_0 13 rfl) rfl (Nat.le_of_ble_eq_true rfl) ?_
        exact J_iret C G (dA DX7_hold_0 14 rfl) ⟨oi (by unfold aHold; rw [if_neg (by rintro ⟨z1, z2⟩; rcases z2 with z2 | z2; exact h9 z2; rw [h20] at z2; cases z2)]; rfl), by unfold eHold; rw [if_neg (by rintro ⟨z1, z2⟩; rcases z2 with z2 | z2; exact h9 z2; rw [h20] at z2; cases z2)]⟩
set_option maxRecDepth 4000 in
theorem c_X8_hold (l : Launch) (E : jE) (a b : Int32) (hS : IS (vb 1100 M))  : K_X8_hold l E [.ref (ja E 60), .int a, .int b] M (aHold (vb 1100 M) a b) (eHold 1100 1502 a b M) := by
  refine CT_intro (own := RX8) (by decide +kernel) rfl (by simp [Value.category]) (Nat.le_of_ble_eq_true rfl) rfl (fun X C G => ?_)
  show J E X 0 [some (.ref (ja E 60)), some (.int a), some (.int b)] [] M
  have hN := leN hS
  refine J_iload_n C (dA DX8_hold_0 0 rfl) rfl ?_
  refine V_X8_isSpot C (c_X8_isSpot l E _) wM_RX8_257 (by decide) (dA DX8_hold_0 1 rfl) rfl (Nat.le_of_ble_eq_true rfl) ?_
  refine J_if_eq_b (tgt := 20) C (dA DX8_hold_0 2 rfl) (by decide) (fun h4 => ?_) (fun h4 => ?_)
  · try have g4 := inr_t h4
    try have g4 := inr_f h4
    refine J_aload_n C (dA DX8_hold_0 10 rfl) rfl ?_
    refine J_iconst (v := nI 0) C (dA DX8_hold_0 11 rfl) (by decide) ?_
    refine V_X8_no C (c_X8_no l E _ (by decide)) wM_RX8_106 (by decide) (dA DX8_hold_0 12 rfl) rfl (Nat.le_of_ble_eq_true rfl) ?_
    exact J_iret C G (dA DX8_hold_0 13 rfl) ⟨oi (by unfold aHold; rw [if_neg (by rintro ⟨z1, z2⟩; rw [h4] at z1; cases z1)]; rfl), by unfold eHold; rw [if_neg (by rintro ⟨z1, z2⟩; rw [h4] at z1; cases z1)]⟩
  · try have g4 := inr_t h4
    try have g4 := inr_f h4
    refine J_iload_n C (dA DX8_hold_0 3 rfl) rfl ?_
    refine J_iconst (v := (-1)) C (dA DX8_hold_0 4 rfl) (by decide) ?_
    refine J_icmp_eq (tgt := 26) C (dA DX8_hold_0 5 rfl) (by decide) (fun h9 => ?_) (fun h9 => ?_)
    · obtain ⟨p, hp, rfl⟩ := toNI (x := a) (n := 10) (by omega) (by omega)
      have ta := tI (n := p) (by omega)
      have na : nv (nI p) = p := nv_nI (by omega)
      refine J_aload_n C (dA DX8_hold_0 14 rfl) rfl ?_
      refine G_X8_s C wF_RX8_9 (dA DX8_hold_0 15 rfl) ?_
      refine J_bipush (v := nI 124) C (dA DX8_hold_0 16 rfl) (by decide) ?_
      refine J_iload_n C (dA DX8_hold_0 17 rfl) rfl ?_
      first | refine J_iadd_n C (dA DX8_hold_0 18 rfl) ?_ | refine J_iadd C (dA DX8_hold_0 18 rfl) ?_
      refine J_iload_n C (dA DX8_hold_0 19 rfl) rfl ?_
      refine S_1 C (hk := rfl) (j := 124 + p) rfl (by omega) (dA DX8_hold_0 20 rfl) ?_
      refine J_iconst (v := nI 1) C (dA DX8_hold_0 21 rfl) (by decide) ?_
      exact J_iret C G (dA DX8_hold_0 22 rfl) ⟨oi (by unfold aHold; rw [if_pos ⟨h4, Or.inl h9⟩]), by unfold eHold; rw [if_pos ⟨h4, Or.inl h9⟩, na]; exact lay_upd (by omega)⟩
    · refine J_aload_n C (dA DX8_hold_0 6 rfl) rfl ?_
      refine J_iload_n C (dA DX8_hold_0 7 rfl) rfl ?_
      refine V_X8_isThing C (c_X8_isThing l E _ hS) wM_RX8_116 (by decide) (dA DX8_hold_0 8 rfl) rfl (Nat.le_of_ble_eq_true rfl) ?_
      refine J_if_ne_b (tgt := 26) C (dA DX8_hold_0 9 rfl) (by decide) (fun h17 => ?_) (fun h17 => ?_)
      · try have g17 := inr_t h17
        try have g17 := inr_f h17
        obtain ⟨p, hp, rfl⟩ := toNI (x := a) (n := 10) (by omega) (by omega)
        have ta := tI (n := p) (by omega)
        have na : nv (nI p) = p := nv_nI (by omega)
        refine J_aload_n C (dA DX8_hold_0 14 rfl) rfl ?_
        refine G_X8_s C wF_RX8_9 (dA DX8_hold_0 15 rfl) ?_
        refine J_bipush (v := nI 124) C (dA DX8_hold_0 16 rfl) (by decide) ?_
        refine J_iload_n C (dA DX8_hold_0 17 rfl) rfl ?_
        first | refine J_iadd_n C (dA DX8_hold_0 18 rfl) ?_ | refine J_iadd C (dA DX8_hold_0 18 rfl) ?_
        refine J_iload_n C (dA DX8_hold_0 19 rfl) rfl ?_
        refine S_1 C (hk := rfl) (j := 124 + p) rfl (by omega) (dA DX8_hold_0 20 rfl) ?_
        refine J_iconst (v := nI 1) C (dA DX8_hold_0 21 rfl) (by decide) ?_
        exact J_iret C G (dA DX8_hold_0 22 rfl) ⟨oi (by unfold aHold; rw [if_pos ⟨h4, Or.inr h17⟩]), by unfold eHold; rw [if_pos ⟨h4, Or.inr h17⟩, na]; exact lay_upd (by omega)⟩
      · try have g17 := inr_t h17
        try have g17 := inr_f h17
        refine J_aload_n C (dA DX8_hold_0 10 rfl) rfl ?_
        refine J_iconst (v := nI 0) C (dA DX8_hold_0 11 rfl) (by decide) ?_
        refine V_X8_no C (c_X8_no l E _ (by decide)) wM_RX8_106 (by decide) (dA DX8_hold_0 12 rfl) rfl (Nat.le_of_ble_eq_true rfl) ?_
        exact J_iret C G (dA DX8_hold_0 13 rfl) ⟨oi (by unfold aHold; rw [if_neg (by rintro ⟨z1, z2⟩; rcases z2 with z2 | z2; exact h9 z2; rw [h17] at z2; cases z2)]; rfl), by unfold eHold; rw [if_neg (by rintro ⟨z1, z2⟩; rcases z2 with z2 | z2; exact h9 z2; rw [h17] at z2; cases z2)]⟩
set_option maxRecDepth 4000 in
theorem c_X8_above (l : Launch) (E : jE) (k : Nat) (hk : k < 7)  : K_X8_above l E [.int (nI k)] M (nI (abv k)) (M) := by
  refine CT_intro (own := RX8) (by decide +kernel) rfl (by simp [Value.category]) (Nat.le_of_ble_eq_true rfl) rfl (fun X C G => ?_)
  show J E X 0 [some (.int (nI k))] [] M
  rcases (show k = 0 ∨ k = 1 ∨ k = 2 ∨ k = 3 ∨ k = 4 ∨ k = 5 ∨ k = 6 by omega) with rfl | rfl | rfl | rfl | rfl | rfl | rfl
  · refine J_iload_n C (dA DX8_above_0 0 rfl) rfl ?_
    refine J_iconst (v := nI 3) C (dA DX8_above_0 1 rfl) (by decide) ?_
    refine J_icmp_ne_n (tgt := 9) C (by decide) (by decide) (dA DX8_above_0 2 rfl) (by decide) (fun h2 => ?_) (fun h2 => ?_)
    · try have g2 := inr_t h2
      try have g2 := inr_f h2
      refine J_iload_n C (dA DX8_above_0 5 rfl) rfl ?_
      refine J_iconst (v := nI 4) C (dA DX8_above_0 6 rfl) (by decide) ?_
      refine J_icmp_ne_n (tgt := 18) C (by decide) (by decide) (dA DX8_above_0 7 rfl) (by decide) (fun h11 => ?_) (fun h11 => ?_)
      · try have g11 := inr_t h11
        try have g11 := inr_f h11
        refine J_iload_n C (dA DX8_above_0 10 rfl) rfl ?_
        refine J_bipush (v := nI 6) C (dA DX8_above_0 11 rfl) (by decide) ?_
        refine J_icmp_ne_n (tgt := 28) C (by decide) (by decide) (dA DX8_above_0 12 rfl) (by decide) (fun h21 => ?_) (fun h21 => ?_)
        · try have g21 := inr_t h21
          try have g21 := inr_f h21
          refine J_iconst (v := nI 0) C (dA DX8_above_0 15 rfl) (by decide) ?_
          exact J_iret C G (dA DX8_above_0 16 rfl) ⟨rfl, rfl⟩
        · exact absurd h21 (by decide)
      · exact absurd h11 (by decide)
    · exact absurd h2 (by decide)
  · refine J_iload_n C (dA DX8_above_0 0 rfl) rfl ?_
    refine J_iconst (v := nI 3) C (dA DX8_above_0 1 rfl) (by decide) ?_
    refine J_icmp_ne_n (tgt := 9) C (by decide) (by decide) (dA DX8_above_0 2 rfl) (by decide) (fun h2 => ?_) (fun h2 => ?_)
    · try have g2 := inr_t h2
      try have g2 := inr_f h2
      refine J_iload_n C (dA DX8_above_0 5 rfl) rfl ?_
      refine J_iconst (v := nI 4) C (dA DX8_above_0 6 rfl) (by decide) ?_
      refine J_icmp_ne_n (tgt := 18) C (by decide) (by decide) (dA DX8_above_0 7 rfl) (by decide) (fun h11 => ?_) (fun h11 => ?_)
      · try have g11 := inr_t h11
        try have g11 := inr_f h11
        refine J_iload_n C (dA DX8_above_0 10 rfl) rfl ?_
        refine J_bipush (v := nI 6) C (dA DX8_above_0 11 rfl) (by decide) ?_
        refine J_icmp_ne_n (tgt := 28) C (by decide) (by decide) (dA DX8_above_0 12 rfl) (by decide) (fun h21 => ?_) (fun h21 => ?_)
        · try have g21 := inr_t h21
          try have g21 := inr_f h21
          refine J_iconst (v := nI 0) C (dA DX8_above_0 15 rfl) (by decide) ?_
          exact J_iret C G (dA DX8_above_0 16 rfl) ⟨rfl, rfl⟩
        · exact absurd h21 (by decide)
      · exact absurd h11 (by decide)
    · exact absurd h2 (by decide)
  · refine J_iload_n C (dA DX8_above_0 0 rfl) rfl ?_
    refine J_iconst (v := nI 3) C (dA DX8_above_0 1 rfl) (by decide) ?_
    refine J_icmp_ne_n (tgt := 9) C (by decide) (by decide) (dA DX8_above_0 2 rfl) (by decide) (fun h2 => ?_) (fun h2 => ?_)
    · try have g2 := inr_t h2
      try have g2 := inr_f h2
      refine J_iload_n C (dA DX8_above_0 5 rfl) rfl ?_
      refine J_iconst (v := nI 4) C (dA DX8_above_0 6 rfl) (by decide) ?_
      refine J_icmp_ne_n (tgt := 18) C (by decide) (by decide) (dA DX8_above_0 7 rfl) (by decide) (fun h11 => ?_) (fun h11 => ?_)
      · try have g11 := inr_t h11
        try have g11 := inr_f h11
        refine J_iload_n C (dA DX8_above_0 10 rfl) rfl ?_
        refine J_bipush (v := nI 6) C (dA DX8_above_0 11 rfl) (by decide) ?_
        refine J_icmp_ne_n (tgt := 28) C (by decide) (by decide) (dA DX8_above_0 12 rfl) (by decide) (fun h21 => ?_) (fun h21 => ?_)
        · try have g21 := inr_t h21
          try have g21 := inr_f h21
          refine J_iconst (v := nI 0) C (dA DX8_above_0 15 rfl) (by decide) ?_
          exact J_iret C G (dA DX8_above_0 16 rfl) ⟨rfl, rfl⟩
        · exact absurd h21 (by decide)
      · exact absurd h11 (by decide)
    · exact absurd h2 (by decide)
  · refine J_iload_n C (dA DX8_above_0 0 rfl) rfl ?_
    refine J_iconst (v := nI 3) C (dA DX8_above_0 1 rfl) (by decide) ?_
    refine J_icmp_ne_n (tgt := 9) C (by decide) (by decide) (dA DX8_above_0 2 rfl) (by decide) (fun h2 => ?_) (fun h2 => ?_)
    · exact absurd h2 (by decide)
    · try have g2 := inr_t h2
      try have g2 := inr_f h2
      refine J_iconst (v := nI 2) C (dA DX8_above_0 3 rfl) (by decide) ?_
      refine J_goto (tgt := 29) C (dA DX8_above_0 4 rfl) (by decide) ?_
      exact J_iret C G (dA DX8_above_0 16 rfl) ⟨rfl, rfl⟩
  · refine J_iload_n C (dA DX8_above_0 0 rfl) rfl ?_
    refine J_iconst (v := nI 3) C (dA DX8_above_0 1 rfl) (by decide) ?_
    refine J_icmp_ne_n (tgt := 9) C (by decide) (by decide) (dA DX8_above_0 2 rfl) (by decide) (fun h2 => ?_) (fun h2 => ?_)
    · try have g2 := inr_t h2
      try have g2 := inr_f h2
      refine J_iload_n C (dA DX8_above_0 5 rfl) rfl ?_
      refine J_iconst (v := nI 4) C (dA DX8_above_0 6 rfl) (by decide) ?_
      refine J_icmp_ne_n (tgt := 18) C (by decide) (by decide) (dA DX8_above_0 7 rfl) (by decide) (fun h11 => ?_) (fun h11 => ?_)
      · exact absurd h11 (by decide)
      · try have g11 := inr_t h11
        try have g11 := inr_f h11
        refine J_iconst (v := nI 3) C (dA DX8_above_0 8 rfl) (by decide) ?_
        refine J_goto (tgt := 29) C (dA DX8_above_0 9 rfl) (by decide) ?_
        exact J_iret C G (dA DX8_above_0 16 rfl) ⟨rfl, rfl⟩
    · exact absurd h2 (by decide)
  · refine J_iload_n C (dA DX8_above_0 0 rfl) rfl ?_
    refine J_iconst (v := nI 3) C (dA DX8_above_0 1 rfl) (by decide) ?_
    refine J_icmp_ne_n (tgt := 9) C (by decide) (by decide) (dA DX8_above_0 2 rfl) (by decide) (fun h2 => ?_) (fun h2 => ?_)
    · try have g2 := inr_t h2
      try have g2 := inr_f h2
      refine J_iload_n C (dA DX8_above_0 5 rfl) rfl ?_
      refine J_iconst (v := nI 4) C (dA DX8_above_0 6 rfl) (by decide) ?_
      refine J_icmp_ne_n (tgt := 18) C (by decide) (by decide) (dA DX8_above_0 7 rfl) (by decide) (fun h11 => ?_) (fun h11 => ?_)
      · try have g11 := inr_t h11
        try have g11 := inr_f h11
        refine J_iload_n C (dA DX8_above_0 10 rfl) rfl ?_
        refine J_bipush (v := nI 6) C (dA DX8_above_0 11 rfl) (by decide) ?_
        refine J_icmp_ne_n (tgt := 28) C (by decide) (by decide) (dA DX8_above_0 12 rfl) (by decide) (fun h21 => ?_) (fun h21 => ?_)
        · try have g21 := inr_t h21
          try have g21 := inr_f h21
          refine J_iconst (v := nI 0) C (dA DX8_above_0 15 rfl) (by decide) ?_
          exact J_iret C G (dA DX8_above_0 16 rfl) ⟨rfl, rfl⟩
        · exact absurd h21 (by decide)
      · exact absurd h11 (by decide)
    · exact absurd h2 (by decide)
  · refine J_iload_n C (dA DX8_above_0 0 rfl) rfl ?_
    refine J_iconst (v := nI 3) C (dA DX8_above_0 1 rfl) (by decide) ?_
    refine J_icmp_ne_n (tgt := 9) C (by decide) (by decide) (dA DX8_above_0 2 rfl) (by decide) (fun h2 => ?_) (fun h2 => ?_)
    · try have g2 := inr_t h2
      try have g2 := inr_f h2
      refine J_iload_n C (dA DX8_above_0 5 rfl) rfl ?_
      refine J_iconst (v := nI 4) C (dA DX8_above_0 6 rfl) (by decide) ?_
      refine J_icmp_ne_n (tgt := 18) C (by decide) (by decide) (dA DX8_above_0 7 rfl) (by decide) (fun h11 => ?_) (fun h11 => ?_)
      · try have g11 := inr_t h11
        try have g11 := inr_f h11
        refine J_iload_n C (dA DX8_above_0 10 rfl) rfl ?_
        refine J_bipush (v := nI 6) C (dA DX8_above_0 11 rfl) (by decide) ?_
        refine J_icmp_ne_n (tgt := 28) C (by decide) (by decide) (dA DX8_above_0 12 rfl) (by decide) (fun h21 => ?_) (fun h21 => ?_)
        · exact absurd h21 (by decide)
        · try have g21 := inr_t h21
          try have g21 := inr_f h21
          refine J_iconst (v := nI 1) C (dA DX8_above_0 13 rfl) (by decide) ?_
          refine J_goto (tgt := 29) C (dA DX8_above_0 14 rfl) (by decide) ?_
          exact J_iret C G (dA DX8_above_0 16 rfl) ⟨rfl, rfl⟩
      · exact absurd h11 (by decide)
    · exact absurd h2 (by decide)

set_option maxRecDepth 4000 in
theorem c_X7_as (l : Launch) (E : jE) (a b : Int32) (hS : IS (vb (fb 0) M))  : K_X7_as l E [.ref (ja E 59), .int a, .int b] M (aAs (vb (fb 0) M) a b) (eAs (vb (fb 0) M) 1076 a b M) := by
  refine CT_intro (own := RX7) (by decide +kernel) rfl (by simp [Value.category]) (Nat.le_of_ble_eq_true rfl) rfl (fun X C G => ?_)
  show J E X 0 [some (.ref (ja E 59)), some (.int a), some (.int b), none] [] M
  have hN := leN hS
  refine J_iload_n C (dA DX7_as_0 0 rfl) rfl ?_
  refine V_X7_isSpot C (c_X7_isSpot l E _) wM_RX7_243 (by decide) (dA DX7_as_0 1 rfl) rfl (Nat.le_of_ble_eq_true rfl) ?_
  refine J_if_eq_b (tgt := 14) C (dA DX7_as_0 2 rfl) (by decide) (fun h4 => ?_) (fun h4 => ?_)
  · try have g4 := inr_t h4
    try have g4 := inr_f h4
    refine J_aload_n C (dA DX7_as_0 6 rfl) rfl ?_
    refine J_ldc (v := (-1000001)) C wK_RX7_69 (dA DX7_as_0 7 rfl) ?_
    refine V_X7_finding C (c_X7_finding l E 0 (by decide) _ (by decide)) wM_RX7_70 (by decide) (dA DX7_as_0 8 rfl) rfl (Nat.le_of_ble_eq_true rfl) ?_
    exact J_iret C G (dA DX7_as_0 9 rfl) ⟨oi (by unfold aAs; rw [if_neg (by rintro ⟨z1, z2⟩; try have z1 := inr_t z1; try have z2 := inr_t z2; omega)]; rfl), by unfold eAs; rw [if_neg (by rintro ⟨z1, z2⟩; try have z1 := inr_t z1; try have z2 := inr_t z2; omega)]⟩
  · try have g4 := inr_t h4
    try have g4 := inr_f h4
    refine J_iload_n C (dA DX7_as_0 3 rfl) rfl ?_
    refine V_X7_isKind C (c_X7_isKind l E _) wM_RX7_88 (by decide) (dA DX7_as_0 4 rfl) rfl (Nat.le_of_ble_eq_true rfl) ?_
    refine J_if_ne_b (tgt := 21) C (dA DX7_as_0 5 rfl) (by decide) (fun h11 => ?_) (fun h11 => ?_)
    · try have g11 := inr_t h11
      try have g11 := inr_f h11
      obtain ⟨p, hp, rfl⟩ := toNI (x := a) (n := 10) (by omega) (by omega)
      have ta := tI (n := p) (by omega)
      have na : nv (nI p) = p := nv_nI (by omega)
      obtain ⟨w, hw, rfl⟩ := toNI (x := b) (n := 7) (by omega) (by omega)
      have tb := tI (n := w) (by omega)
      have nb : nv (nI w) = w := nv_nI (by omega)
      have e0 : M (fb 0 + (124 + p)) = vb (fb 0) M (124 + p) := (vb_at (by omega)).symm
      have hsp := hS.2.2.2.2.2.2.2 p hp
      refine J_aload_n C (dA DX7_as_0 10 rfl) rfl ?_
      refine G_X7_fen C wF_RX7_12 (dA DX7_as_0 11 rfl) ?_
      refine G_X1_spots C (by decide) wF_RX7_246 (dA DX7_as_0 12 rfl) ?_
      refine J_iload_n C (dA DX7_as_0 13 rfl) rfl ?_
      first | refine Q_fr C (by decide) hS (by decide) rfl (by omega) (dA DX7_as_0 14 rfl) ?_ | refine Q_fk C (by decide) hS (by decide) rfl (by omega) (dA DX7_as_0 14 rfl) ?_ | refine R_fs C (by decide) rfl (by omega) (dA DX7_as_0 14 rfl) ?_ | refine R_sn C hq rfl (by omega) (dA DX7_as_0 14 rfl) ?_ | refine R_1 C (hk := rfl) rfl (by omega) (dA DX7_as_0 14 rfl) ?_
      rw [e0]
      refine J_ist_3_4 C (dA DX7_as_0 15 rfl) rfl ?_
      refine J_aload_n C (dA DX7_as_0 16 rfl) rfl ?_
      refine G_X7_fen C wF_RX7_12 (dA DX7_as_0 17 rfl) ?_
      refine J_iload_n C (dA DX7_as_0 18 rfl) rfl ?_
      refine V_X1_has C (by decide) (c_X1_has l E _ (by decide) _ hS) wM_RX7_100 (by decide) (dA DX7_as_0 19 rfl) rfl (Nat.le_of_ble_eq_true rfl) ?_
      refine J_if_ne_b (tgt := 49) C (dA DX7_as_0 20 rfl) (by decide) (fun h39 => ?_) (fun h39 => ?_)
      · try have g39 := inr_t h39
        try have g39 := inr_f h39
        obtain ⟨t, ht, ex⟩ := hsp.resolve_left (fun z => by rw [z] at h39; exact absurd h39 (by simp [inr]))
        have hm : ¬ vb (fb 0) M (124 + p) = -1 := fun z => by rw [z] at h39; exact absurd h39 (by simp [inr])
        have nvt : nv (nI t) = t := nv_nI (by omega)
        rw [ex]
        refine J_aload_n C (dA DX7_as_0 25 rfl) rfl ?_
        refine G_X7_fen C wF_RX7_12 (dA DX7_as_0 26 rfl) ?_
        refine J_iload_n C (dA DX7_as_0 27 rfl) rfl ?_
        refine J_iload_n C (dA DX7_as_0 28 rfl) rfl ?_
        refine V_X1_isOfKind C (by decide) (c_X1_isOfKind l E 0 (by decide) t w ht (by omega) hS) wM_RX7_250 (by decide) (dA DX7_as_0 29 rfl) rfl (Nat.le_of_ble_eq_true rfl) ?_
        refine J_if_ne_b (tgt := 68) C (dA DX7_as_0 30 rfl) (by decide) (fun h58 => ?_) (fun h58 => ?_)
        · try have g58 := inr_t h58
          try have g58 := inr_f h58
          refine J_iload_n C (dA DX7_as_0 35 rfl) rfl ?_
          exact J_iret C G (dA DX7_as_0 36 rfl) ⟨oi (by unfold aAs; rw [if_pos ⟨decide_eq_true (by omega), decide_eq_true (by omega)⟩, na, nb, if_neg hm, ex, nvt, if_pos h58]), by unfold eAs; rw [if_pos ⟨decide_eq_true (by omega), decide_eq_true (by omega)⟩, na, nb, if_neg hm, ex, nvt, if_pos h58]⟩
        · try have g58 := inr_t h58
          try have g58 := inr_f h58
          refine J_aload_n C (dA DX7_as_0 31 rfl) rfl ?_
          refine J_ldc (v := (-1000003)) C wK_RX7_253 (dA DX7_as_0 32 rfl) ?_
          refine V_X7_finding C (c_X7_finding l E 2 (by decide) _ (by decide)) wM_RX7_70 (by decide) (dA DX7_as_0 33 rfl) rfl (Nat.le_of_ble_eq_true rfl) ?_
          exact J_iret C G (dA DX7_as_0 34 rfl) ⟨oi (by unfold aAs; rw [if_pos ⟨decide_eq_true (by omega), decide_eq_true (by omega)⟩, na, nb, if_neg hm, ex, nvt, if_neg (by rw [h58]; decide)]; rfl), by unfold eAs; rw [if_pos ⟨decide_eq_true (by omega), decide_eq_true (by omega)⟩, na, nb, if_neg hm, ex, nvt, if_neg (by rw [h58]; decide)]⟩
      · try have g39 := inr_t h39
        try have g39 := inr_f h39
        refine J_aload_n C (dA DX7_as_0 21 rfl) rfl ?_
        refine J_ldc (v := (-1000006)) C wK_RX7_249 (dA DX7_as_0 22 rfl) ?_
        refine V_X7_finding C (c_X7_finding l E 5 (by decide) _ (by decide)) wM_RX7_70 (by decide) (dA DX7_as_0 23 rfl) rfl (Nat.le_of_ble_eq_true rfl) ?_
        have hm : vb (fb 0) M (124 + p) = -1 := hsp.resolve_right (fun ⟨t, ht, e⟩ => by rw [e, inr_n (by omega)] at h39; exact absurd (of_decide_eq_false h39) (by omega))
        exact J_iret C G (dA DX7_as_0 24 rfl) ⟨oi (by unfold aAs; rw [if_pos ⟨decide_eq_true (by omega), decide_eq_true (by omega)⟩, na, if_pos hm]; rfl), by unfold eAs; rw [if_pos ⟨decide_eq_true (by omega), decide_eq_true (by omega)⟩, na, if_pos hm]⟩
    · try have g11 := inr_t h11
      try have g11 := inr_f h11
      refine J_aload_n C (dA DX7_as_0 6 rfl) rfl ?_
      refine J_ldc (v := (-1000001)) C wK_RX7_69 (dA DX7_as_0 7 rfl) ?_
      refine V_X7_finding C (c_X7_finding l E 0 (by decide) _ (by decide)) wM_RX7_70 (by decide) (dA DX7_as_0 8 rfl) rfl (Nat.le_of_ble_eq_true rfl) ?_
      exact J_iret C G (dA DX7_as_0 9 rfl) ⟨oi (by unfold aAs; rw [if_neg (by rintro ⟨z1, z2⟩; try have z1 := inr_t z1; try have z2 := inr_t z2; omega)]; rfl), by unfold eAs; rw [if_neg (by rintro ⟨z1, z2⟩; try have z1 := inr_t z1; try have z2 := inr_t z2; omega)]⟩
set_option maxRecDepth 4000 in
theorem c_X8_as (l : Launch) (E : jE) (a b : Int32) (hS : IS (vb 1100 M))  : K_X8_as l E [.ref (ja E 60), .int a, .int b] M (aAs (vb 1100 M) a b) (eAs (vb 1100 M) 1502 a b M) := by
  refine CT_intro (own := RX8) (by decide +kernel) rfl (by simp [Value.category]) (Nat.le_of_ble_eq_true rfl) rfl (fun X C G => ?_)
  show J E X 0 [some (.ref (ja E 60)), some (.int a), some (.int b), none, none] [] M
  have hN := leN hS
  refine J_iload_n C (dA DX8_as_0 0 rfl) rfl ?_
  refine V_X8_isSpot C (c_X8_isSpot l E _) wM_RX8_257 (by decide) (dA DX8_as_0 1 rfl) rfl (Nat.le_of_ble_eq_true rfl) ?_
  refine J_if_eq_b (tgt := 17) C (dA DX8_as_0 2 rfl) (by decide) (fun h4 => ?_) (fun h4 => ?_)
  · try have g4 := inr_t h4
    try have g4 := inr_f h4
    refine J_aload_n C (dA DX8_as_0 8 rfl) rfl ?_
    refine J_iconst (v := nI 0) C (dA DX8_as_0 9 rfl) (by decide) ?_
    refine V_X8_no C (c_X8_no l E _ (by decide)) wM_RX8_106 (by decide) (dA DX8_as_0 10 rfl) rfl (Nat.le_of_ble_eq_true rfl) ?_
    exact J_iret C G (dA DX8_as_0 11 rfl) ⟨oi (by unfold aAs; rw [if_neg (by rintro ⟨z1, z2⟩; try have z1 := inr_t z1; try have z2 := inr_t z2; omega)]; rfl), by unfold eAs; rw [if_neg (by rintro ⟨z1, z2⟩; try have z1 := inr_t z1; try have z2 := inr_t z2; omega)]⟩
  · try have g4 := inr_t h4
    try have g4 := inr_f h4
    refine J_iload_n C (dA DX8_as_0 3 rfl) rfl ?_
    refine J_iconst (v := nI 0) C (dA DX8_as_0 4 rfl) (by decide) ?_
    refine J_bipush (v := nI 6) C (dA DX8_as_0 5 rfl) (by decide) ?_
    refine V_X8_in1 C (c_X8_in1n l E _ _ _ (by omega) (by omega)) wM_RX8_58 (by decide) (dA DX8_as_0 6 rfl) rfl (Nat.le_of_ble_eq_true rfl) ?_
    refine J_if_ne_b (tgt := 23) C (dA DX8_as_0 7 rfl) (by decide) (fun h14 => ?_) (fun h14 => ?_)
    · try have g14 := inr_t h14
      try have g14 := inr_f h14
      obtain ⟨p, hp, rfl⟩ := toNI (x := a) (n := 10) (by omega) (by omega)
      have ta := tI (n := p) (by omega)
      have na : nv (nI p) = p := nv_nI (by omega)
      obtain ⟨w, hw, rfl⟩ := toNI (x := b) (n := 7) (by omega) (by omega)
      have tb := tI (n := w) (by omega)
      have nb : nv (nI w) = w := nv_nI (by omega)
      have e0 : M (1100 + (124 + p)) = vb 1100 M (124 + p) := (vb_at (by omega)).symm
      have hsp := hS.2.2.2.2.2.2.2 p hp
      refine J_aload_n C (dA DX8_as_0 12 rfl) rfl ?_
      refine G_X8_s C wF_RX8_9 (dA DX8_as_0 13 rfl) ?_
      refine J_bipush (v := nI 124) C (dA DX8_as_0 14 rfl) (by decide) ?_
      refine J_iload_n C (dA DX8_as_0 15 rfl) rfl ?_
      first | refine J_iadd_n C (dA DX8_as_0 16 rfl) ?_ | refine J_iadd C (dA DX8_as_0 16 rfl) ?_
      refine R_1 C (hk := rfl) (j := 124 + p) rfl (by omega) (dA DX8_as_0 17 rfl) ?_
      rw [e0]
      refine J_ist_3_5 C (dA DX8_as_0 18 rfl) rfl ?_
      refine J_iload_n C (dA DX8_as_0 19 rfl) rfl ?_
      refine J_if_ge_t (tgt := 43) C (dA DX8_as_0 20 rfl) (by decide) (fun h34 => ?_) (fun h34 => ?_)
      · try have g34 := inr_t h34
        try have g34 := inr_f h34
        have hm : ¬ vb 1100 M (124 + p) = -1 := fun z => by rw [z] at h34; exact absurd h34 (by decide)
        obtain ⟨t, ht, ex⟩ := hsp.resolve_left hm
        have nvt : nv (nI t) = t := nv_nI (by omega)
        have h30 := lt30 hS (k := t) (by omega)
        rw [ex]
        have loop : ∀ n k, rnk k < n → k < 7 → kindS w k = kindS w (f3 (vb 1100 M) t 0) → J E X 51 [some (.ref (ja E 60)), some (.int (nI p)), some (.int (nI w)), some (.int (nI t)), some (.int (nI k))] [] M := by
          intro n
          induction n with
          | zero =>
            intro k hr hk hkk
            omega
          | succ n ih =>
            intro k hr hk hkk
            have hab := abv_ok k hk
            have hku := kind_up w hw k hk
            refine J_iload C (dA DX8_as_0 30 rfl) rfl ?_
            refine J_iload_n C (dA DX8_as_0 31 rfl) rfl ?_
            refine J_icmp_eq_n (tgt := 72) C (by omega) (by omega) (dA DX8_as_0 32 rfl) (by decide) (fun h54 => ?_) (fun h54 => ?_)
            · try have g54 := inr_t h54
              try have g54 := inr_f h54
              refine J_iload C (dA DX8_as_0 39 rfl) rfl ?_
              refine J_iload_n C (dA DX8_as_0 40 rfl) rfl ?_
              refine J_icmp_ne_n (tgt := 82) C (by omega) (by omega) (dA DX8_as_0 41 rfl) (by decide) (fun h75 => ?_) (fun h75 => ?_)
              · exfalso; omega
              · try have g75 := inr_t h75
                try have g75 := inr_f h75
                refine J_iload_n C (dA DX8_as_0 42 rfl) rfl ?_
                refine J_goto (tgt := 87) C (dA DX8_as_0 43 rfl) (by decide) ?_
                have kf : kindS w (f3 (vb 1100 M) t 0) = true := by rw [← hkk, hku, decide_eq_true (show k = w by omega)]; rfl
                exact J_iret C G (dA DX8_as_0 47 rfl) ⟨oi (by unfold aAs; rw [if_pos ⟨decide_eq_true (by omega), decide_eq_true (by omega)⟩, na, nb, if_neg hm, ex, nvt, if_pos kf]), by unfold eAs; rw [if_pos ⟨decide_eq_true (by omega), decide_eq_true (by omega)⟩, na, nb, if_neg hm, ex, nvt, if_pos kf]⟩
            · try have g54 := inr_t h54
              try have g54 := inr_f h54
              refine J_iload C (dA DX8_as_0 33 rfl) rfl ?_
              refine J_if_eq_n (tgt := 72) C (by omega) (dA DX8_as_0 34 rfl) (by decide) (fun h59 => ?_) (fun h59 => ?_)
              · try have g59 := inr_t h59
                try have g59 := inr_f h59
                refine J_iload C (dA DX8_as_0 39 rfl) rfl ?_
                refine J_iload_n C (dA DX8_as_0 40 rfl) rfl ?_
                refine J_icmp_ne_n (tgt := 82) C (by omega) (by omega) (dA DX8_as_0 41 rfl) (by decide) (fun h75 => ?_) (fun h75 => ?_)
                · try have g75 := inr_t h75
                  try have g75 := inr_f h75
                  refine J_aload_n C (dA DX8_as_0 44 rfl) rfl ?_
                  refine J_iconst (v := nI 2) C (dA DX8_as_0 45 rfl) (by decide) ?_
                  refine V_X8_no C (c_X8_no l E _ (by decide)) wM_RX8_106 (by decide) (dA DX8_as_0 46 rfl) rfl (Nat.le_of_ble_eq_true rfl) ?_
                  have kf : kindS w (f3 (vb 1100 M) t 0) = false := by rw [← hkk, hku, decide_eq_false (show ¬ k = w by omega), decide_eq_true (show k = 0 by omega)]; rfl
                  exact J_iret C G (dA DX8_as_0 47 rfl) ⟨oi (by unfold aAs; rw [if_pos ⟨decide_eq_true (by omega), decide_eq_true (by omega)⟩, na, nb, if_neg hm, ex, nvt, if_neg (by rw [kf]; decide)]; rfl), by unfold eAs; rw [if_pos ⟨decide_eq_true (by omega), decide_eq_true (by omega)⟩, na, nb, if_neg hm, ex, nvt, if_neg (by rw [kf]; decide)]⟩
                · exfalso; omega
              · try have g59 := inr_t h59
                try have g59 := inr_f h59
                refine J_iload C (dA DX8_as_0 35 rfl) rfl ?_
                refine V_X8_above C (c_X8_above l E k hk) wM_RX8_260 (by decide) (dA DX8_as_0 36 rfl) rfl (Nat.le_of_ble_eq_true rfl) ?_
                refine J_ist_4_5 C (dA DX8_as_0 37 rfl) rfl ?_
                refine J_goto (tgt := 51) C (dA DX8_as_0 38 rfl) (by decide) ?_
                exact ih (abv k) (by have := hab.2 (by omega); omega) hab.1 (by rw [← hkk, hku, decide_eq_false (show ¬ k = w by omega), decide_eq_false (show ¬ k = 0 by omega)]; rfl)
        refine J_aload_n C (dA DX8_as_0 25 rfl) rfl ?_
        refine J_iload_n C (dA DX8_as_0 26 rfl) rfl ?_
        refine J_iconst (v := nI 0) C (dA DX8_as_0 27 rfl) (by decide) ?_
        refine V_X8_get C (c_X8_get l E t 0 (by omega) (by decide) hS) wM_RX8_62 (by decide) (dA DX8_as_0 28 rfl) rfl (Nat.le_of_ble_eq_true rfl) ?_
        refine J_ist_4_5 C (dA DX8_as_0 29 rfl) rfl ?_
        exact loop _ _ (Nat.lt_succ_self _) h30 rfl
      · try have g34 := inr_t h34
        try have g34 := inr_f h34
        refine J_aload_n C (dA DX8_as_0 21 rfl) rfl ?_
        refine J_iconst (v := nI 5) C (dA DX8_as_0 22 rfl) (by decide) ?_
        refine V_X8_no C (c_X8_no l E _ (by decide)) wM_RX8_106 (by decide) (dA DX8_as_0 23 rfl) rfl (Nat.le_of_ble_eq_true rfl) ?_
        have hm : vb 1100 M (124 + p) = -1 := hsp.resolve_right (fun ⟨t, ht, e⟩ => by rw [e, tI (by omega)] at h34; omega)
        exact J_iret C G (dA DX8_as_0 24 rfl) ⟨oi (by unfold aAs; rw [if_pos ⟨decide_eq_true (by omega), decide_eq_true (by omega)⟩, na, if_pos hm]; rfl), by unfold eAs; rw [if_pos ⟨decide_eq_true (by omega), decide_eq_true (by omega)⟩, na, if_pos hm]⟩
    · try have g14 := inr_t h14
      try have g14 := inr_f h14
      refine J_aload_n C (dA DX8_as_0 8 rfl) rfl ?_
      refine J_iconst (v := nI 0) C (dA DX8_as_0 9 rfl) (by decide) ?_
      refine V_X8_no C (c_X8_no l E _ (by decide)) wM_RX8_106 (by decide) (dA DX8_as_0 10 rfl) rfl (Nat.le_of_ble_eq_true rfl) ?_
      exact J_iret C G (dA DX8_as_0 11 rfl) ⟨oi (by unfold aAs; rw [if_neg (by rintro ⟨z1, z2⟩; try have z1 := inr_t z1; try have z2 := inr_t z2; omega)]; rfl), by unfold eAs; rw [if_neg (by rintro ⟨z1, z2⟩; try have z1 := inr_t z1; try have z2 := inr_t z2; omega)]⟩
end PA
