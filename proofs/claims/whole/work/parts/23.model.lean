section MR
variable {l : Launch} {E : jE} {X : jX} {own : String} {cc : ByteArray} {nL d : Nat} {pc : Nat} {lv : List (Option Value)} {st : List Value} {M : jM}
theorem Q_s1 (C : jK l E X own cc nL d) (hS : IS (vb 1100 M)) (hd : decode cc pc = .ok (.iaload, 1)) (k : J E X (pc + 1) lv (.int (nI (iN (vb 1100 M))) :: st) M) : J E X pc lv (.int (nI 1) :: .ref (ja E 61) :: st) M :=
  R_1 C (hk := rfl) rfl (by decide) hd (by rw [mN hS]; exact k)
theorem Q_s0 (C : jK l E X own cc nL d) (hS : IS (vb 1100 M)) (hd : decode cc pc = .ok (.iaload, 1)) (k : J E X (pc + 1) lv (.int (nI (iM (vb 1100 M))) :: st) M) : J E X pc lv (.int (nI 0) :: .ref (ja E 61) :: st) M :=
  R_1 C (hk := rfl) rfl (by decide) hd (by rw [show M (1100 + 0) = nI (iM (vb 1100 M)) from mM hS]; exact k)
theorem Q_s3 (C : jK l E X own cc nL d) (hS : IS (vb 1100 M)) (hd : decode cc pc = .ok (.iaload, 1)) (k : J E X (pc + 1) lv (.int (nI (iR (vb 1100 M))) :: st) M) : J E X pc lv (.int (nI 3) :: .ref (ja E 61) :: st) M :=
  R_1 C (hk := rfl) rfl (by decide) hd (by rw [mR hS]; exact k)
end MR
def Fl (b k : Nat) (M : jM) : jM := upd M (b + k) (M (b + k) + nI 1)
/-- a copy of i numbers, from a row to a row -/
def cpN (M : jM) (src dst i : Nat) : jM := fun a => if dst ≤ a ∧ a < dst + i then M (src + (a - dst)) else M a
theorem cpN_0 (M : jM) (src dst : Nat) : cpN M src dst 0 = M := by
  funext a; exact if_neg (by omega)
theorem cpN_s {M : jM} {src dst i : Nat} (h : src + i < dst ∨ dst + i < src) (h2 : src + i < dst ∨ dst + i ≤ src + i) : upd (cpN M src dst i) (dst + i) (cpN M src dst i (src + i)) = cpN M src dst (i + 1) := by
  funext a
  unfold upd cpN
  by_cases e : a = dst + i
  · rw [if_pos e, if_neg (by omega), if_pos (by omega), show src + (a - dst) = src + i by omega]
  · rw [if_neg e]
    by_cases e2 : dst ≤ a ∧ a < dst + i
    · rw [if_pos e2, if_pos (by omega)]
    · rw [if_neg e2, if_neg (by omega)]
theorem cpN_134 {M : jM} {src dst : Nat} : cpN M src dst 134 = lay dst M (vb src M) := by
  funext a
  unfold cpN lay
  by_cases e : dst ≤ a ∧ a < dst + 134
  · rw [if_pos e, if_pos e, vb_at (by omega)]
  · rw [if_neg e, if_neg e]
section MM
variable {M : jM}
set_option maxRecDepth 4000 in
theorem c_X8_no (l : Launch) (E : jE) (k : Nat) (hk : k < 7)  : K_X8_no l E [.ref (ja E 60), .int (nI k)] M ((-1000001) - nI k) (Fl 1502 k M) := by
  refine CT_intro (own := RX8) (by decide +kernel) rfl (by simp [Value.category]) (Nat.le_of_ble_eq_true rfl) rfl (fun X C G => ?_)
  show J E X 0 [some (.ref (ja E 60)), some (.int (nI k))] [] M
  refine J_aload_n C (dA DX8_no_0 0 rfl) rfl ?_
  refine G_X8_found C wF_RX8_19 (dA DX8_no_0 1 rfl) ?_
  refine J_iload_n C (dA DX8_no_0 2 rfl) rfl ?_
  refine J_dup2 C (dA DX8_no_0 3 rfl) rfl rfl ?_
  refine R_1 C (hk := rfl) rfl (by omega) (dA DX8_no_0 4 rfl) ?_
  refine J_iconst (v := nI 1) C (dA DX8_no_0 5 rfl) (by decide) ?_
  refine J_iadd C (dA DX8_no_0 6 rfl) ?_
  refine S_1 C (hk := rfl) rfl (by omega) (dA DX8_no_0 7 rfl) ?_
  refine J_ldc (v := (-1000001)) C wK_RX8_57 (dA DX8_no_0 8 rfl) ?_
  refine J_iload_n C (dA DX8_no_0 9 rfl) rfl ?_
  refine J_isub C (dA DX8_no_0 10 rfl) ?_
  exact J_iret C G (dA DX8_no_0 11 rfl) ⟨rfl, rfl⟩
set_option maxRecDepth 4000 in
theorem c_X8_in1 (l : Launch) (E : jE) (x a b : Int32)  : K_X8_in1 l E [.int x, .int a, .int b] M (jb (inr x a.toInt b.toInt)) (M) := by
  refine CT_intro (own := RX8) (by decide +kernel) rfl (by simp [Value.category]) (Nat.le_of_ble_eq_true rfl) rfl (fun X C G => ?_)
  show J E X 0 [some (.int x), some (.int a), some (.int b)] [] M
  refine J_iload_n C (dA DX8_in1_0 0 rfl) rfl ?_
  refine J_iload_n C (dA DX8_in1_0 1 rfl) rfl ?_
  refine J_icmp_lt_t (tgt := 14) C (dA DX8_in1_0 2 rfl) (by decide) (fun h2 => ?_) (fun h2 => ?_)
  · refine J_iconst (v := nI 0) C (dA DX8_in1_0 8 rfl) (by decide) ?_
    first | exact J_zret C G rfl (dA DX8_in1_0 9 rfl) ⟨oi (zt (by omega)), rfl⟩ | exact J_zret C G rfl (dA DX8_in1_0 9 rfl) ⟨oi (zf (by omega)), rfl⟩
  · refine J_iload_n C (dA DX8_in1_0 3 rfl) rfl ?_
    refine J_iload_n C (dA DX8_in1_0 4 rfl) rfl ?_
    refine J_icmp_gt_t (tgt := 14) C (dA DX8_in1_0 5 rfl) (by decide) (fun h7 => ?_) (fun h7 => ?_)
    · refine J_iconst (v := nI 0) C (dA DX8_in1_0 8 rfl) (by decide) ?_
      first | exact J_zret C G rfl (dA DX8_in1_0 9 rfl) ⟨oi (zt (by omega)), rfl⟩ | exact J_zret C G rfl (dA DX8_in1_0 9 rfl) ⟨oi (zf (by omega)), rfl⟩
    · refine J_iconst (v := nI 1) C (dA DX8_in1_0 6 rfl) (by decide) ?_
      refine J_goto (tgt := 15) C (dA DX8_in1_0 7 rfl) (by decide) ?_
      first | exact J_zret C G rfl (dA DX8_in1_0 9 rfl) ⟨oi (zt (by omega)), rfl⟩ | exact J_zret C G rfl (dA DX8_in1_0 9 rfl) ⟨oi (zf (by omega)), rfl⟩
set_option maxRecDepth 4000 in
theorem c_X8_less (l : Launch) (E : jE) (a b : Nat) (ha : a < 2 ^ 31) (hb : b < 2 ^ 31)  : K_X8_less l E [.int (nI a), .int (nI b)] M (nI (min a b)) (M) := by
  refine CT_intro (own := RX8) (by decide +kernel) rfl (by simp [Value.category]) (Nat.le_of_ble_eq_true rfl) rfl (fun X C G => ?_)
  show J E X 0 [some (.int (nI a)), some (.int (nI b))] [] M
  refine J_iload_n C (dA DX8_less_0 0 rfl) rfl ?_
  refine J_iload_n C (dA DX8_less_0 1 rfl) rfl ?_
  refine J_icmp_ge_n (tgt := 9) C ha hb (dA DX8_less_0 2 rfl) (by decide) (fun h2 => ?_) (fun h2 => ?_)
  · refine J_iload_n C (dA DX8_less_0 5 rfl) rfl ?_
    exact J_iret C G (dA DX8_less_0 6 rfl) ⟨oi (by congr 1; omega), rfl⟩
  · refine J_iload_n C (dA DX8_less_0 3 rfl) rfl ?_
    refine J_goto (tgt := 10) C (dA DX8_less_0 4 rfl) (by decide) ?_
    exact J_iret C G (dA DX8_less_0 6 rfl) ⟨oi (by congr 1; omega), rfl⟩
theorem inr_0 {x : Int32} {b : Nat} (hb : b < 2 ^ 31) : inr x (nI 0).toInt (nI b).toInt = inr x 0 b := by rw [tI hb]; rfl
set_option maxRecDepth 4000 in
theorem c_X8_isPond (l : Launch) (E : jE) (x : Int32)  : K_X8_isPond l E [.int x] M (jb (inr x 0 15)) (M) := by
  refine CT_intro (own := RX8) (by decide +kernel) rfl (by simp [Value.category]) (Nat.le_of_ble_eq_true rfl) rfl (fun X C G => ?_)
  show J E X 0 [some (.int x)] [] M
  refine J_iload_n C (dA DX8_isPond_0 0 rfl) rfl ?_
  refine J_iconst (v := nI 0) C (dA DX8_isPond_0 1 rfl) (by decide) ?_
  refine J_bipush (v := nI 15) C (dA DX8_isPond_0 2 rfl) (by decide) ?_
  refine V_X8_in1 C (c_X8_in1 l E _ _ _) wM_RX8_58 (by decide) (dA DX8_isPond_0 3 rfl) rfl (Nat.le_of_ble_eq_true rfl) ?_
  exact J_zret C G (jb_z _) (dA DX8_isPond_0 4 rfl) ⟨rfl, rfl⟩
set_option maxRecDepth 4000 in
theorem c_X8_isThing (l : Launch) (E : jE) (x : Int32) (hS : IS (vb 1100 M))  : K_X8_isThing l E [.ref (ja E 60), .int x] M (jb (inr x 0 ((iN (vb 1100 M) : Int) - 1))) (M) := by
  refine CT_intro (own := RX8) (by decide +kernel) rfl (by simp [Value.category]) (Nat.le_of_ble_eq_true rfl) rfl (fun X C G => ?_)
  show J E X 0 [some (.ref (ja E 60)), some (.int x)] [] M
  have hN := leN hS
  refine J_iload_n C (dA DX8_isThing_0 0 rfl) rfl ?_
  refine J_iconst (v := nI 0) C (dA DX8_isThing_0 1 rfl) (by decide) ?_
  refine J_aload_n C (dA DX8_isThing_0 2 rfl) rfl ?_
  refine G_X8_s C wF_RX8_9 (dA DX8_isThing_0 3 rfl) ?_
  refine J_iconst (v := nI 1) C (dA DX8_isThing_0 4 rfl) (by decide) ?_
  refine Q_s1 C hS (dA DX8_isThing_0 5 rfl) ?_
  refine J_iconst (v := nI 1) C (dA DX8_isThing_0 6 rfl) (by decide) ?_
  refine J_isub C (dA DX8_isThing_0 7 rfl) ?_
  refine V_X8_in1 C (c_X8_in1 l E _ _ _) wM_RX8_58 (by decide) (dA DX8_isThing_0 8 rfl) rfl (Nat.le_of_ble_eq_true rfl) ?_
  exact J_zret C G (jb_z _) (dA DX8_isThing_0 9 rfl) ⟨oi (by rw [show (nI (iN (vb 1100 M)) - nI 1).toInt = (iN (vb 1100 M) : Int) - 1 from pk_sub_toInt (by omega) (by omega)]; rfl), rfl⟩
set_option maxRecDepth 4000 in
theorem c_X8_of1 (l : Launch) (E : jE) (p w : Nat) (hp : p < 16) (hw : w < 6) (hS : IS (vb 1100 M))  : K_X8_of1 l E [.ref (ja E 60), .int (nI p), .int (nI w)] M (nI (f6 (vb 1100 M) p w)) (M) := by
  refine CT_intro (own := RX8) (by decide +kernel) rfl (by simp [Value.category]) (Nat.le_of_ble_eq_true rfl) rfl (fun X C G => ?_)
  show J E X 0 [some (.ref (ja E 60)), some (.int (nI p)), some (.int (nI w))] [] M
  refine J_aload_n C (dA DX8_of1_0 0 rfl) rfl ?_
  refine G_X8_s C wF_RX8_9 (dA DX8_of1_0 1 rfl) ?_
  refine J_iconst (v := nI 4) C (dA DX8_of1_0 2 rfl) (by decide) ?_
  refine J_bipush (v := nI 6) C (dA DX8_of1_0 3 rfl) (by decide) ?_
  refine J_iload_n C (dA DX8_of1_0 4 rfl) rfl ?_
  first | refine J_imul_n C (dA DX8_of1_0 5 rfl) ?_ | refine J_imul C (dA DX8_of1_0 5 rfl) ?_
  first | refine J_iadd_n C (dA DX8_of1_0 6 rfl) ?_ | refine J_iadd C (dA DX8_of1_0 6 rfl) ?_
  refine J_iload_n C (dA DX8_of1_0 7 rfl) rfl ?_
  first | refine J_iadd_n C (dA DX8_of1_0 8 rfl) ?_ | refine J_iadd C (dA DX8_of1_0 8 rfl) ?_
  refine R_1 C (hk := rfl) (j := 4 + 6 * p + w) rfl (by omega) (dA DX8_of1_0 9 rfl) ?_
  exact J_iret C G (dA DX8_of1_0 10 rfl) ⟨oi (m6 hS hp hw), rfl⟩
set_option maxRecDepth 4000 in
theorem c_X8_get (l : Launch) (E : jE) (p w : Nat) (hp : p < 8) (hw : w < 3) (hS : IS (vb 1100 M))  : K_X8_get l E [.ref (ja E 60), .int (nI p), .int (nI w)] M (nI (f3 (vb 1100 M) p w)) (M) := by
  refine CT_intro (own := RX8) (by decide +kernel) rfl (by simp [Value.category]) (Nat.le_of_ble_eq_true rfl) rfl (fun X C G => ?_)
  show J E X 0 [some (.ref (ja E 60)), some (.int (nI p)), some (.int (nI w))] [] M
  refine J_aload_n C (dA DX8_get_0 0 rfl) rfl ?_
  refine G_X8_s C wF_RX8_9 (dA DX8_get_0 1 rfl) ?_
  refine J_bipush (v := nI 100) C (dA DX8_get_0 2 rfl) (by decide) ?_
  refine J_iconst (v := nI 3) C (dA DX8_get_0 3 rfl) (by decide) ?_
  refine J_iload_n C (dA DX8_get_0 4 rfl) rfl ?_
  first | refine J_imul_n C (dA DX8_get_0 5 rfl) ?_ | refine J_imul C (dA DX8_get_0 5 rfl) ?_
  first | refine J_iadd_n C (dA DX8_get_0 6 rfl) ?_ | refine J_iadd C (dA DX8_get_0 6 rfl) ?_
  refine J_iload_n C (dA DX8_get_0 7 rfl) rfl ?_
  first | refine J_iadd_n C (dA DX8_get_0 8 rfl) ?_ | refine J_iadd C (dA DX8_get_0 8 rfl) ?_
  refine R_1 C (hk := rfl) (j := 100 + 3 * p + w) rfl (by omega) (dA DX8_get_0 9 rfl) ?_
  exact J_iret C G (dA DX8_get_0 10 rfl) ⟨oi (m3 hS hp hw), rfl⟩
set_option maxRecDepth 4000 in
theorem c_X8_lays1 (l : Launch) (E : jE) (p w : Nat) (hp : p < 16) (hw : w < 6) (x : Int32)  : K_X8_lays1 l E [.ref (ja E 60), .int (nI p), .int (nI w), .int x] M (lay 1100 M (upd (vb 1100 M) (4 + 6 * p + w) x)) := by
  refine CT_intro (own := RX8) (by decide +kernel) rfl (by simp [Value.category]) (Nat.le_of_ble_eq_true rfl) rfl (fun X C G => ?_)
  show J E X 0 [some (.ref (ja E 60)), some (.int (nI p)), some (.int (nI w)), some (.int x)] [] M
  refine J_aload_n C (dA DX8_lays1_0 0 rfl) rfl ?_
  refine G_X8_s C wF_RX8_9 (dA DX8_lays1_0 1 rfl) ?_
  refine J_iconst (v := nI 4) C (dA DX8_lays1_0 2 rfl) (by decide) ?_
  refine J_bipush (v := nI 6) C (dA DX8_lays1_0 3 rfl) (by decide) ?_
  refine J_iload_n C (dA DX8_lays1_0 4 rfl) rfl ?_
  first | refine J_imul_n C (dA DX8_lays1_0 5 rfl) ?_ | refine J_imul C (dA DX8_lays1_0 5 rfl) ?_
  first | refine J_iadd_n C (dA DX8_lays1_0 6 rfl) ?_ | refine J_iadd C (dA DX8_lays1_0 6 rfl) ?_
  refine J_iload_n C (dA DX8_lays1_0 7 rfl) rfl ?_
  first | refine J_iadd_n C (dA DX8_lays1_0 8 rfl) ?_ | refine J_iadd C (dA DX8_lays1_0 8 rfl) ?_
  refine J_iload_n C (dA DX8_lays1_0 9 rfl) rfl ?_
  refine S_1 C (hk := rfl) (j := 4 + 6 * p + w) rfl (by omega) (dA DX8_lays1_0 10 rfl) ?_
  exact J_vret C G (dA DX8_lays1_0 11 rfl) ⟨rfl, lay_upd (by omega)⟩
set_option maxRecDepth 4000 in
theorem c_X8_puts (l : Launch) (E : jE) (p w : Nat) (hp : p < 8) (hw : w < 3) (x : Int32)  : K_X8_puts l E [.ref (ja E 60), .int (nI p), .int (nI w), .int x] M (lay 1100 M (upd (vb 1100 M) (100 + 3 * p + w) x)) := by
  refine CT_intro (own := RX8) (by decide +kernel) rfl (by simp [Value.category]) (Nat.le_of_ble_eq_true rfl) rfl (fun X C G => ?_)
  show J E X 0 [some (.ref (ja E 60)), some (.int (nI p)), some (.int (nI w)), some (.int x)] [] M
  refine J_aload_n C (dA DX8_puts_0 0 rfl) rfl ?_
  refine G_X8_s C wF_RX8_9 (dA DX8_puts_0 1 rfl) ?_
  refine J_bipush (v := nI 100) C (dA DX8_puts_0 2 rfl) (by decide) ?_
  refine J_iconst (v := nI 3) C (dA DX8_puts_0 3 rfl) (by decide) ?_
  refine J_iload_n C (dA DX8_puts_0 4 rfl) rfl ?_
  first | refine J_imul_n C (dA DX8_puts_0 5 rfl) ?_ | refine J_imul C (dA DX8_puts_0 5 rfl) ?_
  first | refine J_iadd_n C (dA DX8_puts_0 6 rfl) ?_ | refine J_iadd C (dA DX8_puts_0 6 rfl) ?_
  refine J_iload_n C (dA DX8_puts_0 7 rfl) rfl ?_
  first | refine J_iadd_n C (dA DX8_puts_0 8 rfl) ?_ | refine J_iadd C (dA DX8_puts_0 8 rfl) ?_
  refine J_iload_n C (dA DX8_puts_0 9 rfl) rfl ?_
  refine S_1 C (hk := rfl) (j := 100 + 3 * p + w) rfl (by omega) (dA DX8_puts_0 10 rfl) ?_
  exact J_vret C G (dA DX8_puts_0 11 rfl) ⟨rfl, lay_upd (by omega)⟩
set_option maxRecDepth 4000 in
theorem c_X8_setsAside (l : Launch) (E : jE)  : K_X8_setsAside l E [.ref (ja E 60)] M (lay 1368 M (vb 1100 M)) := by
  refine CT_intro (own := RX8) (by decide +kernel) rfl (by simp [Value.category]) (Nat.le_of_ble_eq_true rfl) rfl (fun X C G => ?_)
  show J E X 0 [some (.ref (ja E 60)), none] [] M
  have loop : ∀ n i, i + n = 134 → J E X 2 [some (.ref (ja E 60)), some (.int (nI i))] [] (cpN M 1100 1368 i) := by
    intro n
    induction n with
    | zero =>
      intro i hi
      refine J_iload_n C (dA DX8_setsAside_0 2 rfl) rfl ?_
      refine J_sipush (v := nI 134) C (dA DX8_setsAside_0 3 rfl) (by decide) ?_
      first | refine J_icmp_ge_n (tgt := 27) C (by omega) (by omega) (dA DX8_setsAside_0 4 rfl) (by decide) (fun h6 => ?_) (fun h6 => ?_) | refine J_icmp_ge_c (tgt := 27) C (by omega) (dA DX8_setsAside_0 4 rfl) (by decide) (fun h6 => ?_) (fun h6 => ?_) | refine J_icmp_ge_t (tgt := 27) C (dA DX8_setsAside_0 4 rfl) (by decide) (fun h6 => ?_) (fun h6 => ?_)
      · exact J_vret C G (dA DX8_setsAside_0 15 rfl) ⟨rfl, by rw [show i = 134 by omega]; exact cpN_134⟩
      · exfalso; omega
    | succ n ih =>
      intro i hi
      refine J_iload_n C (dA DX8_setsAside_0 2 rfl) rfl ?_
      refine J_sipush (v := nI 134) C (dA DX8_setsAside_0 3 rfl) (by decide) ?_
      first | refine J_icmp_ge_n (tgt := 27) C (by omega) (by omega) (dA DX8_setsAside_0 4 rfl) (by decide) (fun h6 => ?_) (fun h6 => ?_) | refine J_icmp_ge_c (tgt := 27) C (by omega) (dA DX8_setsAside_0 4 rfl) (by decide) (fun h6 => ?_) (fun h6 => ?_) | refine J_icmp_ge_t (tgt := 27) C (dA DX8_setsAside_0 4 rfl) (by decide) (fun h6 => ?_) (fun h6 => ?_)
      · exfalso; omega
      · refine J_aload_n C (dA DX8_setsAside_0 5 rfl) rfl ?_
        refine G_X8_aside C wF_RX8_16 (dA DX8_setsAside_0 6 rfl) ?_
        refine J_iload_n C (dA DX8_setsAside_0 7 rfl) rfl ?_
        refine J_aload_n C (dA DX8_setsAside_0 8 rfl) rfl ?_
        refine G_X8_s C wF_RX8_9 (dA DX8_setsAside_0 9 rfl) ?_
        refine J_iload_n C (dA DX8_setsAside_0 10 rfl) rfl ?_
        refine R_1 C (hk := rfl) rfl (by omega) (dA DX8_setsAside_0 11 rfl) ?_
        refine S_1 C (hk := rfl) rfl (by omega) (dA DX8_setsAside_0 12 rfl) ?_
        first | refine J_inc1_1_2 C (dA DX8_setsAside_0 13 rfl) rfl ?_ | refine J_iinc_1_2 C (dA DX8_setsAside_0 13 rfl) rfl ?_
        refine J_goto (tgt := 2) C (dA DX8_setsAside_0 14 rfl) (by decide) ?_
        rw [cpN_s (by omega) (by omega)]
        exact ih (i + 1) (by omega)
  refine J_iconst (v := nI 0) C (dA DX8_setsAside_0 0 rfl) (by decide) ?_
  refine J_ist_1_2 C (dA DX8_setsAside_0 1 rfl) rfl ?_
  have h := loop _ 0 (Nat.zero_add _)
  rw [cpN_0] at h
  exact h
set_option maxRecDepth 4000 in
theorem c_X8_laysBack (l : Launch) (E : jE)  : K_X8_laysBack l E [.ref (ja E 60)] M (lay 1100 M (vb 1368 M)) := by
  refine CT_intro (own := RX8) (by decide +kernel) rfl (by simp [Value.category]) (Nat.le_of_ble_eq_true rfl) rfl (fun X C G => ?_)
  show J E X 0 [some (.ref (ja E 60)), none] [] M
  have loop : ∀ n i, i + n = 134 → J E X 2 [some (.ref (ja E 60)), some (.int (nI i))] [] (cpN M 1368 1100 i) := by
    intro n
    induction n with
    | zero =>
      intro i hi
      refine J_iload_n C (dA DX8_laysBack_0 2 rfl) rfl ?_
      refine J_sipush (v := nI 134) C (dA DX8_laysBack_0 3 rfl) (by decide) ?_
      first | refine J_icmp_ge_n (tgt := 27) C (by omega) (by omega) (dA DX8_laysBack_0 4 rfl) (by decide) (fun h6 => ?_) (fun h6 => ?_) | refine J_icmp_ge_c (tgt := 27) C (by omega) (dA DX8_laysBack_0 4 rfl) (by decide) (fun h6 => ?_) (fun h6 => ?_) | refine J_icmp_ge_t (tgt := 27) C (dA DX8_laysBack_0 4 rfl) (by decide) (fun h6 => ?_) (fun h6 => ?_)
      · exact J_vret C G (dA DX8_laysBack_0 15 rfl) ⟨rfl, by rw [show i = 134 by omega]; exact cpN_134⟩
      · exfalso; omega
    | succ n ih =>
      intro i hi
      refine J_iload_n C (dA DX8_laysBack_0 2 rfl) rfl ?_
      refine J_sipush (v := nI 134) C (dA DX8_laysBack_0 3 rfl) (by decide) ?_
      first | refine J_icmp_ge_n (tgt := 27) C (by omega) (by omega) (dA DX8_laysBack_0 4 rfl) (by decide) (fun h6 => ?_) (fun h6 => ?_) | refine J_icmp_ge_c (tgt := 27) C (by omega) (dA DX8_laysBack_0 4 rfl) (by decide) (fun h6 => ?_) (fun h6 => ?_) | refine J_icmp_ge_t (tgt := 27) C (dA DX8_laysBack_0 4 rfl) (by decide) (fun h6 => ?_) (fun h6 => ?_)
      · exfalso; omega
      · refine J_aload_n C (dA DX8_laysBack_0 5 rfl) rfl ?_
        refine G_X8_s C wF_RX8_9 (dA DX8_laysBack_0 6 rfl) ?_
        refine J_iload_n C (dA DX8_laysBack_0 7 rfl) rfl ?_
        refine J_aload_n C (dA DX8_laysBack_0 8 rfl) rfl ?_
        refine G_X8_aside C wF_RX8_16 (dA DX8_laysBack_0 9 rfl) ?_
        refine J_iload_n C (dA DX8_laysBack_0 10 rfl) rfl ?_
        refine R_1 C (hk := rfl) rfl (by omega) (dA DX8_laysBack_0 11 rfl) ?_
        refine S_1 C (hk := rfl) rfl (by omega) (dA DX8_laysBack_0 12 rfl) ?_
        first | refine J_inc1_1_2 C (dA DX8_laysBack_0 13 rfl) rfl ?_ | refine J_iinc_1_2 C (dA DX8_laysBack_0 13 rfl) rfl ?_
        refine J_goto (tgt := 2) C (dA DX8_laysBack_0 14 rfl) (by decide) ?_
        rw [cpN_s (by omega) (by omega)]
        exact ih (i + 1) (by omega)
  refine J_iconst (v := nI 0) C (dA DX8_laysBack_0 0 rfl) (by decide) ?_
  refine J_ist_1_2 C (dA DX8_laysBack_0 1 rfl) rfl ?_
  have h := loop _ 0 (Nat.zero_add _)
  rw [cpN_0] at h
  exact h
set_option maxRecDepth 4000 in
theorem c_X8_inside (l : Launch) (E : jE) (x : Int32) (hS : IS (vb 1100 M))  : K_X8_inside l E [.ref (ja E 60), .int x] M (inS (vb 1100 M) x) (M) := by
  refine CT_intro (own := RX8) (by decide +kernel) rfl (by simp [Value.category]) (Nat.le_of_ble_eq_true rfl) rfl (fun X C G => ?_)
  show J E X 0 [some (.ref (ja E 60)), some (.int x), none, none] [] M
  have hN := leN hS
  have loop : ∀ n i, i + n = iN (vb 1100 M) → J E X 4 [some (.ref (ja E 60)), some (.int x), some (.int (orL i (fun k => decide (nI (f3 (vb 1100 M) k 1) = x)))), some (.int (nI i))] [] M := by
    intro n
    induction n with
    | zero =>
      intro i hi
      refine J_iload_n C (dA DX8_inside_0 4 rfl) rfl ?_
      refine J_aload_n C (dA DX8_inside_0 5 rfl) rfl ?_
      refine G_X8_s C wF_RX8_9 (dA DX8_inside_0 6 rfl) ?_
      refine J_iconst (v := nI 1) C (dA DX8_inside_0 7 rfl) (by decide) ?_
      refine Q_s1 C hS (dA DX8_inside_0 8 rfl) ?_
      first | refine J_icmp_ge_n (tgt := 40) C (by omega) (by omega) (dA DX8_inside_0 9 rfl) (by decide) (fun h11 => ?_) (fun h11 => ?_) | refine J_icmp_ge_c (tgt := 40) C (by omega) (dA DX8_inside_0 9 rfl) (by decide) (fun h11 => ?_) (fun h11 => ?_) | refine J_icmp_ge_t (tgt := 40) C (dA DX8_inside_0 9 rfl) (by decide) (fun h11 => ?_) (fun h11 => ?_)
      · refine J_iload_n C (dA DX8_inside_0 26 rfl) rfl ?_
        exact J_iret C G (dA DX8_inside_0 27 rfl) ⟨oi (by unfold inS; rw [← hi]; rfl), rfl⟩
      · exfalso; omega
    | succ n ih =>
      intro i hi
      refine J_iload_n C (dA DX8_inside_0 4 rfl) rfl ?_
      refine J_aload_n C (dA DX8_inside_0 5 rfl) rfl ?_
      refine G_X8_s C wF_RX8_9 (dA DX8_inside_0 6 rfl) ?_
      refine J_iconst (v := nI 1) C (dA DX8_inside_0 7 rfl) (by decide) ?_
      refine Q_s1 C hS (dA DX8_inside_0 8 rfl) ?_
      first | refine J_icmp_ge_n (tgt := 40) C (by omega) (by omega) (dA DX8_inside_0 9 rfl) (by decide) (fun h11 => ?_) (fun h11 => ?_) | refine J_icmp_ge_c (tgt := 40) C (by omega) (dA DX8_inside_0 9 rfl) (by decide) (fun h11 => ?_) (fun h11 => ?_) | refine J_icmp_ge_t (tgt := 40) C (dA DX8_inside_0 9 rfl) (by decide) (fun h11 => ?_) (fun h11 => ?_)
      · exfalso; omega
      · refine J_iload_n C (dA DX8_inside_0 10 rfl) rfl ?_
        refine J_aload_n C (dA DX8_inside_0 11 rfl) rfl ?_
        refine J_iload_n C (dA DX8_inside_0 12 rfl) rfl ?_
        refine J_iconst (v := nI 1) C (dA DX8_inside_0 13 rfl) (by decide) ?_
        refine V_X8_get C (c_X8_get l E i 1 (by omega) (by omega) hS) wM_RX8_62 (by decide) (dA DX8_inside_0 14 rfl) rfl (Nat.le_of_ble_eq_true rfl) ?_
        refine J_iload_n C (dA DX8_inside_0 15 rfl) rfl ?_
        refine J_icmp_ne (tgt := 31) C (dA DX8_inside_0 16 rfl) (by decide) (fun h22 => ?_) (fun h22 => ?_)
        · refine J_iconst (v := nI 0) C (dA DX8_inside_0 21 rfl) (by decide) ?_
          refine J_ior C (dA DX8_inside_0 22 rfl) ?_
          refine J_ist_2_4 C (dA DX8_inside_0 23 rfl) rfl ?_
          first | refine J_inc1_3_4 C (dA DX8_inside_0 24 rfl) rfl ?_ | refine J_iinc_3_4 C (dA DX8_inside_0 24 rfl) rfl ?_
          refine J_goto (tgt := 4) C (dA DX8_inside_0 25 rfl) (by decide) ?_
          rw [i_or0]
          have h := ih (i + 1) (by omega)
          rw [← orL_f (by simp [h22])] at h
          exact h
        · refine J_iconst (v := nI 1) C (dA DX8_inside_0 17 rfl) (by decide) ?_
          refine J_iload_n C (dA DX8_inside_0 18 rfl) rfl ?_
          refine J_ishl C (dA DX8_inside_0 19 rfl) ?_
          refine J_goto (tgt := 32) C (dA DX8_inside_0 20 rfl) (by decide) ?_
          refine J_ior C (dA DX8_inside_0 22 rfl) ?_
          refine J_ist_2_4 C (dA DX8_inside_0 23 rfl) rfl ?_
          first | refine J_inc1_3_4 C (dA DX8_inside_0 24 rfl) rfl ?_ | refine J_iinc_3_4 C (dA DX8_inside_0 24 rfl) rfl ?_
          refine J_goto (tgt := 4) C (dA DX8_inside_0 25 rfl) (by decide) ?_
          have h := ih (i + 1) (by omega)
          rw [← orL_t (by simp [h22])] at h
          exact h
  refine J_iconst (v := nI 0) C (dA DX8_inside_0 0 rfl) (by decide) ?_
  refine J_ist_2_4 C (dA DX8_inside_0 1 rfl) rfl ?_
  refine J_iconst (v := nI 0) C (dA DX8_inside_0 2 rfl) (by decide) ?_
  refine J_ist_3_4 C (dA DX8_inside_0 3 rfl) rfl ?_
  exact loop _ 0 (Nat.zero_add _)
set_option maxRecDepth 4000 in
theorem c_X8_seenIn (l : Launch) (E : jE) (p : Nat) (hp : p < 16) (hS : IS (vb 1100 M))  : K_X8_seenIn l E [.ref (ja E 60), .int (nI p)] M (inS (vb 1100 M) (nI (f6 (vb 1100 M) p 0))) (M) := by
  refine CT_intro (own := RX8) (by decide +kernel) rfl (by simp [Value.category]) (Nat.le_of_ble_eq_true rfl) rfl (fun X C G => ?_)
  show J E X 0 [some (.ref (ja E 60)), some (.int (nI p))] [] M
  refine J_aload_n C (dA DX8_seenIn_0 0 rfl) rfl ?_
  refine J_aload_n C (dA DX8_seenIn_0 1 rfl) rfl ?_
  refine J_iload_n C (dA DX8_seenIn_0 2 rfl) rfl ?_
  refine J_iconst (v := nI 0) C (dA DX8_seenIn_0 3 rfl) (by decide) ?_
  refine V_X8_of1 C (c_X8_of1 l E p 0 hp (by omega) hS) wM_RX8_66 (by decide) (dA DX8_seenIn_0 4 rfl) rfl (Nat.le_of_ble_eq_true rfl) ?_
  refine V_X8_inside C (c_X8_inside l E _ hS) wM_RX8_69 (by decide) (dA DX8_seenIn_0 5 rfl) rfl (Nat.le_of_ble_eq_true rfl) ?_
  exact J_iret C G (dA DX8_seenIn_0 6 rfl) ⟨rfl, rfl⟩
set_option maxRecDepth 4000 in
theorem c_X8_showing (l : Launch) (E : jE) (x : Int32) (hS : IS (vb 1100 M))  : K_X8_showing l E [.ref (ja E 60), .int x] M (shwS (vb 1100 M) x) (M) := by
  refine CT_intro (own := RX8) (by decide +kernel) rfl (by simp [Value.category]) (Nat.le_of_ble_eq_true rfl) rfl (fun X C G => ?_)
  show J E X 0 [some (.ref (ja E 60)), some (.int x), none, none] [] M
  have hN := leN hS
  have loop : ∀ n i, i + n = 16 → J E X 4 [some (.ref (ja E 60)), some (.int x), some (.int (orL i (fun p => decide (nI (f6 (vb 1100 M) p 0) = x)))), some (.int (nI i))] [] M := by
    intro n
    induction n with
    | zero =>
      intro i hi
      refine J_iload_n C (dA DX8_showing_0 4 rfl) rfl ?_
      refine J_bipush (v := nI 16) C (dA DX8_showing_0 5 rfl) (by decide) ?_
      first | refine J_icmp_ge_n (tgt := 36) C (by omega) (by omega) (dA DX8_showing_0 6 rfl) (by decide) (fun h7 => ?_) (fun h7 => ?_) | refine J_icmp_ge_c (tgt := 36) C (by omega) (dA DX8_showing_0 6 rfl) (by decide) (fun h7 => ?_) (fun h7 => ?_) | refine J_icmp_ge_t (tgt := 36) C (dA DX8_showing_0 6 rfl) (by decide) (fun h7 => ?_) (fun h7 => ?_)
      · refine J_iload_n C (dA DX8_showing_0 23 rfl) rfl ?_
        exact J_iret C G (dA DX8_showing_0 24 rfl) ⟨oi (by unfold shwS; rw [← hi]; rfl), rfl⟩
      · exfalso; omega
    | succ n ih =>
      intro i hi
      refine J_iload_n C (dA DX8_showing_0 4 rfl) rfl ?_
      refine J_bipush (v := nI 16) C (dA DX8_showing_0 5 rfl) (by decide) ?_
      first | refine J_icmp_ge_n (tgt := 36) C (by omega) (by omega) (dA DX8_showing_0 6 rfl) (by decide) (fun h7 => ?_) (fun h7 => ?_) | refine J_icmp_ge_c (tgt := 36) C (by omega) (dA DX8_showing_0 6 rfl) (by decide) (fun h7 => ?_) (fun h7 => ?_) | refine J_icmp_ge_t (tgt := 36) C (dA DX8_showing_0 6 rfl) (by decide) (fun h7 => ?_) (fun h7 => ?_)
      · exfalso; omega
      · refine J_iload_n C (dA DX8_showing_0 7 rfl) rfl ?_
        refine J_aload_n C (dA DX8_showing_0 8 rfl) rfl ?_
        refine J_iload_n C (dA DX8_showing_0 9 rfl) rfl ?_
        refine J_iconst (v := nI 0) C (dA DX8_showing_0 10 rfl) (by decide) ?_
        refine V_X8_of1 C (c_X8_of1 l E i 0 (by omega) (by omega) hS) wM_RX8_66 (by decide) (dA DX8_showing_0 11 rfl) rfl (Nat.le_of_ble_eq_true rfl) ?_
        refine J_iload_n C (dA DX8_showing_0 12 rfl) rfl ?_
        refine J_icmp_ne (tgt := 27) C (dA DX8_showing_0 13 rfl) (by decide) (fun h18 => ?_) (fun h18 => ?_)
        · refine J_iconst (v := nI 0) C (dA DX8_showing_0 18 rfl) (by decide) ?_
          refine J_ior C (dA DX8_showing_0 19 rfl) ?_
          refine J_ist_2_4 C (dA DX8_showing_0 20 rfl) rfl ?_
          first | refine J_inc1_3_4 C (dA DX8_showing_0 21 rfl) rfl ?_ | refine J_iinc_3_4 C (dA DX8_showing_0 21 rfl) rfl ?_
          refine J_goto (tgt := 4) C (dA DX8_showing_0 22 rfl) (by decide) ?_
          rw [i_or0]
          have h := ih (i + 1) (by omega)
          rw [← orL_f (by simp [h18])] at h
          exact h
        · refine J_iconst (v := nI 1) C (dA DX8_showing_0 14 rfl) (by decide) ?_
          refine J_iload_n C (dA DX8_showing_0 15 rfl) rfl ?_
          refine J_ishl C (dA DX8_showing_0 16 rfl) ?_
          refine J_goto (tgt := 28) C (dA DX8_showing_0 17 rfl) (by decide) ?_
          refine J_ior C (dA DX8_showing_0 19 rfl) ?_
          refine J_ist_2_4 C (dA DX8_showing_0 20 rfl) rfl ?_
          first | refine J_inc1_3_4 C (dA DX8_showing_0 21 rfl) rfl ?_ | refine J_iinc_3_4 C (dA DX8_showing_0 21 rfl) rfl ?_
          refine J_goto (tgt := 4) C (dA DX8_showing_0 22 rfl) (by decide) ?_
          have h := ih (i + 1) (by omega)
          rw [← orL_t (by simp [h18])] at h
          exact h
  refine J_iconst (v := nI 0) C (dA DX8_showing_0 0 rfl) (by decide) ?_
  refine J_ist_2_4 C (dA DX8_showing_0 1 rfl) rfl ?_
  refine J_iconst (v := nI 0) C (dA DX8_showing_0 2 rfl) (by decide) ?_
  refine J_ist_3_4 C (dA DX8_showing_0 3 rfl) rfl ?_
  exact loop _ 0 (Nat.zero_add _)
set_option maxRecDepth 4000 in
theorem c_X8_pondsWith_f (l : Launch) (E : jE) (hS : IS (vb 1100 M))  : K_X8_pondsWith l E [.ref (ja E 60), .int (jb false)] M (fillS (vb 1100 M)) (M) := by
  refine CT_intro (own := RX8) (by decide +kernel) rfl (by simp [Value.category]) (Nat.le_of_ble_eq_true rfl) rfl (fun X C G => ?_)
  show J E X 0 [some (.ref (ja E 60)), some (.int (jb false)), none, none] [] M
  have hN := leN hS
  have loop : ∀ n i, i + n = 16 → J E X 4 [some (.ref (ja E 60)), some (.int (jb false)), some (.int (orL i (fun p => decide (¬ inS (vb 1100 M) (nI p) = 0)))), some (.int (nI i))] [] M := by
    intro n
    induction n with
    | zero =>
      intro i hi
      refine J_iload_n C (dA DX8_pondsWith_0 4 rfl) rfl ?_
      refine J_bipush (v := nI 16) C (dA DX8_pondsWith_0 5 rfl) (by decide) ?_
      first | refine J_icmp_ge_n (tgt := 46) C (by omega) (by omega) (dA DX8_pondsWith_0 6 rfl) (by decide) (fun h7 => ?_) (fun h7 => ?_) | refine J_icmp_ge_c (tgt := 46) C (by omega) (dA DX8_pondsWith_0 6 rfl) (by decide) (fun h7 => ?_) (fun h7 => ?_) | refine J_icmp_ge_t (tgt := 46) C (dA DX8_pondsWith_0 6 rfl) (by decide) (fun h7 => ?_) (fun h7 => ?_)
      · refine J_iload_n C (dA DX8_pondsWith_0 27 rfl) rfl ?_
        exact J_iret C G (dA DX8_pondsWith_0 28 rfl) ⟨oi (by rw [← pw_in hS, show i = 16 by omega]), rfl⟩
      · exfalso; omega
    | succ n ih =>
      intro i hi
      refine J_iload_n C (dA DX8_pondsWith_0 4 rfl) rfl ?_
      refine J_bipush (v := nI 16) C (dA DX8_pondsWith_0 5 rfl) (by decide) ?_
      first | refine J_icmp_ge_n (tgt := 46) C (by omega) (by omega) (dA DX8_pondsWith_0 6 rfl) (by decide) (fun h7 => ?_) (fun h7 => ?_) | refine J_icmp_ge_c (tgt := 46) C (by omega) (dA DX8_pondsWith_0 6 rfl) (by decide) (fun h7 => ?_) (fun h7 => ?_) | refine J_icmp_ge_t (tgt := 46) C (dA DX8_pondsWith_0 6 rfl) (by decide) (fun h7 => ?_) (fun h7 => ?_)
      · exfalso; omega
      · refine J_iload_n C (dA DX8_pondsWith_0 7 rfl) rfl ?_
        refine J_iload_n C (dA DX8_pondsWith_0 8 rfl) rfl ?_
        refine J_if_eq_b (tgt := 23) C (dA DX8_pondsWith_0 9 rfl) (by decide) (fun h12 => ?_) (fun h12 => ?_)
        · refine J_aload_n C (dA DX8_pondsWith_0 14 rfl) rfl ?_
          refine J_iload_n C (dA DX8_pondsWith_0 15 rfl) rfl ?_
          refine V_X8_inside C (c_X8_inside l E _ hS) wM_RX8_69 (by decide) (dA DX8_pondsWith_0 16 rfl) rfl (Nat.le_of_ble_eq_true rfl) ?_
          refine J_if_eq (tgt := 37) C (dA DX8_pondsWith_0 17 rfl) (by decide) (fun h28 => ?_) (fun h28 => ?_)
          · refine J_iconst (v := nI 0) C (dA DX8_pondsWith_0 22 rfl) (by decide) ?_
            refine J_ior C (dA DX8_pondsWith_0 23 rfl) ?_
            refine J_ist_2_4 C (dA DX8_pondsWith_0 24 rfl) rfl ?_
            first | refine J_inc1_3_4 C (dA DX8_pondsWith_0 25 rfl) rfl ?_ | refine J_iinc_3_4 C (dA DX8_pondsWith_0 25 rfl) rfl ?_
            refine J_goto (tgt := 4) C (dA DX8_pondsWith_0 26 rfl) (by decide) ?_
            rw [i_or0]
            have h := ih (i + 1) (by omega)
            rw [← orL_f (decide_eq_false (fun z => z h28))] at h
            exact h
          · refine J_iconst (v := nI 1) C (dA DX8_pondsWith_0 18 rfl) (by decide) ?_
            refine J_iload_n C (dA DX8_pondsWith_0 19 rfl) rfl ?_
            refine J_ishl C (dA DX8_pondsWith_0 20 rfl) ?_
            refine J_goto (tgt := 38) C (dA DX8_pondsWith_0 21 rfl) (by decide) ?_
            refine J_ior C (dA DX8_pondsWith_0 23 rfl) ?_
            refine J_ist_2_4 C (dA DX8_pondsWith_0 24 rfl) rfl ?_
            first | refine J_inc1_3_4 C (dA DX8_pondsWith_0 25 rfl) rfl ?_ | refine J_iinc_3_4 C (dA DX8_pondsWith_0 25 rfl) rfl ?_
            refine J_goto (tgt := 4) C (dA DX8_pondsWith_0 26 rfl) (by decide) ?_
            have h := ih (i + 1) (by omega)
            rw [← orL_t (decide_eq_true h28)] at h
            exact h
        · cases h12
  refine J_iconst (v := nI 0) C (dA DX8_pondsWith_0 0 rfl) (by decide) ?_
  refine J_ist_2_4 C (dA DX8_pondsWith_0 1 rfl) rfl ?_
  refine J_iconst (v := nI 0) C (dA DX8_pondsWith_0 2 rfl) (by decide) ?_
  refine J_ist_3_4 C (dA DX8_pondsWith_0 3 rfl) rfl ?_
  exact loop _ 0 (Nat.zero_add _)
set_option maxRecDepth 4000 in
theorem c_X8_pondsWith_t (l : Launch) (E : jE) (hS : IS (vb 1100 M))  : K_X8_pondsWith l E [.ref (ja E 60), .int (jb true)] M (sightS (vb 1100 M)) (M) := by
  refine CT_intro (own := RX8) (by decide +kernel) rfl (by simp [Value.category]) (Nat.le_of_ble_eq_true rfl) rfl (fun X C G => ?_)
  show J E X 0 [some (.ref (ja E 60)), some (.int (jb true)), none, none] [] M
  have hN := leN hS
  have loop : ∀ n i, i + n = 16 → J E X 4 [some (.ref (ja E 60)), some (.int (jb true)), some (.int (orL i (fun p => decide (¬ inS (vb 1100 M) (nI (f6 (vb 1100 M) p 0)) = 0)))), some (.int (nI i))] [] M := by
    intro n
    induction n with
    | zero =>
      intro i hi
      refine J_iload_n C (dA DX8_pondsWith_0 4 rfl) rfl ?_
      refine J_bipush (v := nI 16) C (dA DX8_pondsWith_0 5 rfl) (by decide) ?_
      first | refine J_icmp_ge_n (tgt := 46) C (by omega) (by omega) (dA DX8_pondsWith_0 6 rfl) (by decide) (fun h7 => ?_) (fun h7 => ?_) | refine J_icmp_ge_c (tgt := 46) C (by omega) (dA DX8_pondsWith_0 6 rfl) (by decide) (fun h7 => ?_) (fun h7 => ?_) | refine J_icmp_ge_t (tgt := 46) C (dA DX8_pondsWith_0 6 rfl) (by decide) (fun h7 => ?_) (fun h7 => ?_)
      · refine J_iload_n C (dA DX8_pondsWith_0 27 rfl) rfl ?_
        exact J_iret C G (dA DX8_pondsWith_0 28 rfl) ⟨oi (by rw [← pw_seen hS, show i = 16 by omega]), rfl⟩
      · exfalso; omega
    | succ n ih =>
      intro i hi
      refine J_iload_n C (dA DX8_pondsWith_0 4 rfl) rfl ?_
      refine J_bipush (v := nI 16) C (dA DX8_pondsWith_0 5 rfl) (by decide) ?_
      first | refine J_icmp_ge_n (tgt := 46) C (by omega) (by omega) (dA DX8_pondsWith_0 6 rfl) (by decide) (fun h7 => ?_) (fun h7 => ?_) | refine J_icmp_ge_c (tgt := 46) C (by omega) (dA DX8_pondsWith_0 6 rfl) (by decide) (fun h7 => ?_) (fun h7 => ?_) | refine J_icmp_ge_t (tgt := 46) C (dA DX8_pondsWith_0 6 rfl) (by decide) (fun h7 => ?_) (fun h7 => ?_)
      · exfalso; omega
      · refine J_iload_n C (dA DX8_pondsWith_0 7 rfl) rfl ?_
        refine J_iload_n C (dA DX8_pondsWith_0 8 rfl) rfl ?_
        refine J_if_eq_b (tgt := 23) C (dA DX8_pondsWith_0 9 rfl) (by decide) (fun h12 => ?_) (fun h12 => ?_)
        · cases h12
        · refine J_aload_n C (dA DX8_pondsWith_0 10 rfl) rfl ?_
          refine J_iload_n C (dA DX8_pondsWith_0 11 rfl) rfl ?_
          refine V_X8_seenIn C (c_X8_seenIn l E i (by omega) hS) wM_RX8_73 (by decide) (dA DX8_pondsWith_0 12 rfl) rfl (Nat.le_of_ble_eq_true rfl) ?_
          refine J_goto (tgt := 28) C (dA DX8_pondsWith_0 13 rfl) (by decide) ?_
          refine J_if_eq (tgt := 37) C (dA DX8_pondsWith_0 17 rfl) (by decide) (fun h28 => ?_) (fun h28 => ?_)
          · refine J_iconst (v := nI 0) C (dA DX8_pondsWith_0 22 rfl) (by decide) ?_
            refine J_ior C (dA DX8_pondsWith_0 23 rfl) ?_
            refine J_ist_2_4 C (dA DX8_pondsWith_0 24 rfl) rfl ?_
            first | refine J_inc1_3_4 C (dA DX8_pondsWith_0 25 rfl) rfl ?_ | refine J_iinc_3_4 C (dA DX8_pondsWith_0 25 rfl) rfl ?_
            refine J_goto (tgt := 4) C (dA DX8_pondsWith_0 26 rfl) (by decide) ?_
            rw [i_or0]
            have h := ih (i + 1) (by omega)
            rw [← orL_f (decide_eq_false (fun z => z h28))] at h
            exact h
          · refine J_iconst (v := nI 1) C (dA DX8_pondsWith_0 18 rfl) (by decide) ?_
            refine J_iload_n C (dA DX8_pondsWith_0 19 rfl) rfl ?_
            refine J_ishl C (dA DX8_pondsWith_0 20 rfl) ?_
            refine J_goto (tgt := 38) C (dA DX8_pondsWith_0 21 rfl) (by decide) ?_
            refine J_ior C (dA DX8_pondsWith_0 23 rfl) ?_
            refine J_ist_2_4 C (dA DX8_pondsWith_0 24 rfl) rfl ?_
            first | refine J_inc1_3_4 C (dA DX8_pondsWith_0 25 rfl) rfl ?_ | refine J_iinc_3_4 C (dA DX8_pondsWith_0 25 rfl) rfl ?_
            refine J_goto (tgt := 4) C (dA DX8_pondsWith_0 26 rfl) (by decide) ?_
            have h := ih (i + 1) (by omega)
            rw [← orL_t (decide_eq_true h28)] at h
            exact h
  refine J_iconst (v := nI 0) C (dA DX8_pondsWith_0 0 rfl) (by decide) ?_
  refine J_ist_2_4 C (dA DX8_pondsWith_0 1 rfl) rfl ?_
  refine J_iconst (v := nI 0) C (dA DX8_pondsWith_0 2 rfl) (by decide) ?_
  refine J_ist_3_4 C (dA DX8_pondsWith_0 3 rfl) rfl ?_
  exact loop _ 0 (Nat.zero_add _)
set_option maxRecDepth 4000 in
theorem c_X8_lengths (l : Launch) (E : jE) (hS : IS (vb 1100 M))  : K_X8_lengths l E [.ref (ja E 60)] M (nI (lenS (vb 1100 M))) (M) := by
  refine CT_intro (own := RX8) (by decide +kernel) rfl (by simp [Value.category]) (Nat.le_of_ble_eq_true rfl) rfl (fun X C G => ?_)
  show J E X 0 [some (.ref (ja E 60)), none, none] [] M
  have hN := leN hS
  have loop : ∀ n i, i + n = iN (vb 1100 M) → J E X 4 [some (.ref (ja E 60)), some (.int (nI (smS i (fun k => f3 (vb 1100 M) k 2)))), some (.int (nI i))] [] M := by
    intro n
    induction n with
    | zero =>
      intro i hi
      refine J_iload_n C (dA DX8_lengths_0 4 rfl) rfl ?_
      refine J_aload_n C (dA DX8_lengths_0 5 rfl) rfl ?_
      refine G_X8_s C wF_RX8_9 (dA DX8_lengths_0 6 rfl) ?_
      refine J_iconst (v := nI 1) C (dA DX8_lengths_0 7 rfl) (by decide) ?_
      refine Q_s1 C hS (dA DX8_lengths_0 8 rfl) ?_
      first | refine J_icmp_ge_n (tgt := 29) C (by omega) (by omega) (dA DX8_lengths_0 9 rfl) (by decide) (fun h11 => ?_) (fun h11 => ?_) | refine J_icmp_ge_c (tgt := 29) C (by omega) (dA DX8_lengths_0 9 rfl) (by decide) (fun h11 => ?_) (fun h11 => ?_) | refine J_icmp_ge_t (tgt := 29) C (dA DX8_lengths_0 9 rfl) (by decide) (fun h11 => ?_) (fun h11 => ?_)
      · refine J_iload_n C (dA DX8_lengths_0 19 rfl) rfl ?_
        exact J_iret C G (dA DX8_lengths_0 20 rfl) ⟨oi (by unfold lenS; rw [← hi]; rfl), rfl⟩
      · exfalso; omega
    | succ n ih =>
      intro i hi
      refine J_iload_n C (dA DX8_lengths_0 4 rfl) rfl ?_
      refine J_aload_n C (dA DX8_lengths_0 5 rfl) rfl ?_
      refine G_X8_s C wF_RX8_9 (dA DX8_lengths_0 6 rfl) ?_
      refine J_iconst (v := nI 1) C (dA DX8_lengths_0 7 rfl) (by decide) ?_
      refine Q_s1 C hS (dA DX8_lengths_0 8 rfl) ?_
      first | refine J_icmp_ge_n (tgt := 29) C (by omega) (by omega) (dA DX8_lengths_0 9 rfl) (by decide) (fun h11 => ?_) (fun h11 => ?_) | refine J_icmp_ge_c (tgt := 29) C (by omega) (dA DX8_lengths_0 9 rfl) (by decide) (fun h11 => ?_) (fun h11 => ?_) | refine J_icmp_ge_t (tgt := 29) C (dA DX8_lengths_0 9 rfl) (by decide) (fun h11 => ?_) (fun h11 => ?_)
      · exfalso; omega
      · refine J_iload_n C (dA DX8_lengths_0 10 rfl) rfl ?_
        refine J_aload_n C (dA DX8_lengths_0 11 rfl) rfl ?_
        refine J_iload_n C (dA DX8_lengths_0 12 rfl) rfl ?_
        refine J_iconst (v := nI 2) C (dA DX8_lengths_0 13 rfl) (by decide) ?_
        refine V_X8_get C (c_X8_get l E i 2 (by omega) (by omega) hS) wM_RX8_62 (by decide) (dA DX8_lengths_0 14 rfl) rfl (Nat.le_of_ble_eq_true rfl) ?_
        first | refine J_iadd_n C (dA DX8_lengths_0 15 rfl) ?_ | refine J_iadd C (dA DX8_lengths_0 15 rfl) ?_
        refine J_ist_1_3 C (dA DX8_lengths_0 16 rfl) rfl ?_
        first | refine J_inc1_2_3 C (dA DX8_lengths_0 17 rfl) rfl ?_ | refine J_iinc_2_3 C (dA DX8_lengths_0 17 rfl) rfl ?_
        refine J_goto (tgt := 4) C (dA DX8_lengths_0 18 rfl) (by decide) ?_
        exact ih (i + 1) (by omega)
  refine J_iconst (v := nI 0) C (dA DX8_lengths_0 0 rfl) (by decide) ?_
  refine J_ist_1_3 C (dA DX8_lengths_0 1 rfl) rfl ?_
  refine J_iconst (v := nI 0) C (dA DX8_lengths_0 2 rfl) (by decide) ?_
  refine J_ist_2_3 C (dA DX8_lengths_0 3 rfl) rfl ?_
  exact loop _ 0 (Nat.zero_add _)
set_option maxRecDepth 4000 in
theorem c_X8_asFrog (l : Launch) (E : jE) (p : Nat) (hp : p < 16) (hS : IS (vb 1100 M))  : K_X8_asFrog l E [.ref (ja E 60), .int (nI p)] M (nI (frogS (vb 1100 M) p)) (M) := by
  refine CT_intro (own := RX8) (by decide +kernel) rfl (by simp [Value.category]) (Nat.le_of_ble_eq_true rfl) rfl (fun X C G => ?_)
  show J E X 0 [some (.ref (ja E 60)), some (.int (nI p))] [] M
  have hM := leM hS
  refine J_aload_n C (dA DX8_asFrog_0 0 rfl) rfl ?_
  refine G_X8_s C wF_RX8_9 (dA DX8_asFrog_0 1 rfl) ?_
  refine J_iconst (v := nI 0) C (dA DX8_asFrog_0 2 rfl) (by decide) ?_
  refine Q_s0 C hS (dA DX8_asFrog_0 3 rfl) ?_
  refine J_iconst (v := nI 2) C (dA DX8_asFrog_0 4 rfl) (by decide) ?_
  refine J_irem_n C (by omega) (by omega) (by omega) (dA DX8_asFrog_0 5 rfl) ?_
  refine J_if_ne_n (tgt := 20) C (by omega) (dA DX8_asFrog_0 6 rfl) (by decide) (fun h8 => ?_) (fun h8 => ?_)
  · refine J_iload_n C (dA DX8_asFrog_0 12 rfl) rfl ?_
    exact J_iret C G (dA DX8_asFrog_0 13 rfl) ⟨oi (by unfold frogS; rw [if_neg (by omega)]), rfl⟩
  · refine J_aload_n C (dA DX8_asFrog_0 7 rfl) rfl ?_
    refine J_iload_n C (dA DX8_asFrog_0 8 rfl) rfl ?_
    refine J_iconst (v := nI 0) C (dA DX8_asFrog_0 9 rfl) (by decide) ?_
    refine V_X8_of1 C (c_X8_of1 l E p 0 hp (by omega) hS) wM_RX8_66 (by decide) (dA DX8_asFrog_0 10 rfl) rfl (Nat.le_of_ble_eq_true rfl) ?_
    refine J_goto (tgt := 21) C (dA DX8_asFrog_0 11 rfl) (by decide) ?_
    exact J_iret C G (dA DX8_asFrog_0 13 rfl) ⟨oi (by unfold frogS; rw [if_pos (by omega)]), rfl⟩
end MM
