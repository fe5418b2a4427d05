/-- whether a thing is, at minute i, where a sheet tells -/
def whP (Z : Nat → Nat → Int32) (q : Nat) (S : Nat → Int32) (i t : Nat) : Bool := decide (Z q (2 + i) = -1 ∨ nI (f3 (minsS S i) t 1) = Z q (2 + i))
def whQ (Z : Nat → Nat → Int32) (q : Nat) (S : Nat → Int32) : Nat → Nat → Bool
  | 0, _ => true
  | n + 1, t => whQ Z q S n t && whP Z q S n t
theorem orL_ext {n : Nat} {P P' : Nat → Bool} (h : ∀ k, k < n → P k = P' k) : orL n P = orL n P' := by
  induction n with
  | zero => rfl
  | succ n ih => simp only [orL]; rw [ih (fun k hk => h k (by omega)), h n (by omega)]
theorem orL_and {n : Nat} {P P' : Nat → Bool} (hn : n ≤ 32) : orL n P &&& orL n P' = orL n (fun k => P k && P' k) := b_ext (fun i hi => by
  rw [b_and, bt_orL hn hi, bt_orL hn hi, bt_orL hn hi]
  cases decide (i < n) <;> cases P i <;> cases P' i <;> rfl)
theorem orL_clr {n k : Nat} {P : Nat → Bool} (hn : n ≤ 32) (hk : k < 32) : orL n P &&& (b1 k ^^^ (-1)) = orL n (fun t => P t && !(decide (t = k))) := b_ext (fun i hi => by
  rw [b_and, b_xor, bt_orL hn hi, bt_orL hn hi, bt_b1 k hk i hi, b_m1 i hi]
  cases decide (i < n) <;> cases P i <;> cases decide (i = k) <;> rfl)
theorem all_b1 : ∀ n, n < 9 → b1 n - nI 1 = orL n (fun _ => true) := by decide +kernel
def whS (Z : Nat → Nat → Int32) (q : Nat) (S : Nat → Int32) (n : Nat) : Int32 := orL (iN S) (whQ Z q S n)
theorem ws_0 {Z : Nat → Nat → Int32} {q : Nat} {S : Nat → Int32} (h : IS S) : b1 (iN S) - nI 1 = whS Z q S 0 := by
  have hN := leN h
  rw [all_b1 _ (by omega)]
  rfl
theorem ws_n {Z : Nat → Nat → Int32} {q : Nat} {S : Nat → Int32} {i : Nat} (h : Z q (2 + i) = -1) : whS Z q S (i + 1) = whS Z q S i := orL_ext (fun k _ => by
  show (whQ Z q S i k && whP Z q S i k) = _
  rw [show whP Z q S i k = true from decide_eq_true (Or.inl h), Bool.and_true])
theorem ws_y {Z : Nat → Nat → Int32} {q : Nat} {S : Nat → Int32} {i : Nat} (hS : IS S) (h : ¬ Z q (2 + i) = -1) : whS Z q S i &&& inS (minsS S i) (Z q (2 + i)) = whS Z q S (i + 1) := by
  have hN := leN hS
  unfold whS inS
  rw [(IS_mins hS i).2, orL_and (by omega)]
  refine orL_ext (fun k _ => ?_)
  show (whQ Z q S i k && _) = (whQ Z q S i k && whP Z q S i k)
  congr 1
  unfold whP
  rw [decide_eq_decide]
  exact ⟨Or.inr, fun z => z.resolve_left h⟩
def aWhich (Z : Nat → Nat → Int32) (S : Nat → Int32) (a : Int32) : Int32 := if lkS Z a = 7 then whS Z (nv a) S (lnq Z (nv a)) else fi (lkS Z a)
def eWhich (Z : Nat → Nat → Int32) (F : Nat) (a : Int32) (W M : jM) : jM := if lkS Z a = 7 then W else Fl F (lkS Z a) M
section PA
variable {M : jM}
set_option maxRecDepth 4000 in
theorem c_X2_thingsOnCourse (l : Launch) (E : jE) {S : Nat → Int32} (hS : IS S) (q n : Nat) (hq : q < 4) (hn : n ≤ 40) (e1 : sv7 M q 1 = nI n)  : K_X2_thingsOnCourse l E [.ref (ja E 40), .ref (ja E (fo 1)), .ref (ja E (so q))] (dr M (minsS S 0)) (whS (sv7 M) q S n) (dr M (minsS S n)) := by
  refine CT_intro (own := RX2) (by decide +kernel) rfl (by simp [Value.category]) (Nat.le_of_ble_eq_true rfl) rfl (fun X C G => ?_)
  show J E X 0 [some (.ref (ja E 40)), some (.ref (ja E (fo 1))), some (.ref (ja E (so q))), none, none, none] [] (dr M (minsS S 0))
  have loop : ∀ k i (o5 : Option Value), (∀ y z : Int32, jok [some (.ref (ja E 40)), some (.ref (ja E (fo 1))), some (.ref (ja E (so q))), some (.int y), some (.int z), o5] 5 = true) → i + k = n → J E X 12 [some (.ref (ja E 40)), some (.ref (ja E (fo 1))), some (.ref (ja E (so q))), some (.int (whS (sv7 M) q S i)), some (.int (nI i)), o5] [] (dr M (minsS S i)) := by
    intro k
    induction k with
    | zero =>
      intro i o5 k5 hi
      refine J_iload C (dA DX2_thingsOnCourse_0 9 rfl) rfl ?_
      refine J_aload_n C (dA DX2_thingsOnCourse_0 10 rfl) rfl ?_
      refine G_X3_length C hq wF_RX2_32 (dA DX2_thingsOnCourse_0 11 rfl) ?_
      rw [show (dr M (minsS S i)) (sb q + 1) = nI n from (sv7_at hq (by decide)).trans (by rw [sv7_dr]; exact e1)]
      refine J_icmp_ge_n (tgt := 55) C (by omega) (by omega) (dA DX2_thingsOnCourse_0 12 rfl) (by decide) (fun h18 => ?_) (fun h18 => ?_)
      · refine J_iload_n C (dA DX2_thingsOnCourse_0 31 rfl) rfl ?_
        obtain rfl : n = i := by omega
        exact J_iret C G (dA DX2_thingsOnCourse_0 32 rfl) ⟨rfl, rfl⟩
      · exfalso; omega
    | succ k ih =>
      intro i o5 k5 hi
      have hmi := drI (M := M) hS i
      have hI := hmi.2.1
      refine J_iload C (dA DX2_thingsOnCourse_0 9 rfl) rfl ?_
      refine J_aload_n C (dA DX2_thingsOnCourse_0 10 rfl) rfl ?_
      refine G_X3_length C hq wF_RX2_32 (dA DX2_thingsOnCourse_0 11 rfl) ?_
      rw [show (dr M (minsS S i)) (sb q + 1) = nI n from (sv7_at hq (by decide)).trans (by rw [sv7_dr]; exact e1)]
      refine J_icmp_ge_n (tgt := 55) C (by omega) (by omega) (dA DX2_thingsOnCourse_0 12 rfl) (by decide) (fun h18 => ?_) (fun h18 => ?_)
      · exfalso; omega
      · refine J_aload_n C (dA DX2_thingsOnCourse_0 13 rfl) rfl ?_
        refine G_X3_numbers C hq wF_RX2_38 (dA DX2_thingsOnCourse_0 14 rfl) ?_
        refine J_iload C (dA DX2_thingsOnCourse_0 15 rfl) rfl ?_
        refine R_sn C hq rfl (by omega) (dA DX2_thingsOnCourse_0 16 rfl) ?_
        rw [show (dr M (minsS S i)) (sb q + (2 + i)) = sv7 M q (2 + i) from (sv7_at hq (by omega)).trans (by rw [sv7_dr])]
        refine J_ist_5_6 C (dA DX2_thingsOnCourse_0 17 rfl) (k5 _ _) ?_
        refine J_iload C (dA DX2_thingsOnCourse_0 18 rfl) rfl ?_
        refine J_iconst (v := (-1)) C (dA DX2_thingsOnCourse_0 19 rfl) (by decide) ?_
        refine J_icmp_eq (tgt := 45) C (dA DX2_thingsOnCourse_0 20 rfl) (by decide) (fun h33 => ?_) (fun h33 => ?_)
        · refine J_aload_n C (dA DX2_thingsOnCourse_0 27 rfl) rfl ?_
          refine V_X1_passMinute C (by decide) (c_drm l E hS i) wM_RX2_21 (by decide) (dA DX2_thingsOnCourse_0 28 rfl) rfl (Nat.le_of_ble_eq_true rfl) ?_
          first | refine J_inc1_4_6 C (dA DX2_thingsOnCourse_0 29 rfl) rfl ?_ | refine J_iinc_4_6 C (dA DX2_thingsOnCourse_0 29 rfl) rfl ?_
          refine J_goto (tgt := 12) C (dA DX2_thingsOnCourse_0 30 rfl) (by decide) ?_
          have h := ih (i + 1) (some (.int (sv7 M q (2 + i)))) (fun _ _ => rfl) (by omega)
          rw [ws_n (by first | exact h33 | exact Classical.byContradiction h33)] at h
          exact h
        · refine J_iload_n C (dA DX2_thingsOnCourse_0 21 rfl) rfl ?_
          refine J_aload_n C (dA DX2_thingsOnCourse_0 22 rfl) rfl ?_
          refine J_iload C (dA DX2_thingsOnCourse_0 23 rfl) rfl ?_
          refine V_X1_thingsIn C (by decide) (c_X1_thingsIn l E 1 (by decide) _ hI) wM_RX2_48 (by decide) (dA DX2_thingsOnCourse_0 24 rfl) rfl (Nat.le_of_ble_eq_true rfl) ?_
          refine J_iand C (dA DX2_thingsOnCourse_0 25 rfl) ?_
          rw [hmi.1, ws_y hS h33]
          refine J_ist_3_6 C (dA DX2_thingsOnCourse_0 26 rfl) rfl ?_
          refine J_aload_n C (dA DX2_thingsOnCourse_0 27 rfl) rfl ?_
          refine V_X1_passMinute C (by decide) (c_drm l E hS i) wM_RX2_21 (by decide) (dA DX2_thingsOnCourse_0 28 rfl) rfl (Nat.le_of_ble_eq_true rfl) ?_
          first | refine J_inc1_4_6 C (dA DX2_thingsOnCourse_0 29 rfl) rfl ?_ | refine J_iinc_4_6 C (dA DX2_thingsOnCourse_0 29 rfl) rfl ?_
          refine J_goto (tgt := 12) C (dA DX2_thingsOnCourse_0 30 rfl) (by decide) ?_
          exact ih (i + 1) (some (.int (sv7 M q (2 + i)))) (fun _ _ => rfl) (by omega)
  have hm0 := drI (M := M) hS 0
  have hI0 := hm0.2.1
  refine J_iconst (v := nI 1) C (dA DX2_thingsOnCourse_0 0 rfl) (by decide) ?_
  refine J_aload_n C (dA DX2_thingsOnCourse_0 1 rfl) rfl ?_
  refine H_X1_size C (by decide) hI0 wF_RX2_45 (dA DX2_thingsOnCourse_0 2 rfl) ?_
  rw [hm0.1, hm0.2.2]
  refine J_ishl C (dA DX2_thingsOnCourse_0 3 rfl) ?_
  refine J_iconst (v := nI 1) C (dA DX2_thingsOnCourse_0 4 rfl) (by decide) ?_
  refine J_isub C (dA DX2_thingsOnCourse_0 5 rfl) ?_
  rw [show nI 1 <<< (nI (iN S) &&& 31) - nI 1 = whS (sv7 M) q S 0 from ws_0 hS]
  refine J_ist_3_6 C (dA DX2_thingsOnCourse_0 6 rfl) rfl ?_
  refine J_iconst (v := nI 0) C (dA DX2_thingsOnCourse_0 7 rfl) (by decide) ?_
  refine J_ist_4_6 C (dA DX2_thingsOnCourse_0 8 rfl) rfl ?_
  exact loop n 0 none (fun _ _ => rfl) (Nat.zero_add _)
set_option maxRecDepth 4000 in
theorem c_X7_which (l : Launch) (E : jE) (a : Int32) (hZ : QS (sv7 M)) (hS : IS (vb (fb 0) M))  : K_X7_which l E [.ref (ja E 59), .int a] M (aWhich (sv7 M) (vb (fb 0) M) a) (eWhich (sv7 M) 1076 a (dr M (minsS (vb (fb 0) M) (lnq (sv7 M) (nv a)))) M) := by
  refine CT_intro (own := RX7) (by decide +kernel) rfl (by simp [Value.category]) (Nat.le_of_ble_eq_true rfl) rfl (fun X C G => ?_)
  show J E X 0 [some (.ref (ja E 59)), some (.int a), none] [] M
  rcases lkS_c (Z := sv7 M) (a := a) with ⟨hi, e⟩ | ⟨q, hq, rfl, hz, e⟩ | ⟨q, hq, rfl, hz, e⟩
  · refine J_aload_n C (dA DX7_which_0 0 rfl) rfl ?_
    refine J_iload_n C (dA DX7_which_0 1 rfl) rfl ?_
    refine V_X7_lackOfSheet C (c_X7_lackOfSheet l E _) wM_RX7_214 (by decide) (dA DX7_which_0 2 rfl) rfl (Nat.le_of_ble_eq_true rfl) ?_
    rw [e, show lk7 0 = fi 0 from rfl]
    refine J_ist_2_3 C (dA DX7_which_0 3 rfl) rfl ?_
    refine J_iload_n C (dA DX7_which_0 4 rfl) rfl ?_
    refine J_if_eq (tgt := 16) C (dA DX7_which_0 5 rfl) (by decide) (fun h7 => ?_) (fun h7 => ?_)
    · exact absurd h7 (by decide)
    · refine J_aload_n C (dA DX7_which_0 6 rfl) rfl ?_
      refine J_iload_n C (dA DX7_which_0 7 rfl) rfl ?_
      refine V_X7_finding C (c_X7_finding l E 0 (by decide) _ rfl) wM_RX7_70 (by decide) (dA DX7_which_0 8 rfl) rfl (Nat.le_of_ble_eq_true rfl) ?_
      exact J_iret C G (dA DX7_which_0 9 rfl) ⟨oi (by unfold aWhich; rw [if_neg (by rw [e]; decide), e] <;> rfl), by unfold eWhich; rw [if_neg (by rw [e]; decide), e]⟩
  · refine J_aload_n C (dA DX7_which_0 0 rfl) rfl ?_
    refine J_iload_n C (dA DX7_which_0 1 rfl) rfl ?_
    refine V_X7_lackOfSheet C (c_X7_lackOfSheet l E _) wM_RX7_214 (by decide) (dA DX7_which_0 2 rfl) rfl (Nat.le_of_ble_eq_true rfl) ?_
    rw [e, show lk7 5 = fi 5 from rfl]
    refine J_ist_2_3 C (dA DX7_which_0 3 rfl) rfl ?_
    refine J_iload_n C (dA DX7_which_0 4 rfl) rfl ?_
    refine J_if_eq (tgt := 16) C (dA DX7_which_0 5 rfl) (by decide) (fun h7 => ?_) (fun h7 => ?_)
    · exact absurd h7 (by decide)
    · refine J_aload_n C (dA DX7_which_0 6 rfl) rfl ?_
      refine J_iload_n C (dA DX7_which_0 7 rfl) rfl ?_
      refine V_X7_finding C (c_X7_finding l E 5 (by decide) _ rfl) wM_RX7_70 (by decide) (dA DX7_which_0 8 rfl) rfl (Nat.le_of_ble_eq_true rfl) ?_
      exact J_iret C G (dA DX7_which_0 9 rfl) ⟨oi (by unfold aWhich; rw [if_neg (by rw [e]; decide), e] <;> rfl), by unfold eWhich; rw [if_neg (by rw [e]; decide), e]⟩
  · have na : nv (nI q) = q := nv_nI (by omega)
    have hZ2 := hZ
    obtain ⟨b, n, hb, hn, e0, e1, h0⟩ := hZ2 q hq
    have hl : lnq (sv7 M) q = n := by unfold lnq; rw [e1, nv_nI (by omega)]
    refine J_aload_n C (dA DX7_which_0 0 rfl) rfl ?_
    refine J_iload_n C (dA DX7_which_0 1 rfl) rfl ?_
    refine V_X7_lackOfSheet C (c_X7_lackOfSheet l E _) wM_RX7_214 (by decide) (dA DX7_which_0 2 rfl) rfl (Nat.le_of_ble_eq_true rfl) ?_
    rw [e, show lk7 7 = nI 0 from rfl]
    refine J_ist_2_3 C (dA DX7_which_0 3 rfl) rfl ?_
    refine J_iload_n C (dA DX7_which_0 4 rfl) rfl ?_
    refine J_if_eq (tgt := 16) C (dA DX7_which_0 5 rfl) (by decide) (fun h7 => ?_) (fun h7 => ?_)
    · refine J_aload_n C (dA DX7_which_0 10 rfl) rfl ?_
      refine G_X7_draft C wF_RX7_16 (dA DX7_which_0 11 rfl) ?_
      refine J_aload_n C (dA DX7_which_0 12 rfl) rfl ?_
      refine G_X7_fen C wF_RX7_12 (dA DX7_which_0 13 rfl) ?_
      refine V_X1_become C (by decide) (c_drb l E) wM_RX7_179 (by decide) (dA DX7_which_0 14 rfl) rfl (Nat.le_of_ble_eq_true rfl) ?_
      refine J_aload_n C (dA DX7_which_0 15 rfl) rfl ?_
      refine G_X7_foresight C wF_RX7_36 (dA DX7_which_0 16 rfl) ?_
      refine J_aload_n C (dA DX7_which_0 17 rfl) rfl ?_
      refine G_X7_draft C wF_RX7_16 (dA DX7_which_0 18 rfl) ?_
      refine J_aload_n C (dA DX7_which_0 19 rfl) rfl ?_
      refine G_X7_sheets C wF_RX7_57 (dA DX7_which_0 20 rfl) ?_
      refine J_iload_n C (dA DX7_which_0 21 rfl) rfl ?_
      refine R_sh C rfl (by omega) (dA DX7_which_0 22 rfl) ?_
      refine V_X2_thingsOnCourse C (c_X2_thingsOnCourse l E hS q n hq hn e1) wM_RX7_217 (by decide) (dA DX7_which_0 23 rfl) rfl (Nat.le_of_ble_eq_true rfl) ?_
      exact J_iret C G (dA DX7_which_0 24 rfl) ⟨oi (by unfold aWhich; rw [if_pos e, na, hl]), by unfold eWhich; rw [if_pos e, na, hl]⟩
    · exact absurd rfl h7

end PA
