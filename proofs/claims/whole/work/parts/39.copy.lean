/-- a copy of n numbers, out of sheet s from x on, into sheet t from y on -/
def cpq (Z : Nat → Nat → Int32) (s x t y n : Nat) : Nat → Nat → Int32 := fun q k => if q = t ∧ 2 + y ≤ k ∧ k < 2 + y + n then Z s (2 + x + (k - 2 - y)) else Z q k
theorem cpq_0 {Z : Nat → Nat → Int32} {s x t y : Nat} : cpq Z s x t y 0 = Z := by funext q k; unfold cpq; rw [if_neg (by omega)]
theorem cpq_s {Z : Nat → Nat → Int32} {s x t y i : Nat} : updq (cpq Z s x t y i) t (2 + (y + i)) (Z s (2 + x + i)) = cpq Z s x t y (i + 1) := by
  funext q k
  unfold updq cpq
  by_cases e : q = t ∧ k = 2 + (y + i)
  · rw [if_pos e, if_pos (by omega), show k - 2 - y = i by omega]
  · rw [if_neg e]
    by_cases e2 : q = t ∧ 2 + y ≤ k ∧ k < 2 + y + i
    · rw [if_pos e2, if_pos (by omega)]
    · rw [if_neg e2, if_neg (by omega)]
theorem Qc_cpq {Z : Nat → Nat → Int32} (h : Qc Z) {s x t y n : Nat} (ht : t < 4) (hy : y + n ≤ 40) : Qc (cpq Z s x t y n) := fun q k z => by
  unfold cpq
  rw [if_neg (fun e => z ⟨by omega, by omega⟩)]
  exact h q k z
theorem jcp_q {M : jM} {s x t y n : Nat} (hs : s < 4) (ht : t < 4) (hx : x + n ≤ 40) (hy : y + n ≤ 40) : jcp M (sb s + 2) 1 (sb t + 2) 1 x y n = qs7 M (cpq (sv7 M) s x t y n) := by
  funext a
  unfold jcp qs7 cpq
  simp only [Nat.one_mul, Nat.mod_one, Nat.div_one, and_true]
  by_cases h : sb t + 2 + y ≤ a ∧ a < sb t + 2 + (y + n)
  · have h1 : 908 ≤ a ∧ a < 1076 := by unfold sb at h; omega
    have h2 : (a - 908) / 42 = t ∧ (a - 908) % 42 = a - sb t := by unfold sb at h ⊢; omega
    rw [if_pos h, if_pos h1, h2.1, h2.2, if_pos (by omega), ← sv7_at hs (by omega)]
    exact congrArg M (by omega)
  · rw [if_neg h]
    by_cases h1 : 908 ≤ a ∧ a < 1076
    · rw [if_pos h1, if_neg (by unfold sb at h; omega)]
      unfold sv7
      rw [if_pos (by omega)]
      exact congrArg M (by omega)
    · rw [if_neg h1]
/-- what the reference carries -/
def crr (M : jM) (Z : Nat → Nat → Int32) (s x i : Nat) : jM := fun a => if 1813 ≤ a ∧ a < 1813 + i then Z s (2 + x + (a - 1813)) else M a
theorem crr_0 {M : jM} {Z : Nat → Nat → Int32} {s x : Nat} : crr M Z s x 0 = M := by funext a; unfold crr; rw [if_neg (by omega)]
theorem crr_s {M : jM} {Z : Nat → Nat → Int32} {s x i : Nat} : upd (crr M Z s x i) (1813 + i) (Z s (2 + x + i)) = crr M Z s x (i + 1) := by
  funext a
  unfold upd crr
  by_cases e : a = 1813 + i
  · rw [if_pos e, if_pos (by omega), show a - 1813 = i by omega]
  · rw [if_neg e]
    by_cases e2 : 1813 ≤ a ∧ a < 1813 + i
    · rw [if_pos e2, if_pos (by omega)]
    · rw [if_neg e2, if_neg (by omega)]
theorem sv8_crr {M : jM} {Z : Nat → Nat → Int32} {s x i : Nat} : sv8 (crr M Z s x i) = sv8 M := by
  funext q k
  unfold sv8
  by_cases e : q < 4 ∧ k < 42
  · rw [if_pos e, if_pos e]
    unfold crr
    rw [if_neg (by split <;> (try split) <;> omega)]
  · rw [if_neg e, if_neg e]
theorem crr_self {M : jM} {s x i : Nat} : qs8 (crr M (sv8 M) s x i) (sv8 M) = crr M (sv8 M) s x i := by
  have h := qs8_sv (M := crr M (sv8 M) s x i)
  rw [sv8_crr] at h
  exact h
theorem crr_at {M : jM} {Z Z' : Nat → Nat → Int32} {s x n i : Nat} (h : i < n) : (qs8 (crr M Z s x n) Z') (1813 + i) = Z s (2 + x + i) := by
  unfold qs8 crr
  rw [if_neg (by omega), if_pos (by omega), Nat.add_sub_cancel_left]
def lnq (Z : Nat → Nat → Int32) (q : Nat) : Nat := nv (Z q 1)
def rch (n : Nat) (x y : Int32) : Bool := decide (0 ≤ x.toInt ∧ 0 ≤ y.toInt ∧ x.toInt + y.toInt ≤ n)
def aCopy (Z : Nat → Nat → Int32) (s x t y n : Int32) : Int32 := if inr s 0 3 = true ∧ inr t 0 3 = true then (if Z (nv s) 0 = 0 ∨ Z (nv t) 0 = 0 then fi 5 else if ¬ Z (nv s) 0 = Z (nv t) 0 then fi 2 else if rch (lnq Z (nv s)) x n = true ∧ rch (lnq Z (nv t)) y n = true then n else fi 0) else fi 0
def eCopy (Z : Nat → Nat → Int32) (F : Nat) (s x t y n : Int32) (W M : jM) : jM := if inr s 0 3 = true ∧ inr t 0 3 = true then (if Z (nv s) 0 = 0 ∨ Z (nv t) 0 = 0 then Fl F 5 M else if ¬ Z (nv s) 0 = Z (nv t) 0 then Fl F 2 M else if rch (lnq Z (nv s)) x n = true ∧ rch (lnq Z (nv t)) y n = true then W else Fl F 0 M) else Fl F 0 M
theorem sub_l {m : Nat} {x : Int32} (hm : m ≤ 40) (hx : 0 ≤ x.toInt) : (nI m - x).toInt = (m : Int) - x.toInt := by
  have h := Int32.toInt_lt x
  rw [Int32.toInt_sub, tI (by omega)]
  simp only [Int.bmod]
  split <;> omega
section PA
variable {M : jM}
set_option maxRecDepth 4000 in
theorem c_X3_reaches (l : Launch) (E : jE) (q : Nat) (hq : q < 4) (m : Nat) (hm : m ≤ 40) (e1 : sv7 M q 1 = nI m) (x n : Int32)  : K_X3_reaches l E [.ref (ja E (so q)), .int x, .int n] M (jb (rch m x n)) (M) := by
  refine CT_intro (own := RX3) (by decide +kernel) rfl (by simp [Value.category]) (Nat.le_of_ble_eq_true rfl) rfl (fun X C G => ?_)
  show J E X 0 [some (.ref (ja E (so q))), some (.int x), some (.int n)] [] M
  have tm : (nI m).toInt = m := tI (by omega)
  refine J_iload_n C (dA DX3_reaches_0 0 rfl) rfl ?_
  refine J_if_lt_t (tgt := 30) C (dA DX3_reaches_0 1 rfl) (by decide) (fun h1 => ?_) (fun h1 => ?_)
  · try have g1 := inr_t h1
    try have g1 := inr_f h1
    refine J_iconst (v := nI 0) C (dA DX3_reaches_0 16 rfl) (by decide) ?_
    exact J_zret C G rfl (dA DX3_reaches_0 17 rfl) ⟨oi (bt_f (decide_eq_false (fun z => by omega))), rfl⟩
  · try have g1 := inr_t h1
    try have g1 := inr_f h1
    refine J_iload_n C (dA DX3_reaches_0 2 rfl) rfl ?_
    refine J_if_lt_t (tgt := 30) C (dA DX3_reaches_0 3 rfl) (by decide) (fun h5 => ?_) (fun h5 => ?_)
    · try have g5 := inr_t h5
      try have g5 := inr_f h5
      refine J_iconst (v := nI 0) C (dA DX3_reaches_0 16 rfl) (by decide) ?_
      exact J_zret C G rfl (dA DX3_reaches_0 17 rfl) ⟨oi (bt_f (decide_eq_false (fun z => by omega))), rfl⟩
    · try have g5 := inr_t h5
      try have g5 := inr_f h5
      refine J_iload_n C (dA DX3_reaches_0 4 rfl) rfl ?_
      refine J_aload_n C (dA DX3_reaches_0 5 rfl) rfl ?_
      refine G_X3_length C hq wF_RX3_19 (dA DX3_reaches_0 6 rfl) ?_
      rw [show M (sb q + 1) = nI m from (sv7_at hq (by decide)).trans e1]
      refine J_icmp_gt_t (tgt := 30) C (dA DX3_reaches_0 7 rfl) (by decide) (fun h13 => ?_) (fun h13 => ?_)
      · try have g13 := inr_t h13
        try have g13 := inr_f h13
        refine J_iconst (v := nI 0) C (dA DX3_reaches_0 16 rfl) (by decide) ?_
        exact J_zret C G rfl (dA DX3_reaches_0 17 rfl) ⟨oi (bt_f (decide_eq_false (fun z => by omega))), rfl⟩
      · try have g13 := inr_t h13
        try have g13 := inr_f h13
        refine J_iload_n C (dA DX3_reaches_0 8 rfl) rfl ?_
        refine J_aload_n C (dA DX3_reaches_0 9 rfl) rfl ?_
        refine G_X3_length C hq wF_RX3_19 (dA DX3_reaches_0 10 rfl) ?_
        refine J_iload_n C (dA DX3_reaches_0 11 rfl) rfl ?_
        rw [show M (sb q + 1) = nI m from (sv7_at hq (by decide)).trans e1]
        refine J_isub C (dA DX3_reaches_0 12 rfl) ?_
        have ts := sub_l (x := x) hm (by omega)
        refine J_icmp_gt_t (tgt := 30) C (dA DX3_reaches_0 13 rfl) (by decide) (fun h23 => ?_) (fun h23 => ?_)
        · try have g23 := inr_t h23
          try have g23 := inr_f h23
          refine J_iconst (v := nI 0) C (dA DX3_reaches_0 16 rfl) (by decide) ?_
          exact J_zret C G rfl (dA DX3_reaches_0 17 rfl) ⟨oi (bt_f (decide_eq_false (fun z => by omega))), rfl⟩
        · try have g23 := inr_t h23
          try have g23 := inr_f h23
          refine J_iconst (v := nI 1) C (dA DX3_reaches_0 14 rfl) (by decide) ?_
          refine J_goto (tgt := 31) C (dA DX3_reaches_0 15 rfl) (by decide) ?_
          exact J_zret C G rfl (dA DX3_reaches_0 17 rfl) ⟨oi (bt_t (decide_eq_true ⟨by omega, by omega, by omega⟩)), rfl⟩
set_option maxRecDepth 4000 in
theorem c_X7_copy (l : Launch) (E : jE) (s x t y n : Int32) (hZ : QS (sv7 M))  : K_X7_copy l E [.ref (ja E 59), .int s, .int x, .int t, .int y, .int n] M (aCopy (sv7 M) s x t y n) (eCopy (sv7 M) 1076 s x t y n (qs7 M (cpq (sv7 M) (nv s) (nv x) (nv t) (nv y) (nv n))) M) := by
  refine CT_intro (own := RX7) (by decide +kernel) rfl (by simp [Value.category]) (Nat.le_of_ble_eq_true rfl) rfl (fun X C G => ?_)
  show J E X 0 [some (.ref (ja E 59)), some (.int s), some (.int x), some (.int t), some (.int y), some (.int n), none, none] [] M
  refine J_iload_n C (dA DX7_copy_0 0 rfl) rfl ?_
  refine V_X7_isSheet C (c_X7_isSheet l E _) wM_RX7_254 (by decide) (dA DX7_copy_0 1 rfl) rfl (Nat.le_of_ble_eq_true rfl) ?_
  refine J_if_eq_b (tgt := 14) C (dA DX7_copy_0 2 rfl) (by decide) (fun h4 => ?_) (fun h4 => ?_)
  · try have g4 := inr_t h4
    try have g4 := inr_f h4
    refine J_aload_n C (dA DX7_copy_0 6 rfl) rfl ?_
    refine J_ldc (v := (-1000001)) C wK_RX7_69 (dA DX7_copy_0 7 rfl) ?_
    refine V_X7_finding C (c_X7_finding l E 0 (by decide) _ (by decide)) wM_RX7_70 (by decide) (dA DX7_copy_0 8 rfl) rfl (Nat.le_of_ble_eq_true rfl) ?_
    exact J_iret C G (dA DX7_copy_0 9 rfl) ⟨oi (by unfold aCopy; rw [if_neg (by rintro ⟨z1, z2⟩; rw [h4] at z1; cases z1)]; rfl), by unfold eCopy; rw [if_neg (by rintro ⟨z1, z2⟩; rw [h4] at z1; cases z1)]⟩
  · try have g4 := inr_t h4
    try have g4 := inr_f h4
    refine J_iload_n C (dA DX7_copy_0 3 rfl) rfl ?_
    refine V_X7_isSheet C (c_X7_isSheet l E _) wM_RX7_254 (by decide) (dA DX7_copy_0 4 rfl) rfl (Nat.le_of_ble_eq_true rfl) ?_
    refine J_if_ne_b (tgt := 21) C (dA DX7_copy_0 5 rfl) (by decide) (fun h11 => ?_) (fun h11 => ?_)
    · try have g11 := inr_t h11
      try have g11 := inr_f h11
      have g4 := inr_t h4
      have g11 := inr_t h11
      obtain ⟨q, hq, rfl⟩ := toNI (x := s) (n := 4) (by omega) (by omega)
      obtain ⟨r, hr, rfl⟩ := toNI (x := t) (n := 4) (by omega) (by omega)
      have nq : nv (nI q) = q := nv_nI (by omega)
      have nr : nv (nI r) = r := nv_nI (by omega)
      have hZ2 := hZ
      have hZ3 := hZ
      obtain ⟨b, m, hb, hm, e0, e1, h0⟩ := hZ2 q hq
      obtain ⟨b2, m2, hb2, hm2, f0, f1, g0⟩ := hZ3 r hr
      have nm : nv (nI m) = m := nv_nI (by omega)
      have nm2 : nv (nI m2) = m2 := nv_nI (by omega)
      have tm : (nI m).toInt = m := tI (by omega)
      have tm2 : (nI m2).toInt = m2 := tI (by omega)
      have lq : lnq (sv7 M) q = m := by unfold lnq; rw [e1, nm]
      have lr : lnq (sv7 M) r = m2 := by unfold lnq; rw [f1, nm2]
      refine J_aload_n C (dA DX7_copy_0 10 rfl) rfl ?_
      refine G_X7_sheets C wF_RX7_57 (dA DX7_copy_0 11 rfl) ?_
      refine J_iload_n C (dA DX7_copy_0 12 rfl) rfl ?_
      refine R_sh C rfl hq (dA DX7_copy_0 13 rfl) ?_
      refine J_ast_6_8 C (dA DX7_copy_0 14 rfl) rfl ?_
      refine J_aload_n C (dA DX7_copy_0 15 rfl) rfl ?_
      refine G_X7_sheets C wF_RX7_57 (dA DX7_copy_0 16 rfl) ?_
      refine J_iload_n C (dA DX7_copy_0 17 rfl) rfl ?_
      refine R_sh C rfl hr (dA DX7_copy_0 18 rfl) ?_
      refine J_ast_7_8 C (dA DX7_copy_0 19 rfl) rfl ?_
      refine J_aload C (dA DX7_copy_0 20 rfl) rfl ?_
      refine V_X3_isMissing C hq (c_X3_isMissing l E q hq) wM_RX7_269 (by decide) (dA DX7_copy_0 21 rfl) rfl (Nat.le_of_ble_eq_true rfl) ?_
      refine J_if_ne_b (tgt := 53) C (dA DX7_copy_0 22 rfl) (by decide) (fun h42 => ?_) (fun h42 => ?_)
      · try have g42 := inr_t h42
        try have g42 := inr_f h42
        refine J_aload_n C (dA DX7_copy_0 26 rfl) rfl ?_
        refine J_ldc (v := (-1000006)) C wK_RX7_249 (dA DX7_copy_0 27 rfl) ?_
        refine V_X7_finding C (c_X7_finding l E 5 (by decide) _ (by decide)) wM_RX7_70 (by decide) (dA DX7_copy_0 28 rfl) rfl (Nat.le_of_ble_eq_true rfl) ?_
        exact J_iret C G (dA DX7_copy_0 29 rfl) ⟨oi (by unfold aCopy; rw [if_pos ⟨h4, h11⟩, nq, nr, if_pos (Or.inl (of_decide_eq_true h42))]; rfl), by unfold eCopy; rw [if_pos ⟨h4, h11⟩, nq, nr, if_pos (Or.inl (of_decide_eq_true h42))]⟩
      · try have g42 := inr_t h42
        try have g42 := inr_f h42
        refine J_aload C (dA DX7_copy_0 23 rfl) rfl ?_
        refine V_X3_isMissing C hr (c_X3_isMissing l E r hr) wM_RX7_269 (by decide) (dA DX7_copy_0 24 rfl) rfl (Nat.le_of_ble_eq_true rfl) ?_
        refine J_if_eq_b (tgt := 60) C (dA DX7_copy_0 25 rfl) (by decide) (fun h50 => ?_) (fun h50 => ?_)
        · try have g50 := inr_t h50
          try have g50 := inr_f h50
          refine J_aload C (dA DX7_copy_0 30 rfl) rfl ?_
          refine G_X3_bits C hq wF_RX7_272 (dA DX7_copy_0 31 rfl) ?_
          refine J_aload C (dA DX7_copy_0 32 rfl) rfl ?_
          refine G_X3_bits C hr wF_RX7_272 (dA DX7_copy_0 33 rfl) ?_
          rw [show M (sb q) = sv7 M q 0 from sv7_at (k := 0) hq (by decide), show M (sb r) = sv7 M r 0 from sv7_at (k := 0) hr (by decide)]
          refine J_icmp_eq (tgt := 80) C (dA DX7_copy_0 34 rfl) (by decide) (fun h70 => ?_) (fun h70 => ?_)
          · have hsame : sv7 M q 0 = sv7 M r 0 := h70
            refine J_aload C (dA DX7_copy_0 39 rfl) rfl ?_
            refine J_iload_n C (dA DX7_copy_0 40 rfl) rfl ?_
            refine J_iload C (dA DX7_copy_0 41 rfl) rfl ?_
            refine V_X3_reaches C hq (c_X3_reaches l E q hq m hm e1 _ _) wM_RX7_275 (by decide) (dA DX7_copy_0 42 rfl) rfl (Nat.le_of_ble_eq_true rfl) ?_
            refine J_if_eq_b (tgt := 103) C (dA DX7_copy_0 43 rfl) (by decide) (fun h88 => ?_) (fun h88 => ?_)
            · try have g88 := inr_t h88
              try have g88 := inr_f h88
              refine J_aload_n C (dA DX7_copy_0 49 rfl) rfl ?_
              refine J_ldc (v := (-1000001)) C wK_RX7_69 (dA DX7_copy_0 50 rfl) ?_
              refine V_X7_finding C (c_X7_finding l E 0 (by decide) _ (by decide)) wM_RX7_70 (by decide) (dA DX7_copy_0 51 rfl) rfl (Nat.le_of_ble_eq_true rfl) ?_
              exact J_iret C G (dA DX7_copy_0 52 rfl) ⟨oi (by unfold aCopy; rw [if_pos ⟨h4, h11⟩, nq, nr, if_neg (fun z => z.elim (of_decide_eq_false h42) (of_decide_eq_false h50)), if_neg (fun z => z hsame), lq, lr, if_neg (by rintro ⟨z1, z2⟩; rw [h88] at z1; cases z1)]; rfl), by unfold eCopy; rw [if_pos ⟨h4, h11⟩, nq, nr, if_neg (fun z => z.elim (of_decide_eq_false h42) (of_decide_eq_false h50)), if_neg (fun z => z hsame), lq, lr, if_neg (by rintro ⟨z1, z2⟩; rw [h88] at z1; cases z1)]⟩
            · try have g88 := inr_t h88
              try have g88 := inr_f h88
              refine J_aload C (dA DX7_copy_0 44 rfl) rfl ?_
              refine J_iload C (dA DX7_copy_0 45 rfl) rfl ?_
              refine J_iload C (dA DX7_copy_0 46 rfl) rfl ?_
              refine V_X3_reaches C hr (c_X3_reaches l E r hr m2 hm2 f1 _ _) wM_RX7_275 (by decide) (dA DX7_copy_0 47 rfl) rfl (Nat.le_of_ble_eq_true rfl) ?_
              refine J_if_ne_b (tgt := 110) C (dA DX7_copy_0 48 rfl) (by decide) (fun h100 => ?_) (fun h100 => ?_)
              · try have g100 := inr_t h100
                try have g100 := inr_f h100
                have a1 := of_decide_eq_true h88
                have a2 := of_decide_eq_true h100
                obtain ⟨j, hj, rfl⟩ := toNI (x := x) (n := 41) (by omega) (by omega)
                obtain ⟨k, hk, rfl⟩ := toNI (x := y) (n := 41) (by omega) (by omega)
                obtain ⟨i, hi, rfl⟩ := toNI (x := n) (n := 41) (by omega) (by omega)
                have nj : nv (nI j) = j := nv_nI (by omega)
                have nk : nv (nI k) = k := nv_nI (by omega)
                have ni : nv (nI i) = i := nv_nI (by omega)
                have tj : (nI j).toInt = j := tI (by omega)
                have tk : (nI k).toInt = k := tI (by omega)
                have ti : (nI i).toInt = i := tI (by omega)
                refine J_aload C (dA DX7_copy_0 53 rfl) rfl ?_
                refine G_X3_numbers C hq wF_RX7_278 (dA DX7_copy_0 54 rfl) ?_
                refine J_iload_n C (dA DX7_copy_0 55 rfl) rfl ?_
                refine J_aload C (dA DX7_copy_0 56 rfl) rfl ?_
                refine G_X3_numbers C hr wF_RX7_278 (dA DX7_copy_0 57 rfl) ?_
                refine J_iload C (dA DX7_copy_0 58 rfl) rfl ?_
                refine J_iload C (dA DX7_copy_0 59 rfl) rfl ?_
                refine J_copy C (jL_sn q hq) (jL_sn r hr) (by omega) (by omega) wM_RX7_281 (by decide) (dA DX7_copy_0 60 rfl) rfl (Nat.le_of_ble_eq_true rfl) ?_
                rw [jcp_q hq hr (by omega) (by omega)]
                refine J_iload C (dA DX7_copy_0 61 rfl) rfl ?_
                exact J_iret C G (dA DX7_copy_0 62 rfl) ⟨oi (by unfold aCopy; rw [if_pos ⟨h4, h11⟩, nq, nr, if_neg (fun z => z.elim (of_decide_eq_false h42) (of_decide_eq_false h50)), if_neg (fun z => z hsame), lq, lr, if_pos ⟨h88, h100⟩]), by unfold eCopy; rw [if_pos ⟨h4, h11⟩, nq, nr, if_neg (fun z => z.elim (of_decide_eq_false h42) (of_decide_eq_false h50)), if_neg (fun z => z hsame), lq, lr, if_pos ⟨h88, h100⟩, nj, nk, ni]⟩
              · try have g100 := inr_t h100
                try have g100 := inr_f h100
                refine J_aload_n C (dA DX7_copy_0 49 rfl) rfl ?_
                refine J_ldc (v := (-1000001)) C wK_RX7_69 (dA DX7_copy_0 50 rfl) ?_
                refine V_X7_finding C (c_X7_finding l E 0 (by decide) _ (by decide)) wM_RX7_70 (by decide) (dA DX7_copy_0 51 rfl) rfl (Nat.le_of_ble_eq_true rfl) ?_
                exact J_iret C G (dA DX7_copy_0 52 rfl) ⟨oi (by unfold aCopy; rw [if_pos ⟨h4, h11⟩, nq, nr, if_neg (fun z => z.elim (of_decide_eq_false h42) (of_decide_eq_false h50)), if_neg (fun z => z hsame), lq, lr, if_neg (by rintro ⟨z1, z2⟩; rw [h100] at z2; cases z2)]; rfl), by unfold eCopy; rw [if_pos ⟨h4, h11⟩, nq, nr, if_neg (fun z => z.elim (of_decide_eq_false h42) (of_decide_eq_false h50)), if_neg (fun z => z hsame), lq, lr, if_neg (by rintro ⟨z1, z2⟩; rw [h100] at z2; cases z2)]⟩
          · refine J_aload_n C (dA DX7_copy_0 35 rfl) rfl ?_
            refine J_ldc (v := (-1000003)) C wK_RX7_253 (dA DX7_copy_0 36 rfl) ?_
            refine V_X7_finding C (c_X7_finding l E 2 (by decide) _ (by decide)) wM_RX7_70 (by decide) (dA DX7_copy_0 37 rfl) rfl (Nat.le_of_ble_eq_true rfl) ?_
            exact J_iret C G (dA DX7_copy_0 38 rfl) ⟨oi (by unfold aCopy; rw [if_pos ⟨h4, h11⟩, nq, nr, if_neg (fun z => z.elim (of_decide_eq_false h42) (of_decide_eq_false h50)), if_pos h70]; rfl), by unfold eCopy; rw [if_pos ⟨h4, h11⟩, nq, nr, if_neg (fun z => z.elim (of_decide_eq_false h42) (of_decide_eq_false h50)), if_pos h70]⟩
        · try have g50 := inr_t h50
          try have g50 := inr_f h50
          refine J_aload_n C (dA DX7_copy_0 26 rfl) rfl ?_
          refine J_ldc (v := (-1000006)) C wK_RX7_249 (dA DX7_copy_0 27 rfl) ?_
          refine V_X7_finding C (c_X7_finding l E 5 (by decide) _ (by decide)) wM_RX7_70 (by decide) (dA DX7_copy_0 28 rfl) rfl (Nat.le_of_ble_eq_true rfl) ?_
          exact J_iret C G (dA DX7_copy_0 29 rfl) ⟨oi (by unfold aCopy; rw [if_pos ⟨h4, h11⟩, nq, nr, if_pos (Or.inr (of_decide_eq_true h50))]; rfl), by unfold eCopy; rw [if_pos ⟨h4, h11⟩, nq, nr, if_pos (Or.inr (of_decide_eq_true h50))]⟩
    · try have g11 := inr_t h11
      try have g11 := inr_f h11
      refine J_aload_n C (dA DX7_copy_0 6 rfl) rfl ?_
      refine J_ldc (v := (-1000001)) C wK_RX7_69 (dA DX7_copy_0 7 rfl) ?_
      refine V_X7_finding C (c_X7_finding l E 0 (by decide) _ (by decide)) wM_RX7_70 (by decide) (dA DX7_copy_0 8 rfl) rfl (Nat.le_of_ble_eq_true rfl) ?_
      exact J_iret C G (dA DX7_copy_0 9 rfl) ⟨oi (by unfold aCopy; rw [if_neg (by rintro ⟨z1, z2⟩; rw [h11] at z2; cases z2)]; rfl), by unfold eCopy; rw [if_neg (by rintro ⟨z1, z2⟩; rw [h11] at z2; cases z2)]⟩
set_option maxRecDepth 4000 in
theorem c_X8_copy (l : Launch) (E : jE) (s x t y n : Int32) (hZ : QS (sv8 M))  : K_X8_copy l E [.ref (ja E 60), .int s, .int x, .int t, .int y, .int n] M (aCopy (sv8 M) s x t y n) (eCopy (sv8 M) 1502 s x t y n (qs8 (crr M (sv8 M) (nv s) (nv x) (nv n)) (cpq (sv8 M) (nv s) (nv x) (nv t) (nv y) (nv n))) M) := by
  refine CT_intro (own := RX8) (by decide +kernel) rfl (by simp [Value.category]) (Nat.le_of_ble_eq_true rfl) rfl (fun X C G => ?_)
  show J E X 0 [some (.ref (ja E 60)), some (.int s), some (.int x), some (.int t), some (.int y), some (.int n), none] [] M
  refine J_iload_n C (dA DX8_copy_0 0 rfl) rfl ?_
  refine V_X8_isSheet C (c_X8_isSheet l E _) wM_RX8_181 (by decide) (dA DX8_copy_0 1 rfl) rfl (Nat.le_of_ble_eq_true rfl) ?_
  refine J_if_eq_b (tgt := 14) C (dA DX8_copy_0 2 rfl) (by decide) (fun h4 => ?_) (fun h4 => ?_)
  · try have g4 := inr_t h4
    try have g4 := inr_f h4
    refine J_aload_n C (dA DX8_copy_0 6 rfl) rfl ?_
    refine J_iconst (v := nI 0) C (dA DX8_copy_0 7 rfl) (by decide) ?_
    refine V_X8_no C (c_X8_no l E _ (by decide)) wM_RX8_106 (by decide) (dA DX8_copy_0 8 rfl) rfl (Nat.le_of_ble_eq_true rfl) ?_
    exact J_iret C G (dA DX8_copy_0 9 rfl) ⟨oi (by unfold aCopy; rw [if_neg (by rintro ⟨z1, z2⟩; rw [show inr s 0 3 = false from h4] at z1; cases z1)]; rfl), by unfold eCopy; rw [if_neg (by rintro ⟨z1, z2⟩; rw [show inr s 0 3 = false from h4] at z1; cases z1)]⟩
  · try have g4 := inr_t h4
    try have g4 := inr_f h4
    refine J_iload_n C (dA DX8_copy_0 3 rfl) rfl ?_
    refine V_X8_isSheet C (c_X8_isSheet l E _) wM_RX8_181 (by decide) (dA DX8_copy_0 4 rfl) rfl (Nat.le_of_ble_eq_true rfl) ?_
    refine J_if_ne_b (tgt := 20) C (dA DX8_copy_0 5 rfl) (by decide) (fun h11 => ?_) (fun h11 => ?_)
    · try have g11 := inr_t h11
      try have g11 := inr_f h11
      have h4 : inr s 0 3 = true := h4
      have h11 : inr t 0 3 = true := h11
      have g4 := inr_t h4
      have g11 := inr_t h11
      obtain ⟨q, hq, rfl⟩ := toNI (x := s) (n := 4) (by omega) (by omega)
      obtain ⟨r, hr, rfl⟩ := toNI (x := t) (n := 4) (by omega) (by omega)
      have nq : nv (nI q) = q := nv_nI (by omega)
      have nr : nv (nI r) = r := nv_nI (by omega)
      have hZ2 := hZ
      have hZ3 := hZ
      obtain ⟨b, m, hb, hm, e0, e1, h0⟩ := hZ2 q hq
      obtain ⟨b2, m2, hb2, hm2, f0, f1, g0⟩ := hZ3 r hr
      have nm : nv (nI m) = m := nv_nI (by omega)
      have nm2 : nv (nI m2) = m2 := nv_nI (by omega)
      have tm : (nI m).toInt = m := tI (by omega)
      have tm2 : (nI m2).toInt = m2 := tI (by omega)
      have lq : lnq (sv8 M) q = m := by unfold lnq; rw [e1, nm]
      have lr : lnq (sv8 M) r = m2 := by unfold lnq; rw [f1, nm2]
      refine J_aload_n C (dA DX8_copy_0 10 rfl) rfl ?_
      refine G_X8_widths C wF_RX8_41 (dA DX8_copy_0 11 rfl) ?_
      refine J_iload_n C (dA DX8_copy_0 12 rfl) rfl ?_
      refine R_1 C (hk := rfl) (j := q) rfl (by omega) (dA DX8_copy_0 13 rfl) ?_
      rw [show M (1645 + q) = sv8 M q 0 from sv8_0 hq]
      refine J_if_eq (tgt := 38) C (dA DX8_copy_0 14 rfl) (by decide) (fun h26 => ?_) (fun h26 => ?_)
      · refine J_aload_n C (dA DX8_copy_0 20 rfl) rfl ?_
        refine J_iconst (v := nI 5) C (dA DX8_copy_0 21 rfl) (by decide) ?_
        refine V_X8_no C (c_X8_no l E _ (by decide)) wM_RX8_106 (by decide) (dA DX8_copy_0 22 rfl) rfl (Nat.le_of_ble_eq_true rfl) ?_
        exact J_iret C G (dA DX8_copy_0 23 rfl) ⟨oi (by unfold aCopy; rw [if_pos ⟨h4, h11⟩, nq, nr, if_pos (Or.inl (by first | exact h26 | exact Classical.byContradiction h26))]; rfl), by unfold eCopy; rw [if_pos ⟨h4, h11⟩, nq, nr, if_pos (Or.inl (by first | exact h26 | exact Classical.byContradiction h26))]⟩
      · refine J_aload_n C (dA DX8_copy_0 15 rfl) rfl ?_
        refine G_X8_widths C wF_RX8_41 (dA DX8_copy_0 16 rfl) ?_
        refine J_iload_n C (dA DX8_copy_0 17 rfl) rfl ?_
        refine R_1 C (hk := rfl) (j := r) rfl (by omega) (dA DX8_copy_0 18 rfl) ?_
        rw [show M (1645 + r) = sv8 M r 0 from sv8_0 hr]
        refine J_if_ne (tgt := 44) C (dA DX8_copy_0 19 rfl) (by decide) (fun h35 => ?_) (fun h35 => ?_)
        · have hne : ¬ (sv8 M q 0 = 0 ∨ sv8 M r 0 = 0) := fun z => z.elim h26 h35
          refine J_aload_n C (dA DX8_copy_0 24 rfl) rfl ?_
          refine G_X8_widths C wF_RX8_41 (dA DX8_copy_0 25 rfl) ?_
          refine J_iload_n C (dA DX8_copy_0 26 rfl) rfl ?_
          refine R_1 C (hk := rfl) (j := q) rfl (by omega) (dA DX8_copy_0 27 rfl) ?_
          rw [show M (1645 + q) = sv8 M q 0 from sv8_0 hq]
          refine J_aload_n C (dA DX8_copy_0 28 rfl) rfl ?_
          refine G_X8_widths C wF_RX8_41 (dA DX8_copy_0 29 rfl) ?_
          refine J_iload_n C (dA DX8_copy_0 30 rfl) rfl ?_
          refine R_1 C (hk := rfl) (j := r) rfl (by omega) (dA DX8_copy_0 31 rfl) ?_
          rw [show M (1645 + r) = sv8 M r 0 from sv8_0 hr]
          refine J_icmp_eq (tgt := 65) C (dA DX8_copy_0 32 rfl) (by decide) (fun h56 => ?_) (fun h56 => ?_)
          · have hsame : sv8 M q 0 = sv8 M r 0 := h56
            refine J_iload C (dA DX8_copy_0 37 rfl) rfl ?_
            refine J_if_lt_t (tgt := 106) C (dA DX8_copy_0 38 rfl) (by decide) (fun h67 => ?_) (fun h67 => ?_)
            · try have g67 := inr_t h67
              try have g67 := inr_f h67
              refine J_aload_n C (dA DX8_copy_0 59 rfl) rfl ?_
              refine J_iconst (v := nI 0) C (dA DX8_copy_0 60 rfl) (by decide) ?_
              refine V_X8_no C (c_X8_no l E _ (by decide)) wM_RX8_106 (by decide) (dA DX8_copy_0 61 rfl) rfl (Nat.le_of_ble_eq_true rfl) ?_
              exact J_iret C G (dA DX8_copy_0 62 rfl) ⟨oi (by unfold aCopy; rw [if_pos ⟨h4, h11⟩, nq, nr, if_neg hne, if_neg (fun z => z hsame), lq, lr, if_neg (by rintro ⟨z1, z2⟩; have w1 := of_decide_eq_true z1; have w2 := of_decide_eq_true z2; omega)]; rfl), by unfold eCopy; rw [if_pos ⟨h4, h11⟩, nq, nr, if_neg hne, if_neg (fun z => z hsame), lq, lr, if_neg (by rintro ⟨z1, z2⟩; have w1 := of_decide_eq_true z1; have w2 := of_decide_eq_true z2; omega)]⟩
            · try have g67 := inr_t h67
              try have g67 := inr_f h67
              refine J_iload_n C (dA DX8_copy_0 39 rfl) rfl ?_
              refine J_if_lt_t (tgt := 106) C (dA DX8_copy_0 40 rfl) (by decide) (fun h71 => ?_) (fun h71 => ?_)
              · try have g71 := inr_t h71
                try have g71 := inr_f h71
                refine J_aload_n C (dA DX8_copy_0 59 rfl) rfl ?_
                refine J_iconst (v := nI 0) C (dA DX8_copy_0 60 rfl) (by decide) ?_
                refine V_X8_no C (c_X8_no l E _ (by decide)) wM_RX8_106 (by decide) (dA DX8_copy_0 61 rfl) rfl (Nat.le_of_ble_eq_true rfl) ?_
                exact J_iret C G (dA DX8_copy_0 62 rfl) ⟨oi (by unfold aCopy; rw [if_pos ⟨h4, h11⟩, nq, nr, if_neg hne, if_neg (fun z => z hsame), lq, lr, if_neg (by rintro ⟨z1, z2⟩; have w1 := of_decide_eq_true z1; have w2 := of_decide_eq_true z2; omega)]; rfl), by unfold eCopy; rw [if_pos ⟨h4, h11⟩, nq, nr, if_neg hne, if_neg (fun z => z hsame), lq, lr, if_neg (by rintro ⟨z1, z2⟩; have w1 := of_decide_eq_true z1; have w2 := of_decide_eq_true z2; omega)]⟩
              · try have g71 := inr_t h71
                try have g71 := inr_f h71
                refine J_iload C (dA DX8_copy_0 41 rfl) rfl ?_
                refine J_if_lt_t (tgt := 106) C (dA DX8_copy_0 42 rfl) (by decide) (fun h76 => ?_) (fun h76 => ?_)
                · try have g76 := inr_t h76
                  try have g76 := inr_f h76
                  refine J_aload_n C (dA DX8_copy_0 59 rfl) rfl ?_
                  refine J_iconst (v := nI 0) C (dA DX8_copy_0 60 rfl) (by decide) ?_
                  refine V_X8_no C (c_X8_no l E _ (by decide)) wM_RX8_106 (by decide) (dA DX8_copy_0 61 rfl) rfl (Nat.le_of_ble_eq_true rfl) ?_
                  exact J_iret C G (dA DX8_copy_0 62 rfl) ⟨oi (by unfold aCopy; rw [if_pos ⟨h4, h11⟩, nq, nr, if_neg hne, if_neg (fun z => z hsame), lq, lr, if_neg (by rintro ⟨z1, z2⟩; have w1 := of_decide_eq_true z1; have w2 := of_decide_eq_true z2; omega)]; rfl), by unfold eCopy; rw [if_pos ⟨h4, h11⟩, nq, nr, if_neg hne, if_neg (fun z => z hsame), lq, lr, if_neg (by rintro ⟨z1, z2⟩; have w1 := of_decide_eq_true z1; have w2 := of_decide_eq_true z2; omega)]⟩
                · try have g76 := inr_t h76
                  try have g76 := inr_f h76
                  refine J_iload_n C (dA DX8_copy_0 43 rfl) rfl ?_
                  refine J_aload_n C (dA DX8_copy_0 44 rfl) rfl ?_
                  refine G_X8_sizes C wF_RX8_44 (dA DX8_copy_0 45 rfl) ?_
                  refine J_iload_n C (dA DX8_copy_0 46 rfl) rfl ?_
                  refine R_1 C (hk := rfl) (j := q) rfl (by omega) (dA DX8_copy_0 47 rfl) ?_
                  rw [show M (1649 + q) = nI m from (sv8_1 hq).trans e1]
                  refine J_iload C (dA DX8_copy_0 48 rfl) rfl ?_
                  refine J_isub C (dA DX8_copy_0 49 rfl) ?_
                  have ts := sub_l (x := n) hm (by omega)
                  refine J_icmp_gt_t (tgt := 106) C (dA DX8_copy_0 50 rfl) (by decide) (fun h89 => ?_) (fun h89 => ?_)
                  · try have g89 := inr_t h89
                    try have g89 := inr_f h89
                    refine J_aload_n C (dA DX8_copy_0 59 rfl) rfl ?_
                    refine J_iconst (v := nI 0) C (dA DX8_copy_0 60 rfl) (by decide) ?_
                    refine V_X8_no C (c_X8_no l E _ (by decide)) wM_RX8_106 (by decide) (dA DX8_copy_0 61 rfl) rfl (Nat.le_of_ble_eq_true rfl) ?_
                    exact J_iret C G (dA DX8_copy_0 62 rfl) ⟨oi (by unfold aCopy; rw [if_pos ⟨h4, h11⟩, nq, nr, if_neg hne, if_neg (fun z => z hsame), lq, lr, if_neg (by rintro ⟨z1, z2⟩; have w1 := of_decide_eq_true z1; have w2 := of_decide_eq_true z2; omega)]; rfl), by unfold eCopy; rw [if_pos ⟨h4, h11⟩, nq, nr, if_neg hne, if_neg (fun z => z hsame), lq, lr, if_neg (by rintro ⟨z1, z2⟩; have w1 := of_decide_eq_true z1; have w2 := of_decide_eq_true z2; omega)]⟩
                  · try have g89 := inr_t h89
                    try have g89 := inr_f h89
                    refine J_iload C (dA DX8_copy_0 51 rfl) rfl ?_
                    refine J_aload_n C (dA DX8_copy_0 52 rfl) rfl ?_
                    refine G_X8_sizes C wF_RX8_44 (dA DX8_copy_0 53 rfl) ?_
                    refine J_iload_n C (dA DX8_copy_0 54 rfl) rfl ?_
                    refine R_1 C (hk := rfl) (j := r) rfl (by omega) (dA DX8_copy_0 55 rfl) ?_
                    rw [show M (1649 + r) = nI m2 from (sv8_1 hr).trans f1]
                    refine J_iload C (dA DX8_copy_0 56 rfl) rfl ?_
                    refine J_isub C (dA DX8_copy_0 57 rfl) ?_
                    have ts2 := sub_l (x := n) hm2 (by omega)
                    refine J_icmp_le_t (tgt := 112) C (dA DX8_copy_0 58 rfl) (by decide) (fun h103 => ?_) (fun h103 => ?_)
                    · try have g103 := inr_t h103
                      try have g103 := inr_f h103
                      have hok : rch m x n = true ∧ rch m2 y n = true := ⟨decide_eq_true (by omega), decide_eq_true (by omega)⟩
                      obtain ⟨j, hj, rfl⟩ := toNI (x := x) (n := 41) (by omega) (by omega)
                      obtain ⟨k, hk, rfl⟩ := toNI (x := y) (n := 41) (by omega) (by omega)
                      obtain ⟨i, hi, rfl⟩ := toNI (x := n) (n := 41) (by omega) (by omega)
                      have nj : nv (nI j) = j := nv_nI (by omega)
                      have nk : nv (nI k) = k := nv_nI (by omega)
                      have ni : nv (nI i) = i := nv_nI (by omega)
                      have tj : (nI j).toInt = j := tI (by omega)
                      have tk : (nI k).toInt = k := tI (by omega)
                      have ti : (nI i).toInt = i := tI (by omega)
                      have loop2 : ∀ k2 c, c + k2 = i → J E X 152 [some (.ref (ja E 60)), some (.int (nI q)), some (.int (nI j)), some (.int (nI r)), some (.int (nI k)), some (.int (nI i)), some (.int (nI c))] [] (qs8 (crr M (sv8 M) q j i) (cpq (sv8 M) q j r k c)) := by
                        intro k2
                        induction k2 with
                        | zero =>
                          intro c hc
                          obtain rfl : i = c := by omega
                          refine J_iload C (dA DX8_copy_0 86 rfl) rfl ?_
                          refine J_iload C (dA DX8_copy_0 87 rfl) rfl ?_
                          first | refine J_icmp_ge_n (tgt := 187) C (by omega) (by omega) (dA DX8_copy_0 88 rfl) (by decide) (fun h156 => ?_) (fun h156 => ?_) | refine J_icmp_ge_c (tgt := 187) C (by omega) (dA DX8_copy_0 88 rfl) (by decide) (fun h156 => ?_) (fun h156 => ?_) | refine J_icmp_ge_t (tgt := 187) C (dA DX8_copy_0 88 rfl) (by decide) (fun h156 => ?_) (fun h156 => ?_)
                          · try have g156 := inr_t h156
                            try have g156 := inr_f h156
                            refine J_iload C (dA DX8_copy_0 105 rfl) rfl ?_
                            exact J_iret C G (dA DX8_copy_0 106 rfl) ⟨oi (by unfold aCopy; rw [if_pos ⟨h4, h11⟩, nq, nr, if_neg hne, if_neg (fun z => z hsame), lq, lr, if_pos hok]), by unfold eCopy; rw [if_pos ⟨h4, h11⟩, nq, nr, if_neg hne, if_neg (fun z => z hsame), lq, lr, if_pos hok, nj, nk, ni]⟩
                          · exfalso; omega
                        | succ k2 ih =>
                          intro c hc
                          refine J_iload C (dA DX8_copy_0 86 rfl) rfl ?_
                          refine J_iload C (dA DX8_copy_0 87 rfl) rfl ?_
                          first | refine J_icmp_ge_n (tgt := 187) C (by omega) (by omega) (dA DX8_copy_0 88 rfl) (by decide) (fun h156 => ?_) (fun h156 => ?_) | refine J_icmp_ge_c (tgt := 187) C (by omega) (dA DX8_copy_0 88 rfl) (by decide) (fun h156 => ?_) (fun h156 => ?_) | refine J_icmp_ge_t (tgt := 187) C (dA DX8_copy_0 88 rfl) (by decide) (fun h156 => ?_) (fun h156 => ?_)
                          · exfalso; omega
                          · try have g156 := inr_t h156
                            try have g156 := inr_f h156
                            refine J_aload_n C (dA DX8_copy_0 89 rfl) rfl ?_
                            refine G_X8_cells C wF_RX8_47 (dA DX8_copy_0 90 rfl) ?_
                            refine J_bipush (v := nI 40) C (dA DX8_copy_0 91 rfl) (by decide) ?_
                            refine J_iload_n C (dA DX8_copy_0 92 rfl) rfl ?_
                            first | refine J_imul_n C (dA DX8_copy_0 93 rfl) ?_ | refine J_imul C (dA DX8_copy_0 93 rfl) ?_
                            refine J_iload C (dA DX8_copy_0 94 rfl) rfl ?_
                            first | refine J_iadd_n C (dA DX8_copy_0 95 rfl) ?_ | refine J_iadd C (dA DX8_copy_0 95 rfl) ?_
                            refine J_iload C (dA DX8_copy_0 96 rfl) rfl ?_
                            first | refine J_iadd_n C (dA DX8_copy_0 97 rfl) ?_ | refine J_iadd C (dA DX8_copy_0 97 rfl) ?_
                            refine J_aload_n C (dA DX8_copy_0 98 rfl) rfl ?_
                            refine G_X8_carried C wF_RX8_50 (dA DX8_copy_0 99 rfl) ?_
                            refine J_iload C (dA DX8_copy_0 100 rfl) rfl ?_
                            refine R_1 C (hk := rfl) (j := c) rfl (by omega) (dA DX8_copy_0 101 rfl) ?_
                            rw [crr_at (show c < i by omega)]
                            refine S_1 C (hk := rfl) (j := 40 * r + k + c) rfl (by omega) (dA DX8_copy_0 102 rfl) ?_
                            rw [show 1653 + (40 * r + k + c) = 1653 + (40 * r + (k + c)) by omega, qs8_u2 hr (by omega)]
                            first | refine J_inc1_6_7 C (dA DX8_copy_0 103 rfl) rfl ?_ | refine J_iinc_6_7 C (dA DX8_copy_0 103 rfl) rfl ?_
                            refine J_goto (tgt := 152) C (dA DX8_copy_0 104 rfl) (by decide) ?_
                            rw [cpq_s]
                            exact ih (c + 1) (by omega)
                      have loop1 : ∀ k2 c, c + k2 = i → J E X 115 [some (.ref (ja E 60)), some (.int (nI q)), some (.int (nI j)), some (.int (nI r)), some (.int (nI k)), some (.int (nI i)), some (.int (nI c))] [] (crr M (sv8 M) q j c) := by
                        intro k2
                        induction k2 with
                        | zero =>
                          intro c hc
                          obtain rfl : i = c := by omega
                          refine J_iload C (dA DX8_copy_0 65 rfl) rfl ?_
                          refine J_iload C (dA DX8_copy_0 66 rfl) rfl ?_
                          first | refine J_icmp_ge_n (tgt := 149) C (by omega) (by omega) (dA DX8_copy_0 67 rfl) (by decide) (fun h119 => ?_) (fun h119 => ?_) | refine J_icmp_ge_c (tgt := 149) C (by omega) (dA DX8_copy_0 67 rfl) (by decide) (fun h119 => ?_) (fun h119 => ?_) | refine J_icmp_ge_t (tgt := 149) C (dA DX8_copy_0 67 rfl) (by decide) (fun h119 => ?_) (fun h119 => ?_)
                          · try have g119 := inr_t h119
                            try have g119 := inr_f h119
                            refine J_iconst (v := nI 0) C (dA DX8_copy_0 84 rfl) (by decide) ?_
                            refine J_ist_6_7 C (dA DX8_copy_0 85 rfl) rfl ?_
                            have h := loop2 i 0 (Nat.zero_add _)
                            rw [cpq_0, crr_self] at h
                            exact h
                          · exfalso; omega
                        | succ k2 ih =>
                          intro c hc
                          refine J_iload C (dA DX8_copy_0 65 rfl) rfl ?_
                          refine J_iload C (dA DX8_copy_0 66 rfl) rfl ?_
                          first | refine J_icmp_ge_n (tgt := 149) C (by omega) (by omega) (dA DX8_copy_0 67 rfl) (by decide) (fun h119 => ?_) (fun h119 => ?_) | refine J_icmp_ge_c (tgt := 149) C (by omega) (dA DX8_copy_0 67 rfl) (by decide) (fun h119 => ?_) (fun h119 => ?_) | refine J_icmp_ge_t (tgt := 149) C (dA DX8_copy_0 67 rfl) (by decide) (fun h119 => ?_) (fun h119 => ?_)
                          · exfalso; omega
                          · try have g119 := inr_t h119
                            try have g119 := inr_f h119
                            refine J_aload_n C (dA DX8_copy_0 68 rfl) rfl ?_
                            refine G_X8_carried C wF_RX8_50 (dA DX8_copy_0 69 rfl) ?_
                            refine J_iload C (dA DX8_copy_0 70 rfl) rfl ?_
                            refine J_aload_n C (dA DX8_copy_0 71 rfl) rfl ?_
                            refine G_X8_cells C wF_RX8_47 (dA DX8_copy_0 72 rfl) ?_
                            refine J_bipush (v := nI 40) C (dA DX8_copy_0 73 rfl) (by decide) ?_
                            refine J_iload_n C (dA DX8_copy_0 74 rfl) rfl ?_
                            first | refine J_imul_n C (dA DX8_copy_0 75 rfl) ?_ | refine J_imul C (dA DX8_copy_0 75 rfl) ?_
                            refine J_iload_n C (dA DX8_copy_0 76 rfl) rfl ?_
                            first | refine J_iadd_n C (dA DX8_copy_0 77 rfl) ?_ | refine J_iadd C (dA DX8_copy_0 77 rfl) ?_
                            refine J_iload C (dA DX8_copy_0 78 rfl) rfl ?_
                            first | refine J_iadd_n C (dA DX8_copy_0 79 rfl) ?_ | refine J_iadd C (dA DX8_copy_0 79 rfl) ?_
                            refine R_1 C (hk := rfl) (j := 40 * q + j + c) rfl (by omega) (dA DX8_copy_0 80 rfl) ?_
                            rw [show (crr M (sv8 M) q j c) (1653 + (40 * q + j + c)) = sv8 M q (2 + j + c) from by rw [show 1653 + (40 * q + j + c) = 1653 + (40 * q + (j + c)) by omega, sv8_2 (M := crr M (sv8 M) q j c) hq (by omega), sv8_crr, show 2 + (j + c) = 2 + j + c by omega]]
                            refine S_1 C (hk := rfl) (j := c) rfl (by omega) (dA DX8_copy_0 81 rfl) ?_
                            first | refine J_inc1_6_7 C (dA DX8_copy_0 82 rfl) rfl ?_ | refine J_iinc_6_7 C (dA DX8_copy_0 82 rfl) rfl ?_
                            refine J_goto (tgt := 115) C (dA DX8_copy_0 83 rfl) (by decide) ?_
                            rw [crr_s]
                            exact ih (c + 1) (by omega)
                      refine J_iconst (v := nI 0) C (dA DX8_copy_0 63 rfl) (by decide) ?_
                      refine J_ist_6_7 C (dA DX8_copy_0 64 rfl) rfl ?_
                      have h := loop1 i 0 (Nat.zero_add _)
                      rw [crr_0] at h
                      exact h
                    · try have g103 := inr_t h103
                      try have g103 := inr_f h103
                      refine J_aload_n C (dA DX8_copy_0 59 rfl) rfl ?_
                      refine J_iconst (v := nI 0) C (dA DX8_copy_0 60 rfl) (by decide) ?_
                      refine V_X8_no C (c_X8_no l E _ (by decide)) wM_RX8_106 (by decide) (dA DX8_copy_0 61 rfl) rfl (Nat.le_of_ble_eq_true rfl) ?_
                      exact J_iret C G (dA DX8_copy_0 62 rfl) ⟨oi (by unfold aCopy; rw [if_pos ⟨h4, h11⟩, nq, nr, if_neg hne, if_neg (fun z => z hsame), lq, lr, if_neg (by rintro ⟨z1, z2⟩; have w1 := of_decide_eq_true z1; have w2 := of_decide_eq_true z2; omega)]; rfl), by unfold eCopy; rw [if_pos ⟨h4, h11⟩, nq, nr, if_neg hne, if_neg (fun z => z hsame), lq, lr, if_neg (by rintro ⟨z1, z2⟩; have w1 := of_decide_eq_true z1; have w2 := of_decide_eq_true z2; omega)]⟩
          · refine J_aload_n C (dA DX8_copy_0 33 rfl) rfl ?_
            refine J_iconst (v := nI 2) C (dA DX8_copy_0 34 rfl) (by decide) ?_
            refine V_X8_no C (c_X8_no l E _ (by decide)) wM_RX8_106 (by decide) (dA DX8_copy_0 35 rfl) rfl (Nat.le_of_ble_eq_true rfl) ?_
            exact J_iret C G (dA DX8_copy_0 36 rfl) ⟨oi (by unfold aCopy; rw [if_pos ⟨h4, h11⟩, nq, nr, if_neg hne, if_pos h56]; rfl), by unfold eCopy; rw [if_pos ⟨h4, h11⟩, nq, nr, if_neg hne, if_pos h56]⟩
        · refine J_aload_n C (dA DX8_copy_0 20 rfl) rfl ?_
          refine J_iconst (v := nI 5) C (dA DX8_copy_0 21 rfl) (by decide) ?_
          refine V_X8_no C (c_X8_no l E _ (by decide)) wM_RX8_106 (by decide) (dA DX8_copy_0 22 rfl) rfl (Nat.le_of_ble_eq_true rfl) ?_
          exact J_iret C G (dA DX8_copy_0 23 rfl) ⟨oi (by unfold aCopy; rw [if_pos ⟨h4, h11⟩, nq, nr, if_pos (Or.inr (by first | exact h35 | exact Classical.byContradiction h35))]; rfl), by unfold eCopy; rw [if_pos ⟨h4, h11⟩, nq, nr, if_pos (Or.inr (by first | exact h35 | exact Classical.byContradiction h35))]⟩
    · try have g11 := inr_t h11
      try have g11 := inr_f h11
      refine J_aload_n C (dA DX8_copy_0 6 rfl) rfl ?_
      refine J_iconst (v := nI 0) C (dA DX8_copy_0 7 rfl) (by decide) ?_
      refine V_X8_no C (c_X8_no l E _ (by decide)) wM_RX8_106 (by decide) (dA DX8_copy_0 8 rfl) rfl (Nat.le_of_ble_eq_true rfl) ?_
      exact J_iret C G (dA DX8_copy_0 9 rfl) ⟨oi (by unfold aCopy; rw [if_neg (by rintro ⟨z1, z2⟩; rw [show inr t 0 3 = false from h11] at z2; cases z2)]; rfl), by unfold eCopy; rw [if_neg (by rintro ⟨z1, z2⟩; rw [show inr t 0 3 = false from h11] at z2; cases z2)]⟩
end PA
