def tl (b : Nat) (M : jM) (c : Nat → Int32) : jM := fun a => if b ≤ a ∧ a < b + 16 then c (a - b) else M a
theorem tl_at {b j : Nat} {M : jM} {c : Nat → Int32} (h : j < 16) : tl b M c (b + j) = c j := by unfold tl; rw [if_pos (by omega), Nat.add_sub_cancel_left]
theorem tl_upd {b j : Nat} {M : jM} {c : Nat → Int32} {x : Int32} (h : j < 16) : upd (tl b M c) (b + j) x = tl b M (upd c j x) := by
  funext a
  unfold upd tl
  by_cases e : a = b + j
  · rw [if_pos e, if_pos (by omega)]
    show x = if a - b = j then x else c (a - b)
    rw [if_pos (by omega)]
  · rw [if_neg e]
    by_cases e2 : b ≤ a ∧ a < b + 16
    · rw [if_pos e2, if_pos e2]
      show c (a - b) = if a - b = j then x else c (a - b)
      rw [if_neg (by omega)]
    · rw [if_neg e2, if_neg e2]
theorem tl_self {b : Nat} {M : jM} : tl b M (fun j => M (b + j)) = M := by
  funext a
  unfold tl
  by_cases e2 : b ≤ a ∧ a < b + 16
  · rw [if_pos e2]
    show M (b + (a - b)) = M a
    congr 1
    omega
  · rw [if_neg e2]
theorem vb_tl {b b' : Nat} {M : jM} {c : Nat → Int32} (h : b' + 134 ≤ b ∨ b + 16 ≤ b') : vb b' (tl b M c) = vb b' M := by
  funext j; unfold vb; split
  · unfold tl; rw [if_neg (by omega)]
  · rfl
theorem lay_tl {b b' : Nat} {M : jM} {c : Nat → Int32} {T : Nat → Int32} (h : b' + 134 ≤ b ∨ b + 16 ≤ b') : lay b' (tl b M c) T = tl b (lay b' M T) c := by
  funext a
  unfold lay tl
  by_cases e : b' ≤ a ∧ a < b' + 134
  · have e2 : ¬ (b ≤ a ∧ a < b + 16) := by omega
    simp only [if_pos e, if_neg e2]
  · simp only [if_neg e]
theorem tl_cong {b : Nat} {M : jM} {c c' : Nat → Int32} (h : ∀ j, j < 16 → c j = c' j) : tl b M c = tl b M c' := by
  funext a; unfold tl; split
  · exact h _ (by omega)
  · rfl
/-- how often, of n minutes, a thing is in a pond -/
def cT (S : Nat → Int32) (t : Nat) : Nat → Nat → Nat
  | 0, _ => 0
  | n + 1, q => cT S t n q + (if f3 (minsS S (n + 1)) t 1 = q then 1 else 0)
theorem cT_le (S : Nat → Int32) (t q : Nat) : ∀ n, cT S t n q ≤ n
  | 0 => Nat.le_refl 0
  | n + 1 => by
    have := cT_le S t q n
    simp only [cT]
    split <;> omega
def bst (c : Nat → Nat) : Nat → Nat
  | 0 => 0
  | n + 1 => if c (bst c n) < c (n + 1) then n + 1 else bst c n
theorem bst_le (c : Nat → Nat) : ∀ n, bst c n ≤ n
  | 0 => Nat.le_refl 0
  | n + 1 => by
    have := bst_le c n
    simp only [bst]
    split <;> omega
def fiN (P : Nat → Bool) : Nat := firstN 101 P
def aFB (P : Nat → Bool) : Int32 := if fiN P < 101 then nI (fiN P) else fi 3
def inP (S : Nat → Int32) (t q : Nat) : Nat → Bool := fun i => decide (f3 (minsS S i) t 1 = q)
def mtP (S : Nat → Int32) (a b : Nat) : Nat → Bool := fun i => decide (f3 (minsS S i) a 1 = f3 (minsS S i) b 1)
def aAhead (S : Nat → Int32) (a b : Int32) : Int32 := if inr a 0 ((iN S : Int) - 1) = true ∧ inr b 0 100 = true then nI (f3 (minsS S (nv b)) (nv a) 1) else fi 0
def aComes (S : Nat → Int32) (a b : Int32) : Int32 := if inr a 0 ((iN S : Int) - 1) = true ∧ inr b 0 15 = true then aFB (inP S (nv a) (nv b)) else fi 0
def aSeen (S : Nat → Int32) (a b : Int32) : Int32 := if inr a 0 ((iN S : Int) - 1) = true ∧ inr b 0 15 = true then aFB (inP S (nv a) (f6 S (nv b) 0)) else fi 0
def aMeet (S : Nat → Int32) (a b : Int32) : Int32 := if inr a 0 ((iN S : Int) - 1) = true ∧ inr b 0 ((iN S : Int) - 1) = true ∧ ¬ a = b then aFB (mtP S (nv a) (nv b)) else fi 0
def aCast (S : Nat → Int32) (a b : Int32) : Int32 := if inr a 0 ((iN S : Int) - 1) = true ∧ inr b 1 100 = true then nI (bst (cT S (nv a) (nv b)) 15) else fi 0
/-- what the class leaves in its draft; what the reference leaves aside -/
def dr (M : jM) (T : Nat → Int32) : jM := lay (fb 1) M T
def asd (M : jM) : jM := lay 1368 M (vb 1100 M)
def mF (F : Nat) (P : Nat → Bool) (M : jM) : jM := if fiN P < 101 then M else Fl F 3 M
theorem vb0_dr {M : jM} {T : Nat → Int32} : vb (fb 0) (dr M T) = vb (fb 0) M := vb_lay_ne (by unfold fb; omega)
theorem vb_asd {M : jM} : vb 1100 (asd M) = vb 1100 M := vb_lay_ne (by omega)
theorem vb_asd2 {M : jM} : vb 1368 (asd M) = vb 1100 M := vb_lay (Can_vb _ _)
theorem asd_back {M : jM} {T : Nat → Int32} : lay 1100 (lay 1100 (asd M) T) (vb 1368 (lay 1100 (asd M) T)) = asd M := by
  rw [vb_lay_ne (by omega), vb_asd2, lay_lay, ← vb_asd]; exact lay_vb
theorem neg_nI {n : Nat} (h : n < 2 ^ 31) : ¬ nI n = -1000004 := fun z => nI_pos h (by rw [z]; decide)
section PA
variable {M : jM}
theorem c_drm (l : Launch) (E : jE) {S : Nat → Int32} (hS : IS S) (i : Nat) : K_X1_passMinute l E [.ref (ja E (fo 1))] (dr M (minsS S i)) (dr M (minsS S (i + 1))) := by
  have h := IS_mins hS i
  have hv : vb (fb 1) (dr M (minsS S i)) = minsS S i := vb_lay h.1.1
  have h2 := c_X1_passMinute (M := dr M (minsS S i)) l E 1 (by decide) (by rw [hv]; exact h.1)
  rw [hv] at h2
  unfold dr at h2 ⊢
  rw [lay_lay] at h2
  exact h2
theorem c_mim (l : Launch) (E : jE) {S : Nat → Int32} (hS : IS S) (i : Nat) : K_X8_minute l E [.ref (ja E 60)] (lay 1100 M (minsS S i)) (lay 1100 M (minsS S (i + 1))) := by
  have h := IS_mins hS i
  have hv : vb 1100 (lay 1100 M (minsS S i)) = minsS S i := vb_lay h.1.1
  have h2 := c_X8_minute (M := lay 1100 M (minsS S i)) l E (by rw [hv]; exact h.1)
  rw [hv, lay_lay] at h2
  exact h2
theorem c_drb (l : Launch) (E : jE) : K_X1_become l E [.ref (ja E (fo 1)), .ref (ja E (fo 0))] M (dr M (minsS (vb (fb 0) M) 0)) := c_X1_become l E 1 (by decide) 0 (by decide) (by decide)
/-- the draft at minute i: its bounds, its things -/
theorem drI {S : Nat → Int32} (hS : IS S) (i : Nat) : vb (fb 1) (dr M (minsS S i)) = minsS S i ∧ IS (vb (fb 1) (dr M (minsS S i))) ∧ iN (minsS S i) = iN S := by
  have h := IS_mins hS i
  have hv : vb (fb 1) (dr M (minsS S i)) = minsS S i := vb_lay h.1.1
  exact ⟨hv, by rw [hv]; exact h.1, h.2⟩
theorem miI {S : Nat → Int32} (hS : IS S) (i : Nat) : vb 1100 (lay 1100 M (minsS S i)) = minsS S i ∧ IS (vb 1100 (lay 1100 M (minsS S i))) ∧ iN (minsS S i) = iN S := by
  have h := IS_mins hS i
  have hv : vb 1100 (lay 1100 M (minsS S i)) = minsS S i := vb_lay h.1.1
  exact ⟨hv, by rw [hv]; exact h.1, h.2⟩
theorem miG {S : Nat → Int32} (hS : IS S) (i : Nat) : vb (fb 0) (lay (fb 0) M (minsS S i)) = minsS S i ∧ IS (vb (fb 0) (lay (fb 0) M (minsS S i))) ∧ iN (minsS S i) = iN S := by
  have h := IS_mins hS i
  have hv : vb (fb 0) (lay (fb 0) M (minsS S i)) = minsS S i := vb_lay h.1.1
  exact ⟨hv, by rw [hv]; exact h.1, h.2⟩
theorem c_gom (l : Launch) (E : jE) {S : Nat → Int32} (hS : IS S) (i : Nat) : K_X1_passMinute l E [.ref (ja E (fo 0))] (lay (fb 0) M (minsS S i)) (lay (fb 0) M (minsS S (i + 1))) := by
  have h := miG (M := M) hS i
  have h2 := c_X1_passMinute (M := lay (fb 0) M (minsS S i)) l E 0 (by decide) h.2.1
  rw [h.1, lay_lay] at h2
  exact h2
set_option maxRecDepth 4000 in
theorem c_X7_go (l : Launch) (E : jE) (a : Int32) (hS : IS (vb (fb 0) M))  : K_X7_go l E [.ref (ja E 59), .int a] M (aGo (vb (fb 0) M) a) (eGo (fb 0) 1076 a M) := by
  refine CT_intro (own := RX7) (by decide +kernel) rfl (by simp [Value.category]) (Nat.le_of_ble_eq_true rfl) rfl (fun X C G => ?_)
  show J E X 0 [some (.ref (ja E 59)), some (.int a), none] [] M
  refine J_iload_n C (dA DX7_go_0 0 rfl) rfl ?_
  refine J_iconst (v := nI 1) C (dA DX7_go_0 1 rfl) (by decide) ?_
  first | refine J_icmp_lt_n (tgt := 11) C (by omega) (by omega) (dA DX7_go_0 2 rfl) (by decide) (fun h2 => ?_) (fun h2 => ?_) | refine J_icmp_lt_c (tgt := 11) C (by omega) (dA DX7_go_0 2 rfl) (by decide) (fun h2 => ?_) (fun h2 => ?_) | refine J_icmp_lt_t (tgt := 11) C (dA DX7_go_0 2 rfl) (by decide) (fun h2 => ?_) (fun h2 => ?_)
  · try have g2 := inr_t h2
    try have g2 := inr_f h2
    refine J_aload_n C (dA DX7_go_0 6 rfl) rfl ?_
    refine J_ldc (v := (-1000001)) C wK_RX7_69 (dA DX7_go_0 7 rfl) ?_
    refine V_X7_finding C (c_X7_finding l E 0 (by decide) _ (by decide)) wM_RX7_70 (by decide) (dA DX7_go_0 8 rfl) rfl (Nat.le_of_ble_eq_true rfl) ?_
    exact J_iret C G (dA DX7_go_0 9 rfl) ⟨oi (by unfold aGo; rw [if_neg (fun z => by have z := inr_t z; omega)]; rfl), by unfold eGo; rw [if_neg (fun z => by have z := inr_t z; omega)]⟩
  · try have g2 := inr_t h2
    try have g2 := inr_f h2
    refine J_iload_n C (dA DX7_go_0 3 rfl) rfl ?_
    refine J_bipush (v := nI 60) C (dA DX7_go_0 4 rfl) (by decide) ?_
    first | refine J_icmp_le_n (tgt := 18) C (by omega) (by omega) (dA DX7_go_0 5 rfl) (by decide) (fun h8 => ?_) (fun h8 => ?_) | refine J_icmp_le_c (tgt := 18) C (by omega) (dA DX7_go_0 5 rfl) (by decide) (fun h8 => ?_) (fun h8 => ?_) | refine J_icmp_le_t (tgt := 18) C (dA DX7_go_0 5 rfl) (by decide) (fun h8 => ?_) (fun h8 => ?_)
    · try have g8 := inr_t h8
      try have g8 := inr_f h8
      obtain ⟨p, hp, rfl⟩ := toNI (x := a) (n := 61) (by omega) (by omega)
      have ta := tI (n := p) (by omega)
      have na : nv (nI p) = p := nv_nI (by omega)
      have hM := leM hS
      refine J_aload_n C (dA DX7_go_0 10 rfl) rfl ?_
      refine G_X7_fen C wF_RX7_12 (dA DX7_go_0 11 rfl) ?_
      refine H_X1_minute C (by decide) hS wF_RX7_120 (dA DX7_go_0 12 rfl) ?_
      refine J_ldc (v := nI 99999) C wK_RX7_123 (dA DX7_go_0 13 rfl) ?_
      refine J_iload_n C (dA DX7_go_0 14 rfl) rfl ?_
      first | refine J_isub_n C (by omega) (dA DX7_go_0 15 rfl) ?_ | refine J_isub C (dA DX7_go_0 15 rfl) ?_
      first | refine J_icmp_le_n (tgt := 39) C (by omega) (by omega) (dA DX7_go_0 16 rfl) (by decide) (fun h29 => ?_) (fun h29 => ?_) | refine J_icmp_le_c (tgt := 39) C (by omega) (dA DX7_go_0 16 rfl) (by decide) (fun h29 => ?_) (fun h29 => ?_) | refine J_icmp_le_t (tgt := 39) C (dA DX7_go_0 16 rfl) (by decide) (fun h29 => ?_) (fun h29 => ?_)
      · try have g29 := inr_t h29
        try have g29 := inr_f h29
        have loop : ∀ n i, i + n = p → J E X 41 [some (.ref (ja E 59)), some (.int (nI p)), some (.int (nI i))] [] (lay (fb 0) M (minsS (vb (fb 0) M) i)) := by
          intro n
          induction n with
          | zero =>
            intro i hi
            obtain rfl : p = i := by omega
            have hmi := miG (M := M) hS p
            have hI2 := hmi.2.1
            refine J_iload_n C (dA DX7_go_0 23 rfl) rfl ?_
            refine J_iload_n C (dA DX7_go_0 24 rfl) rfl ?_
            first | refine J_icmp_ge_n (tgt := 59) C (by omega) (by omega) (dA DX7_go_0 25 rfl) (by decide) (fun h43 => ?_) (fun h43 => ?_) | refine J_icmp_ge_c (tgt := 59) C (by omega) (dA DX7_go_0 25 rfl) (by decide) (fun h43 => ?_) (fun h43 => ?_) | refine J_icmp_ge_t (tgt := 59) C (dA DX7_go_0 25 rfl) (by decide) (fun h43 => ?_) (fun h43 => ?_)
            · try have g43 := inr_t h43
              try have g43 := inr_f h43
              refine J_aload_n C (dA DX7_go_0 31 rfl) rfl ?_
              refine G_X7_fen C wF_RX7_12 (dA DX7_go_0 32 rfl) ?_
              refine H_X1_minute C (by decide) hI2 wF_RX7_120 (dA DX7_go_0 33 rfl) ?_
              exact J_iret C G (dA DX7_go_0 34 rfl) ⟨oi (by unfold aGo; rw [if_pos (show inr (nI p) 1 60 = true from decide_eq_true (by omega)), na, if_neg (by omega), hmi.1]), by unfold eGo; rw [if_pos (show inr (nI p) 1 60 = true from decide_eq_true (by omega)), na, if_neg (by omega)]⟩
            · exfalso; omega
          | succ n ih =>
            intro i hi
            refine J_iload_n C (dA DX7_go_0 23 rfl) rfl ?_
            refine J_iload_n C (dA DX7_go_0 24 rfl) rfl ?_
            first | refine J_icmp_ge_n (tgt := 59) C (by omega) (by omega) (dA DX7_go_0 25 rfl) (by decide) (fun h43 => ?_) (fun h43 => ?_) | refine J_icmp_ge_c (tgt := 59) C (by omega) (dA DX7_go_0 25 rfl) (by decide) (fun h43 => ?_) (fun h43 => ?_) | refine J_icmp_ge_t (tgt := 59) C (dA DX7_go_0 25 rfl) (by decide) (fun h43 => ?_) (fun h43 => ?_)
            · exfalso; omega
            · try have g43 := inr_t h43
              try have g43 := inr_f h43
              refine J_aload_n C (dA DX7_go_0 26 rfl) rfl ?_
              refine G_X7_fen C wF_RX7_12 (dA DX7_go_0 27 rfl) ?_
              refine V_X1_passMinute C (by decide) (c_gom l E hS i) wM_RX7_125 (by decide) (dA DX7_go_0 28 rfl) rfl (Nat.le_of_ble_eq_true rfl) ?_
              first | refine J_inc1_2_3 C (dA DX7_go_0 29 rfl) rfl ?_ | refine J_iinc_2_3 C (dA DX7_go_0 29 rfl) rfl ?_
              refine J_goto (tgt := 41) C (dA DX7_go_0 30 rfl) (by decide) ?_
              exact ih (i + 1) (by omega)
        refine J_iconst (v := nI 0) C (dA DX7_go_0 21 rfl) (by decide) ?_
        refine J_ist_2_3 C (dA DX7_go_0 22 rfl) rfl ?_
        have h := loop _ 0 (Nat.zero_add _)
        rw [show lay (fb 0) M (minsS (vb (fb 0) M) 0) = M from lay_vb] at h
        exact h
      · try have g29 := inr_t h29
        try have g29 := inr_f h29
        refine J_aload_n C (dA DX7_go_0 17 rfl) rfl ?_
        refine J_ldc (v := (-1000005)) C wK_RX7_124 (dA DX7_go_0 18 rfl) ?_
        refine V_X7_finding C (c_X7_finding l E 4 (by decide) _ (by decide)) wM_RX7_70 (by decide) (dA DX7_go_0 19 rfl) rfl (Nat.le_of_ble_eq_true rfl) ?_
        exact J_iret C G (dA DX7_go_0 20 rfl) ⟨oi (by unfold aGo; rw [if_pos (show inr (nI p) 1 60 = true from decide_eq_true (by omega)), na, if_pos (by omega)]; rfl), by unfold eGo; rw [if_pos (show inr (nI p) 1 60 = true from decide_eq_true (by omega)), na, if_pos (by omega)]⟩
    · try have g8 := inr_t h8
      try have g8 := inr_f h8
      refine J_aload_n C (dA DX7_go_0 6 rfl) rfl ?_
      refine J_ldc (v := (-1000001)) C wK_RX7_69 (dA DX7_go_0 7 rfl) ?_
      refine V_X7_finding C (c_X7_finding l E 0 (by decide) _ (by decide)) wM_RX7_70 (by decide) (dA DX7_go_0 8 rfl) rfl (Nat.le_of_ble_eq_true rfl) ?_
      exact J_iret C G (dA DX7_go_0 9 rfl) ⟨oi (by unfold aGo; rw [if_neg (fun z => by have z := inr_t z; omega)]; rfl), by unfold eGo; rw [if_neg (fun z => by have z := inr_t z; omega)]⟩
set_option maxRecDepth 4000 in
theorem c_X8_go (l : Launch) (E : jE) (a : Int32) (hS : IS (vb 1100 M))  : K_X8_go l E [.ref (ja E 60), .int a] M (aGo (vb 1100 M) a) (eGo 1100 1502 a M) := by
  refine CT_intro (own := RX8) (by decide +kernel) rfl (by simp [Value.category]) (Nat.le_of_ble_eq_true rfl) rfl (fun X C G => ?_)
  show J E X 0 [some (.ref (ja E 60)), some (.int a), none] [] M
  refine J_iload_n C (dA DX8_go_0 0 rfl) rfl ?_
  refine J_iconst (v := nI 1) C (dA DX8_go_0 1 rfl) (by decide) ?_
  refine J_bipush (v := nI 60) C (dA DX8_go_0 2 rfl) (by decide) ?_
  refine V_X8_in1 C (c_X8_in1n l E _ _ _ (by omega) (by omega)) wM_RX8_58 (by decide) (dA DX8_go_0 3 rfl) rfl (Nat.le_of_ble_eq_true rfl) ?_
  refine J_if_ne_b (tgt := 16) C (dA DX8_go_0 4 rfl) (by decide) (fun h7 => ?_) (fun h7 => ?_)
  · try have g7 := inr_t h7
    try have g7 := inr_f h7
    obtain ⟨p, hp, rfl⟩ := toNI (x := a) (n := 61) (by omega) (by omega)
    have ta := tI (n := p) (by omega)
    have na : nv (nI p) = p := nv_nI (by omega)
    have hM := leM hS
    refine J_aload_n C (dA DX8_go_0 9 rfl) rfl ?_
    refine G_X8_s C wF_RX8_9 (dA DX8_go_0 10 rfl) ?_
    refine J_iconst (v := nI 0) C (dA DX8_go_0 11 rfl) (by decide) ?_
    refine Q_s0 C hS (dA DX8_go_0 12 rfl) ?_
    refine J_iload_n C (dA DX8_go_0 13 rfl) rfl ?_
    first | refine J_iadd_n C (dA DX8_go_0 14 rfl) ?_ | refine J_iadd C (dA DX8_go_0 14 rfl) ?_
    refine J_ldc (v := nI 99999) C wK_RX8_98 (dA DX8_go_0 15 rfl) ?_
    first | refine J_icmp_le_n (tgt := 35) C (by omega) (by omega) (dA DX8_go_0 16 rfl) (by decide) (fun h26 => ?_) (fun h26 => ?_) | refine J_icmp_le_c (tgt := 35) C (by omega) (dA DX8_go_0 16 rfl) (by decide) (fun h26 => ?_) (fun h26 => ?_) | refine J_icmp_le_t (tgt := 35) C (dA DX8_go_0 16 rfl) (by decide) (fun h26 => ?_) (fun h26 => ?_)
    · try have g26 := inr_t h26
      try have g26 := inr_f h26
      have loop : ∀ n i, i + n = p → J E X 37 [some (.ref (ja E 60)), some (.int (nI p)), some (.int (nI i))] [] (lay 1100 M (minsS (vb 1100 M) i)) := by
        intro n
        induction n with
        | zero =>
          intro i hi
          obtain rfl : p = i := by omega
          have hmi := miI (M := M) hS p
          have hI2 := hmi.2.1
          refine J_iload_n C (dA DX8_go_0 23 rfl) rfl ?_
          refine J_iload_n C (dA DX8_go_0 24 rfl) rfl ?_
          first | refine J_icmp_ge_n (tgt := 52) C (by omega) (by omega) (dA DX8_go_0 25 rfl) (by decide) (fun h39 => ?_) (fun h39 => ?_) | refine J_icmp_ge_c (tgt := 52) C (by omega) (dA DX8_go_0 25 rfl) (by decide) (fun h39 => ?_) (fun h39 => ?_) | refine J_icmp_ge_t (tgt := 52) C (dA DX8_go_0 25 rfl) (by decide) (fun h39 => ?_) (fun h39 => ?_)
          · try have g39 := inr_t h39
            try have g39 := inr_f h39
            refine J_aload_n C (dA DX8_go_0 30 rfl) rfl ?_
            refine G_X8_s C wF_RX8_9 (dA DX8_go_0 31 rfl) ?_
            refine J_iconst (v := nI 0) C (dA DX8_go_0 32 rfl) (by decide) ?_
            refine Q_s0 C hI2 (dA DX8_go_0 33 rfl) ?_
            exact J_iret C G (dA DX8_go_0 34 rfl) ⟨oi (by unfold aGo; rw [if_pos (show inr (nI p) 1 60 = true from decide_eq_true (by omega)), na, if_neg (by omega), hmi.1]), by unfold eGo; rw [if_pos (show inr (nI p) 1 60 = true from decide_eq_true (by omega)), na, if_neg (by omega)]⟩
          · exfalso; omega
        | succ n ih =>
          intro i hi
          refine J_iload_n C (dA DX8_go_0 23 rfl) rfl ?_
          refine J_iload_n C (dA DX8_go_0 24 rfl) rfl ?_
          first | refine J_icmp_ge_n (tgt := 52) C (by omega) (by omega) (dA DX8_go_0 25 rfl) (by decide) (fun h39 => ?_) (fun h39 => ?_) | refine J_icmp_ge_c (tgt := 52) C (by omega) (dA DX8_go_0 25 rfl) (by decide) (fun h39 => ?_) (fun h39 => ?_) | refine J_icmp_ge_t (tgt := 52) C (dA DX8_go_0 25 rfl) (by decide) (fun h39 => ?_) (fun h39 => ?_)
          · exfalso; omega
          · try have g39 := inr_t h39
            try have g39 := inr_f h39
            refine J_aload_n C (dA DX8_go_0 26 rfl) rfl ?_
            refine V_X8_minute C (c_mim l E hS i) wM_RX8_119 (by decide) (dA DX8_go_0 27 rfl) rfl (Nat.le_of_ble_eq_true rfl) ?_
            first | refine J_inc1_2_3 C (dA DX8_go_0 28 rfl) rfl ?_ | refine J_iinc_2_3 C (dA DX8_go_0 28 rfl) rfl ?_
            refine J_goto (tgt := 37) C (dA DX8_go_0 29 rfl) (by decide) ?_
            exact ih (i + 1) (by omega)
      refine J_iconst (v := nI 0) C (dA DX8_go_0 21 rfl) (by decide) ?_
      refine J_ist_2_3 C (dA DX8_go_0 22 rfl) rfl ?_
      have h := loop _ 0 (Nat.zero_add _)
      rw [show lay 1100 M (minsS (vb 1100 M) 0) = M from lay_vb] at h
      exact h
    · try have g26 := inr_t h26
      try have g26 := inr_f h26
      refine J_aload_n C (dA DX8_go_0 17 rfl) rfl ?_
      refine J_iconst (v := nI 4) C (dA DX8_go_0 18 rfl) (by decide) ?_
      refine V_X8_no C (c_X8_no l E _ (by decide)) wM_RX8_106 (by decide) (dA DX8_go_0 19 rfl) rfl (Nat.le_of_ble_eq_true rfl) ?_
      exact J_iret C G (dA DX8_go_0 20 rfl) ⟨oi (by unfold aGo; rw [if_pos (show inr (nI p) 1 60 = true from decide_eq_true (by omega)), na, if_pos (by omega)]; rfl), by unfold eGo; rw [if_pos (show inr (nI p) 1 60 = true from decide_eq_true (by omega)), na, if_pos (by omega)]⟩
  · try have g7 := inr_t h7
    try have g7 := inr_f h7
    refine J_aload_n C (dA DX8_go_0 5 rfl) rfl ?_
    refine J_iconst (v := nI 0) C (dA DX8_go_0 6 rfl) (by decide) ?_
    refine V_X8_no C (c_X8_no l E _ (by decide)) wM_RX8_106 (by decide) (dA DX8_go_0 7 rfl) rfl (Nat.le_of_ble_eq_true rfl) ?_
    exact J_iret C G (dA DX8_go_0 8 rfl) ⟨oi (by unfold aGo; rw [if_neg (fun z => by have z := inr_t z; omega)]; rfl), by unfold eGo; rw [if_neg (fun z => by have z := inr_t z; omega)]⟩
set_option maxRecDepth 4000 in
theorem c_X7_shownBy (l : Launch) (E : jE) (a : Int32) (hS : IS (vb (fb 0) M))  : K_X7_shownBy l E [.ref (ja E 59), .int a] M (aShown (vb (fb 0) M) a) (eShown 1076 a M) := by
  refine CT_intro (own := RX7) (by decide +kernel) rfl (by simp [Value.category]) (Nat.le_of_ble_eq_true rfl) rfl (fun X C G => ?_)
  show J E X 0 [some (.ref (ja E 59)), some (.int a), none, none] [] M
  refine J_iload_n C (dA DX7_shownBy_0 0 rfl) rfl ?_
  refine V_X7_isPond C (c_X7_isPond l E _) wM_RX7_65 (by decide) (dA DX7_shownBy_0 1 rfl) rfl (Nat.le_of_ble_eq_true rfl) ?_
  refine J_if_ne_b (tgt := 14) C (dA DX7_shownBy_0 2 rfl) (by decide) (fun h4 => ?_) (fun h4 => ?_)
  · try have g4 := inr_t h4
    try have g4 := inr_f h4
    obtain ⟨p, hp, rfl⟩ := toNI (x := a) (n := 16) (by omega) (by omega)
    have ta := tI (n := p) (by omega)
    have na : nv (nI p) = p := nv_nI (by omega)
    have loop : ∀ n i, i + n = 16 → J E X 18 [some (.ref (ja E 59)), some (.int (nI p)), some (.int (orL i (fun q => cmS (vb (fb 0) M) q p))), some (.int (nI i))] [] M := by
      intro n
      induction n with
      | zero =>
        intro i hi
        obtain rfl : 16 = i := by omega
        refine J_iload_n C (dA DX7_shownBy_0 11 rfl) rfl ?_
        refine J_bipush (v := nI 16) C (dA DX7_shownBy_0 12 rfl) (by decide) ?_
        first | refine J_icmp_ge_n (tgt := 48) C (by omega) (by omega) (dA DX7_shownBy_0 13 rfl) (by decide) (fun h21 => ?_) (fun h21 => ?_) | refine J_icmp_ge_c (tgt := 48) C (by omega) (dA DX7_shownBy_0 13 rfl) (by decide) (fun h21 => ?_) (fun h21 => ?_) | refine J_icmp_ge_t (tgt := 48) C (dA DX7_shownBy_0 13 rfl) (by decide) (fun h21 => ?_) (fun h21 => ?_)
        · try have g21 := inr_t h21
          try have g21 := inr_f h21
          refine J_iload_n C (dA DX7_shownBy_0 28 rfl) rfl ?_
          exact J_iret C G (dA DX7_shownBy_0 29 rfl) ⟨oi (by unfold aShown; rw [if_pos (show inr (nI p) 0 15 = true from decide_eq_true (by omega)), na]), by unfold eShown; rw [if_pos (show inr (nI p) 0 15 = true from decide_eq_true (by omega))]⟩
        · exfalso; omega
      | succ n ih =>
        intro i hi
        refine J_iload_n C (dA DX7_shownBy_0 11 rfl) rfl ?_
        refine J_bipush (v := nI 16) C (dA DX7_shownBy_0 12 rfl) (by decide) ?_
        first | refine J_icmp_ge_n (tgt := 48) C (by omega) (by omega) (dA DX7_shownBy_0 13 rfl) (by decide) (fun h21 => ?_) (fun h21 => ?_) | refine J_icmp_ge_c (tgt := 48) C (by omega) (dA DX7_shownBy_0 13 rfl) (by decide) (fun h21 => ?_) (fun h21 => ?_) | refine J_icmp_ge_t (tgt := 48) C (dA DX7_shownBy_0 13 rfl) (by decide) (fun h21 => ?_) (fun h21 => ?_)
        · exfalso; omega
        · try have g21 := inr_t h21
          try have g21 := inr_f h21
          refine J_aload_n C (dA DX7_shownBy_0 14 rfl) rfl ?_
          refine G_X7_fen C wF_RX7_12 (dA DX7_shownBy_0 15 rfl) ?_
          refine J_iload_n C (dA DX7_shownBy_0 16 rfl) rfl ?_
          refine J_iload_n C (dA DX7_shownBy_0 17 rfl) rfl ?_
          refine V_X1_chainComes C (by decide) (c_X1_chainComes l E _ (by decide) _ _ (by omega) (by omega) hS) wM_RX7_176 (by decide) (dA DX7_shownBy_0 18 rfl) rfl (Nat.le_of_ble_eq_true rfl) ?_
          refine J_if_eq_b (tgt := 42) C (dA DX7_shownBy_0 19 rfl) (by decide) (fun h33 => ?_) (fun h33 => ?_)
          · try have g33 := inr_t h33
            try have g33 := inr_f h33
            first | refine J_inc1_3_4 C (dA DX7_shownBy_0 26 rfl) rfl ?_ | refine J_iinc_3_4 C (dA DX7_shownBy_0 26 rfl) rfl ?_
            refine J_goto (tgt := 18) C (dA DX7_shownBy_0 27 rfl) (by decide) ?_
            have h := ih (i + 1) (by omega)
            rw [← orL_f (P := fun q => cmS (vb (fb 0) M) q p) h33] at h
            exact h
          · try have g33 := inr_t h33
            try have g33 := inr_f h33
            refine J_iload_n C (dA DX7_shownBy_0 20 rfl) rfl ?_
            refine J_iconst (v := nI 1) C (dA DX7_shownBy_0 21 rfl) (by decide) ?_
            refine J_iload_n C (dA DX7_shownBy_0 22 rfl) rfl ?_
            refine J_ishl C (dA DX7_shownBy_0 23 rfl) ?_
            refine J_ior C (dA DX7_shownBy_0 24 rfl) ?_
            refine J_ist_2_4 C (dA DX7_shownBy_0 25 rfl) rfl ?_
            first | refine J_inc1_3_4 C (dA DX7_shownBy_0 26 rfl) rfl ?_ | refine J_iinc_3_4 C (dA DX7_shownBy_0 26 rfl) rfl ?_
            refine J_goto (tgt := 18) C (dA DX7_shownBy_0 27 rfl) (by decide) ?_
            have h := ih (i + 1) (by omega)
            rw [← orL_t (P := fun q => cmS (vb (fb 0) M) q p) h33] at h
            exact h
    refine J_iconst (v := nI 0) C (dA DX7_shownBy_0 7 rfl) (by decide) ?_
    refine J_ist_2_4 C (dA DX7_shownBy_0 8 rfl) rfl ?_
    refine J_iconst (v := nI 0) C (dA DX7_shownBy_0 9 rfl) (by decide) ?_
    refine J_ist_3_4 C (dA DX7_shownBy_0 10 rfl) rfl ?_
    exact loop _ 0 (Nat.zero_add _)
  · try have g4 := inr_t h4
    try have g4 := inr_f h4
    refine J_aload_n C (dA DX7_shownBy_0 3 rfl) rfl ?_
    refine J_ldc (v := (-1000001)) C wK_RX7_69 (dA DX7_shownBy_0 4 rfl) ?_
    refine V_X7_finding C (c_X7_finding l E 0 (by decide) _ (by decide)) wM_RX7_70 (by decide) (dA DX7_shownBy_0 5 rfl) rfl (Nat.le_of_ble_eq_true rfl) ?_
    exact J_iret C G (dA DX7_shownBy_0 6 rfl) ⟨oi (by unfold aShown; rw [if_neg (fun z => by have z := inr_t z; omega)]; rfl), by unfold eShown; rw [if_neg (fun z => by have z := inr_t z; omega)]⟩
set_option maxRecDepth 4000 in
theorem c_X8_shownBy (l : Launch) (E : jE) (a : Int32) (hS : IS (vb 1100 M))  : K_X8_shownBy l E [.ref (ja E 60), .int a] M (aShown (vb 1100 M) a) (eShown 1502 a M) := by
  refine CT_intro (own := RX8) (by decide +kernel) rfl (by simp [Value.category]) (Nat.le_of_ble_eq_true rfl) rfl (fun X C G => ?_)
  show J E X 0 [some (.ref (ja E 60)), some (.int a), none, none, none, none] [] M
  refine J_iload_n C (dA DX8_shownBy_0 0 rfl) rfl ?_
  refine V_X8_isPond C (c_X8_isPond l E _) wM_RX8_102 (by decide) (dA DX8_shownBy_0 1 rfl) rfl (Nat.le_of_ble_eq_true rfl) ?_
  refine J_if_ne_b (tgt := 13) C (dA DX8_shownBy_0 2 rfl) (by decide) (fun h4 => ?_) (fun h4 => ?_)
  · try have g4 := inr_t h4
    try have g4 := inr_f h4
    obtain ⟨p, hp, rfl⟩ := toNI (x := a) (n := 16) (by omega) (by omega)
    have ta := tI (n := p) (by omega)
    have na : nv (nI p) = p := nv_nI (by omega)
    have loop : ∀ n i (o4 o5 : Option Value), jok [some (.ref (ja E 60)), some (.int (nI p)), some (.int (orL i (fun q => cmS (vb 1100 M) q p))), some (.int (nI i)), o4, o5] 4 = true → (∀ y z, jok [some (.ref (ja E 60)), some (.int (nI p)), some y, some z, some (.int (nI i)), o5] 5 = true) → i + n = 16 → J E X 17 [some (.ref (ja E 60)), some (.int (nI p)), some (.int (orL i (fun q => cmS (vb 1100 M) q p))), some (.int (nI i)), o4, o5] [] M := by
      intro n
      induction n with
      | zero =>
        intro i o4 o5 k4 k5 hi
        obtain rfl : 16 = i := by omega
        refine J_iload_n C (dA DX8_shownBy_0 11 rfl) rfl ?_
        refine J_bipush (v := nI 16) C (dA DX8_shownBy_0 12 rfl) (by decide) ?_
        first | refine J_icmp_ge_n (tgt := 79) C (by omega) (by omega) (dA DX8_shownBy_0 13 rfl) (by decide) (fun h20 => ?_) (fun h20 => ?_) | refine J_icmp_ge_c (tgt := 79) C (by omega) (dA DX8_shownBy_0 13 rfl) (by decide) (fun h20 => ?_) (fun h20 => ?_) | refine J_icmp_ge_t (tgt := 79) C (dA DX8_shownBy_0 13 rfl) (by decide) (fun h20 => ?_) (fun h20 => ?_)
        · try have g20 := inr_t h20
          try have g20 := inr_f h20
          refine J_iload_n C (dA DX8_shownBy_0 44 rfl) rfl ?_
          exact J_iret C G (dA DX8_shownBy_0 45 rfl) ⟨oi (by unfold aShown; rw [if_pos (show inr (nI p) 0 15 = true from decide_eq_true (by omega)), na]), by unfold eShown; rw [if_pos (show inr (nI p) 0 15 = true from decide_eq_true (by omega))]⟩
        · exfalso; omega
      | succ n ih =>
        intro i o4 o5 k4 k5 hi
        refine J_iload_n C (dA DX8_shownBy_0 11 rfl) rfl ?_
        refine J_bipush (v := nI 16) C (dA DX8_shownBy_0 12 rfl) (by decide) ?_
        first | refine J_icmp_ge_n (tgt := 79) C (by omega) (by omega) (dA DX8_shownBy_0 13 rfl) (by decide) (fun h20 => ?_) (fun h20 => ?_) | refine J_icmp_ge_c (tgt := 79) C (by omega) (dA DX8_shownBy_0 13 rfl) (by decide) (fun h20 => ?_) (fun h20 => ?_) | refine J_icmp_ge_t (tgt := 79) C (dA DX8_shownBy_0 13 rfl) (by decide) (fun h20 => ?_) (fun h20 => ?_)
        · exfalso; omega
        · try have g20 := inr_t h20
          try have g20 := inr_f h20
          refine J_iload_n C (dA DX8_shownBy_0 14 rfl) rfl ?_
          refine J_ist_4_6 C (dA DX8_shownBy_0 15 rfl) k4 ?_
          refine J_iconst (v := nI 0) C (dA DX8_shownBy_0 16 rfl) (by decide) ?_
          refine J_ist_5_6 C (dA DX8_shownBy_0 17 rfl) (k5 _ _) ?_
          have inner : ∀ m j, j + m = 16 → (∀ k, k < j → itr (vb 1100 M) k i ≠ p) → J E X 29 [some (.ref (ja E 60)), some (.int (nI p)), some (.int (orL i (fun q => cmS (vb 1100 M) q p))), some (.int (nI i)), some (.int (nI (itr (vb 1100 M) j i))), some (.int (nI j))] [] M := by
            intro m
            induction m with
            | zero =>
              intro j hj hno
              have hl := itr_lt hS j (show i < 16 by omega)
              refine J_iload C (dA DX8_shownBy_0 18 rfl) rfl ?_
              refine J_bipush (v := nI 16) C (dA DX8_shownBy_0 19 rfl) (by decide) ?_
              first | refine J_icmp_ge_n (tgt := 57) C (by omega) (by omega) (dA DX8_shownBy_0 20 rfl) (by decide) (fun h33 => ?_) (fun h33 => ?_) | refine J_icmp_ge_c (tgt := 57) C (by omega) (dA DX8_shownBy_0 20 rfl) (by decide) (fun h33 => ?_) (fun h33 => ?_) | refine J_icmp_ge_t (tgt := 57) C (dA DX8_shownBy_0 20 rfl) (by decide) (fun h33 => ?_) (fun h33 => ?_)
              · try have g33 := inr_t h33
                try have g33 := inr_f h33
                refine J_iload_n C (dA DX8_shownBy_0 31 rfl) rfl ?_
                refine J_iload C (dA DX8_shownBy_0 32 rfl) rfl ?_
                refine J_iload_n C (dA DX8_shownBy_0 33 rfl) rfl ?_
                first | refine J_icmp_ne_n (tgt := 70) C (by omega) (by omega) (dA DX8_shownBy_0 34 rfl) (by decide) (fun h61 => ?_) (fun h61 => ?_) | refine J_icmp_ne_c (tgt := 70) C (by omega) (dA DX8_shownBy_0 34 rfl) (by decide) (fun h61 => ?_) (fun h61 => ?_) | refine J_icmp_ne_t (tgt := 70) C (dA DX8_shownBy_0 34 rfl) (by decide) (fun h61 => ?_) (fun h61 => ?_)
                · try have g61 := inr_t h61
                  try have g61 := inr_f h61
                  refine J_iconst (v := nI 0) C (dA DX8_shownBy_0 39 rfl) (by decide) ?_
                  refine J_ior C (dA DX8_shownBy_0 40 rfl) ?_
                  refine J_ist_2_6 C (dA DX8_shownBy_0 41 rfl) rfl ?_
                  first | refine J_inc1_3_6 C (dA DX8_shownBy_0 42 rfl) rfl ?_ | refine J_iinc_3_6 C (dA DX8_shownBy_0 42 rfl) rfl ?_
                  refine J_goto (tgt := 17) C (dA DX8_shownBy_0 43 rfl) (by decide) ?_
                  have e : cmS (vb 1100 M) i p = false := anyB_no (fun k hk => decide_eq_false (by rcases Nat.lt_or_ge k j with q | q; exact hno k q; rw [show k = j by omega]; exact h61))
                  rw [i_or0]
                  have h := ih (i + 1) (some (.int (nI (itr (vb 1100 M) j i)))) (some (.int (nI j))) rfl (fun _ _ => rfl) (by omega)
                  rw [← orL_f (P := fun q => cmS (vb 1100 M) q p) e] at h
                  exact h
                · try have g61 := inr_t h61
                  try have g61 := inr_f h61
                  refine J_iconst (v := nI 1) C (dA DX8_shownBy_0 35 rfl) (by decide) ?_
                  refine J_iload_n C (dA DX8_shownBy_0 36 rfl) rfl ?_
                  refine J_ishl C (dA DX8_shownBy_0 37 rfl) ?_
                  refine J_goto (tgt := 71) C (dA DX8_shownBy_0 38 rfl) (by decide) ?_
                  refine J_ior C (dA DX8_shownBy_0 40 rfl) ?_
                  refine J_ist_2_6 C (dA DX8_shownBy_0 41 rfl) rfl ?_
                  first | refine J_inc1_3_6 C (dA DX8_shownBy_0 42 rfl) rfl ?_ | refine J_iinc_3_6 C (dA DX8_shownBy_0 42 rfl) rfl ?_
                  refine J_goto (tgt := 17) C (dA DX8_shownBy_0 43 rfl) (by decide) ?_
                  have e : cmS (vb 1100 M) i p = true := anyB_yes (k := j) (by omega) (decide_eq_true h61)
                  have h := ih (i + 1) (some (.int (nI (itr (vb 1100 M) j i)))) (some (.int (nI j))) rfl (fun _ _ => rfl) (by omega)
                  rw [← orL_t (P := fun q => cmS (vb 1100 M) q p) e] at h
                  exact h
              · exfalso; omega
            | succ m ihm =>
              intro j hj hno
              have hl := itr_lt hS j (show i < 16 by omega)
              refine J_iload C (dA DX8_shownBy_0 18 rfl) rfl ?_
              refine J_bipush (v := nI 16) C (dA DX8_shownBy_0 19 rfl) (by decide) ?_
              first | refine J_icmp_ge_n (tgt := 57) C (by omega) (by omega) (dA DX8_shownBy_0 20 rfl) (by decide) (fun h33 => ?_) (fun h33 => ?_) | refine J_icmp_ge_c (tgt := 57) C (by omega) (dA DX8_shownBy_0 20 rfl) (by decide) (fun h33 => ?_) (fun h33 => ?_) | refine J_icmp_ge_t (tgt := 57) C (dA DX8_shownBy_0 20 rfl) (by decide) (fun h33 => ?_) (fun h33 => ?_)
              · exfalso; omega
              · try have g33 := inr_t h33
                try have g33 := inr_f h33
                refine J_iload C (dA DX8_shownBy_0 21 rfl) rfl ?_
                refine J_iload_n C (dA DX8_shownBy_0 22 rfl) rfl ?_
                first | refine J_icmp_eq_n (tgt := 57) C (by omega) (by omega) (dA DX8_shownBy_0 23 rfl) (by decide) (fun h39 => ?_) (fun h39 => ?_) | refine J_icmp_eq_c (tgt := 57) C (by omega) (dA DX8_shownBy_0 23 rfl) (by decide) (fun h39 => ?_) (fun h39 => ?_) | refine J_icmp_eq_t (tgt := 57) C (dA DX8_shownBy_0 23 rfl) (by decide) (fun h39 => ?_) (fun h39 => ?_)
                · try have g39 := inr_t h39
                  try have g39 := inr_f h39
                  refine J_iload_n C (dA DX8_shownBy_0 31 rfl) rfl ?_
                  refine J_iload C (dA DX8_shownBy_0 32 rfl) rfl ?_
                  refine J_iload_n C (dA DX8_shownBy_0 33 rfl) rfl ?_
                  first | refine J_icmp_ne_n (tgt := 70) C (by omega) (by omega) (dA DX8_shownBy_0 34 rfl) (by decide) (fun h61 => ?_) (fun h61 => ?_) | refine J_icmp_ne_c (tgt := 70) C (by omega) (dA DX8_shownBy_0 34 rfl) (by decide) (fun h61 => ?_) (fun h61 => ?_) | refine J_icmp_ne_t (tgt := 70) C (dA DX8_shownBy_0 34 rfl) (by decide) (fun h61 => ?_) (fun h61 => ?_)
                  · exfalso; omega
                  · try have g61 := inr_t h61
                    try have g61 := inr_f h61
                    refine J_iconst (v := nI 1) C (dA DX8_shownBy_0 35 rfl) (by decide) ?_
                    refine J_iload_n C (dA DX8_shownBy_0 36 rfl) rfl ?_
                    refine J_ishl C (dA DX8_shownBy_0 37 rfl) ?_
                    refine J_goto (tgt := 71) C (dA DX8_shownBy_0 38 rfl) (by decide) ?_
                    refine J_ior C (dA DX8_shownBy_0 40 rfl) ?_
                    refine J_ist_2_6 C (dA DX8_shownBy_0 41 rfl) rfl ?_
                    first | refine J_inc1_3_6 C (dA DX8_shownBy_0 42 rfl) rfl ?_ | refine J_iinc_3_6 C (dA DX8_shownBy_0 42 rfl) rfl ?_
                    refine J_goto (tgt := 17) C (dA DX8_shownBy_0 43 rfl) (by decide) ?_
                    have e : cmS (vb 1100 M) i p = true := anyB_yes (k := j) (by omega) (decide_eq_true h39)
                    have h := ih (i + 1) (some (.int (nI (itr (vb 1100 M) j i)))) (some (.int (nI j))) rfl (fun _ _ => rfl) (by omega)
                    rw [← orL_t (P := fun q => cmS (vb 1100 M) q p) e] at h
                    exact h
                · try have g39 := inr_t h39
                  try have g39 := inr_f h39
                  refine J_aload_n C (dA DX8_shownBy_0 24 rfl) rfl ?_
                  refine J_iload C (dA DX8_shownBy_0 25 rfl) rfl ?_
                  refine J_iconst (v := nI 0) C (dA DX8_shownBy_0 26 rfl) (by decide) ?_
                  refine V_X8_of1 C (c_X8_of1 l E _ _ (by omega) (by omega) hS) wM_RX8_66 (by decide) (dA DX8_shownBy_0 27 rfl) rfl (Nat.le_of_ble_eq_true rfl) ?_
                  refine J_ist_4_6 C (dA DX8_shownBy_0 28 rfl) rfl ?_
                  first | refine J_inc1_5_6 C (dA DX8_shownBy_0 29 rfl) rfl ?_ | refine J_iinc_5_6 C (dA DX8_shownBy_0 29 rfl) rfl ?_
                  refine J_goto (tgt := 29) C (dA DX8_shownBy_0 30 rfl) (by decide) ?_
                  exact ihm (j + 1) (by omega) (fun k hk => by rcases Nat.lt_or_ge k j with q | q; exact hno k q; rw [show k = j by omega]; exact h39)
          exact inner _ 0 (Nat.zero_add _) (fun k hk => by omega)
    refine J_iconst (v := nI 0) C (dA DX8_shownBy_0 7 rfl) (by decide) ?_
    refine J_ist_2_6 C (dA DX8_shownBy_0 8 rfl) rfl ?_
    refine J_iconst (v := nI 0) C (dA DX8_shownBy_0 9 rfl) (by decide) ?_
    refine J_ist_3_6 C (dA DX8_shownBy_0 10 rfl) rfl ?_
    exact loop _ 0 none none rfl (fun _ _ => rfl) (Nat.zero_add _)
  · try have g4 := inr_t h4
    try have g4 := inr_f h4
    refine J_aload_n C (dA DX8_shownBy_0 3 rfl) rfl ?_
    refine J_iconst (v := nI 0) C (dA DX8_shownBy_0 4 rfl) (by decide) ?_
    refine V_X8_no C (c_X8_no l E _ (by decide)) wM_RX8_106 (by decide) (dA DX8_shownBy_0 5 rfl) rfl (Nat.le_of_ble_eq_true rfl) ?_
    exact J_iret C G (dA DX8_shownBy_0 6 rfl) ⟨oi (by unfold aShown; rw [if_neg (fun z => by have z := inr_t z; omega)]; rfl), by unfold eShown; rw [if_neg (fun z => by have z := inr_t z; omega)]⟩
end PA
