/-- a count's row, from b on -/
def rw7 (b : Nat) (M : jM) : Nat → Int32 := fun k => M (b + k)
def stG (f : Nat → Int32) (a : Int32) (k : Nat) : Int32 := if a = -1 ∨ a = nI k then f k else nI 0
theorem stG_eq (f : Nat → Int32) (a : Int32) (h : inr a (-1) 6 = true) : sumI 7 (stG f a) = aStat f a := by
  unfold aStat
  rw [if_pos h]
  by_cases e : a = -1
  · rw [if_pos e]
    exact sumI_cong (fun k hk => by unfold stG; rw [if_pos (Or.inl e)])
  · have h2 := inr_t h
    have h3 : a.toInt ≠ -1 := fun z => e (Int32.toInt_inj.mp (by rw [z]; decide))
    obtain ⟨j, hj, rfl⟩ := toNI (x := a) (n := 7) (by omega) (by omega)
    rw [if_neg e, nv_nI (by omega)]
    have h4 := sumI_1 (f := f) hj
    rw [← h4]
    refine sumI_cong (fun k hk => ?_)
    unfold stG
    by_cases e2 : k = j
    · subst e2; rw [if_pos (Or.inr rfl), if_pos rfl]
    · rw [if_neg e2, if_neg]
      rintro (z | z)
      · exact e z
      · have z2 := congrArg Int32.toInt z
        rw [tI (by omega), tI (by omega)] at z2
        omega
/-- the sheets: of sheet q its bits (0), its length (1), its numbers from 2 on -/
def updq (Z : Nat → Nat → Int32) (q k : Nat) (x : Int32) : Nat → Nat → Int32 := fun q' k' => if q' = q ∧ k' = k then x else Z q' k'
def sv7 (M : jM) : Nat → Nat → Int32 := fun q k => if q < 4 ∧ k < 42 then M (908 + 42 * q + k) else 0
def sv8 (M : jM) : Nat → Nat → Int32 := fun q k => if q < 4 ∧ k < 42 then M (if k = 0 then 1645 + q else if k = 1 then 1649 + q else 1653 + (40 * q + (k - 2))) else 0
def qs7 (M : jM) (Z : Nat → Nat → Int32) : jM := fun a => if 908 ≤ a ∧ a < 1076 then Z ((a - 908) / 42) ((a - 908) % 42) else M a
def q8 (a : Nat) : Nat := if a < 1649 then a - 1645 else if a < 1653 then a - 1649 else (a - 1653) / 40
def k8 (a : Nat) : Nat := if a < 1649 then 0 else if a < 1653 then 1 else 2 + (a - 1653) % 40
def qs8 (M : jM) (Z : Nat → Nat → Int32) : jM := fun a => if 1645 ≤ a ∧ a < 1813 then Z (q8 a) (k8 a) else M a
def Qc (Z : Nat → Nat → Int32) : Prop := ∀ q k, ¬ (q < 4 ∧ k < 42) → Z q k = 0
theorem Qc_sv7 (M : jM) : Qc (sv7 M) := fun q k h => if_neg h
theorem Qc_sv8 (M : jM) : Qc (sv8 M) := fun q k h => if_neg h
theorem Qc_upd {Z : Nat → Nat → Int32} (h : Qc Z) {q k : Nat} (hq : q < 4) (hk : k < 42) (x : Int32) : Qc (updq Z q k x) := fun q' k' z => by
  unfold updq
  rw [if_neg (fun e => z ⟨by omega, by omega⟩)]
  exact h q' k' z
theorem sv7_at {M : jM} {q k : Nat} (hq : q < 4) (hk : k < 42) : M (sb q + k) = sv7 M q k := by unfold sv7 sb; rw [if_pos ⟨hq, hk⟩]
theorem sv8_0 {M : jM} {q : Nat} (hq : q < 4) : M (1645 + q) = sv8 M q 0 := by unfold sv8; rw [if_pos ⟨hq, by decide⟩, if_pos rfl]
theorem sv8_1 {M : jM} {q : Nat} (hq : q < 4) : M (1649 + q) = sv8 M q 1 := by unfold sv8; rw [if_pos ⟨hq, by decide⟩, if_neg (by decide), if_pos rfl]
theorem sv8_2 {M : jM} {q j : Nat} (hq : q < 4) (hj : j < 40) : M (1653 + (40 * q + j)) = sv8 M q (2 + j) := by unfold sv8; rw [if_pos ⟨hq, by omega⟩, if_neg (by omega), if_neg (by omega), Nat.add_sub_cancel_left]
theorem qs7_sv {M : jM} : qs7 M (sv7 M) = M := by
  funext a
  unfold qs7 sv7
  split
  · rename_i h
    rw [if_pos ⟨by omega, by omega⟩, show 908 + 42 * ((a - 908) / 42) + (a - 908) % 42 = a by omega]
  · rfl
theorem qs8_sv {M : jM} : qs8 M (sv8 M) = M := by
  funext a
  unfold qs8 sv8
  split
  · rename_i h
    have hq : q8 a < 4 ∧ k8 a < 42 := by unfold q8 k8; exact ⟨by split <;> (try split) <;> omega, by split <;> (try split) <;> omega⟩
    rw [if_pos hq]
    congr 1
    unfold q8 k8
    by_cases e1 : a < 1649
    · simp only [if_pos e1, if_true]; omega
    · by_cases e2 : a < 1653
      · simp only [if_neg e1, if_pos e2]; simp; omega
      · simp only [if_neg e1, if_neg e2]; rw [if_neg (by omega), if_neg (by omega)]; omega
  · rfl
theorem sv7_qs {M : jM} {Z : Nat → Nat → Int32} (h : Qc Z) : sv7 (qs7 M Z) = Z := by
  funext q k
  unfold sv7 qs7
  by_cases e : q < 4 ∧ k < 42
  · rw [if_pos e, if_pos ⟨by omega, by omega⟩, show (908 + 42 * q + k - 908) / 42 = q by omega, show (908 + 42 * q + k - 908) % 42 = k by omega]
  · rw [if_neg e, h q k e]
theorem qk8 {q k : Nat} (hq : q < 4) (hk : k < 42) : q8 (if k = 0 then 1645 + q else if k = 1 then 1649 + q else 1653 + (40 * q + (k - 2))) = q ∧ k8 (if k = 0 then 1645 + q else if k = 1 then 1649 + q else 1653 + (40 * q + (k - 2))) = k := by
  unfold q8 k8
  by_cases e0 : k = 0
  · simp only [if_pos e0]; rw [if_pos (by omega), if_pos (by omega)]; omega
  · by_cases e1 : k = 1
    · simp only [if_neg e0, if_pos e1]; rw [if_neg (by omega), if_pos (by omega), if_neg (by omega), if_pos (by omega)]; omega
    · simp only [if_neg e0, if_neg e1]; rw [if_neg (by omega), if_neg (by omega), if_neg (by omega), if_neg (by omega)]; omega
theorem sv8_qs {M : jM} {Z : Nat → Nat → Int32} (h : Qc Z) : sv8 (qs8 M Z) = Z := by
  funext q k
  unfold sv8 qs8
  by_cases e : q < 4 ∧ k < 42
  · rw [if_pos e, if_pos (by split <;> (try split) <;> omega), (qk8 e.1 e.2).1, (qk8 e.1 e.2).2]
  · rw [if_neg e, h q k e]
theorem qs7_u {M : jM} {Z : Nat → Nat → Int32} {q k : Nat} {x : Int32} (hq : q < 4) (hk : k < 42) : upd (qs7 M Z) (sb q + k) x = qs7 M (updq Z q k x) := by
  funext a
  unfold upd qs7 updq sb
  by_cases e : a = 908 + 42 * q + k
  · rw [if_pos e, if_pos (by omega), if_pos (by omega)]
  · rw [if_neg e]
    split
    · rw [if_neg (by omega)]
    · rfl
theorem qs8_u {M : jM} {Z : Nat → Nat → Int32} {q k : Nat} {x : Int32} (hq : q < 4) (hk : k < 42) : upd (qs8 M Z) (if k = 0 then 1645 + q else if k = 1 then 1649 + q else 1653 + (40 * q + (k - 2))) x = qs8 M (updq Z q k x) := by
  have h := qk8 hq hk
  funext a
  by_cases e : a = (if k = 0 then 1645 + q else if k = 1 then 1649 + q else 1653 + (40 * q + (k - 2)))
  · subst e
    unfold upd qs8 updq
    rw [if_pos rfl, if_pos (by split <;> (try split) <;> omega), if_pos h]
  · unfold upd qs8 updq
    rw [if_neg e]
    split
    · rw [if_neg]
      rintro ⟨e1, e2⟩
      refine e ?_
      subst e1 e2
      unfold q8 k8
      by_cases g1 : a < 1649
      · simp only [if_pos g1, if_true]; omega
      · by_cases g2 : a < 1653
        · simp only [if_neg g1, if_pos g2]; simp; omega
        · simp only [if_neg g1, if_neg g2]; rw [if_neg (by omega), if_neg (by omega)]; omega
    · rfl
theorem qs8_u0 {M : jM} {Z : Nat → Nat → Int32} {q : Nat} {x : Int32} (hq : q < 4) : upd (qs8 M Z) (1645 + q) x = qs8 M (updq Z q 0 x) := qs8_u (k := 0) hq (by decide)
theorem qs8_u1 {M : jM} {Z : Nat → Nat → Int32} {q : Nat} {x : Int32} (hq : q < 4) : upd (qs8 M Z) (1649 + q) x = qs8 M (updq Z q 1 x) := qs8_u (k := 1) hq (by decide)
theorem qs8_u2 {M : jM} {Z : Nat → Nat → Int32} {q j : Nat} {x : Int32} (hq : q < 4) (hj : j < 40) : upd (qs8 M Z) (1653 + (40 * q + j)) x = qs8 M (updq Z q (2 + j) x) := by
  have h := qs8_u (M := M) (Z := Z) (x := x) (k := 2 + j) hq (by omega)
  rw [if_neg (by omega), if_neg (by omega), Nat.add_sub_cancel_left] at h
  exact h
/-- bounds of the sheets -/
def QS (Z : Nat → Nat → Int32) : Prop := ∀ q, q < 4 → ∃ b n : Nat, (b = 0 ∨ b = 8 ∨ b = 16 ∨ b = 32) ∧ n ≤ 40 ∧ Z q 0 = nI b ∧ Z q 1 = nI n ∧ (b = 0 → n = 0)
def clN (Z : Nat → Nat → Int32) (q i : Nat) : Nat → Nat → Int32 := fun q' k => if q' = q ∧ 2 ≤ k ∧ k < 2 + i then nI 0 else Z q' k
def clq (Z : Nat → Nat → Int32) (q : Nat) (x n : Int32) : Nat → Nat → Int32 := fun q' k => if q' = q ∧ k < 42 then (if k = 0 then x else if k = 1 then (if x = 0 then nI 0 else n) else nI 0) else Z q' k
theorem clN_0 {Z : Nat → Nat → Int32} {q : Nat} : clN Z q 0 = Z := by funext q' k; unfold clN; rw [if_neg (by omega)]
theorem clN_s {Z : Nat → Nat → Int32} {q i : Nat} : updq (clN Z q i) q (2 + i) (nI 0) = clN Z q (i + 1) := by
  funext q' k
  unfold updq clN
  by_cases e : q' = q ∧ k = 2 + i
  · rw [if_pos e, if_pos (by omega)]
  · rw [if_neg e]
    by_cases e2 : q' = q ∧ 2 ≤ k ∧ k < 2 + i
    · rw [if_pos e2, if_pos (by omega)]
    · rw [if_neg e2, if_neg (by omega)]
theorem clq_7 {Z : Nat → Nat → Int32} {q : Nat} {x n y : Int32} (hy : y = if x = 0 then nI 0 else n) : updq (updq (clN Z q 40) q 0 x) q 1 y = clq Z q x n := by
  funext q' k
  unfold updq clN clq
  by_cases e1 : q' = q ∧ k = 1
  · rw [if_pos e1, if_pos (by omega), if_neg (by omega), if_pos e1.2, hy]
  · rw [if_neg e1]
    by_cases e0 : q' = q ∧ k = 0
    · rw [if_pos e0, if_pos (by omega), if_pos e0.2]
    · rw [if_neg e0]
      by_cases e2 : q' = q ∧ k < 42
      · rw [if_pos (by omega), if_pos e2, if_neg (by omega), if_neg (by omega)]
      · rw [if_neg (by omega), if_neg e2]
theorem clq_8 {Z : Nat → Nat → Int32} {q : Nat} {x n y : Int32} (hy : y = if x = 0 then nI 0 else n) : clN (updq (updq Z q 0 x) q 1 y) q 40 = clq Z q x n := by
  rw [← clq_7 hy]
  funext q' k
  simp only [updq, clN]
  by_cases e1 : q' = q ∧ k = 1
  · rw [if_neg (by omega), if_pos e1, if_pos e1]
  · rw [if_neg e1, if_neg e1]
    by_cases e0 : q' = q ∧ k = 0
    · rw [if_neg (by omega), if_pos e0, if_pos e0]
    · rw [if_neg e0, if_neg e0]
/-- a number as a sheet of so many bits holds it -/
def cut (b v : Int32) : Int32 := if b = nI 8 then v.toInt8.toInt32 else if b = nI 16 then v.toInt16.toInt32 else v
/-- what lacks: of a sheet, of a sight; as a finding, 7 for nothing -/
def lkS (Z : Nat → Nat → Int32) (a : Int32) : Nat := if inr a 0 3 = true then (if Z (nv a) 0 = 0 then 5 else 7) else 0
def lkP (Z : Nat → Nat → Int32) (a p : Int32) : Nat := if lkS Z a = 7 then (if inr p 0 15 = true then 7 else 0) else lkS Z a
def lk7 (n : Nat) : Int32 := if n = 7 then nI 0 else fi n
def lk8 (n : Nat) : Int32 := if n = 7 then (-1) else nI n
def isB (x : Int32) : Bool := decide (x = 0 ∨ x.toInt = 8 ∨ x.toInt = 16 ∨ x.toInt = 32)
def aSheet (a b n : Int32) : Int32 := if inr a 0 3 = true ∧ isB b = true then (if inr n 0 40 = true then (if b = 0 then nI 0 else n) else if n.toInt < 0 then fi 6 else fi 0) else fi 0
theorem lkS_c {Z : Nat → Nat → Int32} {a : Int32} : (inr a 0 3 = false ∧ lkS Z a = 0) ∨ (∃ q, q < 4 ∧ a = nI q ∧ Z q 0 = 0 ∧ lkS Z a = 5) ∨ (∃ q, q < 4 ∧ a = nI q ∧ ¬ Z q 0 = 0 ∧ lkS Z a = 7) := by
  unfold lkS
  by_cases h : inr a 0 3 = true
  · obtain ⟨q, hq, rfl⟩ := toNI (x := a) (n := 4) (by have := inr_t h; omega) (by have := inr_t h; omega)
    rw [if_pos h, nv_nI (by omega)]
    by_cases e : Z q 0 = 0
    · exact Or.inr (Or.inl ⟨q, hq, rfl, e, if_pos e⟩)
    · exact Or.inr (Or.inr ⟨q, hq, rfl, e, if_neg e⟩)
  · exact Or.inl ⟨Bool.eq_false_iff.mpr h, if_neg h⟩
section PA
variable {M : jM}
set_option maxRecDepth 4000 in
theorem c_X7_status (l : Launch) (E : jE) (a : Int32)  : K_X7_status l E [.ref (ja E 59), .int a] M (aStat (rw7 1076 M) a) (eStat 1076 a M) := by
  refine CT_intro (own := RX7) (by decide +kernel) rfl (by simp [Value.category]) (Nat.le_of_ble_eq_true rfl) rfl (fun X C G => ?_)
  show J E X 0 [some (.ref (ja E 59)), some (.int a), none, none, none, none, none] [] M
  have loop : ∀ n i (o6 : Option Value), a = -1 → (∀ y, jok [some (.ref (ja E 59)), some (.int a), some y, some (.ref (ja E 58)), some (.int (nI 7)), some (.int (nI i)), o6] 6 = true) → i + n = 7 → J E X 43 [some (.ref (ja E 59)), some (.int a), some (.int (sumI i (rw7 1076 M))), some (.ref (ja E 58)), some (.int (nI 7)), some (.int (nI i)), o6] [] M := by
    intro n
    induction n with
    | zero =>
      intro i o6 ha k6 hi
      obtain rfl : 7 = i := by omega
      subst ha
      refine J_iload C (dA DX7_status_0 27 rfl) rfl ?_
      refine J_iload C (dA DX7_status_0 28 rfl) rfl ?_
      first | refine J_icmp_ge_n (tgt := 67) C (by omega) (by omega) (dA DX7_status_0 29 rfl) (by decide) (fun h47 => ?_) (fun h47 => ?_) | refine J_icmp_ge_c (tgt := 67) C (by omega) (dA DX7_status_0 29 rfl) (by decide) (fun h47 => ?_) (fun h47 => ?_) | refine J_icmp_ge_t (tgt := 67) C (dA DX7_status_0 29 rfl) (by decide) (fun h47 => ?_) (fun h47 => ?_)
      · try have g47 := inr_t h47
        try have g47 := inr_f h47
        refine J_iload_n C (dA DX7_status_0 40 rfl) rfl ?_
        exact J_iret C G (dA DX7_status_0 41 rfl) ⟨oi (by unfold aStat; rw [if_pos (by decide), if_pos rfl]), by unfold eStat; rw [if_pos (by decide)]⟩
      · exfalso; omega
    | succ n ih =>
      intro i o6 ha k6 hi
      refine J_iload C (dA DX7_status_0 27 rfl) rfl ?_
      refine J_iload C (dA DX7_status_0 28 rfl) rfl ?_
      first | refine J_icmp_ge_n (tgt := 67) C (by omega) (by omega) (dA DX7_status_0 29 rfl) (by decide) (fun h47 => ?_) (fun h47 => ?_) | refine J_icmp_ge_c (tgt := 67) C (by omega) (dA DX7_status_0 29 rfl) (by decide) (fun h47 => ?_) (fun h47 => ?_) | refine J_icmp_ge_t (tgt := 67) C (dA DX7_status_0 29 rfl) (by decide) (fun h47 => ?_) (fun h47 => ?_)
      · exfalso; omega
      · try have g47 := inr_t h47
        try have g47 := inr_f h47
        refine J_aload_n C (dA DX7_status_0 30 rfl) rfl ?_
        refine J_iload C (dA DX7_status_0 31 rfl) rfl ?_
        refine R_1 C (hk := rfl) rfl (by omega) (dA DX7_status_0 32 rfl) ?_
        refine J_ist_6_7 C (dA DX7_status_0 33 rfl) (k6 _) ?_
        refine J_iload_n C (dA DX7_status_0 34 rfl) rfl ?_
        refine J_iload C (dA DX7_status_0 35 rfl) rfl ?_
        refine J_iadd C (dA DX7_status_0 36 rfl) ?_
        refine J_ist_2_7 C (dA DX7_status_0 37 rfl) rfl ?_
        first | refine J_inc1_5_7 C (dA DX7_status_0 38 rfl) rfl ?_ | refine J_iinc_5_7 C (dA DX7_status_0 38 rfl) rfl ?_
        refine J_goto (tgt := 43) C (dA DX7_status_0 39 rfl) (by decide) ?_
        exact ih (i + 1) (some (.int (M (1076 + i)))) ha (fun _ => rfl) (by omega)
  have m1 : (-1 : Int32).toInt = -1 := by decide
  have m7 : (nI 7).toInt = 7 := by decide
  refine J_iload_n C (dA DX7_status_0 0 rfl) rfl ?_
  refine J_iconst (v := (-1)) C (dA DX7_status_0 1 rfl) (by decide) ?_
  refine J_icmp_lt_t (tgt := 11) C (dA DX7_status_0 2 rfl) (by decide) (fun h2 => ?_) (fun h2 => ?_)
  · try have g2 := inr_t h2
    try have g2 := inr_f h2
    refine J_aload_n C (dA DX7_status_0 6 rfl) rfl ?_
    refine J_ldc (v := (-1000001)) C wK_RX7_69 (dA DX7_status_0 7 rfl) ?_
    refine V_X7_finding C (c_X7_finding l E 0 (by decide) _ (by decide)) wM_RX7_70 (by decide) (dA DX7_status_0 8 rfl) rfl (Nat.le_of_ble_eq_true rfl) ?_
    have hin : ¬ inr a (-1) 6 = true := fun z => by have z2 := inr_t z; omega
    exact J_iret C G (dA DX7_status_0 9 rfl) ⟨oi (by unfold aStat; rw [if_neg hin]; rfl), by unfold eStat; rw [if_neg hin]⟩
  · try have g2 := inr_t h2
    try have g2 := inr_f h2
    refine J_iload_n C (dA DX7_status_0 3 rfl) rfl ?_
    refine J_bipush (v := nI 7) C (dA DX7_status_0 4 rfl) (by decide) ?_
    refine J_icmp_lt_t (tgt := 18) C (dA DX7_status_0 5 rfl) (by decide) (fun h8 => ?_) (fun h8 => ?_)
    · try have g8 := inr_t h8
      try have g8 := inr_f h8
      refine J_iload_n C (dA DX7_status_0 10 rfl) rfl ?_
      skip
      refine J_if_lt_t (tgt := 29) C (dA DX7_status_0 11 rfl) (by decide) (fun h19 => ?_) (fun h19 => ?_)
      · try have g19 := inr_t h19
        try have g19 := inr_f h19
        refine J_iconst (v := nI 0) C (dA DX7_status_0 17 rfl) (by decide) ?_
        refine J_ist_2_7 C (dA DX7_status_0 18 rfl) rfl ?_
        refine J_aload_n C (dA DX7_status_0 19 rfl) rfl ?_
        refine G_X7_found C wF_RX7_61 (dA DX7_status_0 20 rfl) ?_
        refine J_ast_3_7 C (dA DX7_status_0 21 rfl) rfl ?_
        refine J_aload_n C (dA DX7_status_0 22 rfl) rfl ?_
        refine J_alen C (k := 58) rfl (ty := .int) rfl (dA DX7_status_0 23 rfl) ?_
        refine J_ist_4_7 C (dA DX7_status_0 24 rfl) rfl ?_
        refine J_iconst (v := nI 0) C (dA DX7_status_0 25 rfl) (by decide) ?_
        refine J_ist_5_7 C (dA DX7_status_0 26 rfl) rfl ?_
        have ha : a = -1 := Int32.toInt_inj.mp (by show a.toInt = -1; omega)
        exact loop _ 0 none ha (fun _ => rfl) (Nat.zero_add _)
      · try have g19 := inr_t h19
        try have g19 := inr_f h19
        obtain ⟨p, hp, rfl⟩ := toNI (x := a) (n := 7) (by omega) (by omega)
        have na : nv (nI p) = p := nv_nI (by omega)
        have hin : inr (nI p) (-1) 6 = true := by rw [inr_n (by omega)]; exact decide_eq_true (by omega)
        have hne : ¬ nI p = -1 := fun z => by have z2 := congrArg Int32.toInt z; rw [tI (by omega)] at z2; have z3 : (p : Int) = -1 := z2; omega
        refine J_aload_n C (dA DX7_status_0 12 rfl) rfl ?_
        refine G_X7_found C wF_RX7_61 (dA DX7_status_0 13 rfl) ?_
        refine J_iload_n C (dA DX7_status_0 14 rfl) rfl ?_
        refine R_1 C (hk := rfl) rfl (by omega) (dA DX7_status_0 15 rfl) ?_
        exact J_iret C G (dA DX7_status_0 16 rfl) ⟨oi (by unfold aStat; rw [if_pos hin, if_neg hne, na]; rfl), by unfold eStat; rw [if_pos hin]⟩
    · try have g8 := inr_t h8
      try have g8 := inr_f h8
      refine J_aload_n C (dA DX7_status_0 6 rfl) rfl ?_
      refine J_ldc (v := (-1000001)) C wK_RX7_69 (dA DX7_status_0 7 rfl) ?_
      refine V_X7_finding C (c_X7_finding l E 0 (by decide) _ (by decide)) wM_RX7_70 (by decide) (dA DX7_status_0 8 rfl) rfl (Nat.le_of_ble_eq_true rfl) ?_
      have hin : ¬ inr a (-1) 6 = true := fun z => by have z2 := inr_t z; omega
      exact J_iret C G (dA DX7_status_0 9 rfl) ⟨oi (by unfold aStat; rw [if_neg hin]; rfl), by unfold eStat; rw [if_neg hin]⟩
set_option maxRecDepth 4000 in
theorem c_X8_status (l : Launch) (E : jE) (a : Int32)  : K_X8_status l E [.ref (ja E 60), .int a] M (aStat (rw7 1502 M) a) (eStat 1502 a M) := by
  refine CT_intro (own := RX8) (by decide +kernel) rfl (by simp [Value.category]) (Nat.le_of_ble_eq_true rfl) rfl (fun X C G => ?_)
  show J E X 0 [some (.ref (ja E 60)), some (.int a), none, none] [] M
  have loop : ∀ n i, inr a (-1) 6 = true → i + n = 7 → J E X 20 [some (.ref (ja E 60)), some (.int a), some (.int (sumI i (stG (rw7 1502 M) a))), some (.int (nI i))] [] M := by
    intro n
    induction n with
    | zero =>
      intro i hin hi
      obtain rfl : 7 = i := by omega
      refine J_iload_n C (dA DX8_status_0 13 rfl) rfl ?_
      refine J_bipush (v := nI 7) C (dA DX8_status_0 14 rfl) (by decide) ?_
      first | refine J_icmp_ge_n (tgt := 55) C (by omega) (by omega) (dA DX8_status_0 15 rfl) (by decide) (fun h23 => ?_) (fun h23 => ?_) | refine J_icmp_ge_c (tgt := 55) C (by omega) (dA DX8_status_0 15 rfl) (by decide) (fun h23 => ?_) (fun h23 => ?_) | refine J_icmp_ge_t (tgt := 55) C (dA DX8_status_0 15 rfl) (by decide) (fun h23 => ?_) (fun h23 => ?_)
      · try have g23 := inr_t h23
        try have g23 := inr_f h23
        refine J_iload_n C (dA DX8_status_0 33 rfl) rfl ?_
        exact J_iret C G (dA DX8_status_0 34 rfl) ⟨oi (stG_eq _ _ hin), by unfold eStat; rw [if_pos hin]⟩
      · exfalso; omega
    | succ n ih =>
      intro i hin hi
      refine J_iload_n C (dA DX8_status_0 13 rfl) rfl ?_
      refine J_bipush (v := nI 7) C (dA DX8_status_0 14 rfl) (by decide) ?_
      first | refine J_icmp_ge_n (tgt := 55) C (by omega) (by omega) (dA DX8_status_0 15 rfl) (by decide) (fun h23 => ?_) (fun h23 => ?_) | refine J_icmp_ge_c (tgt := 55) C (by omega) (dA DX8_status_0 15 rfl) (by decide) (fun h23 => ?_) (fun h23 => ?_) | refine J_icmp_ge_t (tgt := 55) C (dA DX8_status_0 15 rfl) (by decide) (fun h23 => ?_) (fun h23 => ?_)
      · exfalso; omega
      · try have g23 := inr_t h23
        try have g23 := inr_f h23
        refine J_iload_n C (dA DX8_status_0 16 rfl) rfl ?_
        refine J_iload_n C (dA DX8_status_0 17 rfl) rfl ?_
        refine J_iconst (v := (-1)) C (dA DX8_status_0 18 rfl) (by decide) ?_
        refine J_icmp_eq (tgt := 37) C (dA DX8_status_0 19 rfl) (by decide) (fun h29 => ?_) (fun h29 => ?_)
        · refine J_aload_n C (dA DX8_status_0 23 rfl) rfl ?_
          refine G_X8_found C wF_RX8_19 (dA DX8_status_0 24 rfl) ?_
          refine J_iload_n C (dA DX8_status_0 25 rfl) rfl ?_
          refine R_1 C (hk := rfl) rfl (by omega) (dA DX8_status_0 26 rfl) ?_
          refine J_goto (tgt := 47) C (dA DX8_status_0 27 rfl) (by decide) ?_
          refine J_iadd C (dA DX8_status_0 29 rfl) ?_
          refine J_ist_2_4 C (dA DX8_status_0 30 rfl) rfl ?_
          first | refine J_inc1_3_4 C (dA DX8_status_0 31 rfl) rfl ?_ | refine J_iinc_3_4 C (dA DX8_status_0 31 rfl) rfl ?_
          refine J_goto (tgt := 20) C (dA DX8_status_0 32 rfl) (by decide) ?_
          have e : stG (rw7 1502 M) a i = M (1502 + i) := if_pos (Or.inl h29)
          have h := ih (i + 1) hin (by omega)
          rw [show sumI (i + 1) (stG (rw7 1502 M) a) = sumI i (stG (rw7 1502 M) a) + stG (rw7 1502 M) a i from rfl, e] at h
          exact h
        · refine J_iload_n C (dA DX8_status_0 20 rfl) rfl ?_
          refine J_iload_n C (dA DX8_status_0 21 rfl) rfl ?_
          refine J_icmp_ne (tgt := 46) C (dA DX8_status_0 22 rfl) (by decide) (fun h34 => ?_) (fun h34 => ?_)
          · refine J_iconst (v := nI 0) C (dA DX8_status_0 28 rfl) (by decide) ?_
            refine J_iadd C (dA DX8_status_0 29 rfl) ?_
            refine J_ist_2_4 C (dA DX8_status_0 30 rfl) rfl ?_
            first | refine J_inc1_3_4 C (dA DX8_status_0 31 rfl) rfl ?_ | refine J_iinc_3_4 C (dA DX8_status_0 31 rfl) rfl ?_
            refine J_goto (tgt := 20) C (dA DX8_status_0 32 rfl) (by decide) ?_
            have e : stG (rw7 1502 M) a i = nI 0 := if_neg (fun z => z.elim h29 h34)
            have h := ih (i + 1) hin (by omega)
            rw [show sumI (i + 1) (stG (rw7 1502 M) a) = sumI i (stG (rw7 1502 M) a) + stG (rw7 1502 M) a i from rfl, e] at h
            exact h
          · refine J_aload_n C (dA DX8_status_0 23 rfl) rfl ?_
            refine G_X8_found C wF_RX8_19 (dA DX8_status_0 24 rfl) ?_
            refine J_iload_n C (dA DX8_status_0 25 rfl) rfl ?_
            refine R_1 C (hk := rfl) rfl (by omega) (dA DX8_status_0 26 rfl) ?_
            refine J_goto (tgt := 47) C (dA DX8_status_0 27 rfl) (by decide) ?_
            refine J_iadd C (dA DX8_status_0 29 rfl) ?_
            refine J_ist_2_4 C (dA DX8_status_0 30 rfl) rfl ?_
            first | refine J_inc1_3_4 C (dA DX8_status_0 31 rfl) rfl ?_ | refine J_iinc_3_4 C (dA DX8_status_0 31 rfl) rfl ?_
            refine J_goto (tgt := 20) C (dA DX8_status_0 32 rfl) (by decide) ?_
            have e : stG (rw7 1502 M) a i = M (1502 + i) := if_pos (Or.inr (by first | exact h34 | exact Classical.byContradiction h34))
            have h := ih (i + 1) hin (by omega)
            rw [show sumI (i + 1) (stG (rw7 1502 M) a) = sumI i (stG (rw7 1502 M) a) + stG (rw7 1502 M) a i from rfl, e] at h
            exact h
  refine J_iload_n C (dA DX8_status_0 0 rfl) rfl ?_
  refine J_iconst (v := (-1)) C (dA DX8_status_0 1 rfl) (by decide) ?_
  refine J_bipush (v := nI 6) C (dA DX8_status_0 2 rfl) (by decide) ?_
  refine V_X8_in1 C (c_X8_in1 l E _ _ _) wM_RX8_58 (by decide) (dA DX8_status_0 3 rfl) rfl (Nat.le_of_ble_eq_true rfl) ?_
  refine J_if_ne_b (tgt := 16) C (dA DX8_status_0 4 rfl) (by decide) (fun h7 => ?_) (fun h7 => ?_)
  · try have g7 := inr_t h7
    try have g7 := inr_f h7
    refine J_iconst (v := nI 0) C (dA DX8_status_0 9 rfl) (by decide) ?_
    refine J_ist_2_4 C (dA DX8_status_0 10 rfl) rfl ?_
    refine J_iconst (v := nI 0) C (dA DX8_status_0 11 rfl) (by decide) ?_
    refine J_ist_3_4 C (dA DX8_status_0 12 rfl) rfl ?_
    exact loop _ 0 h7 (Nat.zero_add _)
  · try have g7 := inr_t h7
    try have g7 := inr_f h7
    refine J_aload_n C (dA DX8_status_0 5 rfl) rfl ?_
    refine J_iconst (v := nI 0) C (dA DX8_status_0 6 rfl) (by decide) ?_
    refine V_X8_no C (c_X8_no l E _ (by decide)) wM_RX8_106 (by decide) (dA DX8_status_0 7 rfl) rfl (Nat.le_of_ble_eq_true rfl) ?_
    have hin : ¬ inr a (-1) 6 = true := fun z => by rw [show inr a (-1) 6 = false from h7] at z; cases z
    exact J_iret C G (dA DX8_status_0 8 rfl) ⟨oi (by unfold aStat; rw [if_neg hin]; rfl), by unfold eStat; rw [if_neg hin]⟩
end PA
