/-! what a fen tells of itself -/
def inS (S : Nat → Int32) (x : Int32) : Int32 := orL (iN S) (fun k => decide (nI (f3 S k 1) = x))
def shwS (S : Nat → Int32) (x : Int32) : Int32 := orL 16 (fun p => decide (nI (f6 S p 0) = x))
def orV : Nat → (Nat → Nat) → Int32
  | 0, _ => nI 0
  | n + 1, f => orV n f ||| b1 (f n)
def fillS (S : Nat → Int32) : Int32 := orV (iN S) (fun k => f3 S k 1)
def bit (x : Int32) (n : Nat) : Bool := decide (¬ (x >>> (nI n &&& 31)) &&& nI 1 = 0)
def sightS (S : Nat → Int32) : Int32 := orL 16 (fun p => bit (fillS S) (f6 S p 0))
def smS (n : Nat) (f : Nat → Nat) : Nat := match n with
  | 0 => 0
  | n + 1 => smS n f + f n
theorem smS_le {f : Nat → Nat} {c : Nat} : ∀ (n : Nat), (∀ k, k < n → f k ≤ c) → smS n f ≤ n * c
  | 0, _ => by simp [smS]
  | n + 1, h => by
    have h1 := smS_le n (fun k hk => h k (by omega))
    have h2 := h n (by omega)
    rw [Nat.succ_mul]
    simp only [smS]
    omega
def lenS (S : Nat → Int32) : Nat := smS (iN S) (fun k => f3 S k 2)
def kindS (t k : Nat) : Bool := bit ((jtV 4).getD t 0) k
def fishS (S : Nat → Int32) (x : Int32) (k : Nat) : Bool := kindS 1 (f3 S k 0) && decide (nI (f3 S k 1) = x)
def anyB : Nat → (Nat → Bool) → Bool
  | 0, _ => false
  | n + 1, P => anyB n P || P n
def hasF (S : Nat → Int32) (x : Int32) : Bool := anyB (iN S) (fishS S x)
theorem anyB_no {n : Nat} {P : Nat → Bool} (h : ∀ k, k < n → P k = false) : anyB n P = false := by
  induction n with
  | zero => rfl
  | succ n ih => simp only [anyB]; rw [ih (fun k hk => h k (by omega)), h n (by omega)]; rfl
theorem anyB_yes {n : Nat} {P : Nat → Bool} {k : Nat} (hk : k < n) (h : P k = true) : anyB n P = true := by
  induction n with
  | zero => omega
  | succ n ih =>
    simp only [anyB]
    by_cases e : k = n
    · subst e; rw [h, Bool.or_true]
    · rw [ih (by omega), Bool.true_or]
def frogS (S : Nat → Int32) (own : Nat) : Nat := if iM S % 2 = 0 then f6 S own 0 else own
/-- the first p below n that P holds of, or n -/
def firstN : Nat → (Nat → Bool) → Nat
  | 0, _ => 0
  | n + 1, P => if firstN n P < n then firstN n P else if P n then n else n + 1
theorem firstN_le (P : Nat → Bool) : ∀ n, firstN n P ≤ n
  | 0 => Nat.le_refl 0
  | n + 1 => by
    have := firstN_le P n
    simp only [firstN]
    split
    · omega
    · split <;> omega
theorem firstN_no {P : Nat → Bool} : ∀ {n : Nat}, (∀ k, k < n → P k = false) → firstN n P = n
  | 0, _ => rfl
  | n + 1, h => by
    simp only [firstN]
    rw [firstN_no (fun k hk => h k (by omega)), if_neg (Nat.lt_irrefl _), h n (by omega)]
    rfl
theorem firstN_eq {P : Nat → Bool} : ∀ {n i : Nat}, i < n → (∀ k, k < i → P k = false) → P i = true → firstN n P = i
  | 0, i, h, _, _ => by omega
  | n + 1, i, h, h1, h2 => by
    have hl := firstN_le P n
    simp only [firstN]
    by_cases e : i = n
    · subst e
      rw [firstN_no h1, if_neg (Nat.lt_irrefl _), if_pos h2]
    · rw [firstN_eq (n := n) (by omega) h1 h2, if_pos (by omega)]
def heronS (S : Nat → Int32) (own : Nat) : Nat := if firstN 16 (fun p => decide (f6 S p 0 = own)) < 16 then (if hasF S (nI (firstN 16 (fun p => decide (f6 S p 0 = own)))) then firstN 16 (fun p => decide (f6 S p 0 = own)) else frogS S own) else frogS S own
def pikeS (S : Nat → Int32) (own : Nat) : Nat := if hasF S (nI (f6 S own 0)) then f6 S own 0 else f6 S own 4
def dryS (S : Nat → Int32) (k : Nat) : Nat := match f3 S k 0 with
  | 1 => f6 S (f3 S k 1) 4
  | 2 => f6 S (f3 S k 1) 0
  | 3 => frogS S (f3 S k 1)
  | 4 => heronS S (f3 S k 1)
  | 5 => if f6 S (f3 S k 1) 5 < f3 S k 2 then f6 S (f3 S k 1) 4 else f3 S k 1
  | 6 => pikeS S (f3 S k 1)
  | _ => f3 S k 1
def nxtS (S : Nat → Int32) (k : Nat) : Nat := (dryS S k + iR S) % 16
def stepS (S : Nat → Int32) (k : Nat) : Nat → Int32 := upd S (100 + 3 * k + 1) (nI (nxtS S k))
def moveS (S : Nat → Int32) : Nat → (Nat → Int32)
  | 0 => S
  | k + 1 => stepS (moveS S k) k
/-- a minute -/
def minS (S : Nat → Int32) : Nat → Int32 := upd (moveS S (iN S)) 0 (nI (min (iM S + 1) 99999))
theorem frog_lt {S : Nat → Int32} (h : IS S) {p : Nat} (hp : p < 16) : frogS S p < 16 := by
  unfold frogS; split
  · exact lt60 h hp
  · exact hp
theorem heron_lt {S : Nat → Int32} (h : IS S) {p : Nat} (hp : p < 16) : heronS S p < 16 := by
  unfold heronS; split
  · split
    · assumption
    · exact frog_lt h hp
  · exact frog_lt h hp
theorem pike_lt {S : Nat → Int32} (h : IS S) {p : Nat} (hp : p < 16) : pikeS S p < 16 := by
  unfold pikeS; split
  · exact lt60 h hp
  · exact lt64 h hp
theorem dry_lt {S : Nat → Int32} (h : IS S) {k : Nat} (hk : k < 8) : dryS S k < 16 := by
  have h1 := lt31 h hk
  unfold dryS
  split
  · exact lt64 h h1
  · exact lt60 h h1
  · exact frog_lt h h1
  · exact heron_lt h h1
  · split
    · exact lt64 h h1
    · exact h1
  · exact pike_lt h h1
  · exact h1
theorem nxt_lt (S : Nat → Int32) (k : Nat) : nxtS S k < 16 := Nat.mod_lt _ (by decide)
section FM
variable {M : jM}
set_option maxRecDepth 4000 in
theorem c_X1_has (l : Launch) (E : jE) (f : Nat) (hf : f < 3) (t : Int32) (hS : IS (vb (fb f) M))  : K_X1_has l E [.ref (ja E (fo f)), .int t] M (jb (inr t 0 ((iN (vb (fb f) M) : Int) - 1))) (M) := by
  refine CT_intro (own := RX1) (by decide +kernel) rfl (by simp [Value.category]) (Nat.le_of_ble_eq_true rfl) rfl (fun X C G => ?_)
  show J E X 0 [some (.ref (ja E (fo f))), some (.int t)] [] M
  have hN := leN hS
  refine J_iload_n C (dA DX1_has_0 0 rfl) rfl ?_
  first | refine J_if_lt_n (tgt := 16) C (by omega) (dA DX1_has_0 1 rfl) (by decide) (fun h1 => ?_) (fun h1 => ?_) | refine J_if_lt_t (tgt := 16) C (dA DX1_has_0 1 rfl) (by decide) (fun h1 => ?_) (fun h1 => ?_)
  · refine J_iconst (v := nI 0) C (dA DX1_has_0 8 rfl) (by decide) ?_
    first | exact J_zret C G rfl (dA DX1_has_0 9 rfl) ⟨oi (zt (by omega)), rfl⟩ | exact J_zret C G rfl (dA DX1_has_0 9 rfl) ⟨oi (zf (by omega)), rfl⟩
  · refine J_iload_n C (dA DX1_has_0 2 rfl) rfl ?_
    refine J_aload_n C (dA DX1_has_0 3 rfl) rfl ?_
    refine H_X1_size C hf hS wF_RX1_23 (dA DX1_has_0 4 rfl) ?_
    first | refine J_icmp_ge_n (tgt := 16) C (by omega) (by omega) (dA DX1_has_0 5 rfl) (by decide) (fun h9 => ?_) (fun h9 => ?_) | refine J_icmp_ge_c (tgt := 16) C (by omega) (dA DX1_has_0 5 rfl) (by decide) (fun h9 => ?_) (fun h9 => ?_) | refine J_icmp_ge_t (tgt := 16) C (dA DX1_has_0 5 rfl) (by decide) (fun h9 => ?_) (fun h9 => ?_)
    · refine J_iconst (v := nI 0) C (dA DX1_has_0 8 rfl) (by decide) ?_
      first | exact J_zret C G rfl (dA DX1_has_0 9 rfl) ⟨oi (zt (by omega)), rfl⟩ | exact J_zret C G rfl (dA DX1_has_0 9 rfl) ⟨oi (zf (by omega)), rfl⟩
    · refine J_iconst (v := nI 1) C (dA DX1_has_0 6 rfl) (by decide) ?_
      refine J_goto (tgt := 17) C (dA DX1_has_0 7 rfl) (by decide) ?_
      first | exact J_zret C G rfl (dA DX1_has_0 9 rfl) ⟨oi (zt (by omega)), rfl⟩ | exact J_zret C G rfl (dA DX1_has_0 9 rfl) ⟨oi (zf (by omega)), rfl⟩
set_option maxRecDepth 4000 in
theorem c_X1_isFull (l : Launch) (E : jE) (f : Nat) (hf : f < 3) (hS : IS (vb (fb f) M))  : K_X1_isFull l E [.ref (ja E (fo f))] M (jb (decide (iN (vb (fb f) M) = 8))) (M) := by
  refine CT_intro (own := RX1) (by decide +kernel) rfl (by simp [Value.category]) (Nat.le_of_ble_eq_true rfl) rfl (fun X C G => ?_)
  show J E X 0 [some (.ref (ja E (fo f)))] [] M
  have hN := leN hS
  refine J_aload_n C (dA DX1_isFull_0 0 rfl) rfl ?_
  refine H_X1_size C hf hS wF_RX1_23 (dA DX1_isFull_0 1 rfl) ?_
  refine J_bipush (v := nI 8) C (dA DX1_isFull_0 2 rfl) (by decide) ?_
  first | refine J_icmp_lt_n (tgt := 13) C (by omega) (by omega) (dA DX1_isFull_0 3 rfl) (by decide) (fun h6 => ?_) (fun h6 => ?_) | refine J_icmp_lt_c (tgt := 13) C (by omega) (dA DX1_isFull_0 3 rfl) (by decide) (fun h6 => ?_) (fun h6 => ?_) | refine J_icmp_lt_t (tgt := 13) C (dA DX1_isFull_0 3 rfl) (by decide) (fun h6 => ?_) (fun h6 => ?_)
  · refine J_iconst (v := nI 0) C (dA DX1_isFull_0 6 rfl) (by decide) ?_
    first | exact J_zret C G rfl (dA DX1_isFull_0 7 rfl) ⟨oi (zt (by omega)), rfl⟩ | exact J_zret C G rfl (dA DX1_isFull_0 7 rfl) ⟨oi (zf (by omega)), rfl⟩
  · refine J_iconst (v := nI 1) C (dA DX1_isFull_0 4 rfl) (by decide) ?_
    refine J_goto (tgt := 14) C (dA DX1_isFull_0 5 rfl) (by decide) ?_
    first | exact J_zret C G rfl (dA DX1_isFull_0 7 rfl) ⟨oi (zt (by omega)), rfl⟩ | exact J_zret C G rfl (dA DX1_isFull_0 7 rfl) ⟨oi (zf (by omega)), rfl⟩
set_option maxRecDepth 4000 in
theorem c_X1_thingsIn (l : Launch) (E : jE) (f : Nat) (hf : f < 3) (x : Int32) (hS : IS (vb (fb f) M))  : K_X1_thingsIn l E [.ref (ja E (fo f)), .int x] M (inS (vb (fb f) M) x) (M) := by
  refine CT_intro (own := RX1) (by decide +kernel) rfl (by simp [Value.category]) (Nat.le_of_ble_eq_true rfl) rfl (fun X C G => ?_)
  show J E X 0 [some (.ref (ja E (fo f))), some (.int x), none, none] [] M
  have hN := leN hS
  have loop : ∀ n i, i + n = iN (vb (fb f) M) → J E X 4 [some (.ref (ja E (fo f))), some (.int x), some (.int (orL i (fun k => decide (nI (f3 (vb (fb f) M) k 1) = x)))), some (.int (nI i))] [] M := by
    intro n
    induction n with
    | zero =>
      intro i hi
      refine J_iload_n C (dA DX1_thingsIn_0 4 rfl) rfl ?_
      refine J_aload_n C (dA DX1_thingsIn_0 5 rfl) rfl ?_
      refine H_X1_size C hf hS wF_RX1_23 (dA DX1_thingsIn_0 6 rfl) ?_
      first | refine J_icmp_ge_n (tgt := 36) C (by omega) (by omega) (dA DX1_thingsIn_0 7 rfl) (by decide) (fun h9 => ?_) (fun h9 => ?_) | refine J_icmp_ge_c (tgt := 36) C (by omega) (dA DX1_thingsIn_0 7 rfl) (by decide) (fun h9 => ?_) (fun h9 => ?_) | refine J_icmp_ge_t (tgt := 36) C (dA DX1_thingsIn_0 7 rfl) (by decide) (fun h9 => ?_) (fun h9 => ?_)
      · refine J_iload_n C (dA DX1_thingsIn_0 24 rfl) rfl ?_
        exact J_iret C G (dA DX1_thingsIn_0 25 rfl) ⟨oi (by unfold inS; rw [← hi]; rfl), rfl⟩
      · exfalso; omega
    | succ n ih =>
      intro i hi
      refine J_iload_n C (dA DX1_thingsIn_0 4 rfl) rfl ?_
      refine J_aload_n C (dA DX1_thingsIn_0 5 rfl) rfl ?_
      refine H_X1_size C hf hS wF_RX1_23 (dA DX1_thingsIn_0 6 rfl) ?_
      first | refine J_icmp_ge_n (tgt := 36) C (by omega) (by omega) (dA DX1_thingsIn_0 7 rfl) (by decide) (fun h9 => ?_) (fun h9 => ?_) | refine J_icmp_ge_c (tgt := 36) C (by omega) (dA DX1_thingsIn_0 7 rfl) (by decide) (fun h9 => ?_) (fun h9 => ?_) | refine J_icmp_ge_t (tgt := 36) C (dA DX1_thingsIn_0 7 rfl) (by decide) (fun h9 => ?_) (fun h9 => ?_)
      · exfalso; omega
      · refine J_aload_n C (dA DX1_thingsIn_0 8 rfl) rfl ?_
        refine G_X1_things C hf wF_RX1_16 (dA DX1_thingsIn_0 9 rfl) ?_
        refine J_iconst (v := nI 1) C (dA DX1_thingsIn_0 10 rfl) (by decide) ?_
        first | refine R_fp C hf rfl (by omega) (dA DX1_thingsIn_0 11 rfl) ?_ | refine R_ft C hf rfl (by omega) (dA DX1_thingsIn_0 11 rfl) ?_ | refine R_sh C rfl (by omega) (dA DX1_thingsIn_0 11 rfl) ?_
        refine J_iload_n C (dA DX1_thingsIn_0 12 rfl) rfl ?_
        first | refine Q_fr C hf hS (by decide) rfl (by omega) (dA DX1_thingsIn_0 13 rfl) ?_ | refine Q_fk C hf hS (by decide) rfl (by omega) (dA DX1_thingsIn_0 13 rfl) ?_ | refine R_fs C hf rfl (by omega) (dA DX1_thingsIn_0 13 rfl) ?_ | refine R_sn C hq rfl (by omega) (dA DX1_thingsIn_0 13 rfl) ?_ | refine R_1 C (hk := rfl) rfl (by omega) (dA DX1_thingsIn_0 13 rfl) ?_
        refine J_iload_n C (dA DX1_thingsIn_0 14 rfl) rfl ?_
        refine J_icmp_ne (tgt := 30) C (dA DX1_thingsIn_0 15 rfl) (by decide) (fun h21 => ?_) (fun h21 => ?_)
        · first | refine J_inc1_3_4 C (dA DX1_thingsIn_0 22 rfl) rfl ?_ | refine J_iinc_3_4 C (dA DX1_thingsIn_0 22 rfl) rfl ?_
          refine J_goto (tgt := 4) C (dA DX1_thingsIn_0 23 rfl) (by decide) ?_
          have h := ih (i + 1) (by omega)
          rw [← orL_f (by simp [h21])] at h
          exact h
        · refine J_iload_n C (dA DX1_thingsIn_0 16 rfl) rfl ?_
          refine J_iconst (v := nI 1) C (dA DX1_thingsIn_0 17 rfl) (by decide) ?_
          refine J_iload_n C (dA DX1_thingsIn_0 18 rfl) rfl ?_
          refine J_ishl C (dA DX1_thingsIn_0 19 rfl) ?_
          refine J_ior C (dA DX1_thingsIn_0 20 rfl) ?_
          refine J_ist_2_4 C (dA DX1_thingsIn_0 21 rfl) rfl ?_
          first | refine J_inc1_3_4 C (dA DX1_thingsIn_0 22 rfl) rfl ?_ | refine J_iinc_3_4 C (dA DX1_thingsIn_0 22 rfl) rfl ?_
          refine J_goto (tgt := 4) C (dA DX1_thingsIn_0 23 rfl) (by decide) ?_
          have h := ih (i + 1) (by omega)
          rw [← orL_t (by simp [h21])] at h
          exact h
  refine J_iconst (v := nI 0) C (dA DX1_thingsIn_0 0 rfl) (by decide) ?_
  refine J_ist_2_4 C (dA DX1_thingsIn_0 1 rfl) rfl ?_
  refine J_iconst (v := nI 0) C (dA DX1_thingsIn_0 2 rfl) (by decide) ?_
  refine J_ist_3_4 C (dA DX1_thingsIn_0 3 rfl) rfl ?_
  exact loop _ 0 (Nat.zero_add _)
set_option maxRecDepth 4000 in
theorem c_X1_thingsSeenIn (l : Launch) (E : jE) (f : Nat) (hf : f < 3) (p : Nat) (hp : p < 16) (hS : IS (vb (fb f) M))  : K_X1_thingsSeenIn l E [.ref (ja E (fo f)), .int (nI p)] M (inS (vb (fb f) M) (nI (f6 (vb (fb f) M) p 0))) (M) := by
  refine CT_intro (own := RX1) (by decide +kernel) rfl (by simp [Value.category]) (Nat.le_of_ble_eq_true rfl) rfl (fun X C G => ?_)
  show J E X 0 [some (.ref (ja E (fo f))), some (.int (nI p))] [] M
  refine J_aload_n C (dA DX1_thingsSeenIn_0 0 rfl) rfl ?_
  refine J_aload_n C (dA DX1_thingsSeenIn_0 1 rfl) rfl ?_
  refine G_X1_ponds C hf wF_RX1_11 (dA DX1_thingsSeenIn_0 2 rfl) ?_
  refine J_iconst (v := nI 0) C (dA DX1_thingsSeenIn_0 3 rfl) (by decide) ?_
  first | refine R_fp C hf rfl (by omega) (dA DX1_thingsSeenIn_0 4 rfl) ?_ | refine R_ft C hf rfl (by omega) (dA DX1_thingsSeenIn_0 4 rfl) ?_ | refine R_sh C rfl (by omega) (dA DX1_thingsSeenIn_0 4 rfl) ?_
  refine J_iload_n C (dA DX1_thingsSeenIn_0 5 rfl) rfl ?_
  first | refine Q_fr C hf hS (by decide) rfl (by omega) (dA DX1_thingsSeenIn_0 6 rfl) ?_ | refine Q_fk C hf hS (by decide) rfl (by omega) (dA DX1_thingsSeenIn_0 6 rfl) ?_ | refine R_fs C hf rfl (by omega) (dA DX1_thingsSeenIn_0 6 rfl) ?_ | refine R_sn C hq rfl (by omega) (dA DX1_thingsSeenIn_0 6 rfl) ?_ | refine R_1 C (hk := rfl) rfl (by omega) (dA DX1_thingsSeenIn_0 6 rfl) ?_
  refine V_X1_thingsIn C hf (c_X1_thingsIn l E f hf _ hS) wM_RX1_45 (by decide) (dA DX1_thingsSeenIn_0 7 rfl) rfl (Nat.le_of_ble_eq_true rfl) ?_
  exact J_iret C G (dA DX1_thingsSeenIn_0 8 rfl) ⟨rfl, rfl⟩
set_option maxRecDepth 4000 in
theorem c_X1_showersOf (l : Launch) (E : jE) (f : Nat) (hf : f < 3) (x : Int32) (hS : IS (vb (fb f) M))  : K_X1_showersOf l E [.ref (ja E (fo f)), .int x] M (shwS (vb (fb f) M) x) (M) := by
  refine CT_intro (own := RX1) (by decide +kernel) rfl (by simp [Value.category]) (Nat.le_of_ble_eq_true rfl) rfl (fun X C G => ?_)
  show J E X 0 [some (.ref (ja E (fo f))), some (.int x), none, none] [] M
  have hN := leN hS
  have loop : ∀ n i, i + n = 16 → J E X 4 [some (.ref (ja E (fo f))), some (.int x), some (.int (orL i (fun p => decide (nI (f6 (vb (fb f) M) p 0) = x)))), some (.int (nI i))] [] M := by
    intro n
    induction n with
    | zero =>
      intro i hi
      refine J_iload_n C (dA DX1_showersOf_0 4 rfl) rfl ?_
      refine J_bipush (v := nI 16) C (dA DX1_showersOf_0 5 rfl) (by decide) ?_
      first | refine J_icmp_ge_n (tgt := 34) C (by omega) (by omega) (dA DX1_showersOf_0 6 rfl) (by decide) (fun h7 => ?_) (fun h7 => ?_) | refine J_icmp_ge_c (tgt := 34) C (by omega) (dA DX1_showersOf_0 6 rfl) (by decide) (fun h7 => ?_) (fun h7 => ?_) | refine J_icmp_ge_t (tgt := 34) C (dA DX1_showersOf_0 6 rfl) (by decide) (fun h7 => ?_) (fun h7 => ?_)
      · refine J_iload_n C (dA DX1_showersOf_0 23 rfl) rfl ?_
        exact J_iret C G (dA DX1_showersOf_0 24 rfl) ⟨oi (by unfold shwS; rw [← hi]; rfl), rfl⟩
      · exfalso; omega
    | succ n ih =>
      intro i hi
      refine J_iload_n C (dA DX1_showersOf_0 4 rfl) rfl ?_
      refine J_bipush (v := nI 16) C (dA DX1_showersOf_0 5 rfl) (by decide) ?_
      first | refine J_icmp_ge_n (tgt := 34) C (by omega) (by omega) (dA DX1_showersOf_0 6 rfl) (by decide) (fun h7 => ?_) (fun h7 => ?_) | refine J_icmp_ge_c (tgt := 34) C (by omega) (dA DX1_showersOf_0 6 rfl) (by decide) (fun h7 => ?_) (fun h7 => ?_) | refine J_icmp_ge_t (tgt := 34) C (dA DX1_showersOf_0 6 rfl) (by decide) (fun h7 => ?_) (fun h7 => ?_)
      · exfalso; omega
      · refine J_aload_n C (dA DX1_showersOf_0 7 rfl) rfl ?_
        refine G_X1_ponds C hf wF_RX1_11 (dA DX1_showersOf_0 8 rfl) ?_
        refine J_iconst (v := nI 0) C (dA DX1_showersOf_0 9 rfl) (by decide) ?_
        first | refine R_fp C hf rfl (by omega) (dA DX1_showersOf_0 10 rfl) ?_ | refine R_ft C hf rfl (by omega) (dA DX1_showersOf_0 10 rfl) ?_ | refine R_sh C rfl (by omega) (dA DX1_showersOf_0 10 rfl) ?_
        refine J_iload_n C (dA DX1_showersOf_0 11 rfl) rfl ?_
        first | refine Q_fr C hf hS (by decide) rfl (by omega) (dA DX1_showersOf_0 12 rfl) ?_ | refine Q_fk C hf hS (by decide) rfl (by omega) (dA DX1_showersOf_0 12 rfl) ?_ | refine R_fs C hf rfl (by omega) (dA DX1_showersOf_0 12 rfl) ?_ | refine R_sn C hq rfl (by omega) (dA DX1_showersOf_0 12 rfl) ?_ | refine R_1 C (hk := rfl) rfl (by omega) (dA DX1_showersOf_0 12 rfl) ?_
        refine J_iload_n C (dA DX1_showersOf_0 13 rfl) rfl ?_
        refine J_icmp_ne (tgt := 28) C (dA DX1_showersOf_0 14 rfl) (by decide) (fun h19 => ?_) (fun h19 => ?_)
        · first | refine J_inc1_3_4 C (dA DX1_showersOf_0 21 rfl) rfl ?_ | refine J_iinc_3_4 C (dA DX1_showersOf_0 21 rfl) rfl ?_
          refine J_goto (tgt := 4) C (dA DX1_showersOf_0 22 rfl) (by decide) ?_
          have h := ih (i + 1) (by omega)
          rw [← orL_f (by simp [h19])] at h
          exact h
        · refine J_iload_n C (dA DX1_showersOf_0 15 rfl) rfl ?_
          refine J_iconst (v := nI 1) C (dA DX1_showersOf_0 16 rfl) (by decide) ?_
          refine J_iload_n C (dA DX1_showersOf_0 17 rfl) rfl ?_
          refine J_ishl C (dA DX1_showersOf_0 18 rfl) ?_
          refine J_ior C (dA DX1_showersOf_0 19 rfl) ?_
          refine J_ist_2_4 C (dA DX1_showersOf_0 20 rfl) rfl ?_
          first | refine J_inc1_3_4 C (dA DX1_showersOf_0 21 rfl) rfl ?_ | refine J_iinc_3_4 C (dA DX1_showersOf_0 21 rfl) rfl ?_
          refine J_goto (tgt := 4) C (dA DX1_showersOf_0 22 rfl) (by decide) ?_
          have h := ih (i + 1) (by omega)
          rw [← orL_t (by simp [h19])] at h
          exact h
  refine J_iconst (v := nI 0) C (dA DX1_showersOf_0 0 rfl) (by decide) ?_
  refine J_ist_2_4 C (dA DX1_showersOf_0 1 rfl) rfl ?_
  refine J_iconst (v := nI 0) C (dA DX1_showersOf_0 2 rfl) (by decide) ?_
  refine J_ist_3_4 C (dA DX1_showersOf_0 3 rfl) rfl ?_
  exact loop _ 0 (Nat.zero_add _)
set_option maxRecDepth 4000 in
theorem c_X1_pondsWithThings (l : Launch) (E : jE) (f : Nat) (hf : f < 3) (hS : IS (vb (fb f) M))  : K_X1_pondsWithThings l E [.ref (ja E (fo f))] M (fillS (vb (fb f) M)) (M) := by
  refine CT_intro (own := RX1) (by decide +kernel) rfl (by simp [Value.category]) (Nat.le_of_ble_eq_true rfl) rfl (fun X C G => ?_)
  show J E X 0 [some (.ref (ja E (fo f))), none, none] [] M
  have hN := leN hS
  have loop : ∀ n i, i + n = iN (vb (fb f) M) → J E X 4 [some (.ref (ja E (fo f))), some (.int (orV i (fun k => f3 (vb (fb f) M) k 1))), some (.int (nI i))] [] M := by
    intro n
    induction n with
    | zero =>
      intro i hi
      refine J_iload_n C (dA DX1_pondsWithThings_0 4 rfl) rfl ?_
      refine J_aload_n C (dA DX1_pondsWithThings_0 5 rfl) rfl ?_
      refine H_X1_size C hf hS wF_RX1_23 (dA DX1_pondsWithThings_0 6 rfl) ?_
      first | refine J_icmp_ge_n (tgt := 31) C (by omega) (by omega) (dA DX1_pondsWithThings_0 7 rfl) (by decide) (fun h9 => ?_) (fun h9 => ?_) | refine J_icmp_ge_c (tgt := 31) C (by omega) (dA DX1_pondsWithThings_0 7 rfl) (by decide) (fun h9 => ?_) (fun h9 => ?_) | refine J_icmp_ge_t (tgt := 31) C (dA DX1_pondsWithThings_0 7 rfl) (by decide) (fun h9 => ?_) (fun h9 => ?_)
      · refine J_iload_n C (dA DX1_pondsWithThings_0 21 rfl) rfl ?_
        exact J_iret C G (dA DX1_pondsWithThings_0 22 rfl) ⟨oi (by unfold fillS; rw [← hi]; rfl), rfl⟩
      · exfalso; omega
    | succ n ih =>
      intro i hi
      refine J_iload_n C (dA DX1_pondsWithThings_0 4 rfl) rfl ?_
      refine J_aload_n C (dA DX1_pondsWithThings_0 5 rfl) rfl ?_
      refine H_X1_size C hf hS wF_RX1_23 (dA DX1_pondsWithThings_0 6 rfl) ?_
      first | refine J_icmp_ge_n (tgt := 31) C (by omega) (by omega) (dA DX1_pondsWithThings_0 7 rfl) (by decide) (fun h9 => ?_) (fun h9 => ?_) | refine J_icmp_ge_c (tgt := 31) C (by omega) (dA DX1_pondsWithThings_0 7 rfl) (by decide) (fun h9 => ?_) (fun h9 => ?_) | refine J_icmp_ge_t (tgt := 31) C (dA DX1_pondsWithThings_0 7 rfl) (by decide) (fun h9 => ?_) (fun h9 => ?_)
      · exfalso; omega
      · refine J_iload_n C (dA DX1_pondsWithThings_0 8 rfl) rfl ?_
        refine J_iconst (v := nI 1) C (dA DX1_pondsWithThings_0 9 rfl) (by decide) ?_
        refine J_aload_n C (dA DX1_pondsWithThings_0 10 rfl) rfl ?_
        refine G_X1_things C hf wF_RX1_16 (dA DX1_pondsWithThings_0 11 rfl) ?_
        refine J_iconst (v := nI 1) C (dA DX1_pondsWithThings_0 12 rfl) (by decide) ?_
        first | refine R_fp C hf rfl (by omega) (dA DX1_pondsWithThings_0 13 rfl) ?_ | refine R_ft C hf rfl (by omega) (dA DX1_pondsWithThings_0 13 rfl) ?_ | refine R_sh C rfl (by omega) (dA DX1_pondsWithThings_0 13 rfl) ?_
        refine J_iload_n C (dA DX1_pondsWithThings_0 14 rfl) rfl ?_
        first | refine Q_fr C hf hS (by decide) rfl (by omega) (dA DX1_pondsWithThings_0 15 rfl) ?_ | refine Q_fk C hf hS (by decide) rfl (by omega) (dA DX1_pondsWithThings_0 15 rfl) ?_ | refine R_fs C hf rfl (by omega) (dA DX1_pondsWithThings_0 15 rfl) ?_ | refine R_sn C hq rfl (by omega) (dA DX1_pondsWithThings_0 15 rfl) ?_ | refine R_1 C (hk := rfl) rfl (by omega) (dA DX1_pondsWithThings_0 15 rfl) ?_
        refine J_ishl C (dA DX1_pondsWithThings_0 16 rfl) ?_
        refine J_ior C (dA DX1_pondsWithThings_0 17 rfl) ?_
        refine J_ist_1_3 C (dA DX1_pondsWithThings_0 18 rfl) rfl ?_
        first | refine J_inc1_2_3 C (dA DX1_pondsWithThings_0 19 rfl) rfl ?_ | refine J_iinc_2_3 C (dA DX1_pondsWithThings_0 19 rfl) rfl ?_
        refine J_goto (tgt := 4) C (dA DX1_pondsWithThings_0 20 rfl) (by decide) ?_
        exact ih (i + 1) (by omega)
  refine J_iconst (v := nI 0) C (dA DX1_pondsWithThings_0 0 rfl) (by decide) ?_
  refine J_ist_1_3 C (dA DX1_pondsWithThings_0 1 rfl) rfl ?_
  refine J_iconst (v := nI 0) C (dA DX1_pondsWithThings_0 2 rfl) (by decide) ?_
  refine J_ist_2_3 C (dA DX1_pondsWithThings_0 3 rfl) rfl ?_
  exact loop _ 0 (Nat.zero_add _)
set_option maxRecDepth 4000 in
theorem c_X1_pondsWithSights (l : Launch) (E : jE) (f : Nat) (hf : f < 3) (hS : IS (vb (fb f) M))  : K_X1_pondsWithSights l E [.ref (ja E (fo f))] M (sightS (vb (fb f) M)) (M) := by
  refine CT_intro (own := RX1) (by decide +kernel) rfl (by simp [Value.category]) (Nat.le_of_ble_eq_true rfl) rfl (fun X C G => ?_)
  show J E X 0 [some (.ref (ja E (fo f))), none, none, none] [] M
  have hN := leN hS
  have loop : ∀ n i, i + n = 16 → J E X 9 [some (.ref (ja E (fo f))), some (.int (fillS (vb (fb f) M))), some (.int (orL i (fun p => bit (fillS (vb (fb f) M)) (f6 (vb (fb f) M) p 0)))), some (.int (nI i))] [] M := by
    intro n
    induction n with
    | zero =>
      intro i hi
      refine J_iload_n C (dA DX1_pondsWithSights_0 7 rfl) rfl ?_
      refine J_bipush (v := nI 16) C (dA DX1_pondsWithSights_0 8 rfl) (by decide) ?_
      first | refine J_icmp_ge_n (tgt := 42) C (by omega) (by omega) (dA DX1_pondsWithSights_0 9 rfl) (by decide) (fun h12 => ?_) (fun h12 => ?_) | refine J_icmp_ge_c (tgt := 42) C (by omega) (dA DX1_pondsWithSights_0 9 rfl) (by decide) (fun h12 => ?_) (fun h12 => ?_) | refine J_icmp_ge_t (tgt := 42) C (dA DX1_pondsWithSights_0 9 rfl) (by decide) (fun h12 => ?_) (fun h12 => ?_)
      · refine J_iload_n C (dA DX1_pondsWithSights_0 29 rfl) rfl ?_
        exact J_iret C G (dA DX1_pondsWithSights_0 30 rfl) ⟨oi (by unfold sightS; rw [← hi]; rfl), rfl⟩
      · exfalso; omega
    | succ n ih =>
      intro i hi
      refine J_iload_n C (dA DX1_pondsWithSights_0 7 rfl) rfl ?_
      refine J_bipush (v := nI 16) C (dA DX1_pondsWithSights_0 8 rfl) (by decide) ?_
      first | refine J_icmp_ge_n (tgt := 42) C (by omega) (by omega) (dA DX1_pondsWithSights_0 9 rfl) (by decide) (fun h12 => ?_) (fun h12 => ?_) | refine J_icmp_ge_c (tgt := 42) C (by omega) (dA DX1_pondsWithSights_0 9 rfl) (by decide) (fun h12 => ?_) (fun h12 => ?_) | refine J_icmp_ge_t (tgt := 42) C (dA DX1_pondsWithSights_0 9 rfl) (by decide) (fun h12 => ?_) (fun h12 => ?_)
      · exfalso; omega
      · refine J_iload_n C (dA DX1_pondsWithSights_0 10 rfl) rfl ?_
        refine J_aload_n C (dA DX1_pondsWithSights_0 11 rfl) rfl ?_
        refine G_X1_ponds C hf wF_RX1_11 (dA DX1_pondsWithSights_0 12 rfl) ?_
        refine J_iconst (v := nI 0) C (dA DX1_pondsWithSights_0 13 rfl) (by decide) ?_
        first | refine R_fp C hf rfl (by omega) (dA DX1_pondsWithSights_0 14 rfl) ?_ | refine R_ft C hf rfl (by omega) (dA DX1_pondsWithSights_0 14 rfl) ?_ | refine R_sh C rfl (by omega) (dA DX1_pondsWithSights_0 14 rfl) ?_
        refine J_iload_n C (dA DX1_pondsWithSights_0 15 rfl) rfl ?_
        first | refine Q_fr C hf hS (by decide) rfl (by omega) (dA DX1_pondsWithSights_0 16 rfl) ?_ | refine Q_fk C hf hS (by decide) rfl (by omega) (dA DX1_pondsWithSights_0 16 rfl) ?_ | refine R_fs C hf rfl (by omega) (dA DX1_pondsWithSights_0 16 rfl) ?_ | refine R_sn C hq rfl (by omega) (dA DX1_pondsWithSights_0 16 rfl) ?_ | refine R_1 C (hk := rfl) rfl (by omega) (dA DX1_pondsWithSights_0 16 rfl) ?_
        refine J_ishr C (dA DX1_pondsWithSights_0 17 rfl) ?_
        refine J_iconst (v := nI 1) C (dA DX1_pondsWithSights_0 18 rfl) (by decide) ?_
        refine J_iand C (dA DX1_pondsWithSights_0 19 rfl) ?_
        refine J_if_eq (tgt := 36) C (dA DX1_pondsWithSights_0 20 rfl) (by decide) (fun h27 => ?_) (fun h27 => ?_)
        · first | refine J_inc1_3_4 C (dA DX1_pondsWithSights_0 27 rfl) rfl ?_ | refine J_iinc_3_4 C (dA DX1_pondsWithSights_0 27 rfl) rfl ?_
          refine J_goto (tgt := 9) C (dA DX1_pondsWithSights_0 28 rfl) (by decide) ?_
          have h := ih (i + 1) (by omega)
          rw [← orL_f (by simp [bit, h27])] at h
          exact h
        · refine J_iload_n C (dA DX1_pondsWithSights_0 21 rfl) rfl ?_
          refine J_iconst (v := nI 1) C (dA DX1_pondsWithSights_0 22 rfl) (by decide) ?_
          refine J_iload_n C (dA DX1_pondsWithSights_0 23 rfl) rfl ?_
          refine J_ishl C (dA DX1_pondsWithSights_0 24 rfl) ?_
          refine J_ior C (dA DX1_pondsWithSights_0 25 rfl) ?_
          refine J_ist_2_4 C (dA DX1_pondsWithSights_0 26 rfl) rfl ?_
          first | refine J_inc1_3_4 C (dA DX1_pondsWithSights_0 27 rfl) rfl ?_ | refine J_iinc_3_4 C (dA DX1_pondsWithSights_0 27 rfl) rfl ?_
          refine J_goto (tgt := 9) C (dA DX1_pondsWithSights_0 28 rfl) (by decide) ?_
          have h := ih (i + 1) (by omega)
          rw [← orL_t (by simp [bit, h27])] at h
          exact h
  refine J_aload_n C (dA DX1_pondsWithSights_0 0 rfl) rfl ?_
  refine V_X1_pondsWithThings C hf (c_X1_pondsWithThings l E f hf hS) wM_RX1_49 (by decide) (dA DX1_pondsWithSights_0 1 rfl) rfl (Nat.le_of_ble_eq_true rfl) ?_
  refine J_ist_1_4 C (dA DX1_pondsWithSights_0 2 rfl) rfl ?_
  refine J_iconst (v := nI 0) C (dA DX1_pondsWithSights_0 3 rfl) (by decide) ?_
  refine J_ist_2_4 C (dA DX1_pondsWithSights_0 4 rfl) rfl ?_
  refine J_iconst (v := nI 0) C (dA DX1_pondsWithSights_0 5 rfl) (by decide) ?_
  refine J_ist_3_4 C (dA DX1_pondsWithSights_0 6 rfl) rfl ?_
  exact loop _ 0 (Nat.zero_add _)
set_option maxRecDepth 4000 in
theorem c_X1_lengths (l : Launch) (E : jE) (f : Nat) (hf : f < 3) (hS : IS (vb (fb f) M))  : K_X1_lengths l E [.ref (ja E (fo f))] M (nI (lenS (vb (fb f) M))) (M) := by
  refine CT_intro (own := RX1) (by decide +kernel) rfl (by simp [Value.category]) (Nat.le_of_ble_eq_true rfl) rfl (fun X C G => ?_)
  show J E X 0 [some (.ref (ja E (fo f))), none, none] [] M
  have hN := leN hS
  have loop : ∀ n i, i + n = iN (vb (fb f) M) → J E X 4 [some (.ref (ja E (fo f))), some (.int (nI (smS i (fun k => f3 (vb (fb f) M) k 2)))), some (.int (nI i))] [] M := by
    intro n
    induction n with
    | zero =>
      intro i hi
      refine J_iload_n C (dA DX1_lengths_0 4 rfl) rfl ?_
      refine J_aload_n C (dA DX1_lengths_0 5 rfl) rfl ?_
      refine H_X1_size C hf hS wF_RX1_23 (dA DX1_lengths_0 6 rfl) ?_
      first | refine J_icmp_ge_n (tgt := 29) C (by omega) (by omega) (dA DX1_lengths_0 7 rfl) (by decide) (fun h9 => ?_) (fun h9 => ?_) | refine J_icmp_ge_c (tgt := 29) C (by omega) (dA DX1_lengths_0 7 rfl) (by decide) (fun h9 => ?_) (fun h9 => ?_) | refine J_icmp_ge_t (tgt := 29) C (dA DX1_lengths_0 7 rfl) (by decide) (fun h9 => ?_) (fun h9 => ?_)
      · refine J_iload_n C (dA DX1_lengths_0 19 rfl) rfl ?_
        exact J_iret C G (dA DX1_lengths_0 20 rfl) ⟨oi (by unfold lenS; rw [← hi]; rfl), rfl⟩
      · exfalso; omega
    | succ n ih =>
      intro i hi
      refine J_iload_n C (dA DX1_lengths_0 4 rfl) rfl ?_
      refine J_aload_n C (dA DX1_lengths_0 5 rfl) rfl ?_
      refine H_X1_size C hf hS wF_RX1_23 (dA DX1_lengths_0 6 rfl) ?_
      first | refine J_icmp_ge_n (tgt := 29) C (by omega) (by omega) (dA DX1_lengths_0 7 rfl) (by decide) (fun h9 => ?_) (fun h9 => ?_) | refine J_icmp_ge_c (tgt := 29) C (by omega) (dA DX1_lengths_0 7 rfl) (by decide) (fun h9 => ?_) (fun h9 => ?_) | refine J_icmp_ge_t (tgt := 29) C (dA DX1_lengths_0 7 rfl) (by decide) (fun h9 => ?_) (fun h9 => ?_)
      · exfalso; omega
      · refine J_iload_n C (dA DX1_lengths_0 8 rfl) rfl ?_
        refine J_aload_n C (dA DX1_lengths_0 9 rfl) rfl ?_
        refine G_X1_things C hf wF_RX1_16 (dA DX1_lengths_0 10 rfl) ?_
        refine J_iconst (v := nI 2) C (dA DX1_lengths_0 11 rfl) (by decide) ?_
        first | refine R_fp C hf rfl (by omega) (dA DX1_lengths_0 12 rfl) ?_ | refine R_ft C hf rfl (by omega) (dA DX1_lengths_0 12 rfl) ?_ | refine R_sh C rfl (by omega) (dA DX1_lengths_0 12 rfl) ?_
        refine J_iload_n C (dA DX1_lengths_0 13 rfl) rfl ?_
        first | refine Q_fr C hf hS (by decide) rfl (by omega) (dA DX1_lengths_0 14 rfl) ?_ | refine Q_fk C hf hS (by decide) rfl (by omega) (dA DX1_lengths_0 14 rfl) ?_ | refine R_fs C hf rfl (by omega) (dA DX1_lengths_0 14 rfl) ?_ | refine R_sn C hq rfl (by omega) (dA DX1_lengths_0 14 rfl) ?_ | refine R_1 C (hk := rfl) rfl (by omega) (dA DX1_lengths_0 14 rfl) ?_
        first | refine J_iadd_n C (dA DX1_lengths_0 15 rfl) ?_ | refine J_iadd C (dA DX1_lengths_0 15 rfl) ?_
        refine J_ist_1_3 C (dA DX1_lengths_0 16 rfl) rfl ?_
        first | refine J_inc1_2_3 C (dA DX1_lengths_0 17 rfl) rfl ?_ | refine J_iinc_2_3 C (dA DX1_lengths_0 17 rfl) rfl ?_
        refine J_goto (tgt := 4) C (dA DX1_lengths_0 18 rfl) (by decide) ?_
        exact ih (i + 1) (by omega)
  refine J_iconst (v := nI 0) C (dA DX1_lengths_0 0 rfl) (by decide) ?_
  refine J_ist_1_3 C (dA DX1_lengths_0 1 rfl) rfl ?_
  refine J_iconst (v := nI 0) C (dA DX1_lengths_0 2 rfl) (by decide) ?_
  refine J_ist_2_3 C (dA DX1_lengths_0 3 rfl) rfl ?_
  exact loop _ 0 (Nat.zero_add _)
set_option maxRecDepth 4000 in
theorem c_X1_nextOfFrog (l : Launch) (E : jE) (f : Nat) (hf : f < 3) (p : Nat) (hp : p < 16) (hS : IS (vb (fb f) M))  : K_X1_nextOfFrog l E [.ref (ja E (fo f)), .int (nI p)] M (nI (frogS (vb (fb f) M) p)) (M) := by
  refine CT_intro (own := RX1) (by decide +kernel) rfl (by simp [Value.category]) (Nat.le_of_ble_eq_true rfl) rfl (fun X C G => ?_)
  show J E X 0 [some (.ref (ja E (fo f))), some (.int (nI p))] [] M
  have hM := leM hS
  refine J_aload_n C (dA DX1_nextOfFrog_0 0 rfl) rfl ?_
  refine H_X1_minute C hf hS wF_RX1_30 (dA DX1_nextOfFrog_0 1 rfl) ?_
  refine J_iconst (v := nI 2) C (dA DX1_nextOfFrog_0 2 rfl) (by decide) ?_
  refine J_irem_n C (by omega) (by omega) (by omega) (dA DX1_nextOfFrog_0 3 rfl) ?_
  first | refine J_if_ne_b (tgt := 20) C (dA DX1_nextOfFrog_0 4 rfl) (by decide) (fun h6 => ?_) (fun h6 => ?_) | refine J_if_ne_n (tgt := 20) C (by omega) (dA DX1_nextOfFrog_0 4 rfl) (by decide) (fun h6 => ?_) (fun h6 => ?_) | refine J_if_ne_t (tgt := 20) C (dA DX1_nextOfFrog_0 4 rfl) (by decide) (fun h6 => ?_) (fun h6 => ?_)
  · refine J_iload_n C (dA DX1_nextOfFrog_0 12 rfl) rfl ?_
    exact J_iret C G (dA DX1_nextOfFrog_0 13 rfl) ⟨oi (by unfold frogS; rw [if_neg (by omega)]), rfl⟩
  · refine J_aload_n C (dA DX1_nextOfFrog_0 5 rfl) rfl ?_
    refine G_X1_ponds C hf wF_RX1_11 (dA DX1_nextOfFrog_0 6 rfl) ?_
    refine J_iconst (v := nI 0) C (dA DX1_nextOfFrog_0 7 rfl) (by decide) ?_
    first | refine R_fp C hf rfl (by omega) (dA DX1_nextOfFrog_0 8 rfl) ?_ | refine R_ft C hf rfl (by omega) (dA DX1_nextOfFrog_0 8 rfl) ?_ | refine R_sh C rfl (by omega) (dA DX1_nextOfFrog_0 8 rfl) ?_
    refine J_iload_n C (dA DX1_nextOfFrog_0 9 rfl) rfl ?_
    first | refine Q_fr C hf hS (by decide) rfl (by omega) (dA DX1_nextOfFrog_0 10 rfl) ?_ | refine Q_fk C hf hS (by decide) rfl (by omega) (dA DX1_nextOfFrog_0 10 rfl) ?_ | refine R_fs C hf rfl (by omega) (dA DX1_nextOfFrog_0 10 rfl) ?_ | refine R_sn C hq rfl (by omega) (dA DX1_nextOfFrog_0 10 rfl) ?_ | refine R_1 C (hk := rfl) rfl (by omega) (dA DX1_nextOfFrog_0 10 rfl) ?_
    refine J_goto (tgt := 21) C (dA DX1_nextOfFrog_0 11 rfl) (by decide) ?_
    exact J_iret C G (dA DX1_nextOfFrog_0 13 rfl) ⟨oi (by unfold frogS; rw [if_pos (by omega)]), rfl⟩
set_option maxRecDepth 4000 in
theorem c_X1_hasFishIn (l : Launch) (E : jE) (f : Nat) (hf : f < 3) (x : Int32) (hS : IS (vb (fb f) M))  : K_X1_hasFishIn l E [.ref (ja E (fo f)), .int x] M (jb (hasF (vb (fb f) M) x)) (M) := by
  refine CT_intro (own := RX1) (by decide +kernel) rfl (by simp [Value.category]) (Nat.le_of_ble_eq_true rfl) rfl (fun X C G => ?_)
  show J E X 0 [some (.ref (ja E (fo f))), some (.int x), none, none] [] M
  have hN := leN hS
  have loop : ∀ n i (o : Option Value), jok [some (.ref (ja E (fo f))), some (.int x), some (.int (nI i)), o] 3 = true → i + n = iN (vb (fb f) M) → (∀ k, k < i → fishS (vb (fb f) M) x k = false) → J E X 2 [some (.ref (ja E (fo f))), some (.int x), some (.int (nI i)), o] [] M := by
    intro n
    induction n with
    | zero =>
      intro i o ho hi hno
      refine J_iload_n C (dA DX1_hasFishIn_0 2 rfl) rfl ?_
      refine J_aload_n C (dA DX1_hasFishIn_0 3 rfl) rfl ?_
      refine H_X1_size C hf hS wF_RX1_23 (dA DX1_hasFishIn_0 4 rfl) ?_
      first | refine J_icmp_ge_n (tgt := 59) C (by omega) (by omega) (dA DX1_hasFishIn_0 5 rfl) (by decide) (fun h7 => ?_) (fun h7 => ?_) | refine J_icmp_ge_c (tgt := 59) C (by omega) (dA DX1_hasFishIn_0 5 rfl) (by decide) (fun h7 => ?_) (fun h7 => ?_) | refine J_icmp_ge_t (tgt := 59) C (dA DX1_hasFishIn_0 5 rfl) (by decide) (fun h7 => ?_) (fun h7 => ?_)
      · refine J_iconst (v := nI 0) C (dA DX1_hasFishIn_0 37 rfl) (by decide) ?_
        exact J_zret C G rfl (dA DX1_hasFishIn_0 38 rfl) ⟨oi (bt_f (anyB_no (by intro k hk; exact hno k (by omega)))), rfl⟩
      · exfalso; omega
    | succ n ih =>
      intro i o ho hi hno
      refine J_iload_n C (dA DX1_hasFishIn_0 2 rfl) rfl ?_
      refine J_aload_n C (dA DX1_hasFishIn_0 3 rfl) rfl ?_
      refine H_X1_size C hf hS wF_RX1_23 (dA DX1_hasFishIn_0 4 rfl) ?_
      first | refine J_icmp_ge_n (tgt := 59) C (by omega) (by omega) (dA DX1_hasFishIn_0 5 rfl) (by decide) (fun h7 => ?_) (fun h7 => ?_) | refine J_icmp_ge_c (tgt := 59) C (by omega) (dA DX1_hasFishIn_0 5 rfl) (by decide) (fun h7 => ?_) (fun h7 => ?_) | refine J_icmp_ge_t (tgt := 59) C (dA DX1_hasFishIn_0 5 rfl) (by decide) (fun h7 => ?_) (fun h7 => ?_)
      · exfalso; omega
      · refine J_getsN C (k := 4) (by decide) (by decide +kernel) (dA DX1_hasFishIn_0 6 rfl) ?_
        refine J_iconst (v := nI 1) C (dA DX1_hasFishIn_0 7 rfl) (by decide) ?_
        refine J_tab C (j := 1) (by decide) rfl (by decide) (dA DX1_hasFishIn_0 8 rfl) ?_
        refine J_aload_n C (dA DX1_hasFishIn_0 9 rfl) rfl ?_
        refine G_X1_things C hf wF_RX1_16 (dA DX1_hasFishIn_0 10 rfl) ?_
        refine J_iconst (v := nI 0) C (dA DX1_hasFishIn_0 11 rfl) (by decide) ?_
        first | refine R_fp C hf rfl (by omega) (dA DX1_hasFishIn_0 12 rfl) ?_ | refine R_ft C hf rfl (by omega) (dA DX1_hasFishIn_0 12 rfl) ?_ | refine R_sh C rfl (by omega) (dA DX1_hasFishIn_0 12 rfl) ?_
        refine J_iload_n C (dA DX1_hasFishIn_0 13 rfl) rfl ?_
        have h30 := lt30 hS (k := i) (by omega)
        refine Q_fk C hf hS (by decide) rfl (by omega) (dA DX1_hasFishIn_0 14 rfl) ?_
        refine J_ishr C (dA DX1_hasFishIn_0 15 rfl) ?_
        refine J_iconst (v := nI 1) C (dA DX1_hasFishIn_0 16 rfl) (by decide) ?_
        refine J_iand C (dA DX1_hasFishIn_0 17 rfl) ?_
        refine J_if_eq (tgt := 33) C (dA DX1_hasFishIn_0 18 rfl) (by decide) (fun h26 => ?_) (fun h26 => ?_)
        · refine J_iconst (v := nI 0) C (dA DX1_hasFishIn_0 21 rfl) (by decide) ?_
          refine J_ist_3_4 C (dA DX1_hasFishIn_0 22 rfl) ho ?_
          refine J_iload_n C (dA DX1_hasFishIn_0 23 rfl) rfl ?_
          refine J_if_eq_n (tgt := 53) C (by decide) (dA DX1_hasFishIn_0 24 rfl) (by decide) (fun h36 => ?_) (fun h36 => ?_)
          · first | refine J_inc1_2_4 C (dA DX1_hasFishIn_0 35 rfl) rfl ?_ | refine J_iinc_2_4 C (dA DX1_hasFishIn_0 35 rfl) rfl ?_
            refine J_goto (tgt := 2) C (dA DX1_hasFishIn_0 36 rfl) (by decide) ?_
            refine ih (i + 1) _ rfl (by omega) (fun k hk => ?_)
            by_cases e : k = i
            · subst e; have hb : bit ((jtV 4).getD 1 0) (f3 (vb (fb f) M) k 0) = false := decide_eq_false (fun z => z h26)
              simp only [fishS, kindS, hb, Bool.false_and]
            · exact hno k (by omega)
          · exact absurd h36 (by decide)
        · refine J_iconst (v := nI 1) C (dA DX1_hasFishIn_0 19 rfl) (by decide) ?_
          refine J_goto (tgt := 34) C (dA DX1_hasFishIn_0 20 rfl) (by decide) ?_
          refine J_ist_3_4 C (dA DX1_hasFishIn_0 22 rfl) ho ?_
          refine J_iload_n C (dA DX1_hasFishIn_0 23 rfl) rfl ?_
          refine J_if_eq_n (tgt := 53) C (by decide) (dA DX1_hasFishIn_0 24 rfl) (by decide) (fun h36 => ?_) (fun h36 => ?_)
          · exact absurd h36 (by decide)
          · refine J_aload_n C (dA DX1_hasFishIn_0 25 rfl) rfl ?_
            refine G_X1_things C hf wF_RX1_16 (dA DX1_hasFishIn_0 26 rfl) ?_
            refine J_iconst (v := nI 1) C (dA DX1_hasFishIn_0 27 rfl) (by decide) ?_
            first | refine R_fp C hf rfl (by omega) (dA DX1_hasFishIn_0 28 rfl) ?_ | refine R_ft C hf rfl (by omega) (dA DX1_hasFishIn_0 28 rfl) ?_ | refine R_sh C rfl (by omega) (dA DX1_hasFishIn_0 28 rfl) ?_
            refine J_iload_n C (dA DX1_hasFishIn_0 29 rfl) rfl ?_
            first | refine Q_fr C hf hS (by decide) rfl (by omega) (dA DX1_hasFishIn_0 30 rfl) ?_ | refine Q_fk C hf hS (by decide) rfl (by omega) (dA DX1_hasFishIn_0 30 rfl) ?_ | refine R_fs C hf rfl (by omega) (dA DX1_hasFishIn_0 30 rfl) ?_ | refine R_sn C hq rfl (by omega) (dA DX1_hasFishIn_0 30 rfl) ?_ | refine R_1 C (hk := rfl) rfl (by omega) (dA DX1_hasFishIn_0 30 rfl) ?_
            refine J_iload_n C (dA DX1_hasFishIn_0 31 rfl) rfl ?_
            refine J_icmp_ne (tgt := 53) C (dA DX1_hasFishIn_0 32 rfl) (by decide) (fun h48 => ?_) (fun h48 => ?_)
            · first | refine J_inc1_2_4 C (dA DX1_hasFishIn_0 35 rfl) rfl ?_ | refine J_iinc_2_4 C (dA DX1_hasFishIn_0 35 rfl) rfl ?_
              refine J_goto (tgt := 2) C (dA DX1_hasFishIn_0 36 rfl) (by decide) ?_
              refine ih (i + 1) _ rfl (by omega) (fun k hk => ?_)
              by_cases e : k = i
              · subst e; simp only [fishS, h48, decide_false, Bool.and_false]
              · exact hno k (by omega)
            · refine J_iconst (v := nI 1) C (dA DX1_hasFishIn_0 33 rfl) (by decide) ?_
              exact J_zret C G rfl (dA DX1_hasFishIn_0 34 rfl) ⟨oi (bt_t (anyB_yes (k := i) (by omega) (by have hb : bit ((jtV 4).getD 1 0) (f3 (vb (fb f) M) i 0) = true := decide_eq_true h26; simp only [fishS, kindS, hb, h48, decide_true, Bool.and_self]))), rfl⟩
  refine J_iconst (v := nI 0) C (dA DX1_hasFishIn_0 0 rfl) (by decide) ?_
  refine J_ist_2_4 C (dA DX1_hasFishIn_0 1 rfl) rfl ?_
  exact loop _ 0 none rfl (Nat.zero_add _) (fun k hk => by omega)
end FM
