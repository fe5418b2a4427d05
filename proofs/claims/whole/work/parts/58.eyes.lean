theorem nI_neg {m : Nat} (h : 0 < m) : -(nI m) = nI (m - 1) ^^^ (-1) := by
  apply b_ext
  intro i hi
  rw [b_xor, b_m1 i hi]
  have e : (-(nI m)).toBitVec = ~~~ (nI (m - 1)).toBitVec := by
    rw [Int32.toBitVec_neg, BitVec.not_eq_neg_add, show nI m = nI (m - 1) + 1 by rw [nI_1, Nat.sub_add_cancel h], Int32.toBitVec_add, BitVec.neg_add]
    rfl
  unfold bt
  rw [e, BitVec.getLsbD_not]
  simp [hi]
theorem low_1 {P : Nat → Bool} {i : Nat} (hi : i < 16) (hno : ∀ j, j < i → P j = false) (hy : P i = true) : orL 16 P &&& -(orL 16 P) = b1 i := by
  have e := mk_low hi hno hy
  have hp : 0 < 2 ^ i := Nat.pow_pos (by decide)
  have hm : 0 < mk 16 P := by rw [e]; omega
  rw [orL_mk (by decide), nI_neg hm]
  apply b_ext
  intro j hj
  rw [b_and, b_xor, bt_nI hj, bt_nI hj, b_m1 j hj, bt_b1 i (by omega) j hj, e, low_m, low_p]
  by_cases h : j < i + 1
  · rw [if_pos h, if_pos h]
    by_cases h2 : i = j
    · subst h2; simp
    · rw [decide_eq_false h2, decide_eq_false (show ¬ j = i from fun z => h2 z.symm), Bool.false_and]
  · rw [if_neg h, if_neg h, decide_eq_false (show ¬ j = i by omega)]
    simp
/-- weights of a set's members -/
def wsm (w : Nat → Nat) (n : Nat) (P : Nat → Bool) : Nat := match n with
  | 0 => 0
  | n + 1 => (if P n then w n else 0) + wsm w n P
theorem ws_mk (P : Nat → Bool) : ∀ n, mk n P = wsm (fun q => 2 ^ q) n P
  | 0 => rfl
  | n + 1 => by show (if P n = true then 2 ^ n else 0) + mk n P = _; rw [ws_mk P n]; rfl
theorem ws_cnt (P : Nat → Bool) : ∀ n, cnt n P = wsm (fun _ => 1) n P
  | 0 => rfl
  | n + 1 => by show cnt n P + (if P n = true then 1 else 0) = _; rw [ws_cnt P n, Nat.add_comm]; rfl
theorem ws_cong {w : Nat → Nat} {P Q : Nat → Bool} : ∀ {n : Nat}, (∀ k, k < n → P k = Q k) → wsm w n P = wsm w n Q
  | 0, _ => rfl
  | n + 1, h => by
    show (if P n = true then w n else 0) + wsm w n P = (if Q n = true then w n else 0) + wsm w n Q
    rw [ws_cong (fun k hk => h k (by omega)), h n (by omega)]
theorem ws_add {w : Nat → Nat} {P A B : Nat → Bool} : ∀ {n : Nat}, (∀ k, k < n → P k = (A k || B k) ∧ (A k && B k) = false) → wsm w n P = wsm w n A + wsm w n B
  | 0, _ => rfl
  | n + 1, h => by
    have ih := ws_add (w := w) (P := P) (A := A) (B := B) (n := n) (fun k hk => h k (by omega))
    obtain ⟨h1, h2⟩ := h n (by omega)
    show (if P n = true then w n else 0) + wsm w n P = (if A n = true then w n else 0) + wsm w n A + ((if B n = true then w n else 0) + wsm w n B)
    rw [ih, h1]
    cases ha : A n <;> cases hb : B n
    · simp
    · simp; omega
    · simp; omega
    · rw [ha, hb] at h2; exact absurd h2 (by decide)
theorem ws_mem {w : Nat → Nat} {P : Nat → Bool} {a : Nat} (h : P a = true) : ∀ {n : Nat}, a < n → w a ≤ wsm w n P
  | 0, z => by omega
  | n + 1, z => by
    show w a ≤ (if P n = true then w n else 0) + wsm w n P
    by_cases e : a = n
    · subst e; rw [if_pos h]; omega
    · have := ws_mem (w := w) h (n := n) (by omega); omega
theorem ws_none {w : Nat → Nat} {P : Nat → Bool} : ∀ {n : Nat}, (∀ k, k < n → P k = false) → wsm w n P = 0
  | 0, _ => rfl
  | n + 1, h => by
    show (if P n = true then w n else 0) + wsm w n P = 0
    rw [ws_none (fun k hk => h k (by omega)), h n (by omega)]; rfl
theorem ws_one {w : Nat → Nat} {P : Nat → Bool} {a : Nat} : ∀ {n : Nat}, (∀ k, k < n → P k = true → k = a) → wsm w n P ≤ w a
  | 0, _ => Nat.zero_le _
  | n + 1, h => by
    show (if P n = true then w n else 0) + wsm w n P ≤ w a
    by_cases e : P n = true
    · have e2 := h n (by omega) e
      rw [if_pos e, e2, ws_none (fun k hk => by
        cases z : P k with
        | false => rfl
        | true => exact absurd (h k (by omega) z) (by omega))]
      omega
    · rw [if_neg e, Nat.zero_add]; exact ws_one (fun k hk => h k (by omega))
/-- the least pond that shows a pond; whether a pond holds a thing; the eyes -/
def lsS (S : Nat → Int32) (p : Nat) : Nat := firstN 16 (fun q => decide (f6 S q 0 = p))
def flP (S : Nat → Int32) (p : Nat) : Bool := anyB (iN S) (fun k => decide (f3 S k 1 = p))
def eyG (S : Nat → Int32) (q : Nat) : Bool := flP S (f6 S q 0) && decide (lsS S (f6 S q 0) = q)
def eyX (S : Nat → Int32) : Bool := anyB (iN S) (fun k => decide (¬ lsS S (f3 S k 1) < 16))
def feB (S : Nat → Int32) (s : Nat) : Bool := decide (firstN (iN S) (fun k => decide (shwS S (nI (f3 S k 1)) &&& nI s = 0)) = iN S)
def aEyes (S : Nat → Int32) : Int32 := if eyX S = true then fi 3 else orL 16 (eyG S)
def eEyes (S : Nat → Int32) (F : Nat) (M : jM) : jM := if eyX S = true then Fl F 3 M else M
theorem flP_iff {S : Nat → Int32} {p : Nat} : flP S p = true ↔ ∃ k, k < iN S ∧ f3 S k 1 = p := by
  unfold flP
  rw [anyB_iff]
  exact ⟨fun ⟨k, hk, e⟩ => ⟨k, hk, of_decide_eq_true e⟩, fun ⟨k, hk, e⟩ => ⟨k, hk, decide_eq_true e⟩⟩
theorem fill_bit {S : Nat → Int32} (h : IS S) {p : Nat} (hp : p < 16) : bit (fillS S) p = flP S p := by
  have hN := leN h
  unfold fillS flP
  rw [bit_bt (by omega), bt_orV (fun k hk => by have := lt31 h (k := k) (by omega); omega) (by omega)]
  exact anyB_cong (fun k _ => decide_eq_decide.mpr ⟨fun e => e.symm, fun e => e.symm⟩)
theorem nI_orL {s : Nat} (hs : s < 65536) : nI s = orL 16 (fun q => s.testBit q) := b_ext (fun i hi => by
  rw [bt_nI hi, bt_orL (by decide) hi]
  by_cases z : i < 16
  · rw [decide_eq_true z, Bool.true_and]
  · rw [decide_eq_false z, Bool.false_and]
    exact Nat.testBit_lt_two_pow (Nat.lt_of_lt_of_le hs (Nat.pow_le_pow_right (n := 2) (i := 16) (by decide) (by omega))))
theorem mk_tb {s : Nat} (hs : s < 65536) : mk 16 (fun q => s.testBit q) = s := by
  apply Nat.eq_of_testBit_eq
  intro i
  rw [mk_bit]
  by_cases z : i < 16
  · rw [decide_eq_true z, Bool.true_and]
  · rw [decide_eq_false z, Bool.false_and]
    exact (Nat.testBit_lt_two_pow (Nat.lt_of_lt_of_le hs (Nat.pow_le_pow_right (n := 2) (i := 16) (by decide) (by omega)))).symm
theorem shw_and {S : Nat → Int32} (h : IS S) {p s : Nat} (hp : p < 16) (hs : s < 65536) : shwS S (nI p) &&& nI s = 0 ↔ ∀ q, q < 16 → f6 S q 0 = p → s.testBit q = false := by
  rw [nI_orL hs]
  unfold shwS
  rw [orL_and (by decide), orL_z (by decide)]
  constructor
  · intro z q hq e
    have := z q hq
    rw [decide_eq_true (show nI (f6 S q 0) = nI p by rw [e]), Bool.true_and] at this
    exact this
  · intro z q hq
    by_cases e : f6 S q 0 = p
    · rw [z q hq e, Bool.and_false]
    · rw [decide_eq_false (show ¬ nI (f6 S q 0) = nI p from fun y => e ((nI_eq (by have := lt60 h hq; omega) (by omega)).mp y)), Bool.false_and]
theorem fe_iff {S : Nat → Int32} (h : IS S) {s : Nat} (hs : s < 65536) : feB S s = true ↔ ∀ p, flP S p = true → ∃ q, q < 16 ∧ f6 S q 0 = p ∧ s.testBit q = true := by
  have hN := leN h
  unfold feB
  rw [decide_eq_true_iff]
  constructor
  · intro z p hp
    obtain ⟨k, hk, e⟩ := flP_iff.mp hp
    have h31 := lt31 h (k := k) (by omega)
    have := of_decide_eq_false (firstN_out z k hk)
    rw [e, shw_and h (by omega) hs] at this
    refine Classical.byContradiction (fun w => this (fun q hq e2 => ?_))
    cases y : s.testBit q with
    | false => rfl
    | true => exact absurd ⟨q, hq, e2, y⟩ w
  · intro z
    refine firstN_no (fun k hk => decide_eq_false (fun y => ?_))
    have h31 := lt31 h (k := k) (by omega)
    obtain ⟨q, hq, e, hb⟩ := z (f3 S k 1) (flP_iff.mpr ⟨k, hk, rfl⟩)
    rw [(shw_and h h31 hs).mp y q hq e] at hb
    exact absurd hb (by decide)
theorem ls_of {S : Nat → Int32} {p q : Nat} (hq : q < 16) (e : f6 S q 0 = p) : lsS S p ≤ q ∧ lsS S p < 16 ∧ f6 S (lsS S p) 0 = p := by
  have hl : lsS S p < 16 := Classical.byContradiction (fun z => absurd e (of_decide_eq_false (firstN_z z q hq)))
  have h2 := firstN_lt (n := 16) hl
  refine ⟨Classical.byContradiction (fun z => absurd e (of_decide_eq_false (h2.1 q (by show q < lsS S p; omega)))), hl, of_decide_eq_true h2.2⟩
theorem eyG_lt (S : Nat → Int32) : mk 16 (eyG S) < 65536 := mk_lt _ 16
theorem fe_G {S : Nat → Int32} (h : IS S) (hx : eyX S = false) : feB S (mk 16 (eyG S)) = true := by
  refine (fe_iff h (eyG_lt S)).mpr (fun p hp => ?_)
  obtain ⟨k, hk, e⟩ := flP_iff.mp hp
  have hl : lsS S p < 16 := Classical.byContradiction (fun z => by
    have := anyB_yes (n := iN S) (P := fun k => decide (¬ lsS S (f3 S k 1) < 16)) hk (decide_eq_true (by rw [e]; exact z))
    unfold eyX at hx
    rw [hx] at this
    exact absurd this (by decide))
  have h2 : f6 S (lsS S p) 0 = p := of_decide_eq_true (firstN_lt (n := 16) hl).2
  refine ⟨lsS S p, hl, h2, ?_⟩
  rw [mk_bit, decide_eq_true hl, Bool.true_and]
  unfold eyG
  rw [h2, hp, decide_eq_true rfl]
  rfl
theorem fe_X {S : Nat → Int32} (h : IS S) (hx : eyX S = true) {s : Nat} (hs : s < 65536) : feB S s = false := by
  refine Bool.eq_false_iff.mpr (fun z => ?_)
  obtain ⟨k, hk, e⟩ := anyB_iff.mp hx
  obtain ⟨q, hq, e2, _⟩ := (fe_iff h hs).mp z (f3 S k 1) (flP_iff.mpr ⟨k, hk, rfl⟩)
  exact of_decide_eq_true e (ls_of hq e2).2.1
theorem fe_w {S : Nat → Int32} (h : IS S) {s : Nat} (hs : s < 65536) (hf : feB S s = true) {w : Nat → Nat} (hw : ∀ a b, a ≤ b → w a ≤ w b) : wsm w 16 (eyG S) ≤ wsm w 16 (fun q => s.testBit q) := by
  have st : ∀ m, wsm w 16 (fun q => eyG S q && decide (f6 S q 0 < m)) ≤ wsm w 16 (fun q => s.testBit q && decide (f6 S q 0 < m)) := by
    intro m
    induction m with
    | zero => rw [ws_none (P := fun q => eyG S q && decide (f6 S q 0 < 0)) (fun k _ => by simp)]; exact Nat.zero_le _
    | succ m ih =>
      have sp : ∀ P : Nat → Bool, wsm w 16 (fun q => P q && decide (f6 S q 0 < m + 1)) = wsm w 16 (fun q => P q && decide (f6 S q 0 < m)) + wsm w 16 (fun q => P q && decide (f6 S q 0 = m)) := fun P => ws_add (fun k _ => by
        rcases Nat.lt_trichotomy (f6 S k 0) m with z | z | z
        · rw [decide_eq_true z, decide_eq_true (show f6 S k 0 < m + 1 by omega), decide_eq_false (show ¬ f6 S k 0 = m by omega)]; cases P k <;> decide
        · rw [decide_eq_false (show ¬ f6 S k 0 < m by omega), decide_eq_true (show f6 S k 0 < m + 1 by omega), decide_eq_true z]; cases P k <;> decide
        · rw [decide_eq_false (show ¬ f6 S k 0 < m by omega), decide_eq_false (show ¬ f6 S k 0 < m + 1 by omega), decide_eq_false (show ¬ f6 S k 0 = m by omega)]; cases P k <;> decide)
      rw [sp, sp]
      refine Nat.add_le_add ih ?_
      by_cases hfl : flP S m = true
      · obtain ⟨q, hq, e, hb⟩ := (fe_iff h hs).mp hf m hfl
        refine Nat.le_trans (ws_one (a := lsS S m) (fun k _ hk => ?_)) (Nat.le_trans (hw _ _ (ls_of hq e).1) (ws_mem (P := fun q => s.testBit q && decide (f6 S q 0 = m)) (by rw [hb, decide_eq_true e]; rfl) hq))
        obtain ⟨h1, h2⟩ := Bool.and_eq_true_iff.mp hk
        have h2 := of_decide_eq_true h2
        obtain ⟨_, h3⟩ := Bool.and_eq_true_iff.mp h1
        have h3 := of_decide_eq_true h3
        rw [h2] at h3
        exact h3.symm
      · rw [ws_none (P := fun q => eyG S q && decide (f6 S q 0 = m)) (fun k _ => by
          refine Bool.eq_false_iff.mpr (fun hk => hfl ?_)
          obtain ⟨h1, h2⟩ := Bool.and_eq_true_iff.mp hk
          have h2 := of_decide_eq_true h2
          obtain ⟨h3, _⟩ := Bool.and_eq_true_iff.mp h1
          rw [h2] at h3
          exact h3)]
        exact Nat.zero_le _
  have := st 16
  rw [ws_cong (P := fun q => eyG S q && decide (f6 S q 0 < 16)) (Q := eyG S) (fun k hk => by rw [decide_eq_true (lt60 h hk), Bool.and_true]), ws_cong (P := fun q => s.testBit q && decide (f6 S q 0 < 16)) (Q := fun q => s.testBit q) (fun k hk => by rw [decide_eq_true (lt60 h hk), Bool.and_true])] at this
  exact this
theorem fe_min {S : Nat → Int32} (h : IS S) {s : Nat} (hs : s < 65536) (hf : feB S s = true) : mk 16 (eyG S) ≤ s ∧ pcN (mk 16 (eyG S)) ≤ pcN s := by
  have e := mk_tb hs
  constructor
  · have := fe_w h hs hf (w := fun q => 2 ^ q) (fun a b z => Nat.pow_le_pow_right (by decide) z)
    rw [← ws_mk, ← ws_mk, e] at this
    exact this
  · have := fe_w h hs hf (w := fun _ => 1) (fun a b z => Nat.le_refl 1)
    rw [← ws_cnt, ← ws_cnt, ← mk_pc _ 16 (by decide), ← mk_pc _ 16 (by decide), e] at this
    exact this
section PA
variable {M : jM}
set_option maxRecDepth 4000 in
theorem c_J6_low (l : Launch) (E : jE) {P : Nat → Bool} (i : Nat) (hi : i < 16) (hno : ∀ j, j < i → P j = false) (hy : P i = true)  : K_J6_lowestOneBit_0f7a4 l E [.int (orL 16 P)] M (b1 i) (M) := by
  refine CT_intro (own := RJ6) (by decide +kernel) rfl (by simp [Value.category]) (Nat.le_of_ble_eq_true rfl) rfl (fun X C G => ?_)
  show J E X 0 [some (.int (orL 16 P))] [] M
  refine J_iload_n C (dA DJ6_lowestOneBit_0f7a4_0 0 rfl) rfl ?_
  refine J_iload_n C (dA DJ6_lowestOneBit_0f7a4_0 1 rfl) rfl ?_
  refine J_ineg C (dA DJ6_lowestOneBit_0f7a4_0 2 rfl) ?_
  refine J_iand C (dA DJ6_lowestOneBit_0f7a4_0 3 rfl) ?_
  exact J_iret C G (dA DJ6_lowestOneBit_0f7a4_0 4 rfl) ⟨oi (low_1 hi hno hy), rfl⟩
end PA
