theorem nv_nI {n : Nat} (h : n < 2 ^ 31) : nv (nI n) = n := nI_clamp h
theorem upd_lay {b j : Nat} {M : jM} {T : Nat → Int32} {x : Int32} (hT : Can T) (h : j < 134) : upd (lay b M T) (b + j) x = lay b M (upd T j x) := by
  rw [lay_upd h, vb_lay hT, lay_lay]
theorem mx3_lt {w : Nat} : mx3 w < 100 := by
  unfold mx3; rcases w with _ | _ | _ | w <;> simp
theorem mx6_lt {w : Nat} : mx6 w < 100 := by
  unfold mx6; rcases w with _ | _ | _ | _ | _ | _ | w <;> simp
theorem IS_u3 {S : Nat → Int32} {k w v : Nat} (h : IS S) (hk : k < 8) (hw : w < 3) (hv : v ≤ mx3 w) : IS (upd S (100 + 3 * k + w) (nI v)) := by
  have hv2 := mx3_lt (w := w)
  obtain ⟨h0, h1, h2, h3, h4, h5, h6, h7⟩ := h
  have e6 : ∀ p, p < 16 → ∀ w', w' < 6 → f6 (upd S (100 + 3 * k + w) (nI v)) p w' = f6 S p w' := fun p hp w' hw' => by unfold f6; rw [pk_un (by omega)]
  refine ⟨Can_upd h0 (by omega), fun p hp w' hw' => ?_, fun p hp => ?_, fun k' hk' w' hw' => ?_, ?_, ?_, ?_, fun j hj => ?_⟩
  · rw [e6 p hp w' hw', pk_un (by omega)]; exact h1 p hp w' hw'
  · rw [e6 p hp 0 (by omega), e6 p hp 1 (by omega)]; exact h2 p hp
  · by_cases e : k' = k ∧ w' = w
    · obtain ⟨rfl, rfl⟩ := e
      have : f3 (upd S (100 + 3 * k' + w') (nI v)) k' w' = v := by unfold f3; rw [pk_us, nv_nI (by omega)]
      rw [this, pk_us]; exact ⟨rfl, hv⟩
    · have : f3 (upd S (100 + 3 * k + w) (nI v)) k' w' = f3 S k' w' := by unfold f3; rw [pk_un (by omega)]
      rw [this, pk_un (by omega)]; exact h3 k' hk' w' hw'
  · unfold iM; rw [pk_un (by omega)]; exact h4
  · unfold iN; rw [pk_un (by omega)]; exact h5
  · unfold iR; rw [pk_un (by omega)]; exact h6
  · unfold iN; rw [pk_un (by omega), pk_un (by omega)]; exact h7 j hj
theorem IS_u6 {S : Nat → Int32} {p w v : Nat} (h : IS S) (hp : p < 16) (hw : w < 6) (hv : v ≤ mx6 w) (hz : w = 0 → v ≠ p) (ho : w = 1 → 1 ≤ v) : IS (upd S (4 + 6 * p + w) (nI v)) := by
  have hv2 := mx6_lt (w := w)
  obtain ⟨h0, h1, h2, h3, h4, h5, h6, h7⟩ := h
  have e3 : ∀ k, k < 8 → ∀ w', w' < 3 → f3 (upd S (4 + 6 * p + w) (nI v)) k w' = f3 S k w' := fun k hk w' hw' => by unfold f3; rw [pk_un (by omega)]
  have es : f6 (upd S (4 + 6 * p + w) (nI v)) p w = v := by unfold f6; rw [pk_us, nv_nI (by omega)]
  have en : ∀ p' w', p' < 16 → w' < 6 → ¬ (p' = p ∧ w' = w) → f6 (upd S (4 + 6 * p + w) (nI v)) p' w' = f6 S p' w' := fun p' w' hp' hw' e => by unfold f6; rw [pk_un (by omega)]
  refine ⟨Can_upd h0 (by omega), fun p' hp' w' hw' => ?_, fun p' hp' => ?_, fun k hk w' hw' => ?_, ?_, ?_, ?_, fun j hj => ?_⟩
  · by_cases e : p' = p ∧ w' = w
    · obtain ⟨rfl, rfl⟩ := e
      rw [es, pk_us]; exact ⟨rfl, hv⟩
    · rw [en p' w' hp' hw' e, pk_un (by omega)]; exact h1 p' hp' w' hw'
  · constructor
    · by_cases e : p' = p ∧ 0 = w
      · obtain ⟨rfl, rfl⟩ := e
        rw [es]; exact hz rfl
      · rw [en p' 0 hp' (by omega) e]; exact (h2 p' hp').1
    · by_cases e : p' = p ∧ 1 = w
      · obtain ⟨rfl, rfl⟩ := e
        rw [es]; exact ho rfl
      · rw [en p' 1 hp' (by omega) e]; exact (h2 p' hp').2
  · rw [e3 k hk w' hw', pk_un (by omega)]; exact h3 k hk w' hw'
  · unfold iM; rw [pk_un (by omega)]; exact h4
  · unfold iN; rw [pk_un (by omega)]; exact h5
  · unfold iR; rw [pk_un (by omega)]; exact h6
  · unfold iN; rw [pk_un (by omega), pk_un (by omega)]; exact h7 j hj
theorem IS_lo {S : Nat → Int32} {j : Nat} {x : Int32} (h : IS S) (hj : j < 4) (h0' : j = 0 → x = nI (nv x) ∧ nv x ≤ 99999) (h1' : j = 1 → x = nI (nv x) ∧ nv x ≤ 8 ∧ iN S ≤ nv x) (h3' : j = 3 → x = nI (nv x) ∧ nv x ≤ 1) : IS (upd S j x) := by
  obtain ⟨h0, h1, h2, h3, h4, h5, h6, h7⟩ := h
  have e6 : ∀ p, p < 16 → ∀ w', w' < 6 → f6 (upd S j x) p w' = f6 S p w' := fun p hp w' hw' => by unfold f6; rw [pk_un (by omega)]
  have e3 : ∀ k, k < 8 → ∀ w', w' < 3 → f3 (upd S j x) k w' = f3 S k w' := fun k hk w' hw' => by unfold f3; rw [pk_un (by omega)]
  refine ⟨Can_upd h0 (by omega), fun p hp w' hw' => ?_, fun p hp => ?_, fun k' hk' w' hw' => ?_, ?_, ?_, ?_, fun i hi => ?_⟩
  · rw [e6 p hp w' hw', pk_un (by omega)]; exact h1 p hp w' hw'
  · rw [e6 p hp 0 (by omega), e6 p hp 1 (by omega)]; exact h2 p hp
  · rw [e3 k' hk' w' hw', pk_un (by omega)]; exact h3 k' hk' w' hw'
  · unfold iM
    by_cases e : j = 0
    · subst e; rw [pk_us]; exact h0' rfl
    · rw [pk_un (by omega)]; exact h4
  · unfold iN
    by_cases e : j = 1
    · subst e; rw [pk_us]; exact ⟨(h1' rfl).1, (h1' rfl).2.1⟩
    · rw [pk_un (by omega)]; exact h5
  · unfold iR
    by_cases e : j = 3
    · subst e; rw [pk_us]; exact h3' rfl
    · rw [pk_un (by omega)]; exact h6
  · rw [pk_un (by omega)]
    rcases h7 i hi with h | ⟨t, ht, h⟩
    · exact Or.inl h
    · refine Or.inr ⟨t, ?_, h⟩
      unfold iN
      by_cases e : j = 1
      · subst e; rw [pk_us]; exact Nat.lt_of_lt_of_le ht (h1' rfl).2.2
      · rw [pk_un (by omega)]; exact ht
theorem IS_sp {S : Nat → Int32} {j : Nat} {x : Int32} (h : IS S) (hj : j < 10) (hx : x = -1 ∨ ∃ t, t < iN S ∧ x = nI t) : IS (upd S (124 + j) x) := by
  obtain ⟨h0, h1, h2, h3, h4, h5, h6, h7⟩ := h
  have e6 : ∀ p, p < 16 → ∀ w', w' < 6 → f6 (upd S (124 + j) x) p w' = f6 S p w' := fun p hp w' hw' => by unfold f6; rw [pk_un (by omega)]
  have e3 : ∀ k, k < 8 → ∀ w', w' < 3 → f3 (upd S (124 + j) x) k w' = f3 S k w' := fun k hk w' hw' => by unfold f3; rw [pk_un (by omega)]
  have e1 : iN (upd S (124 + j) x) = iN S := by unfold iN; rw [pk_un (by omega)]
  refine ⟨Can_upd h0 (by omega), fun p hp w' hw' => ?_, fun p hp => ?_, fun k' hk' w' hw' => ?_, ?_, ?_, ?_, fun i hi => ?_⟩
  · rw [e6 p hp w' hw', pk_un (by omega)]; exact h1 p hp w' hw'
  · rw [e6 p hp 0 (by omega), e6 p hp 1 (by omega)]; exact h2 p hp
  · rw [e3 k' hk' w' hw', pk_un (by omega)]; exact h3 k' hk' w' hw'
  · unfold iM; rw [pk_un (by omega)]; exact h4
  · unfold iN; rw [pk_un (by omega)]; exact h5
  · unfold iR; rw [pk_un (by omega)]; exact h6
  · rw [e1]
    by_cases e : i = j
    · subst e; rw [pk_us]; exact hx
    · rw [pk_un (by omega)]; exact h7 i hi
theorem IS_mv {S : Nat → Int32} (h : IS S) : ∀ k, k ≤ 8 → IS (moveS S k) ∧ iN (moveS S k) = iN S ∧ iM (moveS S k) = iM S
  | 0, _ => ⟨h, rfl, rfl⟩
  | k + 1, hk => by
    obtain ⟨g1, g2, g3⟩ := IS_mv h k (by omega)
    have hn := nxt_lt (moveS S k) k
    refine ⟨IS_u3 g1 (by omega) (by omega) (by show _ ≤ 15; omega), ?_, ?_⟩
    · rw [← g2]; show nv (upd (moveS S k) _ _ 1) = _; rw [pk_un (by omega)]; rfl
    · rw [← g3]; show nv (upd (moveS S k) _ _ 0) = _; rw [pk_un (by omega)]; rfl
theorem IS_min {S : Nat → Int32} (h : IS S) : IS (minS S) := by
  have hN := leN h
  refine IS_lo (IS_mv h _ hN).1 (by omega) (fun _ => ?_) (fun z => by omega) (fun z => by omega)
  have : min (iM S + 1) 99999 ≤ 99999 := Nat.min_le_right _ _
  rw [nv_nI (by omega)]
  exact ⟨rfl, this⟩
theorem iN_min {S : Nat → Int32} (h : IS S) : iN (minS S) = iN S := by
  rw [← (IS_mv h _ (leN h)).2.1]; show nv (upd _ 0 _ 1) = _; rw [pk_un (by omega)]; rfl
/-- n minutes -/
def minsS (S : Nat → Int32) : Nat → (Nat → Int32)
  | 0 => S
  | n + 1 => minS (minsS S n)
theorem IS_mins {S : Nat → Int32} (h : IS S) : ∀ n, IS (minsS S n) ∧ iN (minsS S n) = iN S
  | 0 => ⟨h, rfl⟩
  | n + 1 => ⟨IS_min (IS_mins h n).1, (iN_min (IS_mins h n).1).trans (IS_mins h n).2⟩
def itr (S : Nat → Int32) : Nat → Nat → Nat
  | 0, p => p
  | n + 1, p => f6 S (itr S n p) 0
theorem itr_lt {S : Nat → Int32} (h : IS S) : ∀ n {p : Nat}, p < 16 → itr S n p < 16
  | 0, _, hp => hp
  | n + 1, _, hp => lt60 h (itr_lt h n hp)
def cmS (S : Nat → Int32) (a p : Nat) : Bool := anyB 17 (fun i => decide (itr S i a = p))
def rlS (S : Nat → Int32) (p : Nat) : Nat := if firstN 16 (fun i => decide (itr S (i + 1) p = p)) < 16 then firstN 16 (fun i => decide (itr S (i + 1) p = p)) + 1 else 0
def llS (S : Nat → Int32) (p : Nat) : Bool := decide (0 < rlS S p) && !(anyB (rlS S p - 1) (fun i => decide (itr S (i + 1) p < p)))
def drZ (z : Int32) : Int32 := z * nI 1103515245 + nI 12345
def drV (z : Int32) : Nat := (drZ z).toBitVec.toNat / 256
theorem drV_lt (z : Int32) : drV z < 2 ^ 24 := by
  unfold drV
  have := (drZ z).toBitVec.isLt
  omega
theorem drV_eq (z : Int32) : ((drZ z).toUInt32 >>> ((nI 8).toUInt32 &&& Int32.toUInt32 31)).toInt32 = nI (drV z) := by
  have h := pk_ushr (drZ z) (nI 8) 8 (by decide)
  apply Int32.toBitVec_inj.mp
  apply BitVec.eq_of_toNat_eq
  have hl := drV_lt z
  rw [h, pk_tn (n := drV z) (by omega)]
  rfl
section FM
variable {M : jM}
set_option maxRecDepth 4000 in
theorem c_X1_isOfKind (l : Launch) (E : jE) (f : Nat) (hf : f < 3) (t kd : Nat) (ht : t < iN (vb (fb f) M)) (hk : kd < 7) (hS : IS (vb (fb f) M))  : K_X1_isOfKind l E [.ref (ja E (fo f)), .int (nI t), .int (nI kd)] M (jb (kindS kd (f3 (vb (fb f) M) t 0))) (M) := by
  refine CT_intro (own := RX1) (by decide +kernel) rfl (by simp [Value.category]) (Nat.le_of_ble_eq_true rfl) rfl (fun X C G => ?_)
  show J E X 0 [some (.ref (ja E (fo f))), some (.int (nI t)), some (.int (nI kd))] [] M
  have h30 := lt30 hS (k := t) (by have := leN hS; omega)
  refine J_getsN C (k := 4) (by decide) (by decide +kernel) (dA DX1_isOfKind_0 0 rfl) ?_
  refine J_iload_n C (dA DX1_isOfKind_0 1 rfl) rfl ?_
  refine J_tab C (k := 4) (j := kd) (by decide) rfl (by simpa [jtV] using hk) (dA DX1_isOfKind_0 2 rfl) ?_
  refine J_aload_n C (dA DX1_isOfKind_0 3 rfl) rfl ?_
  refine G_X1_things C hf wF_RX1_16 (dA DX1_isOfKind_0 4 rfl) ?_
  refine J_iconst (v := nI 0) C (dA DX1_isOfKind_0 5 rfl) (by decide) ?_
  first | refine R_fp C hf rfl (by omega) (dA DX1_isOfKind_0 6 rfl) ?_ | refine R_ft C hf rfl (by omega) (dA DX1_isOfKind_0 6 rfl) ?_ | refine R_sh C rfl (by omega) (dA DX1_isOfKind_0 6 rfl) ?_
  refine J_iload_n C (dA DX1_isOfKind_0 7 rfl) rfl ?_
  refine Q_fk C hf hS (by decide) rfl (by have := leN hS; omega) (dA DX1_isOfKind_0 8 rfl) ?_
  refine J_ishr C (dA DX1_isOfKind_0 9 rfl) ?_
  refine J_iconst (v := nI 1) C (dA DX1_isOfKind_0 10 rfl) (by decide) ?_
  refine J_iand C (dA DX1_isOfKind_0 11 rfl) ?_
  refine J_if_eq (tgt := 23) C (dA DX1_isOfKind_0 12 rfl) (by decide) (fun h16 => ?_) (fun h16 => ?_)
  · refine J_iconst (v := nI 0) C (dA DX1_isOfKind_0 15 rfl) (by decide) ?_
    exact J_zret C G rfl (dA DX1_isOfKind_0 16 rfl) ⟨oi (bt_f (decide_eq_false (fun z => z h16))), rfl⟩
  · refine J_iconst (v := nI 1) C (dA DX1_isOfKind_0 13 rfl) (by decide) ?_
    refine J_goto (tgt := 24) C (dA DX1_isOfKind_0 14 rfl) (by decide) ?_
    exact J_zret C G rfl (dA DX1_isOfKind_0 16 rfl) ⟨oi (bt_t (decide_eq_true h16)), rfl⟩
set_option maxRecDepth 4000 in
theorem c_X1_nextOfHeron (l : Launch) (E : jE) (f : Nat) (hf : f < 3) (p : Nat) (hp : p < 16) (hS : IS (vb (fb f) M))  : K_X1_nextOfHeron l E [.ref (ja E (fo f)), .int (nI p)] M (nI (heronS (vb (fb f) M) p)) (M) := by
  refine CT_intro (own := RX1) (by decide +kernel) rfl (by simp [Value.category]) (Nat.le_of_ble_eq_true rfl) rfl (fun X C G => ?_)
  show J E X 0 [some (.ref (ja E (fo f))), some (.int (nI p)), none] [] M
  have loop : ∀ n i, i + n = 16 → (∀ k, k < i → (fun q => decide (f6 (vb (fb f) M) q 0 = p)) k = false) → J E X 2 [some (.ref (ja E (fo f))), some (.int (nI p)), some (.int (nI i))] [] M := by
    intro n
    induction n with
    | zero =>
      intro i hi hno
      refine J_iload_n C (dA DX1_nextOfHeron_0 2 rfl) rfl ?_
      refine J_bipush (v := nI 16) C (dA DX1_nextOfHeron_0 3 rfl) (by decide) ?_
      first | refine J_icmp_ge_n (tgt := 44) C (by omega) (by omega) (dA DX1_nextOfHeron_0 4 rfl) (by decide) (fun h5 => ?_) (fun h5 => ?_) | refine J_icmp_ge_c (tgt := 44) C (by omega) (dA DX1_nextOfHeron_0 4 rfl) (by decide) (fun h5 => ?_) (fun h5 => ?_) | refine J_icmp_ge_t (tgt := 44) C (dA DX1_nextOfHeron_0 4 rfl) (by decide) (fun h5 => ?_) (fun h5 => ?_)
      · refine J_aload_n C (dA DX1_nextOfHeron_0 25 rfl) rfl ?_
        refine J_iload_n C (dA DX1_nextOfHeron_0 26 rfl) rfl ?_
        refine V_X1_nextOfFrog C hf (c_X1_nextOfFrog l E f hf p hp hS) wM_RX1_63 (by decide) (dA DX1_nextOfHeron_0 27 rfl) rfl (Nat.le_of_ble_eq_true rfl) ?_
        exact J_iret C G (dA DX1_nextOfHeron_0 28 rfl) ⟨oi (by unfold heronS; rw [firstN_no (n := 16) (fun k hk => hno k (by omega)), if_neg (by omega)]), rfl⟩
      · exfalso; omega
    | succ n ih =>
      intro i hi hno
      refine J_iload_n C (dA DX1_nextOfHeron_0 2 rfl) rfl ?_
      refine J_bipush (v := nI 16) C (dA DX1_nextOfHeron_0 3 rfl) (by decide) ?_
      first | refine J_icmp_ge_n (tgt := 44) C (by omega) (by omega) (dA DX1_nextOfHeron_0 4 rfl) (by decide) (fun h5 => ?_) (fun h5 => ?_) | refine J_icmp_ge_c (tgt := 44) C (by omega) (dA DX1_nextOfHeron_0 4 rfl) (by decide) (fun h5 => ?_) (fun h5 => ?_) | refine J_icmp_ge_t (tgt := 44) C (dA DX1_nextOfHeron_0 4 rfl) (by decide) (fun h5 => ?_) (fun h5 => ?_)
      · exfalso; omega
      · refine J_aload_n C (dA DX1_nextOfHeron_0 5 rfl) rfl ?_
        refine G_X1_ponds C hf wF_RX1_11 (dA DX1_nextOfHeron_0 6 rfl) ?_
        refine J_iconst (v := nI 0) C (dA DX1_nextOfHeron_0 7 rfl) (by decide) ?_
        first | refine R_fp C hf rfl (by omega) (dA DX1_nextOfHeron_0 8 rfl) ?_ | refine R_ft C hf rfl (by omega) (dA DX1_nextOfHeron_0 8 rfl) ?_ | refine R_sh C rfl (by omega) (dA DX1_nextOfHeron_0 8 rfl) ?_
        refine J_iload_n C (dA DX1_nextOfHeron_0 9 rfl) rfl ?_
        first | refine Q_fr C hf hS (by decide) rfl (by omega) (dA DX1_nextOfHeron_0 10 rfl) ?_ | refine Q_fk C hf hS (by decide) rfl (by omega) (dA DX1_nextOfHeron_0 10 rfl) ?_ | refine R_fs C hf rfl (by omega) (dA DX1_nextOfHeron_0 10 rfl) ?_ | refine R_sn C hq rfl (by omega) (dA DX1_nextOfHeron_0 10 rfl) ?_ | refine R_1 C (hk := rfl) rfl (by omega) (dA DX1_nextOfHeron_0 10 rfl) ?_
        refine J_iload_n C (dA DX1_nextOfHeron_0 11 rfl) rfl ?_
        have hs := lt60 hS (p := i) (by omega)
        first | refine J_icmp_ne_n (tgt := 38) C (by omega) (by omega) (dA DX1_nextOfHeron_0 12 rfl) (by decide) (fun h17 => ?_) (fun h17 => ?_) | refine J_icmp_ne_c (tgt := 38) C (by omega) (dA DX1_nextOfHeron_0 12 rfl) (by decide) (fun h17 => ?_) (fun h17 => ?_) | refine J_icmp_ne_t (tgt := 38) C (dA DX1_nextOfHeron_0 12 rfl) (by decide) (fun h17 => ?_) (fun h17 => ?_)
        · first | refine J_inc1_2_3 C (dA DX1_nextOfHeron_0 23 rfl) rfl ?_ | refine J_iinc_2_3 C (dA DX1_nextOfHeron_0 23 rfl) rfl ?_
          refine J_goto (tgt := 2) C (dA DX1_nextOfHeron_0 24 rfl) (by decide) ?_
          refine ih (i + 1) (by omega) (fun k hk => ?_)
          by_cases e : k = i
          · subst e; simp [h17]
          · exact hno k (by omega)
        · refine J_aload_n C (dA DX1_nextOfHeron_0 13 rfl) rfl ?_
          refine J_iload_n C (dA DX1_nextOfHeron_0 14 rfl) rfl ?_
          refine V_X1_hasFishIn C hf (c_X1_hasFishIn l E f hf _ hS) wM_RX1_72 (by decide) (dA DX1_nextOfHeron_0 15 rfl) rfl (Nat.le_of_ble_eq_true rfl) ?_
          first | refine J_if_eq_b (tgt := 32) C (dA DX1_nextOfHeron_0 16 rfl) (by decide) (fun h25 => ?_) (fun h25 => ?_) | refine J_if_eq_n (tgt := 32) C (by omega) (dA DX1_nextOfHeron_0 16 rfl) (by decide) (fun h25 => ?_) (fun h25 => ?_) | refine J_if_eq_t (tgt := 32) C (dA DX1_nextOfHeron_0 16 rfl) (by decide) (fun h25 => ?_) (fun h25 => ?_)
          · refine J_aload_n C (dA DX1_nextOfHeron_0 19 rfl) rfl ?_
            refine J_iload_n C (dA DX1_nextOfHeron_0 20 rfl) rfl ?_
            refine V_X1_nextOfFrog C hf (c_X1_nextOfFrog l E f hf p hp hS) wM_RX1_63 (by decide) (dA DX1_nextOfHeron_0 21 rfl) rfl (Nat.le_of_ble_eq_true rfl) ?_
            have e : firstN 16 (fun q => decide (f6 (vb (fb f) M) q 0 = p)) = i := firstN_eq (by omega) hno (by simp [h17])
            exact J_iret C G (dA DX1_nextOfHeron_0 22 rfl) ⟨oi (by unfold heronS; rw [e, if_pos (by omega), h25]; rfl), rfl⟩
          · refine J_iload_n C (dA DX1_nextOfHeron_0 17 rfl) rfl ?_
            refine J_goto (tgt := 37) C (dA DX1_nextOfHeron_0 18 rfl) (by decide) ?_
            have e : firstN 16 (fun q => decide (f6 (vb (fb f) M) q 0 = p)) = i := firstN_eq (by omega) hno (by simp [h17])
            exact J_iret C G (dA DX1_nextOfHeron_0 22 rfl) ⟨oi (by unfold heronS; rw [e, if_pos (by omega), h25]; rfl), rfl⟩
  refine J_iconst (v := nI 0) C (dA DX1_nextOfHeron_0 0 rfl) (by decide) ?_
  refine J_ist_2_3 C (dA DX1_nextOfHeron_0 1 rfl) rfl ?_
  exact loop _ 0 (Nat.zero_add _) (fun k hk => by omega)
set_option maxRecDepth 4000 in
theorem c_X1_nextOfPike (l : Launch) (E : jE) (f : Nat) (hf : f < 3) (p : Nat) (hp : p < 16) (hS : IS (vb (fb f) M))  : K_X1_nextOfPike l E [.ref (ja E (fo f)), .int (nI p)] M (nI (pikeS (vb (fb f) M) p)) (M) := by
  refine CT_intro (own := RX1) (by decide +kernel) rfl (by simp [Value.category]) (Nat.le_of_ble_eq_true rfl) rfl (fun X C G => ?_)
  show J E X 0 [some (.ref (ja E (fo f))), some (.int (nI p)), none] [] M
  have hs := lt60 hS hp
  refine J_aload_n C (dA DX1_nextOfPike_0 0 rfl) rfl ?_
  refine G_X1_ponds C hf wF_RX1_11 (dA DX1_nextOfPike_0 1 rfl) ?_
  refine J_iconst (v := nI 0) C (dA DX1_nextOfPike_0 2 rfl) (by decide) ?_
  first | refine R_fp C hf rfl (by omega) (dA DX1_nextOfPike_0 3 rfl) ?_ | refine R_ft C hf rfl (by omega) (dA DX1_nextOfPike_0 3 rfl) ?_ | refine R_sh C rfl (by omega) (dA DX1_nextOfPike_0 3 rfl) ?_
  refine J_iload_n C (dA DX1_nextOfPike_0 4 rfl) rfl ?_
  first | refine Q_fr C hf hS (by decide) rfl (by omega) (dA DX1_nextOfPike_0 5 rfl) ?_ | refine Q_fk C hf hS (by decide) rfl (by omega) (dA DX1_nextOfPike_0 5 rfl) ?_ | refine R_fs C hf rfl (by omega) (dA DX1_nextOfPike_0 5 rfl) ?_ | refine R_sn C hq rfl (by omega) (dA DX1_nextOfPike_0 5 rfl) ?_ | refine R_1 C (hk := rfl) rfl (by omega) (dA DX1_nextOfPike_0 5 rfl) ?_
  refine J_ist_2_3 C (dA DX1_nextOfPike_0 6 rfl) rfl ?_
  refine J_aload_n C (dA DX1_nextOfPike_0 7 rfl) rfl ?_
  refine J_iload_n C (dA DX1_nextOfPike_0 8 rfl) rfl ?_
  refine V_X1_hasFishIn C hf (c_X1_hasFishIn l E f hf _ hS) wM_RX1_72 (by decide) (dA DX1_nextOfPike_0 9 rfl) rfl (Nat.le_of_ble_eq_true rfl) ?_
  first | refine J_if_eq_b (tgt := 21) C (dA DX1_nextOfPike_0 10 rfl) (by decide) (fun h14 => ?_) (fun h14 => ?_) | refine J_if_eq_n (tgt := 21) C (by omega) (dA DX1_nextOfPike_0 10 rfl) (by decide) (fun h14 => ?_) (fun h14 => ?_) | refine J_if_eq_t (tgt := 21) C (dA DX1_nextOfPike_0 10 rfl) (by decide) (fun h14 => ?_) (fun h14 => ?_)
  · refine J_aload_n C (dA DX1_nextOfPike_0 13 rfl) rfl ?_
    refine G_X1_ponds C hf wF_RX1_11 (dA DX1_nextOfPike_0 14 rfl) ?_
    refine J_iconst (v := nI 4) C (dA DX1_nextOfPike_0 15 rfl) (by decide) ?_
    first | refine R_fp C hf rfl (by omega) (dA DX1_nextOfPike_0 16 rfl) ?_ | refine R_ft C hf rfl (by omega) (dA DX1_nextOfPike_0 16 rfl) ?_ | refine R_sh C rfl (by omega) (dA DX1_nextOfPike_0 16 rfl) ?_
    refine J_iload_n C (dA DX1_nextOfPike_0 17 rfl) rfl ?_
    first | refine Q_fr C hf hS (by decide) rfl (by omega) (dA DX1_nextOfPike_0 18 rfl) ?_ | refine Q_fk C hf hS (by decide) rfl (by omega) (dA DX1_nextOfPike_0 18 rfl) ?_ | refine R_fs C hf rfl (by omega) (dA DX1_nextOfPike_0 18 rfl) ?_ | refine R_sn C hq rfl (by omega) (dA DX1_nextOfPike_0 18 rfl) ?_ | refine R_1 C (hk := rfl) rfl (by omega) (dA DX1_nextOfPike_0 18 rfl) ?_
    exact J_iret C G (dA DX1_nextOfPike_0 19 rfl) ⟨oi (by unfold pikeS; rw [h14]; rfl), rfl⟩
  · refine J_iload_n C (dA DX1_nextOfPike_0 11 rfl) rfl ?_
    refine J_goto (tgt := 29) C (dA DX1_nextOfPike_0 12 rfl) (by decide) ?_
    exact J_iret C G (dA DX1_nextOfPike_0 19 rfl) ⟨oi (by unfold pikeS; rw [h14]; rfl), rfl⟩
set_option maxRecDepth 4000 in
theorem c_X1_nextPond (l : Launch) (E : jE) (f : Nat) (hf : f < 3) (t : Nat) (ht : t < iN (vb (fb f) M)) (hS : IS (vb (fb f) M))  : K_X1_nextPond l E [.ref (ja E (fo f)), .int (nI t)] M (nI (nxtS (vb (fb f) M) t)) (M) := by
  refine CT_intro (own := RX1) (by decide +kernel) rfl (by simp [Value.category]) (Nat.le_of_ble_eq_true rfl) rfl (fun X C G => ?_)
  show J E X 0 [some (.ref (ja E (fo f))), some (.int (nI t)), none, none] [] M
  have hN := leN hS
  have ht8 : t < 8 := by omega
  have hR := leR hS
  have h30 := lt30 hS ht8
  have h31 := lt31 hS ht8
  have h32 := le3 hS ht8 (w := 2) (by decide)
  have e32 : mx3 2 = 99 := rfl
  have h60 := lt60 hS h31
  have h64 := lt64 hS h31
  have h65 := le6 hS h31 (w := 5) (by decide)
  have e65 : mx6 5 = 99 := rfl
  have hfr := frog_lt hS h31
  have hhe := heron_lt hS h31
  have hpi := pike_lt hS h31
  refine J_aload_n C (dA DX1_nextPond_0 0 rfl) rfl ?_
  refine G_X1_things C hf wF_RX1_16 (dA DX1_nextPond_0 1 rfl) ?_
  refine J_iconst (v := nI 1) C (dA DX1_nextPond_0 2 rfl) (by decide) ?_
  first | refine R_fp C hf rfl (by omega) (dA DX1_nextPond_0 3 rfl) ?_ | refine R_ft C hf rfl (by omega) (dA DX1_nextPond_0 3 rfl) ?_ | refine R_sh C rfl (by omega) (dA DX1_nextPond_0 3 rfl) ?_
  refine J_iload_n C (dA DX1_nextPond_0 4 rfl) rfl ?_
  first | refine Q_fr C hf hS (by decide) rfl (by omega) (dA DX1_nextPond_0 5 rfl) ?_ | refine Q_fk C hf hS (by decide) rfl (by omega) (dA DX1_nextPond_0 5 rfl) ?_ | refine R_fs C hf rfl (by omega) (dA DX1_nextPond_0 5 rfl) ?_ | refine R_sn C hq rfl (by omega) (dA DX1_nextPond_0 5 rfl) ?_ | refine R_1 C (hk := rfl) rfl (by omega) (dA DX1_nextPond_0 5 rfl) ?_
  refine J_ist_2_4 C (dA DX1_nextPond_0 6 rfl) rfl ?_
  refine J_iload_n C (dA DX1_nextPond_0 7 rfl) rfl ?_
  refine J_ist_3_4 C (dA DX1_nextPond_0 8 rfl) rfl ?_
  refine J_aload_n C (dA DX1_nextPond_0 9 rfl) rfl ?_
  refine G_X1_things C hf wF_RX1_16 (dA DX1_nextPond_0 10 rfl) ?_
  refine J_iconst (v := nI 0) C (dA DX1_nextPond_0 11 rfl) (by decide) ?_
  first | refine R_fp C hf rfl (by omega) (dA DX1_nextPond_0 12 rfl) ?_ | refine R_ft C hf rfl (by omega) (dA DX1_nextPond_0 12 rfl) ?_ | refine R_sh C rfl (by omega) (dA DX1_nextPond_0 12 rfl) ?_
  refine J_iload_n C (dA DX1_nextPond_0 13 rfl) rfl ?_
  first | refine Q_fr C hf hS (by decide) rfl (by omega) (dA DX1_nextPond_0 14 rfl) ?_ | refine Q_fk C hf hS (by decide) rfl (by omega) (dA DX1_nextPond_0 14 rfl) ?_ | refine R_fs C hf rfl (by omega) (dA DX1_nextPond_0 14 rfl) ?_ | refine R_sn C hq rfl (by omega) (dA DX1_nextPond_0 14 rfl) ?_ | refine R_1 C (hk := rfl) rfl (by omega) (dA DX1_nextPond_0 14 rfl) ?_
  rcases (show f3 (vb (fb f) M) t 0 = 0 ∨ f3 (vb (fb f) M) t 0 = 1 ∨ f3 (vb (fb f) M) t 0 = 2 ∨ f3 (vb (fb f) M) t 0 = 3 ∨ f3 (vb (fb f) M) t 0 = 4 ∨ f3 (vb (fb f) M) t 0 = 5 ∨ f3 (vb (fb f) M) t 0 = 6 by omega) with e | e | e | e | e | e | e
  · refine J_tabOut C (dA DX1_nextPond_0 15 rfl) (Or.inl (by rw [e]; decide)) (tgt := 142) (by decide) ?_
    refine J_iload_n C (dA DX1_nextPond_0 70 rfl) rfl ?_
    refine J_aload_n C (dA DX1_nextPond_0 71 rfl) rfl ?_
    refine H_X1_rain C hf hS wF_RX1_27 (dA DX1_nextPond_0 72 rfl) ?_
    first | refine J_iadd_n C (dA DX1_nextPond_0 73 rfl) ?_ | refine J_iadd C (dA DX1_nextPond_0 73 rfl) ?_
    refine J_bipush (v := nI 16) C (dA DX1_nextPond_0 74 rfl) (by decide) ?_
    refine J_irem_n C (by omega) (by omega) (by omega) (dA DX1_nextPond_0 75 rfl) ?_
    exact J_iret C G (dA DX1_nextPond_0 76 rfl) ⟨oi (by unfold nxtS dryS; rw [e]; rfl), rfl⟩
  · refine J_tabIn C (dA DX1_nextPond_0 15 rfl) (by rw [e]; decide) (by rw [e]; decide) (off := 37) (by rw [e]; rfl) (tgt := 56) (by decide) ?_
    refine J_aload_n C (dA DX1_nextPond_0 16 rfl) rfl ?_
    refine G_X1_ponds C hf wF_RX1_11 (dA DX1_nextPond_0 17 rfl) ?_
    refine J_iconst (v := nI 4) C (dA DX1_nextPond_0 18 rfl) (by decide) ?_
    first | refine R_fp C hf rfl (by omega) (dA DX1_nextPond_0 19 rfl) ?_ | refine R_ft C hf rfl (by omega) (dA DX1_nextPond_0 19 rfl) ?_ | refine R_sh C rfl (by omega) (dA DX1_nextPond_0 19 rfl) ?_
    refine J_iload_n C (dA DX1_nextPond_0 20 rfl) rfl ?_
    first | refine Q_fr C hf hS (by decide) rfl (by omega) (dA DX1_nextPond_0 21 rfl) ?_ | refine Q_fk C hf hS (by decide) rfl (by omega) (dA DX1_nextPond_0 21 rfl) ?_ | refine R_fs C hf rfl (by omega) (dA DX1_nextPond_0 21 rfl) ?_ | refine R_sn C hq rfl (by omega) (dA DX1_nextPond_0 21 rfl) ?_ | refine R_1 C (hk := rfl) rfl (by omega) (dA DX1_nextPond_0 21 rfl) ?_
    refine J_ist_3_4 C (dA DX1_nextPond_0 22 rfl) rfl ?_
    refine J_goto (tgt := 142) C (dA DX1_nextPond_0 23 rfl) (by decide) ?_
    refine J_iload_n C (dA DX1_nextPond_0 70 rfl) rfl ?_
    refine J_aload_n C (dA DX1_nextPond_0 71 rfl) rfl ?_
    refine H_X1_rain C hf hS wF_RX1_27 (dA DX1_nextPond_0 72 rfl) ?_
    first | refine J_iadd_n C (dA DX1_nextPond_0 73 rfl) ?_ | refine J_iadd C (dA DX1_nextPond_0 73 rfl) ?_
    refine J_bipush (v := nI 16) C (dA DX1_nextPond_0 74 rfl) (by decide) ?_
    refine J_irem_n C (by omega) (by omega) (by omega) (dA DX1_nextPond_0 75 rfl) ?_
    exact J_iret C G (dA DX1_nextPond_0 76 rfl) ⟨oi (by unfold nxtS dryS; rw [e]; rfl), rfl⟩
  · refine J_tabIn C (dA DX1_nextPond_0 15 rfl) (by rw [e]; decide) (by rw [e]; decide) (off := 49) (by rw [e]; rfl) (tgt := 68) (by decide) ?_
    refine J_aload_n C (dA DX1_nextPond_0 24 rfl) rfl ?_
    refine G_X1_ponds C hf wF_RX1_11 (dA DX1_nextPond_0 25 rfl) ?_
    refine J_iconst (v := nI 0) C (dA DX1_nextPond_0 26 rfl) (by decide) ?_
    first | refine R_fp C hf rfl (by omega) (dA DX1_nextPond_0 27 rfl) ?_ | refine R_ft C hf rfl (by omega) (dA DX1_nextPond_0 27 rfl) ?_ | refine R_sh C rfl (by omega) (dA DX1_nextPond_0 27 rfl) ?_
    refine J_iload_n C (dA DX1_nextPond_0 28 rfl) rfl ?_
    first | refine Q_fr C hf hS (by decide) rfl (by omega) (dA DX1_nextPond_0 29 rfl) ?_ | refine Q_fk C hf hS (by decide) rfl (by omega) (dA DX1_nextPond_0 29 rfl) ?_ | refine R_fs C hf rfl (by omega) (dA DX1_nextPond_0 29 rfl) ?_ | refine R_sn C hq rfl (by omega) (dA DX1_nextPond_0 29 rfl) ?_ | refine R_1 C (hk := rfl) rfl (by omega) (dA DX1_nextPond_0 29 rfl) ?_
    refine J_ist_3_4 C (dA DX1_nextPond_0 30 rfl) rfl ?_
    refine J_goto (tgt := 142) C (dA DX1_nextPond_0 31 rfl) (by decide) ?_
    refine J_iload_n C (dA DX1_nextPond_0 70 rfl) rfl ?_
    refine J_aload_n C (dA DX1_nextPond_0 71 rfl) rfl ?_
    refine H_X1_rain C hf hS wF_RX1_27 (dA DX1_nextPond_0 72 rfl) ?_
    first | refine J_iadd_n C (dA DX1_nextPond_0 73 rfl) ?_ | refine J_iadd C (dA DX1_nextPond_0 73 rfl) ?_
    refine J_bipush (v := nI 16) C (dA DX1_nextPond_0 74 rfl) (by decide) ?_
    refine J_irem_n C (by omega) (by omega) (by omega) (dA DX1_nextPond_0 75 rfl) ?_
    exact J_iret C G (dA DX1_nextPond_0 76 rfl) ⟨oi (by unfold nxtS dryS; rw [e]; rfl), rfl⟩
  · refine J_tabIn C (dA DX1_nextPond_0 15 rfl) (by rw [e]; decide) (by rw [e]; decide) (off := 61) (by rw [e]; rfl) (tgt := 80) (by decide) ?_
    refine J_aload_n C (dA DX1_nextPond_0 32 rfl) rfl ?_
    refine J_iload_n C (dA DX1_nextPond_0 33 rfl) rfl ?_
    refine V_X1_nextOfFrog C hf (c_X1_nextOfFrog l E f hf _ h31 hS) wM_RX1_63 (by decide) (dA DX1_nextPond_0 34 rfl) rfl (Nat.le_of_ble_eq_true rfl) ?_
    refine J_ist_3_4 C (dA DX1_nextPond_0 35 rfl) rfl ?_
    refine J_goto (tgt := 142) C (dA DX1_nextPond_0 36 rfl) (by decide) ?_
    refine J_iload_n C (dA DX1_nextPond_0 70 rfl) rfl ?_
    refine J_aload_n C (dA DX1_nextPond_0 71 rfl) rfl ?_
    refine H_X1_rain C hf hS wF_RX1_27 (dA DX1_nextPond_0 72 rfl) ?_
    first | refine J_iadd_n C (dA DX1_nextPond_0 73 rfl) ?_ | refine J_iadd C (dA DX1_nextPond_0 73 rfl) ?_
    refine J_bipush (v := nI 16) C (dA DX1_nextPond_0 74 rfl) (by decide) ?_
    refine J_irem_n C (by omega) (by omega) (by omega) (dA DX1_nextPond_0 75 rfl) ?_
    exact J_iret C G (dA DX1_nextPond_0 76 rfl) ⟨oi (by unfold nxtS dryS; rw [e]; rfl), rfl⟩
  · refine J_tabIn C (dA DX1_nextPond_0 15 rfl) (by rw [e]; decide) (by rw [e]; decide) (off := 70) (by rw [e]; rfl) (tgt := 89) (by decide) ?_
    refine J_aload_n C (dA DX1_nextPond_0 37 rfl) rfl ?_
    refine J_iload_n C (dA DX1_nextPond_0 38 rfl) rfl ?_
    refine V_X1_nextOfHeron C hf (c_X1_nextOfHeron l E f hf _ h31 hS) wM_RX1_66 (by decide) (dA DX1_nextPond_0 39 rfl) rfl (Nat.le_of_ble_eq_true rfl) ?_
    refine J_ist_3_4 C (dA DX1_nextPond_0 40 rfl) rfl ?_
    refine J_goto (tgt := 142) C (dA DX1_nextPond_0 41 rfl) (by decide) ?_
    refine J_iload_n C (dA DX1_nextPond_0 70 rfl) rfl ?_
    refine J_aload_n C (dA DX1_nextPond_0 71 rfl) rfl ?_
    refine H_X1_rain C hf hS wF_RX1_27 (dA DX1_nextPond_0 72 rfl) ?_
    first | refine J_iadd_n C (dA DX1_nextPond_0 73 rfl) ?_ | refine J_iadd C (dA DX1_nextPond_0 73 rfl) ?_
    refine J_bipush (v := nI 16) C (dA DX1_nextPond_0 74 rfl) (by decide) ?_
    refine J_irem_n C (by omega) (by omega) (by omega) (dA DX1_nextPond_0 75 rfl) ?_
    exact J_iret C G (dA DX1_nextPond_0 76 rfl) ⟨oi (by unfold nxtS dryS; rw [e]; rfl), rfl⟩
  · refine J_tabIn C (dA DX1_nextPond_0 15 rfl) (by rw [e]; decide) (by rw [e]; decide) (off := 79) (by rw [e]; rfl) (tgt := 98) (by decide) ?_
    refine J_aload_n C (dA DX1_nextPond_0 42 rfl) rfl ?_
    refine G_X1_ponds C hf wF_RX1_11 (dA DX1_nextPond_0 43 rfl) ?_
    refine J_iconst (v := nI 5) C (dA DX1_nextPond_0 44 rfl) (by decide) ?_
    first | refine R_fp C hf rfl (by omega) (dA DX1_nextPond_0 45 rfl) ?_ | refine R_ft C hf rfl (by omega) (dA DX1_nextPond_0 45 rfl) ?_ | refine R_sh C rfl (by omega) (dA DX1_nextPond_0 45 rfl) ?_
    refine J_iload_n C (dA DX1_nextPond_0 46 rfl) rfl ?_
    first | refine Q_fr C hf hS (by decide) rfl (by omega) (dA DX1_nextPond_0 47 rfl) ?_ | refine Q_fk C hf hS (by decide) rfl (by omega) (dA DX1_nextPond_0 47 rfl) ?_ | refine R_fs C hf rfl (by omega) (dA DX1_nextPond_0 47 rfl) ?_ | refine R_sn C hq rfl (by omega) (dA DX1_nextPond_0 47 rfl) ?_ | refine R_1 C (hk := rfl) rfl (by omega) (dA DX1_nextPond_0 47 rfl) ?_
    refine J_aload_n C (dA DX1_nextPond_0 48 rfl) rfl ?_
    refine G_X1_things C hf wF_RX1_16 (dA DX1_nextPond_0 49 rfl) ?_
    refine J_iconst (v := nI 2) C (dA DX1_nextPond_0 50 rfl) (by decide) ?_
    first | refine R_fp C hf rfl (by omega) (dA DX1_nextPond_0 51 rfl) ?_ | refine R_ft C hf rfl (by omega) (dA DX1_nextPond_0 51 rfl) ?_ | refine R_sh C rfl (by omega) (dA DX1_nextPond_0 51 rfl) ?_
    refine J_iload_n C (dA DX1_nextPond_0 52 rfl) rfl ?_
    first | refine Q_fr C hf hS (by decide) rfl (by omega) (dA DX1_nextPond_0 53 rfl) ?_ | refine Q_fk C hf hS (by decide) rfl (by omega) (dA DX1_nextPond_0 53 rfl) ?_ | refine R_fs C hf rfl (by omega) (dA DX1_nextPond_0 53 rfl) ?_ | refine R_sn C hq rfl (by omega) (dA DX1_nextPond_0 53 rfl) ?_ | refine R_1 C (hk := rfl) rfl (by omega) (dA DX1_nextPond_0 53 rfl) ?_
    first | refine J_icmp_ge_n (tgt := 128) C (by omega) (by omega) (dA DX1_nextPond_0 54 rfl) (by decide) (fun h114 => ?_) (fun h114 => ?_) | refine J_icmp_ge_c (tgt := 128) C (by omega) (dA DX1_nextPond_0 54 rfl) (by decide) (fun h114 => ?_) (fun h114 => ?_) | refine J_icmp_ge_t (tgt := 128) C (dA DX1_nextPond_0 54 rfl) (by decide) (fun h114 => ?_) (fun h114 => ?_)
    · refine J_iload_n C (dA DX1_nextPond_0 62 rfl) rfl ?_
      refine J_ist_3_4 C (dA DX1_nextPond_0 63 rfl) rfl ?_
      refine J_goto (tgt := 142) C (dA DX1_nextPond_0 64 rfl) (by decide) ?_
      refine J_iload_n C (dA DX1_nextPond_0 70 rfl) rfl ?_
      refine J_aload_n C (dA DX1_nextPond_0 71 rfl) rfl ?_
      refine H_X1_rain C hf hS wF_RX1_27 (dA DX1_nextPond_0 72 rfl) ?_
      first | refine J_iadd_n C (dA DX1_nextPond_0 73 rfl) ?_ | refine J_iadd C (dA DX1_nextPond_0 73 rfl) ?_
      refine J_bipush (v := nI 16) C (dA DX1_nextPond_0 74 rfl) (by decide) ?_
      refine J_irem_n C (by omega) (by omega) (by omega) (dA DX1_nextPond_0 75 rfl) ?_
      exact J_iret C G (dA DX1_nextPond_0 76 rfl) ⟨oi (by unfold nxtS dryS; rw [e]; simp only [if_neg (show ¬ f6 (vb (fb f) M) (f3 (vb (fb f) M) t 1) 5 < f3 (vb (fb f) M) t 2 by omega)]), rfl⟩
    · refine J_aload_n C (dA DX1_nextPond_0 55 rfl) rfl ?_
      refine G_X1_ponds C hf wF_RX1_11 (dA DX1_nextPond_0 56 rfl) ?_
      refine J_iconst (v := nI 4) C (dA DX1_nextPond_0 57 rfl) (by decide) ?_
      first | refine R_fp C hf rfl (by omega) (dA DX1_nextPond_0 58 rfl) ?_ | refine R_ft C hf rfl (by omega) (dA DX1_nextPond_0 58 rfl) ?_ | refine R_sh C rfl (by omega) (dA DX1_nextPond_0 58 rfl) ?_
      refine J_iload_n C (dA DX1_nextPond_0 59 rfl) rfl ?_
      first | refine Q_fr C hf hS (by decide) rfl (by omega) (dA DX1_nextPond_0 60 rfl) ?_ | refine Q_fk C hf hS (by decide) rfl (by omega) (dA DX1_nextPond_0 60 rfl) ?_ | refine R_fs C hf rfl (by omega) (dA DX1_nextPond_0 60 rfl) ?_ | refine R_sn C hq rfl (by omega) (dA DX1_nextPond_0 60 rfl) ?_ | refine R_1 C (hk := rfl) rfl (by omega) (dA DX1_nextPond_0 60 rfl) ?_
      refine J_goto (tgt := 129) C (dA DX1_nextPond_0 61 rfl) (by decide) ?_
      refine J_ist_3_4 C (dA DX1_nextPond_0 63 rfl) rfl ?_
      refine J_goto (tgt := 142) C (dA DX1_nextPond_0 64 rfl) (by decide) ?_
      refine J_iload_n C (dA DX1_nextPond_0 70 rfl) rfl ?_
      refine J_aload_n C (dA DX1_nextPond_0 71 rfl) rfl ?_
      refine H_X1_rain C hf hS wF_RX1_27 (dA DX1_nextPond_0 72 rfl) ?_
      first | refine J_iadd_n C (dA DX1_nextPond_0 73 rfl) ?_ | refine J_iadd C (dA DX1_nextPond_0 73 rfl) ?_
      refine J_bipush (v := nI 16) C (dA DX1_nextPond_0 74 rfl) (by decide) ?_
      refine J_irem_n C (by omega) (by omega) (by omega) (dA DX1_nextPond_0 75 rfl) ?_
      exact J_iret C G (dA DX1_nextPond_0 76 rfl) ⟨oi (by unfold nxtS dryS; rw [e]; simp only [if_pos (show f6 (vb (fb f) M) (f3 (vb (fb f) M) t 1) 5 < f3 (vb (fb f) M) t 2 by omega)]), rfl⟩
  · refine J_tabIn C (dA DX1_nextPond_0 15 rfl) (by rw [e]; decide) (by rw [e]; decide) (off := 114) (by rw [e]; rfl) (tgt := 133) (by decide) ?_
    refine J_aload_n C (dA DX1_nextPond_0 65 rfl) rfl ?_
    refine J_iload_n C (dA DX1_nextPond_0 66 rfl) rfl ?_
    refine V_X1_nextOfPike C hf (c_X1_nextOfPike l E f hf _ h31 hS) wM_RX1_69 (by decide) (dA DX1_nextPond_0 67 rfl) rfl (Nat.le_of_ble_eq_true rfl) ?_
    refine J_ist_3_4 C (dA DX1_nextPond_0 68 rfl) rfl ?_
    refine J_goto (tgt := 142) C (dA DX1_nextPond_0 69 rfl) (by decide) ?_
    refine J_iload_n C (dA DX1_nextPond_0 70 rfl) rfl ?_
    refine J_aload_n C (dA DX1_nextPond_0 71 rfl) rfl ?_
    refine H_X1_rain C hf hS wF_RX1_27 (dA DX1_nextPond_0 72 rfl) ?_
    first | refine J_iadd_n C (dA DX1_nextPond_0 73 rfl) ?_ | refine J_iadd C (dA DX1_nextPond_0 73 rfl) ?_
    refine J_bipush (v := nI 16) C (dA DX1_nextPond_0 74 rfl) (by decide) ?_
    refine J_irem_n C (by omega) (by omega) (by omega) (dA DX1_nextPond_0 75 rfl) ?_
    exact J_iret C G (dA DX1_nextPond_0 76 rfl) ⟨oi (by unfold nxtS dryS; rw [e]; rfl), rfl⟩
set_option maxRecDepth 4000 in
theorem c_X1_passMinute (l : Launch) (E : jE) (f : Nat) (hf : f < 3) (hS : IS (vb (fb f) M))  : K_X1_passMinute l E [.ref (ja E (fo f))] M (lay (fb f) M (minS (vb (fb f) M))) := by
  refine CT_intro (own := RX1) (by decide +kernel) rfl (by simp [Value.category]) (Nat.le_of_ble_eq_true rfl) rfl (fun X C G => ?_)
  show J E X 0 [some (.ref (ja E (fo f))), none] [] M
  have loop : ∀ n i (M' : jM), i + n = iN (vb (fb f) M) → M' = lay (fb f) M (moveS (vb (fb f) M) i) → J E X 2 [some (.ref (ja E (fo f))), some (.int (nI i))] [] M' := by
    intro n
    induction n with
    | zero =>
      intro i M' hi hM
      have hN := leN hS
      have hmv := IS_mv hS i (by omega)
      have hv : vb (fb f) M' = moveS (vb (fb f) M) i := by rw [hM, vb_lay hmv.1.1]
      have hS' : IS (vb (fb f) M') := hv ▸ hmv.1
      have hN' : iN (vb (fb f) M') = iN (vb (fb f) M) := by rw [hv]; exact hmv.2.1
      have hM' : iM (vb (fb f) M') = iM (vb (fb f) M) := by rw [hv]; exact hmv.2.2
      have hle := leM hS
      refine J_iload_n C (dA DX1_passMinute_0 2 rfl) rfl ?_
      refine J_aload_n C (dA DX1_passMinute_0 3 rfl) rfl ?_
      refine H_X1_size C hf hS' wF_RX1_23 (dA DX1_passMinute_0 4 rfl) ?_
      first | refine J_icmp_ge_n (tgt := 29) C (by omega) (by omega) (dA DX1_passMinute_0 5 rfl) (by decide) (fun h7 => ?_) (fun h7 => ?_) | refine J_icmp_ge_c (tgt := 29) C (by omega) (dA DX1_passMinute_0 5 rfl) (by decide) (fun h7 => ?_) (fun h7 => ?_) | refine J_icmp_ge_t (tgt := 29) C (dA DX1_passMinute_0 5 rfl) (by decide) (fun h7 => ?_) (fun h7 => ?_)
      · refine J_aload_n C (dA DX1_passMinute_0 17 rfl) rfl ?_
        refine J_aload_n C (dA DX1_passMinute_0 18 rfl) rfl ?_
        refine H_X1_minute C hf hS' wF_RX1_30 (dA DX1_passMinute_0 19 rfl) ?_
        refine J_iconst (v := nI 1) C (dA DX1_passMinute_0 20 rfl) (by decide) ?_
        first | refine J_iadd_n C (dA DX1_passMinute_0 21 rfl) ?_ | refine J_iadd C (dA DX1_passMinute_0 21 rfl) ?_
        refine J_ldc (v := nI 99999) C wK_RX1_56 (dA DX1_passMinute_0 22 rfl) ?_
        refine J_min_n C wM_RX1_57 (by omega) (by decide) (by decide) (dA DX1_passMinute_0 23 rfl) rfl (Nat.le_of_ble_eq_true rfl) ?_
        refine P_X1_minute C hf wF_RX1_30 (dA DX1_passMinute_0 24 rfl) ?_
        have e : upd M' (fb f) (nI (min (iM (vb (fb f) M') + 1) 99999)) = lay (fb f) M (upd (moveS (vb (fb f) M) i) 0 (nI (min (iM (vb (fb f) M) + 1) 99999))) := by
          rw [hM', hM]; exact upd_lay (j := 0) hmv.1.1 (by decide)
        exact J_vret C G (dA DX1_passMinute_0 25 rfl) ⟨rfl, by rw [e, show i = iN (vb (fb f) M) by omega]; rfl⟩
      · exfalso; omega
    | succ n ih =>
      intro i M' hi hM
      have hN := leN hS
      have hmv := IS_mv hS i (by omega)
      have hv : vb (fb f) M' = moveS (vb (fb f) M) i := by rw [hM, vb_lay hmv.1.1]
      have hS' : IS (vb (fb f) M') := hv ▸ hmv.1
      have hN' : iN (vb (fb f) M') = iN (vb (fb f) M) := by rw [hv]; exact hmv.2.1
      have hM' : iM (vb (fb f) M') = iM (vb (fb f) M) := by rw [hv]; exact hmv.2.2
      have hle := leM hS
      refine J_iload_n C (dA DX1_passMinute_0 2 rfl) rfl ?_
      refine J_aload_n C (dA DX1_passMinute_0 3 rfl) rfl ?_
      refine H_X1_size C hf hS' wF_RX1_23 (dA DX1_passMinute_0 4 rfl) ?_
      first | refine J_icmp_ge_n (tgt := 29) C (by omega) (by omega) (dA DX1_passMinute_0 5 rfl) (by decide) (fun h7 => ?_) (fun h7 => ?_) | refine J_icmp_ge_c (tgt := 29) C (by omega) (dA DX1_passMinute_0 5 rfl) (by decide) (fun h7 => ?_) (fun h7 => ?_) | refine J_icmp_ge_t (tgt := 29) C (dA DX1_passMinute_0 5 rfl) (by decide) (fun h7 => ?_) (fun h7 => ?_)
      · exfalso; omega
      · refine J_aload_n C (dA DX1_passMinute_0 6 rfl) rfl ?_
        refine G_X1_things C hf wF_RX1_16 (dA DX1_passMinute_0 7 rfl) ?_
        refine J_iconst (v := nI 1) C (dA DX1_passMinute_0 8 rfl) (by decide) ?_
        first | refine R_fp C hf rfl (by omega) (dA DX1_passMinute_0 9 rfl) ?_ | refine R_ft C hf rfl (by omega) (dA DX1_passMinute_0 9 rfl) ?_ | refine R_sh C rfl (by omega) (dA DX1_passMinute_0 9 rfl) ?_
        refine J_iload_n C (dA DX1_passMinute_0 10 rfl) rfl ?_
        refine J_aload_n C (dA DX1_passMinute_0 11 rfl) rfl ?_
        refine J_iload_n C (dA DX1_passMinute_0 12 rfl) rfl ?_
        refine V_X1_nextPond C hf (c_X1_nextPond l E f hf i (by omega) hS') wM_RX1_53 (by decide) (dA DX1_passMinute_0 13 rfl) rfl (Nat.le_of_ble_eq_true rfl) ?_
        refine S_fk C hf (by decide) rfl (by omega) (dA DX1_passMinute_0 14 rfl) ?_
        first | refine J_inc1_1_2 C (dA DX1_passMinute_0 15 rfl) rfl ?_ | refine J_iinc_1_2 C (dA DX1_passMinute_0 15 rfl) rfl ?_
        refine J_goto (tgt := 2) C (dA DX1_passMinute_0 16 rfl) (by decide) ?_
        exact ih (i + 1) _ (by omega) (by rw [hv, hM]; exact upd_lay hmv.1.1 (by omega))
  refine J_iconst (v := nI 0) C (dA DX1_passMinute_0 0 rfl) (by decide) ?_
  refine J_ist_1_2 C (dA DX1_passMinute_0 1 rfl) rfl ?_
  exact loop _ 0 M (Nat.zero_add _) lay_vb.symm
def addS (S : Nat → Int32) (a p q : Nat) : Nat → Int32 := upd (upd (upd (upd S (100 + 3 * iN S + 0) (nI a)) (100 + 3 * iN S + 1) (nI p)) (100 + 3 * iN S + 2) (nI q)) 1 (nI (iN S + 1))
theorem IS_add {S : Nat → Int32} {a p q : Nat} (h : IS S) (hn : iN S < 8) (ha : a ≤ 6) (hp : p ≤ 15) (hq : q ≤ 99) : IS (addS S a p q) ∧ iN (addS S a p q) = iN S + 1 := by
  have i1 := IS_u3 h (k := iN S) (w := 0) (v := a) hn (by omega) (by show a ≤ 6; omega)
  have i2 := IS_u3 i1 (k := iN S) (w := 1) (v := p) hn (by omega) (by show p ≤ 15; omega)
  have i3 := IS_u3 i2 (k := iN S) (w := 2) (v := q) hn (by omega) (by show q ≤ 99; omega)
  have hN3 : iN (upd (upd (upd S (100 + 3 * iN S + 0) (nI a)) (100 + 3 * iN S + 1) (nI p)) (100 + 3 * iN S + 2) (nI q)) = iN S := by unfold iN; rw [pk_un (by unfold iN at *; omega), pk_un (by unfold iN at *; omega), pk_un (by unfold iN at *; omega)]
  have hv : nv (nI (iN S + 1)) = iN S + 1 := nv_nI (by omega)
  refine ⟨IS_lo i3 (by omega) (fun z => by omega) (fun _ => ⟨by rw [hv], by omega, by rw [hN3, hv]; omega⟩) (fun z => by omega), ?_⟩
  show nv (upd _ 1 _ 1) = _
  rw [pk_us, hv]
set_option maxRecDepth 4000 in
theorem c_X1_add (l : Launch) (E : jE) (f : Nat) (hf : f < 3) (a p q : Nat) (ha : a ≤ 6) (hp : p ≤ 15) (hq : q ≤ 99) (hn : iN (vb (fb f) M) < 8) (hS : IS (vb (fb f) M))  : K_X1_add l E [.ref (ja E (fo f)), .int (nI a), .int (nI p), .int (nI q)] M (nI (iN (vb (fb f) M))) (lay (fb f) M (addS (vb (fb f) M) a p q)) := by
  refine CT_intro (own := RX1) (by decide +kernel) rfl (by simp [Value.category]) (Nat.le_of_ble_eq_true rfl) rfl (fun X C G => ?_)
  show J E X 0 [some (.ref (ja E (fo f))), some (.int (nI a)), some (.int (nI p)), some (.int (nI q)), none] [] M
  have hN := leN hS
  refine J_aload_n C (dA DX1_add_0 0 rfl) rfl ?_
  refine H_X1_size C hf hS wF_RX1_23 (dA DX1_add_0 1 rfl) ?_
  refine J_ist_4_5 C (dA DX1_add_0 2 rfl) rfl ?_
  refine J_iload C (dA DX1_add_0 3 rfl) rfl ?_
  refine J_bipush (v := nI 8) C (dA DX1_add_0 4 rfl) (by decide) ?_
  first | refine J_icmp_ge_n (tgt := 53) C (by omega) (by omega) (dA DX1_add_0 5 rfl) (by decide) (fun h10 => ?_) (fun h10 => ?_) | refine J_icmp_ge_c (tgt := 53) C (by omega) (dA DX1_add_0 5 rfl) (by decide) (fun h10 => ?_) (fun h10 => ?_) | refine J_icmp_ge_t (tgt := 53) C (dA DX1_add_0 5 rfl) (by decide) (fun h10 => ?_) (fun h10 => ?_)
  · exfalso; omega
  · refine J_aload_n C (dA DX1_add_0 6 rfl) rfl ?_
    refine G_X1_things C hf wF_RX1_16 (dA DX1_add_0 7 rfl) ?_
    refine J_iconst (v := nI 0) C (dA DX1_add_0 8 rfl) (by decide) ?_
    first | refine R_fp C hf rfl (by omega) (dA DX1_add_0 9 rfl) ?_ | refine R_ft C hf rfl (by omega) (dA DX1_add_0 9 rfl) ?_ | refine R_sh C rfl (by omega) (dA DX1_add_0 9 rfl) ?_
    refine J_iload C (dA DX1_add_0 10 rfl) rfl ?_
    refine J_iload_n C (dA DX1_add_0 11 rfl) rfl ?_
    refine S_fk C hf (by decide) rfl (by omega) (dA DX1_add_0 12 rfl) ?_
    refine J_aload_n C (dA DX1_add_0 13 rfl) rfl ?_
    refine G_X1_things C hf wF_RX1_16 (dA DX1_add_0 14 rfl) ?_
    refine J_iconst (v := nI 1) C (dA DX1_add_0 15 rfl) (by decide) ?_
    first | refine R_fp C hf rfl (by omega) (dA DX1_add_0 16 rfl) ?_ | refine R_ft C hf rfl (by omega) (dA DX1_add_0 16 rfl) ?_ | refine R_sh C rfl (by omega) (dA DX1_add_0 16 rfl) ?_
    refine J_iload C (dA DX1_add_0 17 rfl) rfl ?_
    refine J_iload_n C (dA DX1_add_0 18 rfl) rfl ?_
    refine S_fk C hf (by decide) rfl (by omega) (dA DX1_add_0 19 rfl) ?_
    refine J_aload_n C (dA DX1_add_0 20 rfl) rfl ?_
    refine G_X1_things C hf wF_RX1_16 (dA DX1_add_0 21 rfl) ?_
    refine J_iconst (v := nI 2) C (dA DX1_add_0 22 rfl) (by decide) ?_
    first | refine R_fp C hf rfl (by omega) (dA DX1_add_0 23 rfl) ?_ | refine R_ft C hf rfl (by omega) (dA DX1_add_0 23 rfl) ?_ | refine R_sh C rfl (by omega) (dA DX1_add_0 23 rfl) ?_
    refine J_iload C (dA DX1_add_0 24 rfl) rfl ?_
    refine J_iload_n C (dA DX1_add_0 25 rfl) rfl ?_
    refine S_fk C hf (by decide) rfl (by omega) (dA DX1_add_0 26 rfl) ?_
    have hc0 := Can_vb (fb f) M
    have i1 := IS_u3 hS (k := iN (vb (fb f) M)) (w := 0) (v := a) (by omega) (by omega) (by show a ≤ 6; omega)
    have i2 := IS_u3 i1 (k := iN (vb (fb f) M)) (w := 1) (v := p) (by omega) (by omega) (by show p ≤ 15; omega)
    have i3 := IS_u3 i2 (k := iN (vb (fb f) M)) (w := 2) (v := q) (by omega) (by omega) (by show q ≤ 99; omega)
    rw [lay_upd (b := fb f) (j := 100 + 3 * iN (vb (fb f) M) + 0) (by omega), upd_lay i1.1 (by omega), upd_lay i2.1 (by omega)]
    have hN3 : iN (upd (upd (upd (vb (fb f) M) (100 + 3 * iN (vb (fb f) M) + 0) (nI a)) (100 + 3 * iN (vb (fb f) M) + 1) (nI p)) (100 + 3 * iN (vb (fb f) M) + 2) (nI q)) = iN (vb (fb f) M) := by unfold iN; rw [pk_un (by unfold iN at *; omega), pk_un (by unfold iN at *; omega), pk_un (by unfold iN at *; omega)]
    obtain ⟨M3, hM3⟩ : ∃ M3, M3 = lay (fb f) M (upd (upd (upd (vb (fb f) M) (100 + 3 * iN (vb (fb f) M) + 0) (nI a)) (100 + 3 * iN (vb (fb f) M) + 1) (nI p)) (100 + 3 * iN (vb (fb f) M) + 2) (nI q)) := ⟨_, rfl⟩
    rw [← hM3]
    have hv : vb (fb f) M3 = (upd (upd (upd (vb (fb f) M) (100 + 3 * iN (vb (fb f) M) + 0) (nI a)) (100 + 3 * iN (vb (fb f) M) + 1) (nI p)) (100 + 3 * iN (vb (fb f) M) + 2) (nI q)) := by rw [hM3, vb_lay i3.1]
    have hS3 : IS (vb (fb f) M3) := hv ▸ i3
    have hn3 : iN (vb (fb f) M3) = iN (vb (fb f) M) := by rw [hv, hN3]
    refine J_aload_n C (dA DX1_add_0 27 rfl) rfl ?_
    refine J_dup C (dA DX1_add_0 28 rfl) rfl ?_
    refine H_X1_size C hf hS3 wF_RX1_23 (dA DX1_add_0 29 rfl) ?_
    refine J_iconst (v := nI 1) C (dA DX1_add_0 30 rfl) (by decide) ?_
    first | refine J_iadd_n C (dA DX1_add_0 31 rfl) ?_ | refine J_iadd C (dA DX1_add_0 31 rfl) ?_
    refine P_X1_size C hf wF_RX1_23 (dA DX1_add_0 32 rfl) ?_
    refine J_iload C (dA DX1_add_0 33 rfl) rfl ?_
    exact J_iret C G (dA DX1_add_0 34 rfl) ⟨rfl, by rw [hn3, hM3, upd_lay (j := 1) i3.1 (by decide)]; rfl⟩
def spS (S : Nat → Int32) : Nat := smS 10 (fun j => if (S (124 + j)).toInt < 0 then 0 else 1)
set_option maxRecDepth 4000 in
theorem c_X1_spotsInUse (l : Launch) (E : jE) (f : Nat) (hf : f < 3) (hS : IS (vb (fb f) M))  : K_X1_spotsInUse l E [.ref (ja E (fo f))] M (nI (spS (vb (fb f) M))) (M) := by
  refine CT_intro (own := RX1) (by decide +kernel) rfl (by simp [Value.category]) (Nat.le_of_ble_eq_true rfl) rfl (fun X C G => ?_)
  show J E X 0 [some (.ref (ja E (fo f))), none, none, none, none, none] [] M
  have loop : ∀ n i (o : Option Value), jok [some (.ref (ja E (fo f))), some (.int (nI (smS i (fun j => if (vb (fb f) M (124 + j)).toInt < 0 then 0 else 1)))), some (.ref (ja E (fs f))), some (.int (nI 10)), some (.int (nI i)), o] 5 = true → i + n = 10 → J E X 13 [some (.ref (ja E (fo f))), some (.int (nI (smS i (fun j => if (vb (fb f) M (124 + j)).toInt < 0 then 0 else 1)))), some (.ref (ja E (fs f))), some (.int (nI 10)), some (.int (nI i)), o] [] M := by
    intro n
    induction n with
    | zero =>
      intro i o ho hi
      refine J_iload C (dA DX1_spotsInUse_0 10 rfl) rfl ?_
      refine J_iload_n C (dA DX1_spotsInUse_0 11 rfl) rfl ?_
      first | refine J_icmp_ge_n (tgt := 39) C (by omega) (by omega) (dA DX1_spotsInUse_0 12 rfl) (by decide) (fun h16 => ?_) (fun h16 => ?_) | refine J_icmp_ge_c (tgt := 39) C (by omega) (dA DX1_spotsInUse_0 12 rfl) (by decide) (fun h16 => ?_) (fun h16 => ?_) | refine J_icmp_ge_t (tgt := 39) C (dA DX1_spotsInUse_0 12 rfl) (by decide) (fun h16 => ?_) (fun h16 => ?_)
      · refine J_iload_n C (dA DX1_spotsInUse_0 22 rfl) rfl ?_
        exact J_iret C G (dA DX1_spotsInUse_0 23 rfl) ⟨oi (by rw [show i = 10 by omega]; rfl), rfl⟩
      · exfalso; omega
    | succ n ih =>
      intro i o ho hi
      refine J_iload C (dA DX1_spotsInUse_0 10 rfl) rfl ?_
      refine J_iload_n C (dA DX1_spotsInUse_0 11 rfl) rfl ?_
      first | refine J_icmp_ge_n (tgt := 39) C (by omega) (by omega) (dA DX1_spotsInUse_0 12 rfl) (by decide) (fun h16 => ?_) (fun h16 => ?_) | refine J_icmp_ge_c (tgt := 39) C (by omega) (dA DX1_spotsInUse_0 12 rfl) (by decide) (fun h16 => ?_) (fun h16 => ?_) | refine J_icmp_ge_t (tgt := 39) C (dA DX1_spotsInUse_0 12 rfl) (by decide) (fun h16 => ?_) (fun h16 => ?_)
      · exfalso; omega
      · refine J_aload_n C (dA DX1_spotsInUse_0 13 rfl) rfl ?_
        refine J_iload C (dA DX1_spotsInUse_0 14 rfl) rfl ?_
        refine R_fs C hf rfl (by omega) (dA DX1_spotsInUse_0 15 rfl) ?_
        refine J_ist_5_6 C (dA DX1_spotsInUse_0 16 rfl) ho ?_
        refine J_iload C (dA DX1_spotsInUse_0 17 rfl) rfl ?_
        refine J_if_lt_t (tgt := 33) C (dA DX1_spotsInUse_0 18 rfl) (by decide) (fun h27 => ?_) (fun h27 => ?_)
        · first | refine J_inc1_4_6 C (dA DX1_spotsInUse_0 20 rfl) rfl ?_ | refine J_iinc_4_6 C (dA DX1_spotsInUse_0 20 rfl) rfl ?_
          refine J_goto (tgt := 13) C (dA DX1_spotsInUse_0 21 rfl) (by decide) ?_
          have h := ih (i + 1) (some (.int (M (fb f + (124 + i))))) rfl (by omega)
          have e : smS (i + 1) (fun j => if (vb (fb f) M (124 + j)).toInt < 0 then 0 else 1) = smS i (fun j => if (vb (fb f) M (124 + j)).toInt < 0 then 0 else 1) + 0 := by simp only [smS]; rw [if_pos (by rw [vb_at (by omega)]; exact h27)]
          rw [e] at h
          exact h
        · first | refine J_inc1_1_6 C (dA DX1_spotsInUse_0 19 rfl) rfl ?_ | refine J_iinc_1_6 C (dA DX1_spotsInUse_0 19 rfl) rfl ?_
          first | refine J_inc1_4_6 C (dA DX1_spotsInUse_0 20 rfl) rfl ?_ | refine J_iinc_4_6 C (dA DX1_spotsInUse_0 20 rfl) rfl ?_
          refine J_goto (tgt := 13) C (dA DX1_spotsInUse_0 21 rfl) (by decide) ?_
          have h := ih (i + 1) (some (.int (M (fb f + (124 + i))))) rfl (by omega)
          have e : smS (i + 1) (fun j => if (vb (fb f) M (124 + j)).toInt < 0 then 0 else 1) = smS i (fun j => if (vb (fb f) M (124 + j)).toInt < 0 then 0 else 1) + 1 := by simp only [smS]; rw [if_neg (by rw [vb_at (by omega)]; omega)]
          rw [e] at h
          exact h
  refine J_iconst (v := nI 0) C (dA DX1_spotsInUse_0 0 rfl) (by decide) ?_
  refine J_ist_1_6 C (dA DX1_spotsInUse_0 1 rfl) rfl ?_
  refine J_aload_n C (dA DX1_spotsInUse_0 2 rfl) rfl ?_
  refine G_X1_spots C hf wF_RX1_19 (dA DX1_spotsInUse_0 3 rfl) ?_
  refine J_ast_2_6 C (dA DX1_spotsInUse_0 4 rfl) rfl ?_
  refine J_aload_n C (dA DX1_spotsInUse_0 5 rfl) rfl ?_
  refine J_alen C (jL_fs f hf) (ty := .int) rfl (dA DX1_spotsInUse_0 6 rfl) ?_
  refine J_ist_3_6 C (dA DX1_spotsInUse_0 7 rfl) rfl ?_
  refine J_iconst (v := nI 0) C (dA DX1_spotsInUse_0 8 rfl) (by decide) ?_
  refine J_ist_4_6 C (dA DX1_spotsInUse_0 9 rfl) rfl ?_
  exact loop _ 0 none rfl (Nat.zero_add _)
set_option maxRecDepth 4000 in
theorem c_X1_draw (l : Launch) (E : jE) (f : Nat) (hf : f < 3)  : K_X1_draw l E [.ref (ja E (fo f))] M (nI (drV (M (fb f + 2)))) (lay (fb f) M (upd (vb (fb f) M) 2 (drZ (vb (fb f) M 2)))) := by
  refine CT_intro (own := RX1) (by decide +kernel) rfl (by simp [Value.category]) (Nat.le_of_ble_eq_true rfl) rfl (fun X C G => ?_)
  show J E X 0 [some (.ref (ja E (fo f)))] [] M
  refine J_aload_n C (dA DX1_draw_0 0 rfl) rfl ?_
  refine J_aload_n C (dA DX1_draw_0 1 rfl) rfl ?_
  refine G_X1_z C hf wF_RX1_33 (dA DX1_draw_0 2 rfl) ?_
  refine J_ldc (v := nI 1103515245) C wK_RX1_76 (dA DX1_draw_0 3 rfl) ?_
  refine J_imul C (dA DX1_draw_0 4 rfl) ?_
  refine J_sipush (v := nI 12345) C (dA DX1_draw_0 5 rfl) (by decide) ?_
  refine J_iadd C (dA DX1_draw_0 6 rfl) ?_
  refine P_X1_z C hf wF_RX1_33 (dA DX1_draw_0 7 rfl) ?_
  refine J_aload_n C (dA DX1_draw_0 8 rfl) rfl ?_
  rw [show (M (fb f + 2) * nI 1103515245 + nI 12345) = drZ (M (fb f + 2)) from rfl]
  refine G_X1_z C hf wF_RX1_33 (dA DX1_draw_0 9 rfl) ?_
  rw [pk_us]
  refine J_bipush (v := nI 8) C (dA DX1_draw_0 10 rfl) (by decide) ?_
  refine J_iushr C (dA DX1_draw_0 11 rfl) ?_
  exact J_iret C G (dA DX1_draw_0 12 rfl) ⟨oi (drV_eq _), by rw [vb_at (by decide)]; exact lay_upd (j := 2) (by decide)⟩
theorem fa_u2 (f : Nat → Int32) (i : Nat) (x y : Int32) : upd (upd f i x) i y = upd f i y := by
  funext j; unfold upd; split <;> rfl
def drpS (S : Nat → Int32) : Nat → Int32 := if 0 < iN S then upd (upd S 2 (drZ (drZ (S 2)))) (100 + 3 * (drV (S 2) % iN S) + 1) (nI (drV (drZ (S 2)) % 16)) else S
theorem IS_z {S : Nat → Int32} (h : IS S) (x : Int32) : IS (upd S 2 x) := IS_lo h (by omega) (fun z => by omega) (fun z => by omega) (fun z => by omega)
theorem IS_drp {S : Nat → Int32} (h : IS S) : IS (drpS S) ∧ iN (drpS S) = iN S ∧ iM (drpS S) = iM S := by
  have hN := leN h
  unfold drpS
  split
  · next hp =>
    have hk := Nat.mod_lt (drV (S 2)) hp
    have hm : drV (drZ (S 2)) % 16 < 16 := Nat.mod_lt _ (by decide)
    refine ⟨IS_u3 (IS_z h _) (by omega) (by omega) (by show _ ≤ 15; omega), ?_, ?_⟩
    · unfold iN; rw [pk_un (by omega), pk_un (by omega)]
    · unfold iM; rw [pk_un (by omega), pk_un (by omega)]
  · exact ⟨h, rfl, rfl⟩
set_option maxRecDepth 4000 in
theorem c_X1_dropOne (l : Launch) (E : jE) (f : Nat) (hf : f < 3) (hS : IS (vb (fb f) M))  : K_X1_dropOne l E [.ref (ja E (fo f))] M (lay (fb f) M (drpS (vb (fb f) M))) := by
  refine CT_intro (own := RX1) (by decide +kernel) rfl (by simp [Value.category]) (Nat.le_of_ble_eq_true rfl) rfl (fun X C G => ?_)
  show J E X 0 [some (.ref (ja E (fo f))), none] [] M
  have hN := leN hS
  refine J_aload_n C (dA DX1_dropOne_0 0 rfl) rfl ?_
  refine H_X1_size C hf hS wF_RX1_23 (dA DX1_dropOne_0 1 rfl) ?_
  first | refine J_if_le_n (tgt := 32) C (by omega) (dA DX1_dropOne_0 2 rfl) (by decide) (fun h4 => ?_) (fun h4 => ?_) | refine J_if_le_t (tgt := 32) C (dA DX1_dropOne_0 2 rfl) (by decide) (fun h4 => ?_) (fun h4 => ?_)
  · exact J_vret C G (dA DX1_dropOne_0 19 rfl) ⟨rfl, by unfold drpS; rw [if_neg (by omega), lay_vb]⟩
  · refine J_aload_n C (dA DX1_dropOne_0 3 rfl) rfl ?_
    refine V_X1_draw C hf (c_X1_draw l E f hf) wM_RX1_77 (by decide) (dA DX1_dropOne_0 4 rfl) rfl (Nat.le_of_ble_eq_true rfl) ?_
    have hv1 := vb_lay (b := fb f) (M := M) (IS_z hS (drZ (vb (fb f) M 2))).1
    obtain ⟨M1, hM1⟩ : ∃ M1, M1 = lay (fb f) M (upd (vb (fb f) M) 2 (drZ (vb (fb f) M 2))) := ⟨_, rfl⟩
    rw [← hM1] at hv1 ⊢
    have hS1 : IS (vb (fb f) M1) := hv1 ▸ IS_z hS _
    have hn1 : iN (vb (fb f) M1) = iN (vb (fb f) M) := by rw [hv1]; unfold iN; rw [pk_un (by omega)]
    have hd1 := drV_lt (M (fb f + 2))
    have hd2 := drV_lt (M1 (fb f + 2))
    have hml := Nat.mod_lt (drV (M (fb f + 2))) (show 0 < iN (vb (fb f) M1) by omega)
    refine J_aload_n C (dA DX1_dropOne_0 5 rfl) rfl ?_
    refine H_X1_size C hf hS1 wF_RX1_23 (dA DX1_dropOne_0 6 rfl) ?_
    refine J_irem_n C (by omega) (by omega) (by omega) (dA DX1_dropOne_0 7 rfl) ?_
    refine J_ist_1_2 C (dA DX1_dropOne_0 8 rfl) rfl ?_
    refine J_aload_n C (dA DX1_dropOne_0 9 rfl) rfl ?_
    refine G_X1_things C hf wF_RX1_16 (dA DX1_dropOne_0 10 rfl) ?_
    refine J_iconst (v := nI 1) C (dA DX1_dropOne_0 11 rfl) (by decide) ?_
    first | refine R_fp C hf rfl (by omega) (dA DX1_dropOne_0 12 rfl) ?_ | refine R_ft C hf rfl (by omega) (dA DX1_dropOne_0 12 rfl) ?_ | refine R_sh C rfl (by omega) (dA DX1_dropOne_0 12 rfl) ?_
    refine J_iload_n C (dA DX1_dropOne_0 13 rfl) rfl ?_
    refine J_aload_n C (dA DX1_dropOne_0 14 rfl) rfl ?_
    refine V_X1_draw C hf (c_X1_draw l E f hf) wM_RX1_77 (by decide) (dA DX1_dropOne_0 15 rfl) rfl (Nat.le_of_ble_eq_true rfl) ?_
    refine J_bipush (v := nI 16) C (dA DX1_dropOne_0 16 rfl) (by decide) ?_
    refine J_irem_n C (by omega) (by omega) (by omega) (dA DX1_dropOne_0 17 rfl) ?_
    refine S_fk C hf (by decide) rfl (by omega) (dA DX1_dropOne_0 18 rfl) ?_
    have z0 : M (fb f + 2) = vb (fb f) M 2 := (vb_at (by decide)).symm
    have z1 : M1 (fb f + 2) = drZ (vb (fb f) M 2) := by rw [← vb_at (b := fb f) (M := M1) (j := 2) (by decide), hv1, pk_us]
    have z2 : vb (fb f) M1 2 = drZ (vb (fb f) M 2) := by rw [hv1, pk_us]
    have hml2 := Nat.mod_lt (drV (vb (fb f) M 2)) (show 0 < iN (vb (fb f) M) by omega)
    refine J_vret C G (dA DX1_dropOne_0 19 rfl) ⟨rfl, ?_⟩
    rw [z1, z2, z0, hn1, upd_lay (Can_upd (Can_vb _ _) (by decide)) (by omega), hv1, hM1, lay_lay]
    unfold drpS
    rw [if_pos (by omega), fa_u2]
set_option maxRecDepth 4000 in
theorem c_X1_chainEnd (l : Launch) (E : jE) (f : Nat) (hf : f < 3) (p m : Nat) (hp : p < 16) (hm : m ≤ 16) (hS : IS (vb (fb f) M))  : K_X1_chainEnd l E [.ref (ja E (fo f)), .int (nI p), .int (nI m)] M (nI (itr (vb (fb f) M) m p)) (M) := by
  refine CT_intro (own := RX1) (by decide +kernel) rfl (by simp [Value.category]) (Nat.le_of_ble_eq_true rfl) rfl (fun X C G => ?_)
  show J E X 0 [some (.ref (ja E (fo f))), some (.int (nI p)), some (.int (nI m)), none, none] [] M
  have loop : ∀ n i, i + n = m → J E X 5 [some (.ref (ja E (fo f))), some (.int (nI p)), some (.int (nI m)), some (.int (nI (itr (vb (fb f) M) i p))), some (.int (nI i))] [] M := by
    intro n
    induction n with
    | zero =>
      intro i hi
      refine J_iload C (dA DX1_chainEnd_0 4 rfl) rfl ?_
      refine J_iload_n C (dA DX1_chainEnd_0 5 rfl) rfl ?_
      first | refine J_icmp_ge_n (tgt := 26) C (by omega) (by omega) (dA DX1_chainEnd_0 6 rfl) (by decide) (fun h8 => ?_) (fun h8 => ?_) | refine J_icmp_ge_c (tgt := 26) C (by omega) (dA DX1_chainEnd_0 6 rfl) (by decide) (fun h8 => ?_) (fun h8 => ?_) | refine J_icmp_ge_t (tgt := 26) C (dA DX1_chainEnd_0 6 rfl) (by decide) (fun h8 => ?_) (fun h8 => ?_)
      · refine J_iload_n C (dA DX1_chainEnd_0 16 rfl) rfl ?_
        exact J_iret C G (dA DX1_chainEnd_0 17 rfl) ⟨oi (by rw [show i = m by omega]), rfl⟩
      · exfalso; omega
    | succ n ih =>
      intro i hi
      have hl := itr_lt hS i hp
      refine J_iload C (dA DX1_chainEnd_0 4 rfl) rfl ?_
      refine J_iload_n C (dA DX1_chainEnd_0 5 rfl) rfl ?_
      first | refine J_icmp_ge_n (tgt := 26) C (by omega) (by omega) (dA DX1_chainEnd_0 6 rfl) (by decide) (fun h8 => ?_) (fun h8 => ?_) | refine J_icmp_ge_c (tgt := 26) C (by omega) (dA DX1_chainEnd_0 6 rfl) (by decide) (fun h8 => ?_) (fun h8 => ?_) | refine J_icmp_ge_t (tgt := 26) C (dA DX1_chainEnd_0 6 rfl) (by decide) (fun h8 => ?_) (fun h8 => ?_)
      · exfalso; omega
      · refine J_aload_n C (dA DX1_chainEnd_0 7 rfl) rfl ?_
        refine G_X1_ponds C hf wF_RX1_11 (dA DX1_chainEnd_0 8 rfl) ?_
        refine J_iconst (v := nI 0) C (dA DX1_chainEnd_0 9 rfl) (by decide) ?_
        first | refine R_fp C hf rfl (by omega) (dA DX1_chainEnd_0 10 rfl) ?_ | refine R_ft C hf rfl (by omega) (dA DX1_chainEnd_0 10 rfl) ?_ | refine R_sh C rfl (by omega) (dA DX1_chainEnd_0 10 rfl) ?_
        refine J_iload_n C (dA DX1_chainEnd_0 11 rfl) rfl ?_
        first | refine Q_fr C hf hS (by decide) rfl (by omega) (dA DX1_chainEnd_0 12 rfl) ?_ | refine Q_fk C hf hS (by decide) rfl (by omega) (dA DX1_chainEnd_0 12 rfl) ?_ | refine R_fs C hf rfl (by omega) (dA DX1_chainEnd_0 12 rfl) ?_ | refine R_sn C hq rfl (by omega) (dA DX1_chainEnd_0 12 rfl) ?_ | refine R_1 C (hk := rfl) rfl (by omega) (dA DX1_chainEnd_0 12 rfl) ?_
        refine J_ist_3_5 C (dA DX1_chainEnd_0 13 rfl) rfl ?_
        first | refine J_inc1_4_5 C (dA DX1_chainEnd_0 14 rfl) rfl ?_ | refine J_iinc_4_5 C (dA DX1_chainEnd_0 14 rfl) rfl ?_
        refine J_goto (tgt := 5) C (dA DX1_chainEnd_0 15 rfl) (by decide) ?_
        exact ih (i + 1) (by omega)
  refine J_iload_n C (dA DX1_chainEnd_0 0 rfl) rfl ?_
  refine J_ist_3_5 C (dA DX1_chainEnd_0 1 rfl) rfl ?_
  refine J_iconst (v := nI 0) C (dA DX1_chainEnd_0 2 rfl) (by decide) ?_
  refine J_ist_4_5 C (dA DX1_chainEnd_0 3 rfl) rfl ?_
  exact loop _ 0 (Nat.zero_add _)
set_option maxRecDepth 4000 in
theorem c_X1_chainComes (l : Launch) (E : jE) (f : Nat) (hf : f < 3) (a p : Nat) (hp : a < 16) (hq : p < 16) (hS : IS (vb (fb f) M))  : K_X1_chainComes l E [.ref (ja E (fo f)), .int (nI a), .int (nI p)] M (jb (cmS (vb (fb f) M) a p)) (M) := by
  refine CT_intro (own := RX1) (by decide +kernel) rfl (by simp [Value.category]) (Nat.le_of_ble_eq_true rfl) rfl (fun X C G => ?_)
  show J E X 0 [some (.ref (ja E (fo f))), some (.int (nI a)), some (.int (nI p)), none, none] [] M
  have loop : ∀ n i, i + n = 16 → (∀ k, k < i → itr (vb (fb f) M) k a ≠ p) → J E X 5 [some (.ref (ja E (fo f))), some (.int (nI a)), some (.int (nI p)), some (.int (nI (itr (vb (fb f) M) i a))), some (.int (nI i))] [] M := by
    intro n
    induction n with
    | zero =>
      intro i hi hno
      have hl := itr_lt hS i hp
      refine J_iload C (dA DX1_chainComes_0 4 rfl) rfl ?_
      refine J_bipush (v := nI 16) C (dA DX1_chainComes_0 5 rfl) (by decide) ?_
      first | refine J_icmp_ge_n (tgt := 32) C (by omega) (by omega) (dA DX1_chainComes_0 6 rfl) (by decide) (fun h9 => ?_) (fun h9 => ?_) | refine J_icmp_ge_c (tgt := 32) C (by omega) (dA DX1_chainComes_0 6 rfl) (by decide) (fun h9 => ?_) (fun h9 => ?_) | refine J_icmp_ge_t (tgt := 32) C (dA DX1_chainComes_0 6 rfl) (by decide) (fun h9 => ?_) (fun h9 => ?_)
      · refine J_iload_n C (dA DX1_chainComes_0 19 rfl) rfl ?_
        refine J_iload_n C (dA DX1_chainComes_0 20 rfl) rfl ?_
        first | refine J_icmp_ne_n (tgt := 41) C (by omega) (by omega) (dA DX1_chainComes_0 21 rfl) (by decide) (fun h34 => ?_) (fun h34 => ?_) | refine J_icmp_ne_c (tgt := 41) C (by omega) (dA DX1_chainComes_0 21 rfl) (by decide) (fun h34 => ?_) (fun h34 => ?_) | refine J_icmp_ne_t (tgt := 41) C (dA DX1_chainComes_0 21 rfl) (by decide) (fun h34 => ?_) (fun h34 => ?_)
        · refine J_iconst (v := nI 0) C (dA DX1_chainComes_0 24 rfl) (by decide) ?_
          exact J_zret C G rfl (dA DX1_chainComes_0 25 rfl) ⟨oi (bt_f (anyB_no (fun k hk => decide_eq_false (by rcases Nat.lt_or_ge k i with q | q; exact hno k q; rw [show k = i by omega]; exact h34)))), rfl⟩
        · refine J_iconst (v := nI 1) C (dA DX1_chainComes_0 22 rfl) (by decide) ?_
          refine J_goto (tgt := 42) C (dA DX1_chainComes_0 23 rfl) (by decide) ?_
          exact J_zret C G rfl (dA DX1_chainComes_0 25 rfl) ⟨oi (bt_t (anyB_yes (k := i) (by omega) (decide_eq_true h34))), rfl⟩
      · exfalso; omega
    | succ n ih =>
      intro i hi hno
      have hl := itr_lt hS i hp
      refine J_iload C (dA DX1_chainComes_0 4 rfl) rfl ?_
      refine J_bipush (v := nI 16) C (dA DX1_chainComes_0 5 rfl) (by decide) ?_
      first | refine J_icmp_ge_n (tgt := 32) C (by omega) (by omega) (dA DX1_chainComes_0 6 rfl) (by decide) (fun h9 => ?_) (fun h9 => ?_) | refine J_icmp_ge_c (tgt := 32) C (by omega) (dA DX1_chainComes_0 6 rfl) (by decide) (fun h9 => ?_) (fun h9 => ?_) | refine J_icmp_ge_t (tgt := 32) C (dA DX1_chainComes_0 6 rfl) (by decide) (fun h9 => ?_) (fun h9 => ?_)
      · exfalso; omega
      · refine J_iload_n C (dA DX1_chainComes_0 7 rfl) rfl ?_
        refine J_iload_n C (dA DX1_chainComes_0 8 rfl) rfl ?_
        first | refine J_icmp_eq_n (tgt := 32) C (by omega) (by omega) (dA DX1_chainComes_0 9 rfl) (by decide) (fun h14 => ?_) (fun h14 => ?_) | refine J_icmp_eq_c (tgt := 32) C (by omega) (dA DX1_chainComes_0 9 rfl) (by decide) (fun h14 => ?_) (fun h14 => ?_) | refine J_icmp_eq_t (tgt := 32) C (dA DX1_chainComes_0 9 rfl) (by decide) (fun h14 => ?_) (fun h14 => ?_)
        · refine J_iload_n C (dA DX1_chainComes_0 19 rfl) rfl ?_
          refine J_iload_n C (dA DX1_chainComes_0 20 rfl) rfl ?_
          first | refine J_icmp_ne_n (tgt := 41) C (by omega) (by omega) (dA DX1_chainComes_0 21 rfl) (by decide) (fun h34 => ?_) (fun h34 => ?_) | refine J_icmp_ne_c (tgt := 41) C (by omega) (dA DX1_chainComes_0 21 rfl) (by decide) (fun h34 => ?_) (fun h34 => ?_) | refine J_icmp_ne_t (tgt := 41) C (dA DX1_chainComes_0 21 rfl) (by decide) (fun h34 => ?_) (fun h34 => ?_)
          · exfalso; omega
          · refine J_iconst (v := nI 1) C (dA DX1_chainComes_0 22 rfl) (by decide) ?_
            refine J_goto (tgt := 42) C (dA DX1_chainComes_0 23 rfl) (by decide) ?_
            exact J_zret C G rfl (dA DX1_chainComes_0 25 rfl) ⟨oi (bt_t (anyB_yes (k := i) (by omega) (decide_eq_true h14))), rfl⟩
        · refine J_aload_n C (dA DX1_chainComes_0 10 rfl) rfl ?_
          refine G_X1_ponds C hf wF_RX1_11 (dA DX1_chainComes_0 11 rfl) ?_
          refine J_iconst (v := nI 0) C (dA DX1_chainComes_0 12 rfl) (by decide) ?_
          first | refine R_fp C hf rfl (by omega) (dA DX1_chainComes_0 13 rfl) ?_ | refine R_ft C hf rfl (by omega) (dA DX1_chainComes_0 13 rfl) ?_ | refine R_sh C rfl (by omega) (dA DX1_chainComes_0 13 rfl) ?_
          refine J_iload_n C (dA DX1_chainComes_0 14 rfl) rfl ?_
          first | refine Q_fr C hf hS (by decide) rfl (by omega) (dA DX1_chainComes_0 15 rfl) ?_ | refine Q_fk C hf hS (by decide) rfl (by omega) (dA DX1_chainComes_0 15 rfl) ?_ | refine R_fs C hf rfl (by omega) (dA DX1_chainComes_0 15 rfl) ?_ | refine R_sn C hq rfl (by omega) (dA DX1_chainComes_0 15 rfl) ?_ | refine R_1 C (hk := rfl) rfl (by omega) (dA DX1_chainComes_0 15 rfl) ?_
          refine J_ist_3_5 C (dA DX1_chainComes_0 16 rfl) rfl ?_
          first | refine J_inc1_4_5 C (dA DX1_chainComes_0 17 rfl) rfl ?_ | refine J_iinc_4_5 C (dA DX1_chainComes_0 17 rfl) rfl ?_
          refine J_goto (tgt := 5) C (dA DX1_chainComes_0 18 rfl) (by decide) ?_
          exact ih (i + 1) (by omega) (fun k hk => by rcases Nat.lt_or_ge k i with q | q; exact hno k q; rw [show k = i by omega]; exact h14)
  refine J_iload_n C (dA DX1_chainComes_0 0 rfl) rfl ?_
  refine J_ist_3_5 C (dA DX1_chainComes_0 1 rfl) rfl ?_
  refine J_iconst (v := nI 0) C (dA DX1_chainComes_0 2 rfl) (by decide) ?_
  refine J_ist_4_5 C (dA DX1_chainComes_0 3 rfl) rfl ?_
  exact loop _ 0 (Nat.zero_add _) (fun k hk => by omega)
set_option maxRecDepth 4000 in
theorem c_X1_roundLength (l : Launch) (E : jE) (f : Nat) (hf : f < 3) (p : Nat) (hp : p < 16) (hS : IS (vb (fb f) M))  : K_X1_roundLength l E [.ref (ja E (fo f)), .int (nI p)] M (nI (rlS (vb (fb f) M) p)) (M) := by
  refine CT_intro (own := RX1) (by decide +kernel) rfl (by simp [Value.category]) (Nat.le_of_ble_eq_true rfl) rfl (fun X C G => ?_)
  show J E X 0 [some (.ref (ja E (fo f))), some (.int (nI p)), none, none] [] M
  have loop : ∀ n i, i + n = 16 → (∀ k, k < i → (fun i => decide (itr (vb (fb f) M) (i + 1) p = p)) k = false) → J E X 4 [some (.ref (ja E (fo f))), some (.int (nI p)), some (.int (nI (itr (vb (fb f) M) i p))), some (.int (nI (i + 1)))] [] M := by
    intro n
    induction n with
    | zero =>
      intro i hi hno
      refine J_iload_n C (dA DX1_roundLength_0 4 rfl) rfl ?_
      refine J_bipush (v := nI 16) C (dA DX1_roundLength_0 5 rfl) (by decide) ?_
      first | refine J_icmp_gt_n (tgt := 32) C (by omega) (by omega) (dA DX1_roundLength_0 6 rfl) (by decide) (fun h7 => ?_) (fun h7 => ?_) | refine J_icmp_gt_c (tgt := 32) C (by omega) (dA DX1_roundLength_0 6 rfl) (by decide) (fun h7 => ?_) (fun h7 => ?_) | refine J_icmp_gt_t (tgt := 32) C (dA DX1_roundLength_0 6 rfl) (by decide) (fun h7 => ?_) (fun h7 => ?_)
      · refine J_iconst (v := nI 0) C (dA DX1_roundLength_0 21 rfl) (by decide) ?_
        exact J_iret C G (dA DX1_roundLength_0 22 rfl) ⟨oi (by unfold rlS; rw [firstN_no (n := 16) (fun k hk => hno k (by omega)), if_neg (by omega)]), rfl⟩
      · exfalso; omega
    | succ n ih =>
      intro i hi hno
      have hl := itr_lt hS i hp
      have hl1 := itr_lt hS (i + 1) hp
      have hun : itr (vb (fb f) M) (i + 1) p = f6 (vb (fb f) M) (itr (vb (fb f) M) i p) 0 := rfl
      refine J_iload_n C (dA DX1_roundLength_0 4 rfl) rfl ?_
      refine J_bipush (v := nI 16) C (dA DX1_roundLength_0 5 rfl) (by decide) ?_
      first | refine J_icmp_gt_n (tgt := 32) C (by omega) (by omega) (dA DX1_roundLength_0 6 rfl) (by decide) (fun h7 => ?_) (fun h7 => ?_) | refine J_icmp_gt_c (tgt := 32) C (by omega) (dA DX1_roundLength_0 6 rfl) (by decide) (fun h7 => ?_) (fun h7 => ?_) | refine J_icmp_gt_t (tgt := 32) C (dA DX1_roundLength_0 6 rfl) (by decide) (fun h7 => ?_) (fun h7 => ?_)
      · exfalso; omega
      · refine J_aload_n C (dA DX1_roundLength_0 7 rfl) rfl ?_
        refine G_X1_ponds C hf wF_RX1_11 (dA DX1_roundLength_0 8 rfl) ?_
        refine J_iconst (v := nI 0) C (dA DX1_roundLength_0 9 rfl) (by decide) ?_
        first | refine R_fp C hf rfl (by omega) (dA DX1_roundLength_0 10 rfl) ?_ | refine R_ft C hf rfl (by omega) (dA DX1_roundLength_0 10 rfl) ?_ | refine R_sh C rfl (by omega) (dA DX1_roundLength_0 10 rfl) ?_
        refine J_iload_n C (dA DX1_roundLength_0 11 rfl) rfl ?_
        first | refine Q_fr C hf hS (by decide) rfl (by omega) (dA DX1_roundLength_0 12 rfl) ?_ | refine Q_fk C hf hS (by decide) rfl (by omega) (dA DX1_roundLength_0 12 rfl) ?_ | refine R_fs C hf rfl (by omega) (dA DX1_roundLength_0 12 rfl) ?_ | refine R_sn C hq rfl (by omega) (dA DX1_roundLength_0 12 rfl) ?_ | refine R_1 C (hk := rfl) rfl (by omega) (dA DX1_roundLength_0 12 rfl) ?_
        refine J_ist_2_4 C (dA DX1_roundLength_0 13 rfl) rfl ?_
        refine J_iload_n C (dA DX1_roundLength_0 14 rfl) rfl ?_
        refine J_iload_n C (dA DX1_roundLength_0 15 rfl) rfl ?_
        first | refine J_icmp_ne_n (tgt := 26) C (by omega) (by omega) (dA DX1_roundLength_0 16 rfl) (by decide) (fun h21 => ?_) (fun h21 => ?_) | refine J_icmp_ne_c (tgt := 26) C (by omega) (dA DX1_roundLength_0 16 rfl) (by decide) (fun h21 => ?_) (fun h21 => ?_) | refine J_icmp_ne_t (tgt := 26) C (dA DX1_roundLength_0 16 rfl) (by decide) (fun h21 => ?_) (fun h21 => ?_)
        · first | refine J_inc1_3_4 C (dA DX1_roundLength_0 19 rfl) rfl ?_ | refine J_iinc_3_4 C (dA DX1_roundLength_0 19 rfl) rfl ?_
          refine J_goto (tgt := 4) C (dA DX1_roundLength_0 20 rfl) (by decide) ?_
          refine ih (i + 1) (by omega) (fun k hk => ?_)
          by_cases e : k = i
          · subst e; exact decide_eq_false h21
          · exact hno k (by omega)
        · refine J_iload_n C (dA DX1_roundLength_0 17 rfl) rfl ?_
          exact J_iret C G (dA DX1_roundLength_0 18 rfl) ⟨oi (by unfold rlS; rw [firstN_eq (n := 16) (i := i) (by omega) hno (decide_eq_true h21), if_pos (by omega)]), rfl⟩
  refine J_iload_n C (dA DX1_roundLength_0 0 rfl) rfl ?_
  refine J_ist_2_4 C (dA DX1_roundLength_0 1 rfl) rfl ?_
  refine J_iconst (v := nI 1) C (dA DX1_roundLength_0 2 rfl) (by decide) ?_
  refine J_ist_3_4 C (dA DX1_roundLength_0 3 rfl) rfl ?_
  exact loop _ 0 (Nat.zero_add _) (fun k hk => by omega)
theorem rl_le (S : Nat → Int32) (p : Nat) : rlS S p ≤ 16 := by
  unfold rlS; split <;> omega
set_option maxRecDepth 4000 in
theorem c_X1_isLeastOfRound (l : Launch) (E : jE) (f : Nat) (hf : f < 3) (p : Nat) (hp : p < 16) (hS : IS (vb (fb f) M))  : K_X1_isLeastOfRound l E [.ref (ja E (fo f)), .int (nI p)] M (jb (llS (vb (fb f) M) p)) (M) := by
  refine CT_intro (own := RX1) (by decide +kernel) rfl (by simp [Value.category]) (Nat.le_of_ble_eq_true rfl) rfl (fun X C G => ?_)
  show J E X 0 [some (.ref (ja E (fo f))), some (.int (nI p)), none, none, none] [] M
  have hrl := rl_le (vb (fb f) M) p
  have loop : ∀ n i, i + n = rlS (vb (fb f) M) p - 1 → (∀ k, k < i → ¬ itr (vb (fb f) M) (k + 1) p < p) → J E X 11 [some (.ref (ja E (fo f))), some (.int (nI p)), some (.int (nI (rlS (vb (fb f) M) p))), some (.int (nI (itr (vb (fb f) M) i p))), some (.int (nI (i + 1)))] [] M := by
    intro n
    induction n with
    | zero =>
      intro i hi hno
      refine J_iload C (dA DX1_isLeastOfRound_0 8 rfl) rfl ?_
      refine J_iload_n C (dA DX1_isLeastOfRound_0 9 rfl) rfl ?_
      first | refine J_icmp_ge_n (tgt := 39) C (by omega) (by omega) (dA DX1_isLeastOfRound_0 10 rfl) (by decide) (fun h14 => ?_) (fun h14 => ?_) | refine J_icmp_ge_c (tgt := 39) C (by omega) (dA DX1_isLeastOfRound_0 10 rfl) (by decide) (fun h14 => ?_) (fun h14 => ?_) | refine J_icmp_ge_t (tgt := 39) C (dA DX1_isLeastOfRound_0 10 rfl) (by decide) (fun h14 => ?_) (fun h14 => ?_)
      · refine J_iload_n C (dA DX1_isLeastOfRound_0 25 rfl) rfl ?_
        first | refine J_if_le_n (tgt := 47) C (by omega) (dA DX1_isLeastOfRound_0 26 rfl) (by decide) (fun h40 => ?_) (fun h40 => ?_) | refine J_if_le_t (tgt := 47) C (dA DX1_isLeastOfRound_0 26 rfl) (by decide) (fun h40 => ?_) (fun h40 => ?_)
        · refine J_iconst (v := nI 0) C (dA DX1_isLeastOfRound_0 29 rfl) (by decide) ?_
          exact J_zret C G rfl (dA DX1_isLeastOfRound_0 30 rfl) ⟨oi (bt_f (by unfold llS; rw [decide_eq_false (by omega)]; rfl)), rfl⟩
        · refine J_iconst (v := nI 1) C (dA DX1_isLeastOfRound_0 27 rfl) (by decide) ?_
          refine J_goto (tgt := 48) C (dA DX1_isLeastOfRound_0 28 rfl) (by decide) ?_
          exact J_zret C G rfl (dA DX1_isLeastOfRound_0 30 rfl) ⟨oi (bt_t (by unfold llS; rw [decide_eq_true (by omega), anyB_no (fun k hk => decide_eq_false (hno k (by omega)))]; rfl)), rfl⟩
      · exfalso; omega
    | succ n ih =>
      intro i hi hno
      have hl := itr_lt hS i hp
      have hl1 := itr_lt hS (i + 1) hp
      have hun : itr (vb (fb f) M) (i + 1) p = f6 (vb (fb f) M) (itr (vb (fb f) M) i p) 0 := rfl
      refine J_iload C (dA DX1_isLeastOfRound_0 8 rfl) rfl ?_
      refine J_iload_n C (dA DX1_isLeastOfRound_0 9 rfl) rfl ?_
      first | refine J_icmp_ge_n (tgt := 39) C (by omega) (by omega) (dA DX1_isLeastOfRound_0 10 rfl) (by decide) (fun h14 => ?_) (fun h14 => ?_) | refine J_icmp_ge_c (tgt := 39) C (by omega) (dA DX1_isLeastOfRound_0 10 rfl) (by decide) (fun h14 => ?_) (fun h14 => ?_) | refine J_icmp_ge_t (tgt := 39) C (dA DX1_isLeastOfRound_0 10 rfl) (by decide) (fun h14 => ?_) (fun h14 => ?_)
      · exfalso; omega
      · refine J_aload_n C (dA DX1_isLeastOfRound_0 11 rfl) rfl ?_
        refine G_X1_ponds C hf wF_RX1_11 (dA DX1_isLeastOfRound_0 12 rfl) ?_
        refine J_iconst (v := nI 0) C (dA DX1_isLeastOfRound_0 13 rfl) (by decide) ?_
        first | refine R_fp C hf rfl (by omega) (dA DX1_isLeastOfRound_0 14 rfl) ?_ | refine R_ft C hf rfl (by omega) (dA DX1_isLeastOfRound_0 14 rfl) ?_ | refine R_sh C rfl (by omega) (dA DX1_isLeastOfRound_0 14 rfl) ?_
        refine J_iload_n C (dA DX1_isLeastOfRound_0 15 rfl) rfl ?_
        first | refine Q_fr C hf hS (by decide) rfl (by omega) (dA DX1_isLeastOfRound_0 16 rfl) ?_ | refine Q_fk C hf hS (by decide) rfl (by omega) (dA DX1_isLeastOfRound_0 16 rfl) ?_ | refine R_fs C hf rfl (by omega) (dA DX1_isLeastOfRound_0 16 rfl) ?_ | refine R_sn C hq rfl (by omega) (dA DX1_isLeastOfRound_0 16 rfl) ?_ | refine R_1 C (hk := rfl) rfl (by omega) (dA DX1_isLeastOfRound_0 16 rfl) ?_
        refine J_ist_3_5 C (dA DX1_isLeastOfRound_0 17 rfl) rfl ?_
        refine J_iload_n C (dA DX1_isLeastOfRound_0 18 rfl) rfl ?_
        refine J_iload_n C (dA DX1_isLeastOfRound_0 19 rfl) rfl ?_
        first | refine J_icmp_ge_n (tgt := 33) C (by omega) (by omega) (dA DX1_isLeastOfRound_0 20 rfl) (by decide) (fun h28 => ?_) (fun h28 => ?_) | refine J_icmp_ge_c (tgt := 33) C (by omega) (dA DX1_isLeastOfRound_0 20 rfl) (by decide) (fun h28 => ?_) (fun h28 => ?_) | refine J_icmp_ge_t (tgt := 33) C (dA DX1_isLeastOfRound_0 20 rfl) (by decide) (fun h28 => ?_) (fun h28 => ?_)
        · first | refine J_inc1_4_5 C (dA DX1_isLeastOfRound_0 23 rfl) rfl ?_ | refine J_iinc_4_5 C (dA DX1_isLeastOfRound_0 23 rfl) rfl ?_
          refine J_goto (tgt := 11) C (dA DX1_isLeastOfRound_0 24 rfl) (by decide) ?_
          exact ih (i + 1) (by omega) (fun k hk => by rcases Nat.lt_or_ge k i with q | q; exact hno k q; rw [show k = i by omega]; omega)
        · refine J_iconst (v := nI 0) C (dA DX1_isLeastOfRound_0 21 rfl) (by decide) ?_
          exact J_zret C G rfl (dA DX1_isLeastOfRound_0 22 rfl) ⟨oi (bt_f (by unfold llS; rw [anyB_yes (k := i) (by omega) (decide_eq_true (by omega))]; simp)), rfl⟩
  refine J_aload_n C (dA DX1_isLeastOfRound_0 0 rfl) rfl ?_
  refine J_iload_n C (dA DX1_isLeastOfRound_0 1 rfl) rfl ?_
  refine V_X1_roundLength C hf (c_X1_roundLength l E f hf p hp hS) wM_RX1_80 (by decide) (dA DX1_isLeastOfRound_0 2 rfl) rfl (Nat.le_of_ble_eq_true rfl) ?_
  refine J_ist_2_5 C (dA DX1_isLeastOfRound_0 3 rfl) rfl ?_
  refine J_iload_n C (dA DX1_isLeastOfRound_0 4 rfl) rfl ?_
  refine J_ist_3_5 C (dA DX1_isLeastOfRound_0 5 rfl) rfl ?_
  refine J_iconst (v := nI 1) C (dA DX1_isLeastOfRound_0 6 rfl) (by decide) ?_
  refine J_ist_4_5 C (dA DX1_isLeastOfRound_0 7 rfl) rfl ?_
  exact loop _ 0 (Nat.zero_add _) (fun k hk => by omega)
/-- M' holds the places D of fen g in fen f, and M else -/
def Bec (f g : Nat) (D : Nat → Prop) (M M' : jM) : Prop := (∀ j, j < 134 → D j → M' (fb f + j) = M (fb g + j)) ∧ (∀ a, (∀ j, j < 134 → D j → a ≠ fb f + j) → M' a = M a)
theorem fb_ne {f g a b : Nat} (h : f ≠ g) (ha : a < 134) (hb : b < 134) : fb f + a ≠ fb g + b := by
  unfold fb
  omega
theorem Bec_row {f g o s n : Nat} {D : Nat → Prop} {M M' : jM} (h : Bec f g D M M') (hfg : f ≠ g) (hs : 0 < s) (hn : ∀ q, q < n → o + s * q < 134) : Bec f g (fun j => D j ∨ ∃ q, q < n ∧ j = o + s * q) M (jcp M' (fb g + o) s (fb f + o) s 0 0 n) := by
  have hin : ∀ q, q < n → jcp M' (fb g + o) s (fb f + o) s 0 0 n (fb f + (o + s * q)) = M (fb g + (o + s * q)) := by
    intro q hq
    rw [show fb f + (o + s * q) = fb f + o + s * q by omega, jcp_at hs, if_pos (by omega)]
    have e : fb g + o + s * (0 + (q - 0)) = fb g + (o + s * q) := by rw [Nat.zero_add, Nat.sub_zero]; omega
    rw [e]
    exact h.2 _ (fun j hj _ => fb_ne (fun z => hfg z.symm) (hn q hq) hj)
  refine ⟨fun j hj hD => ?_, fun a ha => ?_⟩
  · by_cases hr : ∃ q, q < n ∧ j = o + s * q
    · obtain ⟨q, hq, rfl⟩ := hr
      exact hin q hq
    · rw [jcp_out hs (fun q _ hq z => hr ⟨q, by omega, by omega⟩)]
      rcases hD with hD | hD
      · exact h.1 j hj hD
      · exact absurd hD hr
  · rw [jcp_out hs (fun q _ hq z => ha (o + s * q) (hn q (by omega)) (Or.inr ⟨q, by omega, rfl⟩) (by omega))]
    exact h.2 a (fun j hj hD => ha j hj (Or.inl hD))
theorem Bec_0 {f g : Nat} {M : jM} : Bec f g (fun _ => False) M M := ⟨fun _ _ h => h.elim, fun _ _ => rfl⟩
theorem Bec_all {f g : Nat} {D : Nat → Prop} {M M' : jM} (h : Bec f g D M M') (hfg : f ≠ g) (hD : ∀ j, j < 134 → 4 ≤ j → D j) (hD0 : ∀ j, j < 4 → ¬ D j) :
    upd (upd (upd (upd M' (fb f + 1) (M (fb g + 1))) (fb f + 3) (M (fb g + 3))) (fb f) (M (fb g))) (fb f + 2) (M (fb g + 2)) = lay (fb f) M (vb (fb g) M) := by
  funext a
  unfold lay
  by_cases ha : fb f ≤ a ∧ a < fb f + 134
  · rw [if_pos ha, vb_at (by omega)]
    obtain ⟨j, rfl⟩ : ∃ j, a = fb f + j := ⟨a - fb f, by omega⟩
    rw [Nat.add_sub_cancel_left]
    have hj : j < 134 := by omega
    rcases (show j = 0 ∨ j = 1 ∨ j = 2 ∨ j = 3 ∨ 4 ≤ j by omega) with rfl | rfl | rfl | rfl | h4
    · rw [pk_un (by omega)]; exact pk_us
    · rw [pk_un (by omega), pk_un (by omega), pk_un (by omega)]; exact pk_us
    · exact pk_us
    · rw [pk_un (by omega), pk_un (by omega)]; exact pk_us
    · rw [pk_un (by omega), pk_un (by omega), pk_un (by omega), pk_un (by omega)]
      exact h.1 j hj (hD j hj h4)
  · rw [if_neg ha, pk_un (by omega), pk_un (by omega), pk_un (by omega), pk_un (by omega)]
    exact h.2 a (fun j hj _ => by omega)
theorem Bec_to {f g : Nat} {D D' : Nat → Prop} {M M' : jM} (h : Bec f g D M M') (e : ∀ j, D j ↔ D' j) : Bec f g D' M M' := ⟨fun j hj hD => h.1 j hj ((e j).mpr hD), fun a ha => h.2 a (fun j hj hD => ha j hj ((e j).mp hD))⟩
set_option maxRecDepth 4000 in
theorem c_X1_become (l : Launch) (E : jE) (f : Nat) (hf : f < 3) (g : Nat) (hg : g < 3) (hfg : f ≠ g) : K_X1_become l E [.ref (ja E (fo f)), .ref (ja E (fo g))] M (lay (fb f) M (vb (fb g) M)) := by
  refine CT_intro (own := RX1) (by decide +kernel) rfl (by simp [Value.category]) (Nat.le_of_ble_eq_true rfl) rfl (fun X C G => ?_)
  show J E X 0 [some (.ref (ja E (fo f))), some (.ref (ja E (fo g))), none] [] M
  have hgf : g ≠ f := fun z => hfg z.symm
  have last : ∀ (M2 : jM), Bec f g (fun j => (∃ w, w < 6 ∧ ∃ q, q < 16 ∧ j = 4 + w + 6 * q) ∨ ∃ w, w < 3 ∧ ∃ q, q < 8 ∧ j = 100 + w + 3 * q) M M2 → J E X 64 [some (.ref (ja E (fo f))), some (.ref (ja E (fo g))), some (.int (nI 3))] [] M2 := by
    intro M2 h2
    refine J_aload_n C (dA DX1_become_0 38 rfl) rfl ?_
    refine G_X1_spots C hg wF_RX1_19 (dA DX1_become_0 39 rfl) ?_
    refine J_iconst (v := nI 0) C (dA DX1_become_0 40 rfl) (by decide) ?_
    refine J_aload_n C (dA DX1_become_0 41 rfl) rfl ?_
    refine G_X1_spots C hf wF_RX1_19 (dA DX1_become_0 42 rfl) ?_
    refine J_iconst (v := nI 0) C (dA DX1_become_0 43 rfl) (by decide) ?_
    refine J_bipush (v := nI 10) C (dA DX1_become_0 44 rfl) (by decide) ?_
    refine J_copy C (jL_fs g hg) (jL_fs f hf) (by decide) (by decide) wM_RX1_36 (by decide) (dA DX1_become_0 45 rfl) rfl (Nat.le_of_ble_eq_true rfl) ?_
    have h3 := Bec_row h2 hfg (o := 124) (s := 1) (n := 10) (by decide) (fun q hq => by omega)
    obtain ⟨M3, hM3⟩ : ∃ M3, M3 = jcp M2 (fb g + 124) 1 (fb f + 124) 1 0 0 10 := ⟨_, rfl⟩
    rw [← hM3] at h3 ⊢
    refine J_aload_n C (dA DX1_become_0 46 rfl) rfl ?_
    refine J_aload_n C (dA DX1_become_0 47 rfl) rfl ?_
    refine G_X1_size C hg wF_RX1_23 (dA DX1_become_0 48 rfl) ?_
    refine P_X1_size C hf wF_RX1_23 (dA DX1_become_0 49 rfl) ?_
    refine J_aload_n C (dA DX1_become_0 50 rfl) rfl ?_
    refine J_aload_n C (dA DX1_become_0 51 rfl) rfl ?_
    refine G_X1_rain C hg wF_RX1_27 (dA DX1_become_0 52 rfl) ?_
    refine P_X1_rain C hf wF_RX1_27 (dA DX1_become_0 53 rfl) ?_
    refine J_aload_n C (dA DX1_become_0 54 rfl) rfl ?_
    refine J_aload_n C (dA DX1_become_0 55 rfl) rfl ?_
    refine G_X1_minute C hg wF_RX1_30 (dA DX1_become_0 56 rfl) ?_
    refine P_X1_minute C hf wF_RX1_30 (dA DX1_become_0 57 rfl) ?_
    refine J_aload_n C (dA DX1_become_0 58 rfl) rfl ?_
    refine J_aload_n C (dA DX1_become_0 59 rfl) rfl ?_
    refine G_X1_z C hg wF_RX1_33 (dA DX1_become_0 60 rfl) ?_
    refine P_X1_z C hf wF_RX1_33 (dA DX1_become_0 61 rfl) ?_
    refine J_vret C G (dA DX1_become_0 62 rfl) ⟨rfl, ?_⟩
    have r1 : M3 (fb g + 1) = M (fb g + 1) := h3.2 _ (fun j hj _ => fb_ne hgf (by decide) hj)
    have r3 : M3 (fb g + 3) = M (fb g + 3) := h3.2 _ (fun j hj _ => fb_ne hgf (by decide) hj)
    have r0 : M3 (fb g) = M (fb g) := h3.2 _ (fun j hj _ => fb_ne (a := 0) hgf (by decide) hj)
    have r2 : M3 (fb g + 2) = M (fb g + 2) := h3.2 _ (fun j hj _ => fb_ne hgf (by decide) hj)
    have n1 := fb_ne hgf (a := 3) (b := 1) (by decide) (by decide)
    have n2 : fb g ≠ fb f + 1 := fb_ne hgf (a := 0) (b := 1) (by decide) (by decide)
    have n3 : fb g ≠ fb f + 3 := fb_ne hgf (a := 0) (b := 3) (by decide) (by decide)
    have n4 := fb_ne hgf (a := 2) (b := 1) (by decide) (by decide)
    have n5 := fb_ne hgf (a := 2) (b := 3) (by decide) (by decide)
    have n6 : fb g + 2 ≠ fb f := fb_ne hgf (a := 2) (b := 0) (by decide) (by decide)
    rw [pk_un n1, pk_un n3, pk_un n2, pk_un n6, pk_un n5, pk_un n4, r1, r3, r0, r2]
    refine Bec_all h3 hfg (fun j hj h4 => ?_) (fun j hj hD => ?_)
    · by_cases h1 : j < 100
      · exact Or.inl (Or.inl ⟨(j - 4) % 6, Nat.mod_lt _ (by decide), (j - 4) / 6, by omega, by omega⟩)
      · by_cases h2 : j < 124
        · exact Or.inl (Or.inr ⟨(j - 100) % 3, Nat.mod_lt _ (by decide), (j - 100) / 3, by omega, by omega⟩)
        · exact Or.inr ⟨j - 124, by omega, by omega⟩
    · rcases hD with (⟨w, hw, q, hq, e⟩ | ⟨w, hw, q, hq, e⟩) | ⟨q, hq, e⟩ <;> omega
  have loop2 : ∀ n i (M2 : jM), i + n = 3 → Bec f g (fun j => (∃ w, w < 6 ∧ ∃ q, q < 16 ∧ j = 4 + w + 6 * q) ∨ ∃ w, w < i ∧ ∃ q, q < 8 ∧ j = 100 + w + 3 * q) M M2 → J E X 34 [some (.ref (ja E (fo f))), some (.ref (ja E (fo g))), some (.int (nI i))] [] M2 := by
    intro n
    induction n with
    | zero =>
      intro i M2 hi h2
      refine J_iload_n C (dA DX1_become_0 21 rfl) rfl ?_
      refine J_iconst (v := nI 2) C (dA DX1_become_0 22 rfl) (by decide) ?_
      first | refine J_icmp_gt_n (tgt := 64) C (by omega) (by omega) (dA DX1_become_0 23 rfl) (by decide) (fun h36 => ?_) (fun h36 => ?_) | refine J_icmp_gt_c (tgt := 64) C (by omega) (dA DX1_become_0 23 rfl) (by decide) (fun h36 => ?_) (fun h36 => ?_) | refine J_icmp_gt_t (tgt := 64) C (dA DX1_become_0 23 rfl) (by decide) (fun h36 => ?_) (fun h36 => ?_)
      · obtain rfl : i = 3 := by omega
        exact last M2 h2
      · exfalso; omega
    | succ n ih =>
      intro i M2 hi h2
      refine J_iload_n C (dA DX1_become_0 21 rfl) rfl ?_
      refine J_iconst (v := nI 2) C (dA DX1_become_0 22 rfl) (by decide) ?_
      first | refine J_icmp_gt_n (tgt := 64) C (by omega) (by omega) (dA DX1_become_0 23 rfl) (by decide) (fun h36 => ?_) (fun h36 => ?_) | refine J_icmp_gt_c (tgt := 64) C (by omega) (dA DX1_become_0 23 rfl) (by decide) (fun h36 => ?_) (fun h36 => ?_) | refine J_icmp_gt_t (tgt := 64) C (dA DX1_become_0 23 rfl) (by decide) (fun h36 => ?_) (fun h36 => ?_)
      · exfalso; omega
      · refine J_aload_n C (dA DX1_become_0 24 rfl) rfl ?_
        refine G_X1_things C hg wF_RX1_16 (dA DX1_become_0 25 rfl) ?_
        refine J_iload_n C (dA DX1_become_0 26 rfl) rfl ?_
        refine R_ft C hg rfl (by omega) (dA DX1_become_0 27 rfl) ?_
        refine J_iconst (v := nI 0) C (dA DX1_become_0 28 rfl) (by decide) ?_
        refine J_aload_n C (dA DX1_become_0 29 rfl) rfl ?_
        refine G_X1_things C hf wF_RX1_16 (dA DX1_become_0 30 rfl) ?_
        refine J_iload_n C (dA DX1_become_0 31 rfl) rfl ?_
        refine R_ft C hf rfl (by omega) (dA DX1_become_0 32 rfl) ?_
        refine J_iconst (v := nI 0) C (dA DX1_become_0 33 rfl) (by decide) ?_
        refine J_bipush (v := nI 8) C (dA DX1_become_0 34 rfl) (by decide) ?_
        refine J_copy C (jL_fk g hg i (by omega)) (jL_fk f hf i (by omega)) (by decide) (by decide) wM_RX1_36 (by decide) (dA DX1_become_0 35 rfl) rfl (Nat.le_of_ble_eq_true rfl) ?_
        rw [show fb g + 100 + i = fb g + (100 + i) by omega, show fb f + 100 + i = fb f + (100 + i) by omega]
        first | refine J_inc1_2_3 C (dA DX1_become_0 36 rfl) rfl ?_ | refine J_iinc_2_3 C (dA DX1_become_0 36 rfl) rfl ?_
        refine J_goto (tgt := 34) C (dA DX1_become_0 37 rfl) (by decide) ?_
        have h3 := Bec_row h2 hfg (o := 100 + i) (s := 3) (n := 8) (by decide) (fun q hq => by omega)
        refine ih (i + 1) _ (by omega) (Bec_to h3 (fun j => ⟨fun h => ?_, fun h => ?_⟩))
        · rcases h with (h | ⟨w, hw, q⟩) | ⟨q, hq, e⟩
          · exact Or.inl h
          · exact Or.inr ⟨w, by omega, q⟩
          · exact Or.inr ⟨i, by omega, q, hq, e⟩
        · rcases h with h | ⟨w, hw, q, hq, e⟩
          · exact Or.inl (Or.inl h)
          · by_cases e2 : w = i
            · subst e2; exact Or.inr ⟨q, hq, e⟩
            · exact Or.inl (Or.inr ⟨w, by omega, q, hq, e⟩)
  have loop1 : ∀ n i (M2 : jM), i + n = 6 → Bec f g (fun j => ∃ w, w < i ∧ ∃ q, q < 16 ∧ j = 4 + w + 6 * q) M M2 → J E X 2 [some (.ref (ja E (fo f))), some (.ref (ja E (fo g))), some (.int (nI i))] [] M2 := by
    intro n
    induction n with
    | zero =>
      intro i M2 hi h2
      refine J_iload_n C (dA DX1_become_0 2 rfl) rfl ?_
      refine J_iconst (v := nI 5) C (dA DX1_become_0 3 rfl) (by decide) ?_
      first | refine J_icmp_gt_n (tgt := 32) C (by omega) (by omega) (dA DX1_become_0 4 rfl) (by decide) (fun h4 => ?_) (fun h4 => ?_) | refine J_icmp_gt_c (tgt := 32) C (by omega) (dA DX1_become_0 4 rfl) (by decide) (fun h4 => ?_) (fun h4 => ?_) | refine J_icmp_gt_t (tgt := 32) C (dA DX1_become_0 4 rfl) (by decide) (fun h4 => ?_) (fun h4 => ?_)
      · refine J_iconst (v := nI 0) C (dA DX1_become_0 19 rfl) (by decide) ?_
        refine J_ist_2_3 C (dA DX1_become_0 20 rfl) rfl ?_
        obtain rfl : i = 6 := by omega
        exact loop2 _ 0 M2 (Nat.zero_add _) (Bec_to h2 (fun j => ⟨fun h => Or.inl h, fun h => h.elim id (fun ⟨w, hw, _⟩ => by omega)⟩))
      · exfalso; omega
    | succ n ih =>
      intro i M2 hi h2
      refine J_iload_n C (dA DX1_become_0 2 rfl) rfl ?_
      refine J_iconst (v := nI 5) C (dA DX1_become_0 3 rfl) (by decide) ?_
      first | refine J_icmp_gt_n (tgt := 32) C (by omega) (by omega) (dA DX1_become_0 4 rfl) (by decide) (fun h4 => ?_) (fun h4 => ?_) | refine J_icmp_gt_c (tgt := 32) C (by omega) (dA DX1_become_0 4 rfl) (by decide) (fun h4 => ?_) (fun h4 => ?_) | refine J_icmp_gt_t (tgt := 32) C (dA DX1_become_0 4 rfl) (by decide) (fun h4 => ?_) (fun h4 => ?_)
      · exfalso; omega
      · refine J_aload_n C (dA DX1_become_0 5 rfl) rfl ?_
        refine G_X1_ponds C hg wF_RX1_11 (dA DX1_become_0 6 rfl) ?_
        refine J_iload_n C (dA DX1_become_0 7 rfl) rfl ?_
        refine R_fp C hg rfl (by omega) (dA DX1_become_0 8 rfl) ?_
        refine J_iconst (v := nI 0) C (dA DX1_become_0 9 rfl) (by decide) ?_
        refine J_aload_n C (dA DX1_become_0 10 rfl) rfl ?_
        refine G_X1_ponds C hf wF_RX1_11 (dA DX1_become_0 11 rfl) ?_
        refine J_iload_n C (dA DX1_become_0 12 rfl) rfl ?_
        refine R_fp C hf rfl (by omega) (dA DX1_become_0 13 rfl) ?_
        refine J_iconst (v := nI 0) C (dA DX1_become_0 14 rfl) (by decide) ?_
        refine J_bipush (v := nI 16) C (dA DX1_become_0 15 rfl) (by decide) ?_
        refine J_copy C (jL_fr g hg i (by omega)) (jL_fr f hf i (by omega)) (by decide) (by decide) wM_RX1_36 (by decide) (dA DX1_become_0 16 rfl) rfl (Nat.le_of_ble_eq_true rfl) ?_
        rw [show fb g + 4 + i = fb g + (4 + i) by omega, show fb f + 4 + i = fb f + (4 + i) by omega]
        first | refine J_inc1_2_3 C (dA DX1_become_0 17 rfl) rfl ?_ | refine J_iinc_2_3 C (dA DX1_become_0 17 rfl) rfl ?_
        refine J_goto (tgt := 2) C (dA DX1_become_0 18 rfl) (by decide) ?_
        have h3 := Bec_row h2 hfg (o := 4 + i) (s := 6) (n := 16) (by decide) (fun q hq => by omega)
        refine ih (i + 1) _ (by omega) (Bec_to h3 (fun j => ⟨fun h => ?_, fun h => ?_⟩))
        · rcases h with ⟨w, hw, q⟩ | ⟨q, hq, e⟩
          · exact ⟨w, by omega, q⟩
          · exact ⟨i, by omega, q, hq, e⟩
        · obtain ⟨w, hw, q, hq, e⟩ := h
          by_cases e2 : w = i
          · subst e2; exact Or.inr ⟨q, hq, e⟩
          · exact Or.inl ⟨w, by omega, q, hq, e⟩
  refine J_iconst (v := nI 0) C (dA DX1_become_0 0 rfl) (by decide) ?_
  refine J_ist_2_3 C (dA DX1_become_0 1 rfl) rfl ?_
  exact loop1 _ 0 M (Nat.zero_add _) (Bec_to Bec_0 (fun j => ⟨fun h => h.elim, fun ⟨w, hw, _⟩ => by omega⟩))
end FM
