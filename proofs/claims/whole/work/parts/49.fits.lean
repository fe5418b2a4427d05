/-- whether, at minute i, a pond's sights are as told -/
def fitP (Z : Nat → Nat → Int32) (q : Nat) (T : Nat → Int32) (p i : Nat) : Bool := decide (Z q (2 + i) = -1 ∨ Z q (2 + i) = inS (minsS T i) (nI (f6 (minsS T i) p 0)))
def fitN (Z : Nat → Nat → Int32) (q : Nat) (T : Nat → Int32) (p n : Nat) : Nat := firstN n (fun i => !(fitP Z q T p i))
theorem fitN_all {Z : Nat → Nat → Int32} {q : Nat} {T : Nat → Int32} {p n : Nat} (h : ∀ i, i < n → fitP Z q T p i = true) : fitN Z q T p n = n := firstN_no (fun k hk => by rw [h k hk]; rfl)
theorem fitN_at {Z : Nat → Nat → Int32} {q : Nat} {T : Nat → Int32} {p n i : Nat} (hi : i < n) (h : ∀ j, j < i → fitP Z q T p j = true) (h2 : fitP Z q T p i = false) : fitN Z q T p n = i := firstN_eq hi (fun k hk => by rw [h k hk]; rfl) (by rw [h2]; rfl)
/-- the fen with a pond that shows another one -/
def shT (S : Nat → Int32) (p v : Nat) : Nat → Int32 := upd S (4 + 6 * p + 0) (nI v)
theorem IS_sh {S : Nat → Int32} (h : IS S) {p v : Nat} (hp : p < 16) (hv : v < 16) (hne : v ≠ p) : IS (shT S p v) := IS_u6 h hp (by decide) (show v ≤ 15 by omega) (fun _ => hne) (fun z => by omega)
theorem sv7_dr {M : jM} {T : Nat → Int32} : sv7 (dr M T) = sv7 M := by
  funext q k
  unfold sv7 dr lay fb
  split
  · rw [if_neg (by omega)]
  · rfl
theorem sv8_asd {M : jM} : sv8 (asd M) = sv8 M := by
  funext q k
  unfold sv8 asd
  by_cases e : q < 4 ∧ k < 42
  · rw [if_pos e, if_pos e]
    unfold lay
    rw [if_neg (by split <;> (try split) <;> omega)]
  · rw [if_neg e, if_neg e]
section PA
variable {M : jM}
set_option maxRecDepth 4000 in
theorem c_X2_showsAsTold (l : Launch) (E : jE) {T : Nat → Int32} (hT : IS T) (q p n : Nat) (hq : q < 4) (hp : p < 16) (hn : n ≤ 40) (e1 : sv7 M q 1 = nI n)  : K_X2_showsAsTold l E [.ref (ja E 40), .ref (ja E (fo 1)), .int (nI p), .ref (ja E (so q))] (dr M (minsS T 0)) (jb (decide ((fitN (sv7 M) q T p n) = n))) (dr M (minsS T (fitN (sv7 M) q T p n))) := by
  refine CT_intro (own := RX2) (by decide +kernel) rfl (by simp [Value.category]) (Nat.le_of_ble_eq_true rfl) rfl (fun X C G => ?_)
  show J E X 0 [some (.ref (ja E 40)), some (.ref (ja E (fo 1))), some (.int (nI p)), some (.ref (ja E (so q))), none, none] [] (dr M (minsS T 0))
  have loop : ∀ k i (o5 : Option Value), (∀ z : Int32, jok [some (.ref (ja E 40)), some (.ref (ja E (fo 1))), some (.int (nI p)), some (.ref (ja E (so q))), some (.int z), o5] 5 = true) → i + k = n → (∀ j, j < i → fitP (sv7 M) q T p j = true) → J E X 3 [some (.ref (ja E 40)), some (.ref (ja E (fo 1))), some (.int (nI p)), some (.ref (ja E (so q))), some (.int (nI i)), o5] [] (dr M (minsS T i)) := by
    intro k
    induction k with
    | zero =>
      intro i o5 k5 hi hg
      refine J_iload C (dA DX2_showsAsTold_0 2 rfl) rfl ?_
      refine J_aload_n C (dA DX2_showsAsTold_0 3 rfl) rfl ?_
      refine G_X3_length C hq wF_RX2_32 (dA DX2_showsAsTold_0 4 rfl) ?_
      rw [show (dr M (minsS T i)) (sb q + 1) = nI n from (sv7_at hq (by decide)).trans (by rw [sv7_dr]; exact e1)]
      refine J_icmp_ge_n (tgt := 49) C (by omega) (by omega) (dA DX2_showsAsTold_0 5 rfl) (by decide) (fun h9 => ?_) (fun h9 => ?_)
      · refine J_iconst (v := nI 1) C (dA DX2_showsAsTold_0 25 rfl) (by decide) ?_
        obtain rfl : n = i := by omega
        have ef := fitN_all hg
        exact J_zret C G rfl (dA DX2_showsAsTold_0 26 rfl) ⟨oi (bt_t (decide_eq_true ef)), by rw [ef]⟩
      · exfalso; omega
    | succ k ih =>
      intro i o5 k5 hi hg
      have hmi := drI (M := M) hT i
      have hI := hmi.2.1
      refine J_iload C (dA DX2_showsAsTold_0 2 rfl) rfl ?_
      refine J_aload_n C (dA DX2_showsAsTold_0 3 rfl) rfl ?_
      refine G_X3_length C hq wF_RX2_32 (dA DX2_showsAsTold_0 4 rfl) ?_
      rw [show (dr M (minsS T i)) (sb q + 1) = nI n from (sv7_at hq (by decide)).trans (by rw [sv7_dr]; exact e1)]
      refine J_icmp_ge_n (tgt := 49) C (by omega) (by omega) (dA DX2_showsAsTold_0 5 rfl) (by decide) (fun h9 => ?_) (fun h9 => ?_)
      · exfalso; omega
      · refine J_aload_n C (dA DX2_showsAsTold_0 6 rfl) rfl ?_
        refine G_X3_numbers C hq wF_RX2_38 (dA DX2_showsAsTold_0 7 rfl) ?_
        refine J_iload C (dA DX2_showsAsTold_0 8 rfl) rfl ?_
        refine R_sn C hq rfl (by omega) (dA DX2_showsAsTold_0 9 rfl) ?_
        rw [show (dr M (minsS T i)) (sb q + (2 + i)) = sv7 M q (2 + i) from (sv7_at hq (by omega)).trans (by rw [sv7_dr])]
        refine J_ist_5_6 C (dA DX2_showsAsTold_0 10 rfl) (k5 _) ?_
        refine J_iload C (dA DX2_showsAsTold_0 11 rfl) rfl ?_
        refine J_iconst (v := (-1)) C (dA DX2_showsAsTold_0 12 rfl) (by decide) ?_
        refine J_icmp_eq (tgt := 39) C (dA DX2_showsAsTold_0 13 rfl) (by decide) (fun h24 => ?_) (fun h24 => ?_)
        · refine J_aload_n C (dA DX2_showsAsTold_0 21 rfl) rfl ?_
          refine V_X1_passMinute C (by decide) (c_drm l E hT i) wM_RX2_21 (by decide) (dA DX2_showsAsTold_0 22 rfl) rfl (Nat.le_of_ble_eq_true rfl) ?_
          first | refine J_inc1_4_6 C (dA DX2_showsAsTold_0 23 rfl) rfl ?_ | refine J_iinc_4_6 C (dA DX2_showsAsTold_0 23 rfl) rfl ?_
          refine J_goto (tgt := 3) C (dA DX2_showsAsTold_0 24 rfl) (by decide) ?_
          have ep : fitP (sv7 M) q T p i = true := decide_eq_true (Or.inl (by first | exact h24 | exact Classical.byContradiction h24))
          refine ih (i + 1) (some (.int (sv7 M q (2 + i)))) (fun _ => rfl) (by omega) (fun j hj => ?_)
          rcases Nat.lt_or_ge j i with z | z
          · exact hg j z
          · rw [show j = i by omega]; exact ep
        · refine J_iload C (dA DX2_showsAsTold_0 14 rfl) rfl ?_
          refine J_aload_n C (dA DX2_showsAsTold_0 15 rfl) rfl ?_
          refine J_iload_n C (dA DX2_showsAsTold_0 16 rfl) rfl ?_
          refine V_X1_thingsSeenIn C (by decide) (c_X1_thingsSeenIn l E 1 (by decide) p hp hI) wM_RX2_41 (by decide) (dA DX2_showsAsTold_0 17 rfl) rfl (Nat.le_of_ble_eq_true rfl) ?_
          rw [hmi.1]
          refine J_icmp_eq (tgt := 39) C (dA DX2_showsAsTold_0 18 rfl) (by decide) (fun h34 => ?_) (fun h34 => ?_)
          · refine J_aload_n C (dA DX2_showsAsTold_0 21 rfl) rfl ?_
            refine V_X1_passMinute C (by decide) (c_drm l E hT i) wM_RX2_21 (by decide) (dA DX2_showsAsTold_0 22 rfl) rfl (Nat.le_of_ble_eq_true rfl) ?_
            first | refine J_inc1_4_6 C (dA DX2_showsAsTold_0 23 rfl) rfl ?_ | refine J_iinc_4_6 C (dA DX2_showsAsTold_0 23 rfl) rfl ?_
            refine J_goto (tgt := 3) C (dA DX2_showsAsTold_0 24 rfl) (by decide) ?_
            have ep : fitP (sv7 M) q T p i = true := decide_eq_true (Or.inr (by first | exact h34 | exact Classical.byContradiction h34))
            refine ih (i + 1) (some (.int (sv7 M q (2 + i)))) (fun _ => rfl) (by omega) (fun j hj => ?_)
            rcases Nat.lt_or_ge j i with z | z
            · exact hg j z
            · rw [show j = i by omega]; exact ep
          · refine J_iconst (v := nI 0) C (dA DX2_showsAsTold_0 19 rfl) (by decide) ?_
            have ep : fitP (sv7 M) q T p i = false := decide_eq_false (fun z => z.elim h24 h34)
            have ef := fitN_at (n := n) (by omega) hg ep
            exact J_zret C G rfl (dA DX2_showsAsTold_0 20 rfl) ⟨oi (bt_f (decide_eq_false (fun z => by omega))), by rw [ef]⟩
  refine J_iconst (v := nI 0) C (dA DX2_showsAsTold_0 0 rfl) (by decide) ?_
  refine J_ist_4_6 C (dA DX2_showsAsTold_0 1 rfl) rfl ?_
  exact loop n 0 none (fun _ => rfl) (Nat.zero_add _) (fun j hj => by omega)
set_option maxRecDepth 4000 in
theorem c_X8_fitsAs (l : Launch) (E : jE) (q p v n : Nat) (hq : q < 4) (hp : p < 16) (hv : v < 16) (hne : v ≠ p) (hn : n ≤ 40) (e1 : sv8 M q 1 = nI n) (hS : IS (vb 1100 M))  : K_X8_fitsAs l E [.ref (ja E 60), .int (nI q), .int (nI p), .int (nI v)] M (jb (decide (fitN (sv8 M) q (shT (vb 1100 M) p v) p n = n))) (asd M) := by
  refine CT_intro (own := RX8) (by decide +kernel) rfl (by simp [Value.category]) (Nat.le_of_ble_eq_true rfl) rfl (fun X C G => ?_)
  show J E X 0 [some (.ref (ja E 60)), some (.int (nI q)), some (.int (nI p)), some (.int (nI v)), none, none] [] M
  have hT := IS_sh hS hp hv hne
  have stop : ∀ i, i ≤ n → ¬ fitN (sv8 M) q (shT (vb 1100 M) p v) p n = n → J E X 17 [some (.ref (ja E 60)), some (.int (nI q)), some (.int (nI p)), some (.int (nI v)), some (.int (nI 0)), some (.int (nI i))] [] (lay 1100 (asd M) (minsS (shT (vb 1100 M) p v) i)) := by
    intro i hi hf
    have sz : sv8 (lay 1100 (asd M) (minsS (shT (vb 1100 M) p v) i)) = sv8 M := sv8_lay.trans sv8_asd
    refine J_iload C (dA DX8_fitsAs_0 11 rfl) rfl ?_
    refine J_aload_n C (dA DX8_fitsAs_0 12 rfl) rfl ?_
    refine G_X8_sizes C wF_RX8_44 (dA DX8_fitsAs_0 13 rfl) ?_
    refine J_iload_n C (dA DX8_fitsAs_0 14 rfl) rfl ?_
    refine R_1 C (hk := rfl) rfl (by omega) (dA DX8_fitsAs_0 15 rfl) ?_
    rw [show (lay 1100 (asd M) (minsS (shT (vb 1100 M) p v) i)) (1649 + q) = nI n from (sv8_1 hq).trans (by rw [sz]; exact e1)]
    refine J_icmp_ge_n (tgt := 76) C (by omega) (by omega) (dA DX8_fitsAs_0 16 rfl) (by decide) (fun h25 => ?_) (fun h25 => ?_)
    · try have g25 := inr_t h25
      try have g25 := inr_f h25
      refine J_aload_n C (dA DX8_fitsAs_0 41 rfl) rfl ?_
      refine V_X8_laysBack C (c_X8_laysBack l E) wM_RX8_168 (by decide) (dA DX8_fitsAs_0 42 rfl) rfl (Nat.le_of_ble_eq_true rfl) ?_
      rw [asd_back]
      refine J_iload C (dA DX8_fitsAs_0 43 rfl) rfl ?_
      exact J_zret C G rfl (dA DX8_fitsAs_0 44 rfl) ⟨oi (bt_f (decide_eq_false hf)), rfl⟩
    · try have g25 := inr_t h25
      try have g25 := inr_f h25
      refine J_iload C (dA DX8_fitsAs_0 17 rfl) rfl ?_
      refine J_if_eq (tgt := 76) C (dA DX8_fitsAs_0 18 rfl) (by decide) (fun h30 => ?_) (fun h30 => ?_)
      · refine J_aload_n C (dA DX8_fitsAs_0 41 rfl) rfl ?_
        refine V_X8_laysBack C (c_X8_laysBack l E) wM_RX8_168 (by decide) (dA DX8_fitsAs_0 42 rfl) rfl (Nat.le_of_ble_eq_true rfl) ?_
        rw [asd_back]
        refine J_iload C (dA DX8_fitsAs_0 43 rfl) rfl ?_
        exact J_zret C G rfl (dA DX8_fitsAs_0 44 rfl) ⟨oi (bt_f (decide_eq_false hf)), rfl⟩
      · exact absurd rfl h30
  have loop : ∀ k i, i + k = n → (∀ j, j < i → fitP (sv8 M) q (shT (vb 1100 M) p v) p j = true) → J E X 17 [some (.ref (ja E 60)), some (.int (nI q)), some (.int (nI p)), some (.int (nI v)), some (.int (nI 1)), some (.int (nI i))] [] (lay 1100 (asd M) (minsS (shT (vb 1100 M) p v) i)) := by
    intro k
    induction k with
    | zero =>
      intro i hi hg
      have sz : sv8 (lay 1100 (asd M) (minsS (shT (vb 1100 M) p v) i)) = sv8 M := sv8_lay.trans sv8_asd
      refine J_iload C (dA DX8_fitsAs_0 11 rfl) rfl ?_
      refine J_aload_n C (dA DX8_fitsAs_0 12 rfl) rfl ?_
      refine G_X8_sizes C wF_RX8_44 (dA DX8_fitsAs_0 13 rfl) ?_
      refine J_iload_n C (dA DX8_fitsAs_0 14 rfl) rfl ?_
      refine R_1 C (hk := rfl) rfl (by omega) (dA DX8_fitsAs_0 15 rfl) ?_
      rw [show (lay 1100 (asd M) (minsS (shT (vb 1100 M) p v) i)) (1649 + q) = nI n from (sv8_1 hq).trans (by rw [sz]; exact e1)]
      refine J_icmp_ge_n (tgt := 76) C (by omega) (by omega) (dA DX8_fitsAs_0 16 rfl) (by decide) (fun h25 => ?_) (fun h25 => ?_)
      · try have g25 := inr_t h25
        try have g25 := inr_f h25
        refine J_aload_n C (dA DX8_fitsAs_0 41 rfl) rfl ?_
        refine V_X8_laysBack C (c_X8_laysBack l E) wM_RX8_168 (by decide) (dA DX8_fitsAs_0 42 rfl) rfl (Nat.le_of_ble_eq_true rfl) ?_
        rw [asd_back]
        refine J_iload C (dA DX8_fitsAs_0 43 rfl) rfl ?_
        obtain rfl : n = i := by omega
        exact J_zret C G rfl (dA DX8_fitsAs_0 44 rfl) ⟨oi (bt_t (decide_eq_true (fitN_all hg))), rfl⟩
      · exfalso; omega
    | succ k ih =>
      intro i hi hg
      have sz : sv8 (lay 1100 (asd M) (minsS (shT (vb 1100 M) p v) i)) = sv8 M := sv8_lay.trans sv8_asd
      have hmi := miI (M := asd M) hT i
      have hI := hmi.2.1
      refine J_iload C (dA DX8_fitsAs_0 11 rfl) rfl ?_
      refine J_aload_n C (dA DX8_fitsAs_0 12 rfl) rfl ?_
      refine G_X8_sizes C wF_RX8_44 (dA DX8_fitsAs_0 13 rfl) ?_
      refine J_iload_n C (dA DX8_fitsAs_0 14 rfl) rfl ?_
      refine R_1 C (hk := rfl) rfl (by omega) (dA DX8_fitsAs_0 15 rfl) ?_
      rw [show (lay 1100 (asd M) (minsS (shT (vb 1100 M) p v) i)) (1649 + q) = nI n from (sv8_1 hq).trans (by rw [sz]; exact e1)]
      refine J_icmp_ge_n (tgt := 76) C (by omega) (by omega) (dA DX8_fitsAs_0 16 rfl) (by decide) (fun h25 => ?_) (fun h25 => ?_)
      · exfalso; omega
      · try have g25 := inr_t h25
        try have g25 := inr_f h25
        refine J_iload C (dA DX8_fitsAs_0 17 rfl) rfl ?_
        refine J_if_eq (tgt := 76) C (dA DX8_fitsAs_0 18 rfl) (by decide) (fun h30 => ?_) (fun h30 => ?_)
        · exact absurd h30 (by decide)
        · refine J_aload_n C (dA DX8_fitsAs_0 19 rfl) rfl ?_
          refine J_iload_n C (dA DX8_fitsAs_0 20 rfl) rfl ?_
          refine J_iload C (dA DX8_fitsAs_0 21 rfl) rfl ?_
          refine V_X8_told C (c_X8_told l E q i hq (by omega)) wM_RX8_187 (by decide) (dA DX8_fitsAs_0 22 rfl) rfl (Nat.le_of_ble_eq_true rfl) ?_
          rw [sz]
          refine J_iconst (v := (-1)) C (dA DX8_fitsAs_0 23 rfl) (by decide) ?_
          refine J_icmp_eq (tgt := 59) C (dA DX8_fitsAs_0 24 rfl) (by decide) (fun h41 => ?_) (fun h41 => ?_)
          · refine J_iconst (v := nI 1) C (dA DX8_fitsAs_0 33 rfl) (by decide) ?_
            refine J_goto (tgt := 64) C (dA DX8_fitsAs_0 34 rfl) (by decide) ?_
            refine J_ist_4_6 C (dA DX8_fitsAs_0 36 rfl) rfl ?_
            refine J_aload_n C (dA DX8_fitsAs_0 37 rfl) rfl ?_
            refine V_X8_minute C (c_mim (M := asd M) l E hT i) wM_RX8_119 (by decide) (dA DX8_fitsAs_0 38 rfl) rfl (Nat.le_of_ble_eq_true rfl) ?_
            first | refine J_inc1_5_6 C (dA DX8_fitsAs_0 39 rfl) rfl ?_ | refine J_iinc_5_6 C (dA DX8_fitsAs_0 39 rfl) rfl ?_
            refine J_goto (tgt := 17) C (dA DX8_fitsAs_0 40 rfl) (by decide) ?_
            have ep : fitP (sv8 M) q (shT (vb 1100 M) p v) p i = true := decide_eq_true (Or.inl (by first | exact h41 | exact Classical.byContradiction h41))
            refine ih (i + 1) (by omega) (fun j hj => ?_)
            rcases Nat.lt_or_ge j i with z | z
            · exact hg j z
            · rw [show j = i by omega]; exact ep
          · refine J_aload_n C (dA DX8_fitsAs_0 25 rfl) rfl ?_
            refine J_iload_n C (dA DX8_fitsAs_0 26 rfl) rfl ?_
            refine J_iload C (dA DX8_fitsAs_0 27 rfl) rfl ?_
            refine V_X8_told C (c_X8_told l E q i hq (by omega)) wM_RX8_187 (by decide) (dA DX8_fitsAs_0 28 rfl) rfl (Nat.le_of_ble_eq_true rfl) ?_
            rw [sz]
            refine J_aload_n C (dA DX8_fitsAs_0 29 rfl) rfl ?_
            refine J_iload_n C (dA DX8_fitsAs_0 30 rfl) rfl ?_
            refine V_X8_seenIn C (c_X8_seenIn l E p hp hI) wM_RX8_73 (by decide) (dA DX8_fitsAs_0 31 rfl) rfl (Nat.le_of_ble_eq_true rfl) ?_
            rw [hmi.1]
            refine J_icmp_ne (tgt := 63) C (dA DX8_fitsAs_0 32 rfl) (by decide) (fun h56 => ?_) (fun h56 => ?_)
            · refine J_iconst (v := nI 0) C (dA DX8_fitsAs_0 35 rfl) (by decide) ?_
              refine J_ist_4_6 C (dA DX8_fitsAs_0 36 rfl) rfl ?_
              refine J_aload_n C (dA DX8_fitsAs_0 37 rfl) rfl ?_
              refine V_X8_minute C (c_mim (M := asd M) l E hT i) wM_RX8_119 (by decide) (dA DX8_fitsAs_0 38 rfl) rfl (Nat.le_of_ble_eq_true rfl) ?_
              first | refine J_inc1_5_6 C (dA DX8_fitsAs_0 39 rfl) rfl ?_ | refine J_iinc_5_6 C (dA DX8_fitsAs_0 39 rfl) rfl ?_
              refine J_goto (tgt := 17) C (dA DX8_fitsAs_0 40 rfl) (by decide) ?_
              have ep : fitP (sv8 M) q (shT (vb 1100 M) p v) p i = false := decide_eq_false (fun z => z.elim h41 h56)
              have ef := fitN_at (n := n) (by omega) hg ep
              exact stop (i + 1) (by omega) (by omega)
            · refine J_iconst (v := nI 1) C (dA DX8_fitsAs_0 33 rfl) (by decide) ?_
              refine J_goto (tgt := 64) C (dA DX8_fitsAs_0 34 rfl) (by decide) ?_
              refine J_ist_4_6 C (dA DX8_fitsAs_0 36 rfl) rfl ?_
              refine J_aload_n C (dA DX8_fitsAs_0 37 rfl) rfl ?_
              refine V_X8_minute C (c_mim (M := asd M) l E hT i) wM_RX8_119 (by decide) (dA DX8_fitsAs_0 38 rfl) rfl (Nat.le_of_ble_eq_true rfl) ?_
              first | refine J_inc1_5_6 C (dA DX8_fitsAs_0 39 rfl) rfl ?_ | refine J_iinc_5_6 C (dA DX8_fitsAs_0 39 rfl) rfl ?_
              refine J_goto (tgt := 17) C (dA DX8_fitsAs_0 40 rfl) (by decide) ?_
              have ep : fitP (sv8 M) q (shT (vb 1100 M) p v) p i = true := decide_eq_true (Or.inr (by first | exact h56 | exact Classical.byContradiction h56))
              refine ih (i + 1) (by omega) (fun j hj => ?_)
              rcases Nat.lt_or_ge j i with z | z
              · exact hg j z
              · rw [show j = i by omega]; exact ep
  refine J_aload_n C (dA DX8_fitsAs_0 0 rfl) rfl ?_
  refine V_X8_setsAside C (c_X8_setsAside l E) wM_RX8_165 (by decide) (dA DX8_fitsAs_0 1 rfl) rfl (Nat.le_of_ble_eq_true rfl) ?_
  refine J_aload_n C (dA DX8_fitsAs_0 2 rfl) rfl ?_
  refine J_iload_n C (dA DX8_fitsAs_0 3 rfl) rfl ?_
  refine J_iconst (v := nI 0) C (dA DX8_fitsAs_0 4 rfl) (by decide) ?_
  refine J_iload_n C (dA DX8_fitsAs_0 5 rfl) rfl ?_
  refine V_X8_lays1 C (c_X8_lays1 l E p 0 hp (by decide) _) wM_RX8_53 (by decide) (dA DX8_fitsAs_0 6 rfl) rfl (Nat.le_of_ble_eq_true rfl) ?_
  rw [show lay 1368 M (vb 1100 M) = asd M from rfl, vb_asd, show upd (vb 1100 M) (4 + 6 * p + 0) (nI v) = minsS (shT (vb 1100 M) p v) 0 from rfl]
  refine J_iconst (v := nI 1) C (dA DX8_fitsAs_0 7 rfl) (by decide) ?_
  refine J_ist_4_6 C (dA DX8_fitsAs_0 8 rfl) rfl ?_
  refine J_iconst (v := nI 0) C (dA DX8_fitsAs_0 9 rfl) (by decide) ?_
  refine J_ist_5_6 C (dA DX8_fitsAs_0 10 rfl) rfl ?_
  exact loop n 0 (Nat.zero_add _) (fun j hj => by omega)
end PA
