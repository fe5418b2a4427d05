def is16 (x : Int32) : Prop := ∃ m, m < 65536 ∧ x = nI m
def bcN (x : Int32) : Nat := pcN (nv x)
theorem p8_le : ∀ b, b < 256 → p8 b ≤ 8 := by decide +kernel
theorem pcN_le {n : Nat} (h : n < 65536) : pcN n ≤ 16 := by
  have e := pcN_s (a := n / 256) (b := n % 256) (by omega) (by omega)
  have h1 := p8_le (n / 256) (by omega)
  have h2 := p8_le (n % 256) (by omega)
  rw [show 256 * (n / 256) + n % 256 = n by omega] at e
  omega
theorem bcN_le {x : Int32} (h : is16 x) : bcN x ≤ 16 := by
  obtain ⟨m, hm, rfl⟩ := h
  unfold bcN
  rw [nv_nI (by omega)]
  exact pcN_le hm
theorem s16_orL {n : Nat} (hn : n ≤ 16) (P : Nat → Bool) : is16 (orL n P) := ⟨mk n P, Nat.lt_of_lt_of_le (mk_lt P n) (Nat.pow_le_pow_right (by decide) hn), orL_mk (by omega) P⟩
theorem s16_sight (S : Nat → Int32) : is16 (sightS S) := s16_orL (by decide) _
theorem s16_fill {S : Nat → Int32} (h : IS S) : is16 (fillS S) := by rw [← pw_in h]; exact s16_orL (by decide) _
theorem s16_in {S : Nat → Int32} (h : IS S) (x : Int32) : is16 (inS S x) := s16_orL (by have := leN h; omega) _
def aCount (S : Nat → Int32) (t a : Int32) : Int32 := if inr a 0 7 = true then (if nv a = 0 then nI (iM S) else if nv a = 1 then nI (iN S) else if nv a = 2 then nI (bcN (fillS S)) else if nv a = 3 then nI (bcN (sightS S)) else if nv a = 4 then nI (lenS S) else if nv a = 5 then t else if nv a = 6 then S 2 else nI (spS S)) else fi 0
def eCount (F : Nat) (a : Int32) (M : jM) : jM := if inr a 0 7 = true then M else Fl F 0 M
/-- how many sights of a pond there are, of n minutes -/
def cW (S : Nat → Int32) : Nat → Nat → Nat
  | 0, _ => 0
  | n + 1, q => cW S n q + bcN (inS (minsS S (n + 1)) (nI (f6 (minsS S (n + 1)) q 0)))
theorem cW_le {S : Nat → Int32} (h : IS S) (q : Nat) : ∀ n, cW S n q ≤ 16 * n
  | 0 => Nat.le_refl 0
  | n + 1 => by
    have h1 := cW_le h q n
    have h2 := bcN_le (s16_in (IS_mins h (n + 1)).1 (nI (f6 (minsS S (n + 1)) q 0)))
    simp only [cW]
    omega
/-- the counts while minute n + 1 is counted, up to pond i -/
def cWi (S : Nat → Int32) (n i q : Nat) : Nat := if q < i then cW S (n + 1) q else cW S n q
theorem cWi_0 (S : Nat → Int32) (n : Nat) : cWi S n 0 = cW S n := by funext q; unfold cWi; rw [if_neg (by omega)]
theorem cWi_at (S : Nat → Int32) (n i : Nat) : cWi S n i i = cW S n i := by unfold cWi; rw [if_neg (by omega)]
theorem cWi_s (S : Nat → Int32) (n i : Nat) : (fun k => if k = i then cW S n i + bcN (inS (minsS S (n + 1)) (nI (f6 (minsS S (n + 1)) i 0))) else cWi S n i k) = cWi S n (i + 1) := by
  funext k
  unfold cWi
  by_cases e : k = i
  · subst e; rw [if_pos rfl, if_pos (by omega)]; rfl
  · rw [if_neg e]
    by_cases e2 : k < i
    · rw [if_pos e2, if_pos (by omega)]
    · rw [if_neg e2, if_neg (by omega)]
theorem cWi_e (b : Nat) (M : jM) (S : Nat → Int32) (n : Nat) : tn b M (cWi S n 16) = tn b M (cW S (n + 1)) := tl_cong (fun j hj => by unfold cWi; rw [if_pos hj])
def aWatch (S : Nat → Int32) (a : Int32) : Int32 := if inr a 1 40 = true then nI (bst (cW S (nv a)) 15) else fi 0
def eWatch7 (a : Int32) (M : jM) : jM := if inr a 1 40 = true then tn 406 (dr M (minsS (vb (fb 0) M) (nv a))) (cW (vb (fb 0) M) (nv a)) else Fl 1076 0 M
def eWatch8 (a : Int32) (M : jM) : jM := if inr a 1 40 = true then tn 1509 (asd M) (cW (vb 1100 M) (nv a)) else Fl 1502 0 M
section PA
variable {M : jM}
theorem c_bc (l : Launch) (E : jE) (x : Int32) (h : is16 x) : K_J6_bitCount_0f7a4 l E [.int x] M (nI (bcN x)) M := by
  obtain ⟨m, hm, rfl⟩ := h
  unfold bcN
  rw [nv_nI (by omega)]
  exact c_J6_bitCount l E m hm
theorem c_bx (l : Launch) (E : jE) (x : Int32) (h : is16 x) : K_X8_bits l E [.int x] M (nI (bcN x)) M := by
  obtain ⟨m, hm, rfl⟩ := h
  unfold bcN
  rw [nv_nI (by omega)]
  exact c_X8_bits l E m hm
set_option maxRecDepth 4000 in
theorem c_X7_count (l : Launch) (E : jE) (a : Int32) (hS : IS (vb (fb 0) M))  : K_X7_count l E [.ref (ja E 59), .int a] M (aCount (vb (fb 0) M) (M 422) a) (eCount 1076 a M) := by
  refine CT_intro (own := RX7) (by decide +kernel) rfl (by simp [Value.category]) (Nat.le_of_ble_eq_true rfl) rfl (fun X C G => ?_)
  show J E X 0 [some (.ref (ja E 59)), some (.int a)] [] M
  by_cases hv : inr a 0 7 = true
  · have hv2 := inr_t hv
    obtain ⟨p, hp, rfl⟩ := toNI (x := a) (n := 8) (by omega) (by omega)
    rcases (show p = 0 ∨ p = 1 ∨ p = 2 ∨ p = 3 ∨ p = 4 ∨ p = 5 ∨ p = 6 ∨ p = 7 by omega) with rfl | rfl | rfl | rfl | rfl | rfl | rfl | rfl
    · refine J_iload_n C (dA DX7_count_0 0 rfl) rfl ?_
      refine J_tabIn C (dA DX7_count_0 1 rfl) (by decide) (by decide) (off := 47) rfl (tgt := 48) (by decide) ?_
      refine J_aload_n C (dA DX7_count_0 2 rfl) rfl ?_
      refine G_X7_fen C wF_RX7_12 (dA DX7_count_0 3 rfl) ?_
      refine H_X1_minute C (by decide) hS wF_RX7_120 (dA DX7_count_0 4 rfl) ?_
      exact J_iret C G (dA DX7_count_0 5 rfl) ⟨oi (by unfold aCount; rw [if_pos hv, show nv (nI 0) = 0 from rfl]; rfl), by unfold eCount; rw [if_pos hv]⟩
    · refine J_iload_n C (dA DX7_count_0 0 rfl) rfl ?_
      refine J_tabIn C (dA DX7_count_0 1 rfl) (by decide) (by decide) (off := 55) rfl (tgt := 56) (by decide) ?_
      refine J_aload_n C (dA DX7_count_0 6 rfl) rfl ?_
      refine G_X7_fen C wF_RX7_12 (dA DX7_count_0 7 rfl) ?_
      refine H_X1_size C (by decide) hS wF_RX7_290 (dA DX7_count_0 8 rfl) ?_
      exact J_iret C G (dA DX7_count_0 9 rfl) ⟨oi (by unfold aCount; rw [if_pos hv, show nv (nI 1) = 1 from rfl]; rfl), by unfold eCount; rw [if_pos hv]⟩
    · refine J_iload_n C (dA DX7_count_0 0 rfl) rfl ?_
      refine J_tabIn C (dA DX7_count_0 1 rfl) (by decide) (by decide) (off := 63) rfl (tgt := 64) (by decide) ?_
      refine J_aload_n C (dA DX7_count_0 10 rfl) rfl ?_
      refine G_X7_fen C wF_RX7_12 (dA DX7_count_0 11 rfl) ?_
      refine V_X1_pondsWithThings C (by decide) (c_X1_pondsWithThings l E _ (by decide) hS) wM_RX7_128 (by decide) (dA DX7_count_0 12 rfl) rfl (Nat.le_of_ble_eq_true rfl) ?_
      refine V_J6_bitCount_0f7a4 C (c_bc l E _ (s16_fill hS)) wM_RX7_199 (by decide) (dA DX7_count_0 13 rfl) rfl (Nat.le_of_ble_eq_true rfl) ?_
      exact J_iret C G (dA DX7_count_0 14 rfl) ⟨oi (by unfold aCount; rw [if_pos hv, show nv (nI 2) = 2 from rfl]; rfl), by unfold eCount; rw [if_pos hv]⟩
    · refine J_iload_n C (dA DX7_count_0 0 rfl) rfl ?_
      refine J_tabIn C (dA DX7_count_0 1 rfl) (by decide) (by decide) (off := 74) rfl (tgt := 75) (by decide) ?_
      refine J_aload_n C (dA DX7_count_0 15 rfl) rfl ?_
      refine G_X7_fen C wF_RX7_12 (dA DX7_count_0 16 rfl) ?_
      refine V_X1_pondsWithSights C (by decide) (c_X1_pondsWithSights l E _ (by decide) hS) wM_RX7_132 (by decide) (dA DX7_count_0 17 rfl) rfl (Nat.le_of_ble_eq_true rfl) ?_
      refine V_J6_bitCount_0f7a4 C (c_bc l E _ (s16_sight _)) wM_RX7_199 (by decide) (dA DX7_count_0 18 rfl) rfl (Nat.le_of_ble_eq_true rfl) ?_
      exact J_iret C G (dA DX7_count_0 19 rfl) ⟨oi (by unfold aCount; rw [if_pos hv, show nv (nI 3) = 3 from rfl]; rfl), by unfold eCount; rw [if_pos hv]⟩
    · refine J_iload_n C (dA DX7_count_0 0 rfl) rfl ?_
      refine J_tabIn C (dA DX7_count_0 1 rfl) (by decide) (by decide) (off := 85) rfl (tgt := 86) (by decide) ?_
      refine J_aload_n C (dA DX7_count_0 20 rfl) rfl ?_
      refine G_X7_fen C wF_RX7_12 (dA DX7_count_0 21 rfl) ?_
      refine V_X1_lengths C (by decide) (c_X1_lengths l E _ (by decide) hS) wM_RX7_135 (by decide) (dA DX7_count_0 22 rfl) rfl (Nat.le_of_ble_eq_true rfl) ?_
      exact J_iret C G (dA DX7_count_0 23 rfl) ⟨oi (by unfold aCount; rw [if_pos hv, show nv (nI 4) = 4 from rfl]; rfl), by unfold eCount; rw [if_pos hv]⟩
    · refine J_iload_n C (dA DX7_count_0 0 rfl) rfl ?_
      refine J_tabIn C (dA DX7_count_0 1 rfl) (by decide) (by decide) (off := 93) rfl (tgt := 94) (by decide) ?_
      refine J_aload_n C (dA DX7_count_0 24 rfl) rfl ?_
      refine G_X7_tape C wF_RX7_43 (dA DX7_count_0 25 rfl) ?_
      refine G_X4_length C wF_RX7_233 (dA DX7_count_0 26 rfl) ?_
      exact J_iret C G (dA DX7_count_0 27 rfl) ⟨oi (by unfold aCount; rw [if_pos hv, show nv (nI 5) = 5 from rfl]; rfl), by unfold eCount; rw [if_pos hv]⟩
    · refine J_iload_n C (dA DX7_count_0 0 rfl) rfl ?_
      refine J_tabIn C (dA DX7_count_0 1 rfl) (by decide) (by decide) (off := 101) rfl (tgt := 102) (by decide) ?_
      refine J_aload_n C (dA DX7_count_0 28 rfl) rfl ?_
      refine G_X7_fen C wF_RX7_12 (dA DX7_count_0 29 rfl) ?_
      refine G_X1_z C (by decide) wF_RX7_230 (dA DX7_count_0 30 rfl) ?_
      exact J_iret C G (dA DX7_count_0 31 rfl) ⟨oi (by unfold aCount; rw [if_pos hv, show nv (nI 6) = 6 from rfl]; exact (vb_at (by decide)).symm), by unfold eCount; rw [if_pos hv]⟩
    · refine J_iload_n C (dA DX7_count_0 0 rfl) rfl ?_
      refine J_tabIn C (dA DX7_count_0 1 rfl) (by decide) (by decide) (off := 109) rfl (tgt := 110) (by decide) ?_
      refine J_aload_n C (dA DX7_count_0 32 rfl) rfl ?_
      refine G_X7_fen C wF_RX7_12 (dA DX7_count_0 33 rfl) ?_
      refine V_X1_spotsInUse C (by decide) (c_X1_spotsInUse l E _ (by decide) hS) wM_RX7_291 (by decide) (dA DX7_count_0 34 rfl) rfl (Nat.le_of_ble_eq_true rfl) ?_
      exact J_iret C G (dA DX7_count_0 35 rfl) ⟨oi (by unfold aCount; rw [if_pos hv, show nv (nI 7) = 7 from rfl]; rfl), by unfold eCount; rw [if_pos hv]⟩
  · refine J_iload_n C (dA DX7_count_0 0 rfl) rfl ?_
    refine J_tabOut C (dA DX7_count_0 1 rfl) (by have := inr_f (Bool.eq_false_iff.mpr hv); omega) (tgt := 118) (by decide) ?_
    refine J_aload_n C (dA DX7_count_0 36 rfl) rfl ?_
    refine J_ldc (v := (-1000001)) C wK_RX7_69 (dA DX7_count_0 37 rfl) ?_
    refine V_X7_finding C (c_X7_finding l E 0 (by decide) _ (by decide)) wM_RX7_70 (by decide) (dA DX7_count_0 38 rfl) rfl (Nat.le_of_ble_eq_true rfl) ?_
    exact J_iret C G (dA DX7_count_0 39 rfl) ⟨oi (by unfold aCount; rw [if_neg hv]; rfl), by unfold eCount; rw [if_neg hv]⟩

set_option maxRecDepth 4000 in
theorem c_X8_count (l : Launch) (E : jE) (a : Int32) (hS : IS (vb 1100 M))  : K_X8_count l E [.ref (ja E 60), .int a] M (aCount (vb 1100 M) (M 1858) a) (eCount 1502 a M) := by
  refine CT_intro (own := RX8) (by decide +kernel) rfl (by simp [Value.category]) (Nat.le_of_ble_eq_true rfl) rfl (fun X C G => ?_)
  show J E X 0 [some (.ref (ja E 60)), some (.int a), none, none] [] M
  by_cases hv : inr a 0 7 = true
  · have hv2 := inr_t hv
    obtain ⟨p, hp, rfl⟩ := toNI (x := a) (n := 8) (by omega) (by omega)
    rcases (show p = 0 ∨ p = 1 ∨ p = 2 ∨ p = 3 ∨ p = 4 ∨ p = 5 ∨ p = 6 ∨ p = 7 by omega) with rfl | rfl | rfl | rfl | rfl | rfl | rfl | rfl
    · refine J_iconst (v := nI 0) C (dA DX8_count_0 0 rfl) (by decide) ?_
      refine J_ist_2_4 C (dA DX8_count_0 1 rfl) rfl ?_
      refine J_iload_n C (dA DX8_count_0 2 rfl) rfl ?_
      refine J_tabIn C (dA DX8_count_0 3 rfl) (by decide) (by decide) (off := 45) rfl (tgt := 48) (by decide) ?_
      refine J_aload_n C (dA DX8_count_0 4 rfl) rfl ?_
      refine G_X8_s C wF_RX8_9 (dA DX8_count_0 5 rfl) ?_
      refine J_iconst (v := nI 0) C (dA DX8_count_0 6 rfl) (by decide) ?_
      refine Q_s0 C hS (dA DX8_count_0 7 rfl) ?_
      exact J_iret C G (dA DX8_count_0 8 rfl) ⟨oi (by unfold aCount; rw [if_pos hv, show nv (nI 0) = 0 from rfl]; rfl), by unfold eCount; rw [if_pos hv]⟩
    · refine J_iconst (v := nI 0) C (dA DX8_count_0 0 rfl) (by decide) ?_
      refine J_ist_2_4 C (dA DX8_count_0 1 rfl) rfl ?_
      refine J_iload_n C (dA DX8_count_0 2 rfl) rfl ?_
      refine J_tabIn C (dA DX8_count_0 3 rfl) (by decide) (by decide) (off := 52) rfl (tgt := 55) (by decide) ?_
      refine J_aload_n C (dA DX8_count_0 9 rfl) rfl ?_
      refine G_X8_s C wF_RX8_9 (dA DX8_count_0 10 rfl) ?_
      refine J_iconst (v := nI 1) C (dA DX8_count_0 11 rfl) (by decide) ?_
      refine Q_s1 C hS (dA DX8_count_0 12 rfl) ?_
      exact J_iret C G (dA DX8_count_0 13 rfl) ⟨oi (by unfold aCount; rw [if_pos hv, show nv (nI 1) = 1 from rfl]; rfl), by unfold eCount; rw [if_pos hv]⟩
    · refine J_iconst (v := nI 0) C (dA DX8_count_0 0 rfl) (by decide) ?_
      refine J_ist_2_4 C (dA DX8_count_0 1 rfl) rfl ?_
      refine J_iload_n C (dA DX8_count_0 2 rfl) rfl ?_
      refine J_tabIn C (dA DX8_count_0 3 rfl) (by decide) (by decide) (off := 59) rfl (tgt := 62) (by decide) ?_
      refine J_aload_n C (dA DX8_count_0 14 rfl) rfl ?_
      refine J_iconst (v := nI 0) C (dA DX8_count_0 15 rfl) (by decide) ?_
      refine V_X8_pondsWith C (c_X8_pondsWith_f l E hS) wM_RX8_122 (by decide) (dA DX8_count_0 16 rfl) rfl (Nat.le_of_ble_eq_true rfl) ?_
      refine V_X8_bits C (c_bx l E _ (s16_fill hS)) wM_RX8_159 (by decide) (dA DX8_count_0 17 rfl) rfl (Nat.le_of_ble_eq_true rfl) ?_
      exact J_iret C G (dA DX8_count_0 18 rfl) ⟨oi (by unfold aCount; rw [if_pos hv, show nv (nI 2) = 2 from rfl]; rfl), by unfold eCount; rw [if_pos hv]⟩
    · refine J_iconst (v := nI 0) C (dA DX8_count_0 0 rfl) (by decide) ?_
      refine J_ist_2_4 C (dA DX8_count_0 1 rfl) rfl ?_
      refine J_iload_n C (dA DX8_count_0 2 rfl) rfl ?_
      refine J_tabIn C (dA DX8_count_0 3 rfl) (by decide) (by decide) (off := 68) rfl (tgt := 71) (by decide) ?_
      refine J_aload_n C (dA DX8_count_0 19 rfl) rfl ?_
      refine J_iconst (v := nI 1) C (dA DX8_count_0 20 rfl) (by decide) ?_
      refine V_X8_pondsWith C (c_X8_pondsWith_t l E hS) wM_RX8_122 (by decide) (dA DX8_count_0 21 rfl) rfl (Nat.le_of_ble_eq_true rfl) ?_
      refine V_X8_bits C (c_bx l E _ (s16_sight _)) wM_RX8_159 (by decide) (dA DX8_count_0 22 rfl) rfl (Nat.le_of_ble_eq_true rfl) ?_
      exact J_iret C G (dA DX8_count_0 23 rfl) ⟨oi (by unfold aCount; rw [if_pos hv, show nv (nI 3) = 3 from rfl]; rfl), by unfold eCount; rw [if_pos hv]⟩
    · refine J_iconst (v := nI 0) C (dA DX8_count_0 0 rfl) (by decide) ?_
      refine J_ist_2_4 C (dA DX8_count_0 1 rfl) rfl ?_
      refine J_iload_n C (dA DX8_count_0 2 rfl) rfl ?_
      refine J_tabIn C (dA DX8_count_0 3 rfl) (by decide) (by decide) (off := 77) rfl (tgt := 80) (by decide) ?_
      refine J_aload_n C (dA DX8_count_0 24 rfl) rfl ?_
      refine V_X8_lengths C (c_X8_lengths l E hS) wM_RX8_126 (by decide) (dA DX8_count_0 25 rfl) rfl (Nat.le_of_ble_eq_true rfl) ?_
      exact J_iret C G (dA DX8_count_0 26 rfl) ⟨oi (by unfold aCount; rw [if_pos hv, show nv (nI 4) = 4 from rfl]; rfl), by unfold eCount; rw [if_pos hv]⟩
    · refine J_iconst (v := nI 0) C (dA DX8_count_0 0 rfl) (by decide) ?_
      refine J_ist_2_4 C (dA DX8_count_0 1 rfl) rfl ?_
      refine J_iload_n C (dA DX8_count_0 2 rfl) rfl ?_
      refine J_tabIn C (dA DX8_count_0 3 rfl) (by decide) (by decide) (off := 82) rfl (tgt := 85) (by decide) ?_
      refine J_aload_n C (dA DX8_count_0 27 rfl) rfl ?_
      refine G_X8_taped C wF_RX8_203 (dA DX8_count_0 28 rfl) ?_
      exact J_iret C G (dA DX8_count_0 29 rfl) ⟨oi (by unfold aCount; rw [if_pos hv, show nv (nI 5) = 5 from rfl]; rfl), by unfold eCount; rw [if_pos hv]⟩
    · refine J_iconst (v := nI 0) C (dA DX8_count_0 0 rfl) (by decide) ?_
      refine J_ist_2_4 C (dA DX8_count_0 1 rfl) rfl ?_
      refine J_iload_n C (dA DX8_count_0 2 rfl) rfl ?_
      refine J_tabIn C (dA DX8_count_0 3 rfl) (by decide) (by decide) (off := 87) rfl (tgt := 90) (by decide) ?_
      refine J_aload_n C (dA DX8_count_0 30 rfl) rfl ?_
      refine G_X8_s C wF_RX8_9 (dA DX8_count_0 31 rfl) ?_
      refine J_iconst (v := nI 2) C (dA DX8_count_0 32 rfl) (by decide) ?_
      refine R_1 C (hk := rfl) rfl (by omega) (dA DX8_count_0 33 rfl) ?_
      exact J_iret C G (dA DX8_count_0 34 rfl) ⟨oi (by unfold aCount; rw [if_pos hv, show nv (nI 6) = 6 from rfl]; exact (vb_at (by decide)).symm), by unfold eCount; rw [if_pos hv]⟩
    · refine J_iconst (v := nI 0) C (dA DX8_count_0 0 rfl) (by decide) ?_
      refine J_ist_2_4 C (dA DX8_count_0 1 rfl) rfl ?_
      refine J_iload_n C (dA DX8_count_0 2 rfl) rfl ?_
      refine J_tabIn C (dA DX8_count_0 3 rfl) (by decide) (by decide) (off := 94) rfl (tgt := 97) (by decide) ?_
      refine J_iconst (v := nI 0) C (dA DX8_count_0 35 rfl) (by decide) ?_
      refine J_ist_3_4 C (dA DX8_count_0 36 rfl) rfl ?_
      have loop : ∀ n i, i + n = 10 → J E X 99 [some (.ref (ja E 60)), some (.int (nI 7)), some (.int (nI (smS i (fun j => if (vb 1100 M (124 + j)).toInt < 0 then 0 else 1)))), some (.int (nI i))] [] M := by
        intro n
        induction n with
        | zero =>
          intro i hi
          obtain rfl : 10 = i := by omega
          refine J_iload_n C (dA DX8_count_0 37 rfl) rfl ?_
          refine J_bipush (v := nI 10) C (dA DX8_count_0 38 rfl) (by decide) ?_
          first | refine J_icmp_ge_n (tgt := 131) C (by omega) (by omega) (dA DX8_count_0 39 rfl) (by decide) (fun h102 => ?_) (fun h102 => ?_) | refine J_icmp_ge_c (tgt := 131) C (by omega) (dA DX8_count_0 39 rfl) (by decide) (fun h102 => ?_) (fun h102 => ?_) | refine J_icmp_ge_t (tgt := 131) C (dA DX8_count_0 39 rfl) (by decide) (fun h102 => ?_) (fun h102 => ?_)
          · try have g102 := inr_t h102
            try have g102 := inr_f h102
            refine J_iload_n C (dA DX8_count_0 55 rfl) rfl ?_
            exact J_iret C G (dA DX8_count_0 56 rfl) ⟨oi (by unfold aCount; rw [if_pos hv, show nv (nI 7) = 7 from rfl]; rfl), by unfold eCount; rw [if_pos hv]⟩
          · exfalso; omega
        | succ n ih =>
          intro i hi
          refine J_iload_n C (dA DX8_count_0 37 rfl) rfl ?_
          refine J_bipush (v := nI 10) C (dA DX8_count_0 38 rfl) (by decide) ?_
          first | refine J_icmp_ge_n (tgt := 131) C (by omega) (by omega) (dA DX8_count_0 39 rfl) (by decide) (fun h102 => ?_) (fun h102 => ?_) | refine J_icmp_ge_c (tgt := 131) C (by omega) (dA DX8_count_0 39 rfl) (by decide) (fun h102 => ?_) (fun h102 => ?_) | refine J_icmp_ge_t (tgt := 131) C (dA DX8_count_0 39 rfl) (by decide) (fun h102 => ?_) (fun h102 => ?_)
          · exfalso; omega
          · try have g102 := inr_t h102
            try have g102 := inr_f h102
            refine J_iload_n C (dA DX8_count_0 40 rfl) rfl ?_
            refine J_aload_n C (dA DX8_count_0 41 rfl) rfl ?_
            refine G_X8_s C wF_RX8_9 (dA DX8_count_0 42 rfl) ?_
            refine J_bipush (v := nI 124) C (dA DX8_count_0 43 rfl) (by decide) ?_
            refine J_iload_n C (dA DX8_count_0 44 rfl) rfl ?_
            first | refine J_iadd_n C (dA DX8_count_0 45 rfl) ?_ | refine J_iadd C (dA DX8_count_0 45 rfl) ?_
            refine R_1 C (hk := rfl) (j := 124 + i) rfl (by omega) (dA DX8_count_0 46 rfl) ?_
            rw [show M (1100 + (124 + i)) = vb 1100 M (124 + i) from (vb_at (by omega)).symm]
            refine J_if_lt_t (tgt := 122) C (dA DX8_count_0 47 rfl) (by decide) (fun h115 => ?_) (fun h115 => ?_)
            · try have g115 := inr_t h115
              try have g115 := inr_f h115
              refine J_iconst (v := nI 0) C (dA DX8_count_0 50 rfl) (by decide) ?_
              first | refine J_iadd_n C (dA DX8_count_0 51 rfl) ?_ | refine J_iadd C (dA DX8_count_0 51 rfl) ?_
              refine J_ist_2_4 C (dA DX8_count_0 52 rfl) rfl ?_
              first | refine J_inc1_3_4 C (dA DX8_count_0 53 rfl) rfl ?_ | refine J_iinc_3_4 C (dA DX8_count_0 53 rfl) rfl ?_
              refine J_goto (tgt := 99) C (dA DX8_count_0 54 rfl) (by decide) ?_
              have e : smS (i + 1) (fun j => if (vb 1100 M (124 + j)).toInt < 0 then 0 else 1) = smS i (fun j => if (vb 1100 M (124 + j)).toInt < 0 then 0 else 1) + 0 := by show smS i _ + (if (vb 1100 M (124 + i)).toInt < 0 then 0 else 1) = _; rw [if_pos h115]
              have h := ih (i + 1) (by omega)
              rw [e] at h
              exact h
            · try have g115 := inr_t h115
              try have g115 := inr_f h115
              refine J_iconst (v := nI 1) C (dA DX8_count_0 48 rfl) (by decide) ?_
              refine J_goto (tgt := 123) C (dA DX8_count_0 49 rfl) (by decide) ?_
              first | refine J_iadd_n C (dA DX8_count_0 51 rfl) ?_ | refine J_iadd C (dA DX8_count_0 51 rfl) ?_
              refine J_ist_2_4 C (dA DX8_count_0 52 rfl) rfl ?_
              first | refine J_inc1_3_4 C (dA DX8_count_0 53 rfl) rfl ?_ | refine J_iinc_3_4 C (dA DX8_count_0 53 rfl) rfl ?_
              refine J_goto (tgt := 99) C (dA DX8_count_0 54 rfl) (by decide) ?_
              have e : smS (i + 1) (fun j => if (vb 1100 M (124 + j)).toInt < 0 then 0 else 1) = smS i (fun j => if (vb 1100 M (124 + j)).toInt < 0 then 0 else 1) + 1 := by show smS i _ + (if (vb 1100 M (124 + i)).toInt < 0 then 0 else 1) = _; rw [if_neg (by omega)]
              have h := ih (i + 1) (by omega)
              rw [e] at h
              exact h
      exact loop 10 0 (Nat.zero_add _)
  · refine J_iconst (v := nI 0) C (dA DX8_count_0 0 rfl) (by decide) ?_
    refine J_ist_2_4 C (dA DX8_count_0 1 rfl) rfl ?_
    refine J_iload_n C (dA DX8_count_0 2 rfl) rfl ?_
    refine J_tabOut C (dA DX8_count_0 3 rfl) (by have := inr_f (Bool.eq_false_iff.mpr hv); omega) (tgt := 133) (by decide) ?_
    refine J_aload_n C (dA DX8_count_0 57 rfl) rfl ?_
    refine J_iconst (v := nI 0) C (dA DX8_count_0 58 rfl) (by decide) ?_
    refine V_X8_no C (c_X8_no l E _ (by decide)) wM_RX8_106 (by decide) (dA DX8_count_0 59 rfl) rfl (Nat.le_of_ble_eq_true rfl) ?_
    exact J_iret C G (dA DX8_count_0 60 rfl) ⟨oi (by unfold aCount; rw [if_neg hv]; rfl), by unfold eCount; rw [if_neg hv]⟩

end PA
