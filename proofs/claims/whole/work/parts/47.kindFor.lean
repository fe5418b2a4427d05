/-- in which ponds a thing comes to be within n minutes -/
def visS (T : Nat → Int32) (t : Nat) : Nat → Int32
  | 0 => b1 (f3 T t 1)
  | n + 1 => visS T t n ||| b1 (f3 (minsS T (n + 1)) t 1)
theorem b1_nI : ∀ k, k < 16 → b1 k = nI (2 ^ k) := by decide +kernel
theorem s16_b1 {k : Nat} (h : k < 16) : is16 (b1 k) := ⟨2 ^ k, Nat.lt_of_le_of_lt (Nat.pow_le_pow_right (by decide) (show k ≤ 15 by omega)) (by decide), b1_nI k h⟩
theorem s16_or {x y : Int32} (hx : is16 x) (hy : is16 y) : is16 (x ||| y) := by
  obtain ⟨a, ha, rfl⟩ := hx
  obtain ⟨b, hb, rfl⟩ := hy
  exact ⟨a ||| b, Nat.or_lt_two_pow (n := 16) ha hb, nI_or a b⟩
theorem s16_vis {T : Nat → Int32} (h : IS T) {t : Nat} (ht : t < 8) : ∀ n, is16 (visS T t n)
  | 0 => s16_b1 (lt31 h ht)
  | n + 1 => s16_or (s16_vis h ht n) (s16_b1 (lt31 (IS_mins h (n + 1)).1 ht))
/-- the fen with a thing of another kind -/
def kvT (S : Nat → Int32) (t k : Nat) : Nat → Int32 := upd S (100 + 3 * t + 0) (nI k)
theorem IS_kv {S : Nat → Int32} (h : IS S) {t k : Nat} (ht : t < 8) (hk : k < 7) : IS (kvT S t k) := IS_u3 h ht (by decide) (show k ≤ 6 by omega)
theorem iN_kv {S : Nat → Int32} {t k : Nat} : iN (kvT S t k) = iN S := by unfold kvT iN; rw [pk_un (by omega)]
def rcK (S : Nat → Int32) (t k : Nat) : Nat := bcN (visS (kvT S t k) t 60)
def mK (c : Nat → Nat) : Nat → Nat
  | 0 => 0
  | n + 1 => if mK c n < c n then c n else mK c n
def bK (c : Nat → Nat) : Nat → Nat
  | 0 => 0
  | n + 1 => if mK c n < c n then n else bK c n
theorem mK_le {c : Nat → Nat} (h : ∀ k, k < 7 → c k ≤ 16) : ∀ n, n ≤ 7 → mK c n ≤ 16
  | 0, _ => by show 0 ≤ 16; decide
  | n + 1, hn => by
    have h1 := mK_le h n (by omega)
    have h2 := h n (by omega)
    simp only [mK]
    split <;> omega
theorem bK_le {c : Nat → Nat} : ∀ n, bK c n ≤ n
  | 0 => Nat.le_refl 0
  | n + 1 => by
    have h1 := bK_le (c := c) n
    simp only [bK]
    split <;> omega
theorem K1 (c : Nat → Nat) : bK c 1 = 0 ∧ mK c 1 = c 0 := by
  constructor
  · show (if 0 < c 0 then 0 else 0) = 0; split <;> rfl
  · show (if 0 < c 0 then c 0 else 0) = c 0; split <;> omega
theorem rcK_le {S : Nat → Int32} (h : IS S) {t k : Nat} (ht : t < 8) (hk : k < 7) : rcK S t k ≤ 16 := bcN_le (s16_vis (IS_kv h ht hk) ht 60)
def aKind (S : Nat → Int32) (a : Int32) : Int32 := if inr a 0 ((iN S : Int) - 1) = true then nI (bK (rcK S (nv a)) 7) else fi 0
def eKind7 (a : Int32) (M : jM) : jM := if inr a 0 ((iN (vb (fb 0) M) : Int) - 1) = true then dr M (minsS (kvT (vb (fb 0) M) (nv a) 6) 60) else Fl 1076 0 M
def eKind8 (a : Int32) (M : jM) : jM := if inr a 0 ((iN (vb 1100 M) : Int) - 1) = true then asd M else Fl 1502 0 M
section PA
variable {M : jM}
theorem c_drb2 (l : Launch) (E : jE) {X : Nat → Int32} : K_X1_become l E [.ref (ja E (fo 1)), .ref (ja E (fo 0))] (dr M X) (dr M (minsS (vb (fb 0) M) 0)) := by
  have h := c_X1_become (M := dr M X) l E 1 (by decide) 0 (by decide) (by decide)
  rw [vb0_dr] at h
  unfold dr at h ⊢
  rw [lay_lay] at h
  exact h
theorem dr_kv {S : Nat → Int32} {t k : Nat} (hS : IS S) (ht : t < 8) : upd (dr M (minsS S 0)) (fb 1 + (100 + 3 * t + 0)) (nI k) = dr M (minsS (kvT S t k) 0) := upd_lay hS.1 (by omega)
set_option maxRecDepth 4000 in
theorem c_X2_pondsVisited (l : Launch) (E : jE) {T : Nat → Int32} (hT : IS T) (t : Nat) (ht : t < 8)  : K_X2_pondsVisited l E [.ref (ja E 40), .ref (ja E (fo 1)), .int (nI t)] (dr M (minsS T 0)) (visS T t 60) (dr M (minsS T 60)) := by
  refine CT_intro (own := RX2) (by decide +kernel) rfl (by simp [Value.category]) (Nat.le_of_ble_eq_true rfl) rfl (fun X C G => ?_)
  show J E X 0 [some (.ref (ja E 40)), some (.ref (ja E (fo 1))), some (.int (nI t)), none, none] [] (dr M (minsS T 0))
  have loop : ∀ n i, i + n = 60 → J E X 14 [some (.ref (ja E 40)), some (.ref (ja E (fo 1))), some (.int (nI t)), some (.int (visS T t i)), some (.int (nI i))] [] (dr M (minsS T i)) := by
    intro n
    induction n with
    | zero =>
      intro i hi
      obtain rfl : 60 = i := by omega
      refine J_iload C (dA DX2_pondsVisited_0 11 rfl) rfl ?_
      refine J_bipush (v := nI 60) C (dA DX2_pondsVisited_0 12 rfl) (by decide) ?_
      first | refine J_icmp_ge_n (tgt := 44) C (by omega) (by omega) (dA DX2_pondsVisited_0 13 rfl) (by decide) (fun h18 => ?_) (fun h18 => ?_) | refine J_icmp_ge_c (tgt := 44) C (by omega) (dA DX2_pondsVisited_0 13 rfl) (by decide) (fun h18 => ?_) (fun h18 => ?_) | refine J_icmp_ge_t (tgt := 44) C (dA DX2_pondsVisited_0 13 rfl) (by decide) (fun h18 => ?_) (fun h18 => ?_)
      · refine J_iload_n C (dA DX2_pondsVisited_0 29 rfl) rfl ?_
        exact J_iret C G (dA DX2_pondsVisited_0 30 rfl) ⟨rfl, rfl⟩
      · exfalso; omega
    | succ n ih =>
      intro i hi
      have hmi := drI (M := M) hT (i + 1)
      have hI := hmi.2.1
      refine J_iload C (dA DX2_pondsVisited_0 11 rfl) rfl ?_
      refine J_bipush (v := nI 60) C (dA DX2_pondsVisited_0 12 rfl) (by decide) ?_
      first | refine J_icmp_ge_n (tgt := 44) C (by omega) (by omega) (dA DX2_pondsVisited_0 13 rfl) (by decide) (fun h18 => ?_) (fun h18 => ?_) | refine J_icmp_ge_c (tgt := 44) C (by omega) (dA DX2_pondsVisited_0 13 rfl) (by decide) (fun h18 => ?_) (fun h18 => ?_) | refine J_icmp_ge_t (tgt := 44) C (dA DX2_pondsVisited_0 13 rfl) (by decide) (fun h18 => ?_) (fun h18 => ?_)
      · exfalso; omega
      · refine J_aload_n C (dA DX2_pondsVisited_0 14 rfl) rfl ?_
        refine V_X1_passMinute C (by decide) (c_drm l E hT i) wM_RX2_21 (by decide) (dA DX2_pondsVisited_0 15 rfl) rfl (Nat.le_of_ble_eq_true rfl) ?_
        refine J_iload_n C (dA DX2_pondsVisited_0 16 rfl) rfl ?_
        refine J_iconst (v := nI 1) C (dA DX2_pondsVisited_0 17 rfl) (by decide) ?_
        refine J_aload_n C (dA DX2_pondsVisited_0 18 rfl) rfl ?_
        refine G_X1_things C (by decide) wF_RX2_15 (dA DX2_pondsVisited_0 19 rfl) ?_
        refine J_iconst (v := nI 1) C (dA DX2_pondsVisited_0 20 rfl) (by decide) ?_
        refine R_ft C (by decide) rfl (by omega) (dA DX2_pondsVisited_0 21 rfl) ?_
        refine J_iload_n C (dA DX2_pondsVisited_0 22 rfl) rfl ?_
        refine Q_fk C (by decide) hI (by decide) rfl (by omega) (dA DX2_pondsVisited_0 23 rfl) ?_
        rw [hmi.1]
        refine J_ishl C (dA DX2_pondsVisited_0 24 rfl) ?_
        refine J_ior C (dA DX2_pondsVisited_0 25 rfl) ?_
        refine J_ist_3_5 C (dA DX2_pondsVisited_0 26 rfl) rfl ?_
        first | refine J_inc1_4_5 C (dA DX2_pondsVisited_0 27 rfl) rfl ?_ | refine J_iinc_4_5 C (dA DX2_pondsVisited_0 27 rfl) rfl ?_
        refine J_goto (tgt := 14) C (dA DX2_pondsVisited_0 28 rfl) (by decide) ?_
        exact ih (i + 1) (by omega)
  have hm0 := drI (M := M) hT 0
  have hI0 := hm0.2.1
  refine J_iconst (v := nI 1) C (dA DX2_pondsVisited_0 0 rfl) (by decide) ?_
  refine J_aload_n C (dA DX2_pondsVisited_0 1 rfl) rfl ?_
  refine G_X1_things C (by decide) wF_RX2_15 (dA DX2_pondsVisited_0 2 rfl) ?_
  refine J_iconst (v := nI 1) C (dA DX2_pondsVisited_0 3 rfl) (by decide) ?_
  refine R_ft C (by decide) rfl (by omega) (dA DX2_pondsVisited_0 4 rfl) ?_
  refine J_iload_n C (dA DX2_pondsVisited_0 5 rfl) rfl ?_
  refine Q_fk C (by decide) hI0 (by decide) rfl (by omega) (dA DX2_pondsVisited_0 6 rfl) ?_
  rw [hm0.1]
  refine J_ishl C (dA DX2_pondsVisited_0 7 rfl) ?_
  refine J_ist_3_5 C (dA DX2_pondsVisited_0 8 rfl) rfl ?_
  refine J_iconst (v := nI 0) C (dA DX2_pondsVisited_0 9 rfl) (by decide) ?_
  refine J_ist_4_5 C (dA DX2_pondsVisited_0 10 rfl) rfl ?_
  exact loop 60 0 (Nat.zero_add _)
set_option maxRecDepth 4000 in
theorem c_X7_kindFor (l : Launch) (E : jE) (a : Int32) (hS : IS (vb (fb 0) M))  : K_X7_kindFor l E [.ref (ja E 59), .int a] M (aKind (vb (fb 0) M) a) (eKind7 a M) := by
  refine CT_intro (own := RX7) (by decide +kernel) rfl (by simp [Value.category]) (Nat.le_of_ble_eq_true rfl) rfl (fun X C G => ?_)
  show J E X 0 [some (.ref (ja E 59)), some (.int a), none, none, none, none] [] M
  have hN0 := leN hS
  refine J_aload_n C (dA DX7_kindFor_0 0 rfl) rfl ?_
  refine G_X7_fen C wF_RX7_12 (dA DX7_kindFor_0 1 rfl) ?_
  refine J_iload_n C (dA DX7_kindFor_0 2 rfl) rfl ?_
  refine V_X1_has C (by decide) (c_X1_has l E _ (by decide) _ hS) wM_RX7_100 (by decide) (dA DX7_kindFor_0 3 rfl) rfl (Nat.le_of_ble_eq_true rfl) ?_
  refine J_if_ne_b (tgt := 18) C (dA DX7_kindFor_0 4 rfl) (by decide) (fun h8 => ?_) (fun h8 => ?_)
  · try have g8 := inr_t h8
    try have g8 := inr_f h8
    obtain ⟨p, hp, rfl⟩ := toNI (x := a) (n := (iN (vb (fb 0) M))) (by omega) (by omega)
    have ta := tI (n := p) (by omega)
    have na : nv (nI p) = p := nv_nI (by omega)
    have hN := leN hS
    have hc : ∀ k, k < 7 → rcK (vb (fb 0) M) p k ≤ 16 := fun k hk => rcK_le hS (by omega) hk
    have loop : ∀ n i r, i + 1 + n = 7 → J E X 25 [some (.ref (ja E 59)), some (.int (nI p)), some (.int (nI (bK (rcK (vb (fb 0) M) p) (i + 1)))), some (.int (nI (mK (rcK (vb (fb 0) M) p) (i + 1)))), some (.int (nI (i + 1))), some (.int r)] [] (dr M (minsS (kvT (vb (fb 0) M) p i) 60)) := by
      intro n
      induction n with
      | zero =>
        intro i r hi
        obtain rfl : 6 = i := by omega
        refine J_iload C (dA DX7_kindFor_0 15 rfl) rfl ?_
        refine J_bipush (v := nI 7) C (dA DX7_kindFor_0 16 rfl) (by decide) ?_
        first | refine J_icmp_ge_n (tgt := 91) C (by omega) (by omega) (dA DX7_kindFor_0 17 rfl) (by decide) (fun h29 => ?_) (fun h29 => ?_) | refine J_icmp_ge_c (tgt := 91) C (by omega) (dA DX7_kindFor_0 17 rfl) (by decide) (fun h29 => ?_) (fun h29 => ?_) | refine J_icmp_ge_t (tgt := 91) C (dA DX7_kindFor_0 17 rfl) (by decide) (fun h29 => ?_) (fun h29 => ?_)
        · try have g29 := inr_t h29
          try have g29 := inr_f h29
          refine J_iload_n C (dA DX7_kindFor_0 48 rfl) rfl ?_
          exact J_iret C G (dA DX7_kindFor_0 49 rfl) ⟨oi (by unfold aKind; rw [if_pos (show inr (nI p) 0 ((iN (vb (fb 0) M) : Int) - 1) = true from decide_eq_true (by omega)), na]), by unfold eKind7; rw [if_pos (show inr (nI p) 0 ((iN (vb (fb 0) M) : Int) - 1) = true from decide_eq_true (by omega)), na]⟩
        · exfalso; omega
      | succ n ih =>
        intro i r hi
        have c1 := mK_le hc (i + 1) (by omega)
        have c2 := hc (i + 1) (by omega)
        have em : mK (rcK (vb (fb 0) M) p) (i + 1 + 1) = if mK (rcK (vb (fb 0) M) p) (i + 1) < rcK (vb (fb 0) M) p (i + 1) then rcK (vb (fb 0) M) p (i + 1) else mK (rcK (vb (fb 0) M) p) (i + 1) := rfl
        have eb : bK (rcK (vb (fb 0) M) p) (i + 1 + 1) = if mK (rcK (vb (fb 0) M) p) (i + 1) < rcK (vb (fb 0) M) p (i + 1) then i + 1 else bK (rcK (vb (fb 0) M) p) (i + 1) := rfl
        refine J_iload C (dA DX7_kindFor_0 15 rfl) rfl ?_
        refine J_bipush (v := nI 7) C (dA DX7_kindFor_0 16 rfl) (by decide) ?_
        first | refine J_icmp_ge_n (tgt := 91) C (by omega) (by omega) (dA DX7_kindFor_0 17 rfl) (by decide) (fun h29 => ?_) (fun h29 => ?_) | refine J_icmp_ge_c (tgt := 91) C (by omega) (dA DX7_kindFor_0 17 rfl) (by decide) (fun h29 => ?_) (fun h29 => ?_) | refine J_icmp_ge_t (tgt := 91) C (dA DX7_kindFor_0 17 rfl) (by decide) (fun h29 => ?_) (fun h29 => ?_)
        · exfalso; omega
        · try have g29 := inr_t h29
          try have g29 := inr_f h29
          refine J_aload_n C (dA DX7_kindFor_0 18 rfl) rfl ?_
          refine G_X7_draft C wF_RX7_16 (dA DX7_kindFor_0 19 rfl) ?_
          refine J_aload_n C (dA DX7_kindFor_0 20 rfl) rfl ?_
          refine G_X7_fen C wF_RX7_12 (dA DX7_kindFor_0 21 rfl) ?_
          refine V_X1_become C (by decide) (c_drb2 l E) wM_RX7_179 (by decide) (dA DX7_kindFor_0 22 rfl) rfl (Nat.le_of_ble_eq_true rfl) ?_
          refine J_aload_n C (dA DX7_kindFor_0 23 rfl) rfl ?_
          refine G_X7_draft C wF_RX7_16 (dA DX7_kindFor_0 24 rfl) ?_
          refine G_X1_things C (by decide) wF_RX7_106 (dA DX7_kindFor_0 25 rfl) ?_
          refine J_iconst (v := nI 0) C (dA DX7_kindFor_0 26 rfl) (by decide) ?_
          refine R_ft C (by decide) rfl (by omega) (dA DX7_kindFor_0 27 rfl) ?_
          refine J_iload_n C (dA DX7_kindFor_0 28 rfl) rfl ?_
          refine J_iload C (dA DX7_kindFor_0 29 rfl) rfl ?_
          refine S_fk C (by decide) (by decide) rfl (by omega) (dA DX7_kindFor_0 30 rfl) ?_
          rw [dr_kv hS (by omega)]
          refine J_aload_n C (dA DX7_kindFor_0 31 rfl) rfl ?_
          refine G_X7_foresight C wF_RX7_36 (dA DX7_kindFor_0 32 rfl) ?_
          refine J_aload_n C (dA DX7_kindFor_0 33 rfl) rfl ?_
          refine G_X7_draft C wF_RX7_16 (dA DX7_kindFor_0 34 rfl) ?_
          refine J_iload_n C (dA DX7_kindFor_0 35 rfl) rfl ?_
          refine V_X2_pondsVisited C (c_X2_pondsVisited l E (IS_kv hS (by omega) (show (i + 1) < 7 by omega)) p (by omega)) wM_RX7_195 (by decide) (dA DX7_kindFor_0 36 rfl) rfl (Nat.le_of_ble_eq_true rfl) ?_
          refine V_J6_bitCount_0f7a4 C (c_bc l E _ (s16_vis (IS_kv hS (by omega) (show (i + 1) < 7 by omega)) (by omega) 60)) wM_RX7_199 (by decide) (dA DX7_kindFor_0 37 rfl) rfl (Nat.le_of_ble_eq_true rfl) ?_
          rw [show bcN (visS (kvT (vb (fb 0) M) p (i + 1)) p 60) = rcK (vb (fb 0) M) p (i + 1) from rfl]
          refine J_ist_5_6 C (dA DX7_kindFor_0 38 rfl) rfl ?_
          refine J_iload C (dA DX7_kindFor_0 39 rfl) rfl ?_
          refine J_iload_n C (dA DX7_kindFor_0 40 rfl) rfl ?_
          refine J_icmp_le_n (tgt := 85) C (by omega) (by omega) (dA DX7_kindFor_0 41 rfl) (by decide) (fun h76 => ?_) (fun h76 => ?_)
          · try have g76 := inr_t h76
            try have g76 := inr_f h76
            first | refine J_inc1_4_6 C (dA DX7_kindFor_0 46 rfl) rfl ?_ | refine J_iinc_4_6 C (dA DX7_kindFor_0 46 rfl) rfl ?_
            refine J_goto (tgt := 25) C (dA DX7_kindFor_0 47 rfl) (by decide) ?_
            have h := ih (i + 1) (nI (rcK (vb (fb 0) M) p (i + 1))) (by omega)
            rw [em, eb, if_neg (show ¬ mK (rcK (vb (fb 0) M) p) (i + 1) < rcK (vb (fb 0) M) p (i + 1) by omega), if_neg (show ¬ mK (rcK (vb (fb 0) M) p) (i + 1) < rcK (vb (fb 0) M) p (i + 1) by omega)] at h
            exact h
          · try have g76 := inr_t h76
            try have g76 := inr_f h76
            refine J_iload C (dA DX7_kindFor_0 42 rfl) rfl ?_
            refine J_ist_3_6 C (dA DX7_kindFor_0 43 rfl) rfl ?_
            refine J_iload C (dA DX7_kindFor_0 44 rfl) rfl ?_
            refine J_ist_2_6 C (dA DX7_kindFor_0 45 rfl) rfl ?_
            first | refine J_inc1_4_6 C (dA DX7_kindFor_0 46 rfl) rfl ?_ | refine J_iinc_4_6 C (dA DX7_kindFor_0 46 rfl) rfl ?_
            refine J_goto (tgt := 25) C (dA DX7_kindFor_0 47 rfl) (by decide) ?_
            have h := ih (i + 1) (nI (rcK (vb (fb 0) M) p (i + 1))) (by omega)
            rw [em, eb, if_pos (show mK (rcK (vb (fb 0) M) p) (i + 1) < rcK (vb (fb 0) M) p (i + 1) by omega), if_pos (show mK (rcK (vb (fb 0) M) p) (i + 1) < rcK (vb (fb 0) M) p (i + 1) by omega)] at h
            exact h
    refine J_iconst (v := nI 0) C (dA DX7_kindFor_0 9 rfl) (by decide) ?_
    refine J_ist_2_6 C (dA DX7_kindFor_0 10 rfl) rfl ?_
    refine J_iconst (v := (-1)) C (dA DX7_kindFor_0 11 rfl) (by decide) ?_
    refine J_ist_3_6 C (dA DX7_kindFor_0 12 rfl) rfl ?_
    refine J_iconst (v := nI 0) C (dA DX7_kindFor_0 13 rfl) (by decide) ?_
    refine J_ist_4_6 C (dA DX7_kindFor_0 14 rfl) rfl ?_
    refine J_iload C (dA DX7_kindFor_0 15 rfl) rfl ?_
    refine J_bipush (v := nI 7) C (dA DX7_kindFor_0 16 rfl) (by decide) ?_
    first | refine J_icmp_ge_n (tgt := 91) C (by omega) (by omega) (dA DX7_kindFor_0 17 rfl) (by decide) (fun h29 => ?_) (fun h29 => ?_) | refine J_icmp_ge_c (tgt := 91) C (by omega) (dA DX7_kindFor_0 17 rfl) (by decide) (fun h29 => ?_) (fun h29 => ?_) | refine J_icmp_ge_t (tgt := 91) C (dA DX7_kindFor_0 17 rfl) (by decide) (fun h29 => ?_) (fun h29 => ?_)
    · exfalso; omega
    · try have g29 := inr_t h29
      try have g29 := inr_f h29
      refine J_aload_n C (dA DX7_kindFor_0 18 rfl) rfl ?_
      refine G_X7_draft C wF_RX7_16 (dA DX7_kindFor_0 19 rfl) ?_
      refine J_aload_n C (dA DX7_kindFor_0 20 rfl) rfl ?_
      refine G_X7_fen C wF_RX7_12 (dA DX7_kindFor_0 21 rfl) ?_
      refine V_X1_become C (by decide) (c_drb l E) wM_RX7_179 (by decide) (dA DX7_kindFor_0 22 rfl) rfl (Nat.le_of_ble_eq_true rfl) ?_
      refine J_aload_n C (dA DX7_kindFor_0 23 rfl) rfl ?_
      refine G_X7_draft C wF_RX7_16 (dA DX7_kindFor_0 24 rfl) ?_
      refine G_X1_things C (by decide) wF_RX7_106 (dA DX7_kindFor_0 25 rfl) ?_
      refine J_iconst (v := nI 0) C (dA DX7_kindFor_0 26 rfl) (by decide) ?_
      refine R_ft C (by decide) rfl (by omega) (dA DX7_kindFor_0 27 rfl) ?_
      refine J_iload_n C (dA DX7_kindFor_0 28 rfl) rfl ?_
      refine J_iload C (dA DX7_kindFor_0 29 rfl) rfl ?_
      refine S_fk C (by decide) (by decide) rfl (by omega) (dA DX7_kindFor_0 30 rfl) ?_
      rw [dr_kv hS (by omega)]
      refine J_aload_n C (dA DX7_kindFor_0 31 rfl) rfl ?_
      refine G_X7_foresight C wF_RX7_36 (dA DX7_kindFor_0 32 rfl) ?_
      refine J_aload_n C (dA DX7_kindFor_0 33 rfl) rfl ?_
      refine G_X7_draft C wF_RX7_16 (dA DX7_kindFor_0 34 rfl) ?_
      refine J_iload_n C (dA DX7_kindFor_0 35 rfl) rfl ?_
      refine V_X2_pondsVisited C (c_X2_pondsVisited l E (IS_kv hS (by omega) (show 0 < 7 by omega)) p (by omega)) wM_RX7_195 (by decide) (dA DX7_kindFor_0 36 rfl) rfl (Nat.le_of_ble_eq_true rfl) ?_
      refine V_J6_bitCount_0f7a4 C (c_bc l E _ (s16_vis (IS_kv hS (by omega) (show 0 < 7 by omega)) (by omega) 60)) wM_RX7_199 (by decide) (dA DX7_kindFor_0 37 rfl) rfl (Nat.le_of_ble_eq_true rfl) ?_
      rw [show bcN (visS (kvT (vb (fb 0) M) p 0) p 60) = rcK (vb (fb 0) M) p 0 from rfl]
      refine J_ist_5_6 C (dA DX7_kindFor_0 38 rfl) rfl ?_
      refine J_iload C (dA DX7_kindFor_0 39 rfl) rfl ?_
      refine J_iload_n C (dA DX7_kindFor_0 40 rfl) rfl ?_
      refine J_icmp_le_t (tgt := 85) C (dA DX7_kindFor_0 41 rfl) (by decide) (fun h76 => ?_) (fun h76 => ?_)
      · exfalso; have h2 := hc 0 (by omega); have m1 : (-1 : Int32).toInt = -1 := (by decide); have h3 : (nI (rcK (vb (fb 0) M) p 0)).toInt = (rcK (vb (fb 0) M) p 0 : Int) := tI (by omega); omega
      · try have g76 := inr_t h76
        try have g76 := inr_f h76
        refine J_iload C (dA DX7_kindFor_0 42 rfl) rfl ?_
        refine J_ist_3_6 C (dA DX7_kindFor_0 43 rfl) rfl ?_
        refine J_iload C (dA DX7_kindFor_0 44 rfl) rfl ?_
        refine J_ist_2_6 C (dA DX7_kindFor_0 45 rfl) rfl ?_
        first | refine J_inc1_4_6 C (dA DX7_kindFor_0 46 rfl) rfl ?_ | refine J_iinc_4_6 C (dA DX7_kindFor_0 46 rfl) rfl ?_
        refine J_goto (tgt := 25) C (dA DX7_kindFor_0 47 rfl) (by decide) ?_
        have k1 := K1 (rcK (vb (fb 0) M) p)
        have h := loop 6 0 (nI (rcK (vb (fb 0) M) p 0)) (by omega)
        rw [show (0 + 1 : Nat) = 1 from rfl, k1.1, k1.2] at h
        exact h
  · try have g8 := inr_t h8
    try have g8 := inr_f h8
    refine J_aload_n C (dA DX7_kindFor_0 5 rfl) rfl ?_
    refine J_ldc (v := (-1000001)) C wK_RX7_69 (dA DX7_kindFor_0 6 rfl) ?_
    refine V_X7_finding C (c_X7_finding l E 0 (by decide) _ (by decide)) wM_RX7_70 (by decide) (dA DX7_kindFor_0 7 rfl) rfl (Nat.le_of_ble_eq_true rfl) ?_
    exact J_iret C G (dA DX7_kindFor_0 8 rfl) ⟨oi (by unfold aKind; rw [if_neg (fun z => by have z := inr_t z; omega)]; rfl), by unfold eKind7; rw [if_neg (fun z => by have z := inr_t z; omega)]⟩
end PA
