theorem up_itc {c : Prop} [Decidable c] {P A B : jM} (h1 : c → Up P A) (h2 : ¬ c → Up P B) : Up P (if c then A else B) := by
  by_cases h : c
  · rw [if_pos h]; exact h1 h
  · rw [if_neg h]; exact h2 h
theorem dn_itc {c : Prop} [Decidable c] {P A B : jM} (h1 : c → Dn P A) (h2 : ¬ c → Dn P B) : Dn P (if c then A else B) := by
  by_cases h : c
  · rw [if_pos h]; exact h1 h
  · rw [if_neg h]; exact h2 h
theorem lkS_le {Z : Nat → Nat → Int32} {a : Int32} : lkS Z a ≤ 7 := by
  rcases lkS_c (Z := Z) (a := a) with ⟨_, e⟩ | ⟨_, _, _, _, e⟩ | ⟨_, _, _, _, e⟩ <;> omega
theorem lkP_le {Z : Nat → Nat → Int32} {a b : Int32} : lkP Z a b ≤ 7 := by
  rcases lkP_c (Z := Z) (a := a) (b := b) with e | e | ⟨_, _, _, _, _, _, e⟩ <;> omega
theorem lkS_7 {Z : Nat → Nat → Int32} {a : Int32} (h : lkS Z a = 7) : ∃ q, q < 4 ∧ a = nI q := by
  rcases lkS_c (Z := Z) (a := a) with ⟨_, e⟩ | ⟨_, _, _, _, e⟩ | ⟨q, hq, e1, _, e⟩
  · omega
  · omega
  · exact ⟨q, hq, e1⟩
theorem lnM_up {M : jM} {Z : Nat → Nat → Int32} {S : Nat → Int32} {q p i : Nat} : Up M (lnM M Z S q p i) := by
  rcases lnM_c M Z S q p i with h | ⟨X, h⟩
  · rw [h]; exact up_rf
  · rw [h]; exact up_dr up_rf
theorem rl_ln {M Q : jM} {Z : Nat → Nat → Int32} {S : Nat → Int32} {q p i : Nat} (h : Rl M Q) : Rl (lnM M Z S q p i) (asd Q) := by
  rcases lnM_c M Z S q p i with e | ⟨X, e⟩
  · rw [e]; exact rl_R h (fun a ha => lay_out (by omega))
  · rw [e]; exact rl_dr h
theorem Rl.i7 {P Q : jM} (h : Rl P Q) : IS (vb (fb 0) P) := by rw [h.1]; exact h.2.1
theorem Rl.q7 {P Q : jM} (h : Rl P Q) : QS (sv7 P) := by rw [h.2.2.2.2.1]; exact h.2.2.2.2.2.1
theorem okP_b : ∀ j, j < 6 → ((jtV 0).getD (nv (nI j)) 0).toInt = (if j = 1 then 1 else 0 : Int) ∧ ((jtV 1).getD (nv (nI j)) 0).toInt = (mx6 j : Int) ∧ mx6 j < 100 := by decide +kernel
theorem okP_I {S : Nat → Int32} {a b c : Int32} (hS : IS S) (h : inr a 0 15 = true ∧ okP a b c = true) : IS (upd S (4 + 6 * nv a + nv b) c) := by
  obtain ⟨h0, h⟩ := h
  obtain ⟨p, hp, rfl⟩ := inr_of (b := 15) h0
  obtain ⟨j, hj, rfl⟩ := okP_0 h
  obtain ⟨b1, b2, b3⟩ := okP_b j hj
  unfold okP at h
  rw [Bool.and_eq_true, Bool.and_eq_true, b1, b2] at h
  obtain ⟨_, h2, h3⟩ := h
  have h2 := inr_t h2
  obtain ⟨v, hv, rfl⟩ := toNI (x := c) (n := 100) (by have := h2.1; split at this <;> omega) (by omega)
  rw [tI (by omega)] at h2
  rw [nv_nI (by omega), nv_nI (by omega)]
  refine IS_u6 hS (by omega) hj (by omega) (fun z e => ?_) (fun z => ?_)
  · subst z e
    simp at h3
    exact h3 rfl
  · subst z
    have := h2.1
    rw [if_pos rfl] at this
    omega
theorem okT_I {S : Nat → Int32} {a b c : Int32} (hS : IS S) (h : inr a 0 ((iN S : Int) - 1) = true ∧ okT b c = true) : IS (upd S (100 + 3 * nv a + nv b) c) := by
  obtain ⟨h0, h⟩ := h
  have hN := hS.2.2.2.2.2.1.2
  obtain ⟨p, hp, rfl⟩ := toNI (x := a) (n := 8) (inr_t h0).1 (by have := (inr_t h0).2; omega)
  obtain ⟨j, hj, rfl⟩ := okT_0 h
  obtain ⟨t0, t1, t2⟩ := okT_n c
  have hc : inr c 0 (mx3 j : Int) = true := by
    match j, hj with
    | 0, _ => rw [t0] at h; exact h
    | 1, _ => rw [t1] at h; exact h
    | 2, _ =>
      rw [t2] at h
      have := inr_t h
      exact decide_eq_true ⟨by omega, this.2⟩
  have hm := mx3_lt (w := j)
  have h2 := inr_t hc
  obtain ⟨v, hv, rfl⟩ := toNI (x := c) (n := 100) (by omega) (by omega)
  rw [tI (by omega)] at h2
  rw [nv_nI (by omega), nv_nI (by omega)]
  exact IS_u3 hS hp hj (by omega)
theorem inN_I {S : Nat → Int32} {b : Int32} (hS : IS S) (h : inr b 0 ((iN S : Int) - 1) = true) : ∃ t, t < iN S ∧ b = nI t := by
  have hN := hS.2.2.2.2.2.1.2
  exact toNI (inr_t h).1 (by have := (inr_t h).2; omega)
theorem firstN_lo {P : Nat → Bool} {n k : Nat} (h : k < firstN n P) : P k = false := by
  by_cases e : firstN n P < n
  · exact (firstN_lt e).1 k h
  · have := firstN_le P n
    exact firstN_z e k (by omega)
theorem ld_I {Z : Nat → Nat → Int32} {S : Nat → Int32} {q : Nat} (hS : IS S) : IS (ldN Z S q (ldC Z q)) := by
  have g : ∀ k, k < ldC Z q → k < 16 ∧ inr (Z q (2 + k)) 0 99 = true := fun k hk => by
    have e : ldP Z q k = false := firstN_lo hk
    unfold ldP at e
    simpa using e
  refine IS_ldN hS _ ?_ (fun k hk => (g k hk).2)
  by_cases e : ldC Z q ≤ 16
  · exact e
  · exact absurd (g 16 (by omega)).1 (by omega)
theorem isB_I {b : Int32} (h : isB b = true) : ∃ k : Nat, (k = 0 ∨ k = 8 ∨ k = 16 ∨ k = 32) ∧ b = nI k := by
  have h : b = 0 ∨ b.toInt = 8 ∨ b.toInt = 16 ∨ b.toInt = 32 := of_decide_eq_true h
  rcases h with h | h | h | h
  · exact ⟨0, Or.inl rfl, h⟩
  · exact ⟨8, by omega, Int32.toInt_inj.mp (by rw [h]; rfl)⟩
  · exact ⟨16, by omega, Int32.toInt_inj.mp (by rw [h]; rfl)⟩
  · exact ⟨32, by omega, Int32.toInt_inj.mp (by rw [h]; rfl)⟩
theorem QS_clq {Z : Nat → Nat → Int32} {a b n : Int32} (hZ : QS Z) (hb : isB b = true) (hn : inr n 0 40 = true) : QS (clq Z (nv a) b n) := fun q hq => by
  by_cases e : q = nv a
  · obtain ⟨k, hk, rfl⟩ := isB_I hb
    obtain ⟨m, hm, rfl⟩ := inr_of (b := 40) hn
    have c0 : clq Z (nv a) (nI k) (nI m) q 0 = nI k := by unfold clq; rw [if_pos ⟨e, by decide⟩, if_pos rfl]
    have c1 : clq Z (nv a) (nI k) (nI m) q 1 = (if k = 0 then nI 0 else nI m) := by
      unfold clq
      rw [if_pos ⟨e, by decide⟩, if_neg (by decide), if_pos rfl]
      by_cases z : k = 0
      · rw [if_pos z, if_pos (by rw [z]; rfl)]
      · rw [if_neg z, if_neg (fun y => z ((nI_eq0 (by omega)).mp y))]
    by_cases z : k = 0
    · exact ⟨k, 0, hk, by omega, c0, by rw [c1, if_pos z], fun _ => rfl⟩
    · exact ⟨k, m, hk, by omega, c0, by rw [c1, if_neg z], fun y => absurd y z⟩
  · obtain ⟨b', n', h1, h2, h3, h4, h5⟩ := hZ q hq
    refine ⟨b', n', h1, h2, ?_, ?_, h5⟩
    · unfold clq; rw [if_neg (fun y => e y.1)]; exact h3
    · unfold clq; rw [if_neg (fun y => e y.1)]; exact h4
theorem QS_hi {Z Z' : Nat → Nat → Int32} (hZ : QS Z) (h : ∀ q k, k < 2 → Z' q k = Z q k) : QS Z' := fun q hq => by
  obtain ⟨b', n', h1, h2, h3, h4, h5⟩ := hZ q hq
  exact ⟨b', n', h1, h2, by rw [h _ _ (by decide)]; exact h3, by rw [h _ _ (by decide)]; exact h4, h5⟩
theorem wr_I {Z : Nat → Nat → Int32} {a i v : Int32} (hZ : QS Z) (hC : Qc Z) (h : lkS Z a = 7) (hi : inr i 0 ((nv (Z (nv a) 1) : Int) - 1) = true) : QS (wrq Z a i v) ∧ Qc (wrq Z a i v) := by
  obtain ⟨q, hq, rfl⟩ := lkS_7 h
  rw [nv_nI (by omega)] at hi
  obtain ⟨b', n', h1, h2, h3, h4, h5⟩ := hZ q hq
  rw [h4, nv_nI (by omega)] at hi
  obtain ⟨m, hm, rfl⟩ := toNI (x := i) (n := 40) (inr_t hi).1 (by have := (inr_t hi).2; omega)
  refine ⟨QS_hi hZ (fun q k hk => ?_), ?_⟩
  · unfold wrq updq
    rw [if_neg (fun y => by omega)]
  · unfold wrq
    rw [nv_nI (by omega), nv_nI (by omega)]
    exact Qc_upd hC hq (by omega) _
theorem cp_I {Z : Nat → Nat → Int32} {s x t y n : Int32} (hZ : QS Z) (hC : Qc Z) (ht : inr t 0 3 = true) (h : rch (lnq Z (nv t)) y n = true) : QS (cpq Z (nv s) (nv x) (nv t) (nv y) (nv n)) ∧ Qc (cpq Z (nv s) (nv x) (nv t) (nv y) (nv n)) ∧ nv n ≤ 40 := by
  obtain ⟨q, hq, rfl⟩ := inr_of (b := 3) ht
  rw [nv_nI (by omega)] at h ⊢
  obtain ⟨b', n', h1, h2, h3, h4, h5⟩ := hZ q (by omega)
  have h : 0 ≤ y.toInt ∧ 0 ≤ n.toInt ∧ y.toInt + n.toInt ≤ lnq Z q := of_decide_eq_true h
  have hl : lnq Z q = n' := by unfold lnq; rw [h4, nv_nI (by omega)]
  rw [hl] at h
  obtain ⟨y', hy, rfl⟩ := toNI (x := y) (n := 41) h.1 (by omega)
  obtain ⟨m, hm, rfl⟩ := toNI (x := n) (n := 41) h.2.1 (by omega)
  rw [tI (by omega), tI (by omega)] at h
  rw [nv_nI (n := y') (by omega), nv_nI (n := m) (by omega)]
  refine ⟨QS_hi hZ (fun q k hk => ?_), Qc_cpq hC (by omega) (by omega), by omega⟩
  unfold cpq
  rw [if_neg (fun y => by omega)]

theorem vv {b c : Nat} {P Q : jM} (h : vb b P = vb c Q) (j : Nat) (hj : j < 134) : P (b + j) = Q (c + j) := by
  have := congrFun h j
  rw [vb_at hj, vb_at hj] at this
  exact this
theorem p_pond (l : Launch) (E : jE) {M : jM} (h : Rl M M) (a b : Int32) : ∃ r M1 M2, K_X7_pond l E [.ref (ja E 59), .int a, .int b] M r M1 ∧ K_X8_pond l E [.ref (ja E 60), .int a, .int b] M1 r M2 ∧ Rl M2 M2 := by
  have hu : Up M (ePond 1076 a b M) := by
    unfold ePond
    repeat' (first | with_reducible exact up_rf | with_reducible exact lnM_up | with_reducible refine up_itc (fun hc => ?_) (fun hc => ?_) | with_reducible refine up_fl ?_ ?_ | with_reducible refine up_mF ?_ ?_ | with_reducible refine up_ch ?_ ?_ | with_reducible refine up_tn ?_ ?_ | with_reducible refine up_dr ?_ | with_reducible refine up_qs ?_ | with_reducible refine up_lay ?_ ?_ | with_reducible refine up_upd ?_ ?_ | omega | decide)
  have hd : ∀ Q, Dn Q (ePond 1502 a b Q) := by
    intro Q
    unfold ePond
    repeat' (first | with_reducible exact dn_rf | with_reducible refine dn_itc (fun hc => ?_) (fun hc => ?_) | with_reducible refine dn_fl ?_ ?_ | with_reducible refine dn_mF ?_ ?_ | with_reducible refine dn_ch ?_ ?_ | with_reducible refine dn_tn ?_ ?_ | with_reducible refine dn_asd ?_ | with_reducible refine dn_qs ?_ | with_reducible refine dn_crr ?_ | with_reducible refine dn_lay ?_ ?_ | with_reducible refine dn_upd ?_ ?_ | omega | decide)
  have hr : ∀ Q, Rl M Q → Rl (ePond 1076 a b M) (ePond 1502 a b Q) := by
    intro Q hQ
    have hS8 := hQ.2.1
    unfold ePond
    try rw [hQ.1]
    try rw [hQ.2.2.2.2.1]
    repeat' (first | with_reducible exact hQ | with_reducible refine rl_ite (fun hc => ?_) (fun hc => ?_) | with_reducible refine rl_fl ?_ ?_ | with_reducible refine rl_mF ?_ | with_reducible refine rl_ch ?_ | with_reducible refine rl_tn ?_ | with_reducible refine rl_dr ?_ | with_reducible refine rl_ln ?_ | omega | decide)
  obtain ⟨g1, g2⟩ := rl_go (e7 := fun M => ePond 1076 a b M) (e8 := fun M => ePond 1502 a b M) h hu hd hr
  clear hu hd hr
  obtain ⟨N, hN⟩ : ∃ N, N = ePond 1076 a b M := ⟨_, rfl⟩
  have g1 : Rl M (ePond 1076 a b M) := g1
  have g2 : Rl (ePond 1502 a b (ePond 1076 a b M)) (ePond 1502 a b (ePond 1076 a b M)) := g2
  have c7 := c_X7_pond (M := M) l E a b (h.i7)
  rw [← hN] at g1 g2 c7
  have c8 := c_X8_pond (M := N) l E a b (g1.2.1)
  have e : aPond (vb 1100 N) a b = aPond (vb (fb 0) M) a b := by rw [← g1.1]
  rw [e] at c8
  exact ⟨_, _, _, c7, c8, g2⟩
theorem p_of (l : Launch) (E : jE) {M : jM} (h : Rl M M) (a b : Int32) : ∃ r M1 M2, K_X7_of l E [.ref (ja E 59), .int a, .int b] M r M1 ∧ K_X8_of l E [.ref (ja E 60), .int a, .int b] M1 r M2 ∧ Rl M2 M2 := by
  have hu : Up M (eOf (vb (fb 0) M) 1076 a b M) := by
    unfold eOf
    repeat' (first | with_reducible exact up_rf | with_reducible exact lnM_up | with_reducible refine up_itc (fun hc => ?_) (fun hc => ?_) | with_reducible refine up_fl ?_ ?_ | with_reducible refine up_mF ?_ ?_ | with_reducible refine up_ch ?_ ?_ | with_reducible refine up_tn ?_ ?_ | with_reducible refine up_dr ?_ | with_reducible refine up_qs ?_ | with_reducible refine up_lay ?_ ?_ | with_reducible refine up_upd ?_ ?_ | omega | decide)
  have hd : ∀ Q, Dn Q (eOf (vb 1100 Q) 1502 a b Q) := by
    intro Q
    unfold eOf
    repeat' (first | with_reducible exact dn_rf | with_reducible refine dn_itc (fun hc => ?_) (fun hc => ?_) | with_reducible refine dn_fl ?_ ?_ | with_reducible refine dn_mF ?_ ?_ | with_reducible refine dn_ch ?_ ?_ | with_reducible refine dn_tn ?_ ?_ | with_reducible refine dn_asd ?_ | with_reducible refine dn_qs ?_ | with_reducible refine dn_crr ?_ | with_reducible refine dn_lay ?_ ?_ | with_reducible refine dn_upd ?_ ?_ | omega | decide)
  have hr : ∀ Q, Rl M Q → Rl (eOf (vb (fb 0) M) 1076 a b M) (eOf (vb 1100 Q) 1502 a b Q) := by
    intro Q hQ
    have hS8 := hQ.2.1
    unfold eOf
    try rw [hQ.1]
    try rw [hQ.2.2.2.2.1]
    repeat' (first | with_reducible exact hQ | with_reducible refine rl_ite (fun hc => ?_) (fun hc => ?_) | with_reducible refine rl_fl ?_ ?_ | with_reducible refine rl_mF ?_ | with_reducible refine rl_ch ?_ | with_reducible refine rl_tn ?_ | with_reducible refine rl_dr ?_ | with_reducible refine rl_ln ?_ | omega | decide)
  obtain ⟨g1, g2⟩ := rl_go (e7 := fun M => eOf (vb (fb 0) M) 1076 a b M) (e8 := fun M => eOf (vb 1100 M) 1502 a b M) h hu hd hr
  clear hu hd hr
  obtain ⟨N, hN⟩ : ∃ N, N = eOf (vb (fb 0) M) 1076 a b M := ⟨_, rfl⟩
  have g1 : Rl M (eOf (vb (fb 0) M) 1076 a b M) := g1
  have g2 : Rl (eOf (vb 1100 (eOf (vb (fb 0) M) 1076 a b M)) 1502 a b (eOf (vb (fb 0) M) 1076 a b M)) (eOf (vb 1100 (eOf (vb (fb 0) M) 1076 a b M)) 1502 a b (eOf (vb (fb 0) M) 1076 a b M)) := g2
  have c7 := c_X7_of (M := M) l E a b (h.i7)
  rw [← hN] at g1 g2 c7
  have c8 := c_X8_of (M := N) l E a b (g1.2.1)
  have e : aOf (vb 1100 N) a b = aOf (vb (fb 0) M) a b := by rw [← g1.1]
  rw [e] at c8
  exact ⟨_, _, _, c7, c8, g2⟩
theorem p_now (l : Launch) (E : jE) {M : jM} (h : Rl M M) (a : Int32) : ∃ r M1 M2, K_X7_now l E [.ref (ja E 59), .int a] M r M1 ∧ K_X8_now l E [.ref (ja E 60), .int a] M1 r M2 ∧ Rl M2 M2 := by
  have hu : Up M (eNow 1076 a M) := by
    unfold eNow
    repeat' (first | with_reducible exact up_rf | with_reducible exact lnM_up | with_reducible refine up_itc (fun hc => ?_) (fun hc => ?_) | with_reducible refine up_fl ?_ ?_ | with_reducible refine up_mF ?_ ?_ | with_reducible refine up_ch ?_ ?_ | with_reducible refine up_tn ?_ ?_ | with_reducible refine up_dr ?_ | with_reducible refine up_qs ?_ | with_reducible refine up_lay ?_ ?_ | with_reducible refine up_upd ?_ ?_ | omega | decide)
  have hd : ∀ Q, Dn Q (eNow 1502 a Q) := by
    intro Q
    unfold eNow
    repeat' (first | with_reducible exact dn_rf | with_reducible refine dn_itc (fun hc => ?_) (fun hc => ?_) | with_reducible refine dn_fl ?_ ?_ | with_reducible refine dn_mF ?_ ?_ | with_reducible refine dn_ch ?_ ?_ | with_reducible refine dn_tn ?_ ?_ | with_reducible refine dn_asd ?_ | with_reducible refine dn_qs ?_ | with_reducible refine dn_crr ?_ | with_reducible refine dn_lay ?_ ?_ | with_reducible refine dn_upd ?_ ?_ | omega | decide)
  have hr : ∀ Q, Rl M Q → Rl (eNow 1076 a M) (eNow 1502 a Q) := by
    intro Q hQ
    have hS8 := hQ.2.1
    unfold eNow
    try rw [hQ.1]
    try rw [hQ.2.2.2.2.1]
    repeat' (first | with_reducible exact hQ | with_reducible refine rl_ite (fun hc => ?_) (fun hc => ?_) | with_reducible refine rl_fl ?_ ?_ | with_reducible refine rl_mF ?_ | with_reducible refine rl_ch ?_ | with_reducible refine rl_tn ?_ | with_reducible refine rl_dr ?_ | with_reducible refine rl_ln ?_ | omega | decide)
  obtain ⟨g1, g2⟩ := rl_go (e7 := fun M => eNow 1076 a M) (e8 := fun M => eNow 1502 a M) h hu hd hr
  clear hu hd hr
  obtain ⟨N, hN⟩ : ∃ N, N = eNow 1076 a M := ⟨_, rfl⟩
  have g1 : Rl M (eNow 1076 a M) := g1
  have g2 : Rl (eNow 1502 a (eNow 1076 a M)) (eNow 1502 a (eNow 1076 a M)) := g2
  have c7 := c_X7_now (M := M) l E a (h.i7)
  rw [← hN] at g1 g2 c7
  have c8 := c_X8_now (M := N) l E a (g1.2.1)
  have e : aNow (vb 1100 N) a = aNow (vb (fb 0) M) a := by rw [← g1.1]
  rw [e] at c8
  exact ⟨_, _, _, c7, c8, g2⟩
theorem p_shownBy (l : Launch) (E : jE) {M : jM} (h : Rl M M) (a : Int32) : ∃ r M1 M2, K_X7_shownBy l E [.ref (ja E 59), .int a] M r M1 ∧ K_X8_shownBy l E [.ref (ja E 60), .int a] M1 r M2 ∧ Rl M2 M2 := by
  have hu : Up M (eShown 1076 a M) := by
    unfold eShown
    repeat' (first | with_reducible exact up_rf | with_reducible exact lnM_up | with_reducible refine up_itc (fun hc => ?_) (fun hc => ?_) | with_reducible refine up_fl ?_ ?_ | with_reducible refine up_mF ?_ ?_ | with_reducible refine up_ch ?_ ?_ | with_reducible refine up_tn ?_ ?_ | with_reducible refine up_dr ?_ | with_reducible refine up_qs ?_ | with_reducible refine up_lay ?_ ?_ | with_reducible refine up_upd ?_ ?_ | omega | decide)
  have hd : ∀ Q, Dn Q (eShown 1502 a Q) := by
    intro Q
    unfold eShown
    repeat' (first | with_reducible exact dn_rf | with_reducible refine dn_itc (fun hc => ?_) (fun hc => ?_) | with_reducible refine dn_fl ?_ ?_ | with_reducible refine dn_mF ?_ ?_ | with_reducible refine dn_ch ?_ ?_ | with_reducible refine dn_tn ?_ ?_ | with_reducible refine dn_asd ?_ | with_reducible refine dn_qs ?_ | with_reducible refine dn_crr ?_ | with_reducible refine dn_lay ?_ ?_ | with_reducible refine dn_upd ?_ ?_ | omega | decide)
  have hr : ∀ Q, Rl M Q → Rl (eShown 1076 a M) (eShown 1502 a Q) := by
    intro Q hQ
    have hS8 := hQ.2.1
    unfold eShown
    try rw [hQ.1]
    try rw [hQ.2.2.2.2.1]
    repeat' (first | with_reducible exact hQ | with_reducible refine rl_ite (fun hc => ?_) (fun hc => ?_) | with_reducible refine rl_fl ?_ ?_ | with_reducible refine rl_mF ?_ | with_reducible refine rl_ch ?_ | with_reducible refine rl_tn ?_ | with_reducible refine rl_dr ?_ | with_reducible refine rl_ln ?_ | omega | decide)
  obtain ⟨g1, g2⟩ := rl_go (e7 := fun M => eShown 1076 a M) (e8 := fun M => eShown 1502 a M) h hu hd hr
  clear hu hd hr
  obtain ⟨N, hN⟩ : ∃ N, N = eShown 1076 a M := ⟨_, rfl⟩
  have g1 : Rl M (eShown 1076 a M) := g1
  have g2 : Rl (eShown 1502 a (eShown 1076 a M)) (eShown 1502 a (eShown 1076 a M)) := g2
  have c7 := c_X7_shownBy (M := M) l E a (h.i7)
  rw [← hN] at g1 g2 c7
  have c8 := c_X8_shownBy (M := N) l E a (g1.2.1)
  have e : aShown (vb 1100 N) a = aShown (vb (fb 0) M) a := by rw [← g1.1]
  rw [e] at c8
  exact ⟨_, _, _, c7, c8, g2⟩
theorem p_round (l : Launch) (E : jE) {M : jM} (h : Rl M M) (a : Int32) : ∃ r M1 M2, K_X7_round l E [.ref (ja E 59), .int a] M r M1 ∧ K_X8_round l E [.ref (ja E 60), .int a] M1 r M2 ∧ Rl M2 M2 := by
  have hu : Up M (eRnd 1076 a M) := by
    unfold eRnd
    repeat' (first | with_reducible exact up_rf | with_reducible exact lnM_up | with_reducible refine up_itc (fun hc => ?_) (fun hc => ?_) | with_reducible refine up_fl ?_ ?_ | with_reducible refine up_mF ?_ ?_ | with_reducible refine up_ch ?_ ?_ | with_reducible refine up_tn ?_ ?_ | with_reducible refine up_dr ?_ | with_reducible refine up_qs ?_ | with_reducible refine up_lay ?_ ?_ | with_reducible refine up_upd ?_ ?_ | omega | decide)
  have hd : ∀ Q, Dn Q (eRnd 1502 a Q) := by
    intro Q
    unfold eRnd
    repeat' (first | with_reducible exact dn_rf | with_reducible refine dn_itc (fun hc => ?_) (fun hc => ?_) | with_reducible refine dn_fl ?_ ?_ | with_reducible refine dn_mF ?_ ?_ | with_reducible refine dn_ch ?_ ?_ | with_reducible refine dn_tn ?_ ?_ | with_reducible refine dn_asd ?_ | with_reducible refine dn_qs ?_ | with_reducible refine dn_crr ?_ | with_reducible refine dn_lay ?_ ?_ | with_reducible refine dn_upd ?_ ?_ | omega | decide)
  have hr : ∀ Q, Rl M Q → Rl (eRnd 1076 a M) (eRnd 1502 a Q) := by
    intro Q hQ
    have hS8 := hQ.2.1
    unfold eRnd
    try rw [hQ.1]
    try rw [hQ.2.2.2.2.1]
    repeat' (first | with_reducible exact hQ | with_reducible refine rl_ite (fun hc => ?_) (fun hc => ?_) | with_reducible refine rl_fl ?_ ?_ | with_reducible refine rl_mF ?_ | with_reducible refine rl_ch ?_ | with_reducible refine rl_tn ?_ | with_reducible refine rl_dr ?_ | with_reducible refine rl_ln ?_ | omega | decide)
  obtain ⟨g1, g2⟩ := rl_go (e7 := fun M => eRnd 1076 a M) (e8 := fun M => eRnd 1502 a M) h hu hd hr
  clear hu hd hr
  obtain ⟨N, hN⟩ : ∃ N, N = eRnd 1076 a M := ⟨_, rfl⟩
  have g1 : Rl M (eRnd 1076 a M) := g1
  have g2 : Rl (eRnd 1502 a (eRnd 1076 a M)) (eRnd 1502 a (eRnd 1076 a M)) := g2
  have c7 := c_X7_round (M := M) l E a (h.i7)
  rw [← hN] at g1 g2 c7
  have c8 := c_X8_round (M := N) l E a (g1.2.1)
  have e : aRound (vb 1100 N) a = aRound (vb (fb 0) M) a := by rw [← g1.1]
  rw [e] at c8
  exact ⟨_, _, _, c7, c8, g2⟩
theorem p_before (l : Launch) (E : jE) {M : jM} (h : Rl M M) (a : Int32) : ∃ r M1 M2, K_X7_before l E [.ref (ja E 59), .int a] M r M1 ∧ K_X8_before l E [.ref (ja E 60), .int a] M1 r M2 ∧ Rl M2 M2 := by
  have hu : Up M (eRnd 1076 a M) := by
    unfold eRnd
    repeat' (first | with_reducible exact up_rf | with_reducible exact lnM_up | with_reducible refine up_itc (fun hc => ?_) (fun hc => ?_) | with_reducible refine up_fl ?_ ?_ | with_reducible refine up_mF ?_ ?_ | with_reducible refine up_ch ?_ ?_ | with_reducible refine up_tn ?_ ?_ | with_reducible refine up_dr ?_ | with_reducible refine up_qs ?_ | with_reducible refine up_lay ?_ ?_ | with_reducible refine up_upd ?_ ?_ | omega | decide)
  have hd : ∀ Q, Dn Q (eRnd 1502 a Q) := by
    intro Q
    unfold eRnd
    repeat' (first | with_reducible exact dn_rf | with_reducible refine dn_itc (fun hc => ?_) (fun hc => ?_) | with_reducible refine dn_fl ?_ ?_ | with_reducible refine dn_mF ?_ ?_ | with_reducible refine dn_ch ?_ ?_ | with_reducible refine dn_tn ?_ ?_ | with_reducible refine dn_asd ?_ | with_reducible refine dn_qs ?_ | with_reducible refine dn_crr ?_ | with_reducible refine dn_lay ?_ ?_ | with_reducible refine dn_upd ?_ ?_ | omega | decide)
  have hr : ∀ Q, Rl M Q → Rl (eRnd 1076 a M) (eRnd 1502 a Q) := by
    intro Q hQ
    have hS8 := hQ.2.1
    unfold eRnd
    try rw [hQ.1]
    try rw [hQ.2.2.2.2.1]
    repeat' (first | with_reducible exact hQ | with_reducible refine rl_ite (fun hc => ?_) (fun hc => ?_) | with_reducible refine rl_fl ?_ ?_ | with_reducible refine rl_mF ?_ | with_reducible refine rl_ch ?_ | with_reducible refine rl_tn ?_ | with_reducible refine rl_dr ?_ | with_reducible refine rl_ln ?_ | omega | decide)
  obtain ⟨g1, g2⟩ := rl_go (e7 := fun M => eRnd 1076 a M) (e8 := fun M => eRnd 1502 a M) h hu hd hr
  clear hu hd hr
  obtain ⟨N, hN⟩ : ∃ N, N = eRnd 1076 a M := ⟨_, rfl⟩
  have g1 : Rl M (eRnd 1076 a M) := g1
  have g2 : Rl (eRnd 1502 a (eRnd 1076 a M)) (eRnd 1502 a (eRnd 1076 a M)) := g2
  have c7 := c_X7_before (M := M) l E a (h.i7)
  rw [← hN] at g1 g2 c7
  have c8 := c_X8_before (M := N) l E a (g1.2.1)
  have e : aBefore (vb 1100 N) a = aBefore (vb (fb 0) M) a := by rw [← g1.1]
  rw [e] at c8
  exact ⟨_, _, _, c7, c8, g2⟩
theorem p_dredge (l : Launch) (E : jE) {M : jM} (h : Rl M M) (a b : Int32) : ∃ r M1 M2, K_X7_dredge l E [.ref (ja E 59), .int a, .int b] M r M1 ∧ K_X8_dredge l E [.ref (ja E 60), .int a, .int b] M1 r M2 ∧ Rl M2 M2 := by
  have hu : Up M (eDredge (vb (fb 0) M) 1076 a b M) := by
    unfold eDredge
    repeat' (first | with_reducible exact up_rf | with_reducible exact lnM_up | with_reducible refine up_itc (fun hc => ?_) (fun hc => ?_) | with_reducible refine up_fl ?_ ?_ | with_reducible refine up_mF ?_ ?_ | with_reducible refine up_ch ?_ ?_ | with_reducible refine up_tn ?_ ?_ | with_reducible refine up_dr ?_ | with_reducible refine up_qs ?_ | with_reducible refine up_lay ?_ ?_ | with_reducible refine up_upd ?_ ?_ | omega | decide)
  have hd : ∀ Q, Dn Q (eDredge (vb 1100 Q) 1502 a b Q) := by
    intro Q
    unfold eDredge
    repeat' (first | with_reducible exact dn_rf | with_reducible refine dn_itc (fun hc => ?_) (fun hc => ?_) | with_reducible refine dn_fl ?_ ?_ | with_reducible refine dn_mF ?_ ?_ | with_reducible refine dn_ch ?_ ?_ | with_reducible refine dn_tn ?_ ?_ | with_reducible refine dn_asd ?_ | with_reducible refine dn_qs ?_ | with_reducible refine dn_crr ?_ | with_reducible refine dn_lay ?_ ?_ | with_reducible refine dn_upd ?_ ?_ | omega | decide)
  have hr : ∀ Q, Rl M Q → Rl (eDredge (vb (fb 0) M) 1076 a b M) (eDredge (vb 1100 Q) 1502 a b Q) := by
    intro Q hQ
    have hS8 := hQ.2.1
    unfold eDredge
    try rw [hQ.1]
    try rw [hQ.2.2.2.2.1]
    repeat' (first | with_reducible exact hQ | with_reducible refine rl_ite (fun hc => ?_) (fun hc => ?_) | with_reducible refine rl_fl ?_ ?_ | with_reducible refine rl_mF ?_ | with_reducible refine rl_ch ?_ | with_reducible refine rl_tn ?_ | with_reducible refine rl_dr ?_ | with_reducible refine rl_ln ?_ | omega | decide)
  obtain ⟨g1, g2⟩ := rl_go (e7 := fun M => eDredge (vb (fb 0) M) 1076 a b M) (e8 := fun M => eDredge (vb 1100 M) 1502 a b M) h hu hd hr
  clear hu hd hr
  obtain ⟨N, hN⟩ : ∃ N, N = eDredge (vb (fb 0) M) 1076 a b M := ⟨_, rfl⟩
  have g1 : Rl M (eDredge (vb (fb 0) M) 1076 a b M) := g1
  have g2 : Rl (eDredge (vb 1100 (eDredge (vb (fb 0) M) 1076 a b M)) 1502 a b (eDredge (vb (fb 0) M) 1076 a b M)) (eDredge (vb 1100 (eDredge (vb (fb 0) M) 1076 a b M)) 1502 a b (eDredge (vb (fb 0) M) 1076 a b M)) := g2
  have c7 := c_X7_dredge (M := M) l E a b (h.i7)
  rw [← hN] at g1 g2 c7
  have c8 := c_X8_dredge (M := N) l E a b (g1.2.1)
  have e : aDredge (vb 1100 N) a b = aDredge (vb (fb 0) M) a b := by rw [← g1.1]
  rw [e] at c8
  exact ⟨_, _, _, c7, c8, g2⟩
theorem p_as (l : Launch) (E : jE) {M : jM} (h : Rl M M) (a b : Int32) : ∃ r M1 M2, K_X7_as l E [.ref (ja E 59), .int a, .int b] M r M1 ∧ K_X8_as l E [.ref (ja E 60), .int a, .int b] M1 r M2 ∧ Rl M2 M2 := by
  have hu : Up M (eAs (vb (fb 0) M) 1076 a b M) := by
    unfold eAs
    repeat' (first | with_reducible exact up_rf | with_reducible exact lnM_up | with_reducible refine up_itc (fun hc => ?_) (fun hc => ?_) | with_reducible refine up_fl ?_ ?_ | with_reducible refine up_mF ?_ ?_ | with_reducible refine up_ch ?_ ?_ | with_reducible refine up_tn ?_ ?_ | with_reducible refine up_dr ?_ | with_reducible refine up_qs ?_ | with_reducible refine up_lay ?_ ?_ | with_reducible refine up_upd ?_ ?_ | omega | decide)
  have hd : ∀ Q, Dn Q (eAs (vb 1100 Q) 1502 a b Q) := by
    intro Q
    unfold eAs
    repeat' (first | with_reducible exact dn_rf | with_reducible refine dn_itc (fun hc => ?_) (fun hc => ?_) | with_reducible refine dn_fl ?_ ?_ | with_reducible refine dn_mF ?_ ?_ | with_reducible refine dn_ch ?_ ?_ | with_reducible refine dn_tn ?_ ?_ | with_reducible refine dn_asd ?_ | with_reducible refine dn_qs ?_ | with_reducible refine dn_crr ?_ | with_reducible refine dn_lay ?_ ?_ | with_reducible refine dn_upd ?_ ?_ | omega | decide)
  have hr : ∀ Q, Rl M Q → Rl (eAs (vb (fb 0) M) 1076 a b M) (eAs (vb 1100 Q) 1502 a b Q) := by
    intro Q hQ
    have hS8 := hQ.2.1
    unfold eAs
    try rw [hQ.1]
    try rw [hQ.2.2.2.2.1]
    repeat' (first | with_reducible exact hQ | with_reducible refine rl_ite (fun hc => ?_) (fun hc => ?_) | with_reducible refine rl_fl ?_ ?_ | with_reducible refine rl_mF ?_ | with_reducible refine rl_ch ?_ | with_reducible refine rl_tn ?_ | with_reducible refine rl_dr ?_ | with_reducible refine rl_ln ?_ | omega | decide)
  obtain ⟨g1, g2⟩ := rl_go (e7 := fun M => eAs (vb (fb 0) M) 1076 a b M) (e8 := fun M => eAs (vb 1100 M) 1502 a b M) h hu hd hr
  clear hu hd hr
  obtain ⟨N, hN⟩ : ∃ N, N = eAs (vb (fb 0) M) 1076 a b M := ⟨_, rfl⟩
  have g1 : Rl M (eAs (vb (fb 0) M) 1076 a b M) := g1
  have g2 : Rl (eAs (vb 1100 (eAs (vb (fb 0) M) 1076 a b M)) 1502 a b (eAs (vb (fb 0) M) 1076 a b M)) (eAs (vb 1100 (eAs (vb (fb 0) M) 1076 a b M)) 1502 a b (eAs (vb (fb 0) M) 1076 a b M)) := g2
  have c7 := c_X7_as (M := M) l E a b (h.i7)
  rw [← hN] at g1 g2 c7
  have c8 := c_X8_as (M := N) l E a b (g1.2.1)
  have e : aAs (vb 1100 N) a b = aAs (vb (fb 0) M) a b := by rw [← g1.1]
  rw [e] at c8
  exact ⟨_, _, _, c7, c8, g2⟩
theorem p_eyes (l : Launch) (E : jE) {M : jM} (h : Rl M M) : ∃ r M1 M2, K_X7_eyes l E [.ref (ja E 59)] M r M1 ∧ K_X8_eyes l E [.ref (ja E 60)] M1 r M2 ∧ Rl M2 M2 := by
  have hu : Up M (eEyes (vb (fb 0) M) 1076  M) := by
    unfold eEyes
    repeat' (first | with_reducible exact up_rf | with_reducible exact lnM_up | with_reducible refine up_itc (fun hc => ?_) (fun hc => ?_) | with_reducible refine up_fl ?_ ?_ | with_reducible refine up_mF ?_ ?_ | with_reducible refine up_ch ?_ ?_ | with_reducible refine up_tn ?_ ?_ | with_reducible refine up_dr ?_ | with_reducible refine up_qs ?_ | with_reducible refine up_lay ?_ ?_ | with_reducible refine up_upd ?_ ?_ | omega | decide)
  have hd : ∀ Q, Dn Q (eEyes (vb 1100 Q) 1502  Q) := by
    intro Q
    unfold eEyes
    repeat' (first | with_reducible exact dn_rf | with_reducible refine dn_itc (fun hc => ?_) (fun hc => ?_) | with_reducible refine dn_fl ?_ ?_ | with_reducible refine dn_mF ?_ ?_ | with_reducible refine dn_ch ?_ ?_ | with_reducible refine dn_tn ?_ ?_ | with_reducible refine dn_asd ?_ | with_reducible refine dn_qs ?_ | with_reducible refine dn_crr ?_ | with_reducible refine dn_lay ?_ ?_ | with_reducible refine dn_upd ?_ ?_ | omega | decide)
  have hr : ∀ Q, Rl M Q → Rl (eEyes (vb (fb 0) M) 1076  M) (eEyes (vb 1100 Q) 1502  Q) := by
    intro Q hQ
    have hS8 := hQ.2.1
    unfold eEyes
    try rw [hQ.1]
    try rw [hQ.2.2.2.2.1]
    repeat' (first | with_reducible exact hQ | with_reducible refine rl_ite (fun hc => ?_) (fun hc => ?_) | with_reducible refine rl_fl ?_ ?_ | with_reducible refine rl_mF ?_ | with_reducible refine rl_ch ?_ | with_reducible refine rl_tn ?_ | with_reducible refine rl_dr ?_ | with_reducible refine rl_ln ?_ | omega | decide)
  obtain ⟨g1, g2⟩ := rl_go (e7 := fun M => eEyes (vb (fb 0) M) 1076  M) (e8 := fun M => eEyes (vb 1100 M) 1502  M) h hu hd hr
  clear hu hd hr
  obtain ⟨N, hN⟩ : ∃ N, N = eEyes (vb (fb 0) M) 1076  M := ⟨_, rfl⟩
  have g1 : Rl M (eEyes (vb (fb 0) M) 1076  M) := g1
  have g2 : Rl (eEyes (vb 1100 (eEyes (vb (fb 0) M) 1076  M)) 1502  (eEyes (vb (fb 0) M) 1076  M)) (eEyes (vb 1100 (eEyes (vb (fb 0) M) 1076  M)) 1502  (eEyes (vb (fb 0) M) 1076  M)) := g2
  have c7 := c_X7_eyes (M := M) l E (h.i7)
  rw [← hN] at g1 g2 c7
  have c8 := c_X8_eyes (M := N) l E (g1.2.1)
  have e : aEyes (vb 1100 N)  = aEyes (vb (fb 0) M)  := by rw [← g1.1]
  rw [e] at c8
  exact ⟨_, _, _, c7, c8, g2⟩
theorem p_chain (l : Launch) (E : jE) {M : jM} (h : Rl M M) (a b c : Int32) : ∃ r M1 M2, K_X7_chain l E [.ref (ja E 59), .int a, .int b, .int c] M r M1 ∧ K_X8_chain l E [.ref (ja E 60), .int a, .int b, .int c] M1 r M2 ∧ Rl M2 M2 := by
  have hu : Up M (eChain (fb 0) 402 1076 a b c M) := by
    unfold eChain
    repeat' (first | with_reducible exact up_rf | with_reducible exact lnM_up | with_reducible refine up_itc (fun hc => ?_) (fun hc => ?_) | with_reducible refine up_fl ?_ ?_ | with_reducible refine up_mF ?_ ?_ | with_reducible refine up_ch ?_ ?_ | with_reducible refine up_tn ?_ ?_ | with_reducible refine up_dr ?_ | with_reducible refine up_qs ?_ | with_reducible refine up_lay ?_ ?_ | with_reducible refine up_upd ?_ ?_ | omega | decide)
  have hd : ∀ Q, Dn Q (eChain 1100 1854 1502 a b c Q) := by
    intro Q
    unfold eChain
    repeat' (first | with_reducible exact dn_rf | with_reducible refine dn_itc (fun hc => ?_) (fun hc => ?_) | with_reducible refine dn_fl ?_ ?_ | with_reducible refine dn_mF ?_ ?_ | with_reducible refine dn_ch ?_ ?_ | with_reducible refine dn_tn ?_ ?_ | with_reducible refine dn_asd ?_ | with_reducible refine dn_qs ?_ | with_reducible refine dn_crr ?_ | with_reducible refine dn_lay ?_ ?_ | with_reducible refine dn_upd ?_ ?_ | omega | decide)
  have hr : ∀ Q, Rl M Q → Rl (eChain (fb 0) 402 1076 a b c M) (eChain 1100 1854 1502 a b c Q) := by
    intro Q hQ
    have hS8 := hQ.2.1
    unfold eChain
    try rw [hQ.1]
    try rw [hQ.2.2.2.2.1]
    repeat' (first | with_reducible exact hQ | with_reducible refine rl_ite (fun hc => ?_) (fun hc => ?_) | with_reducible refine rl_fl ?_ ?_ | with_reducible refine rl_mF ?_ | with_reducible refine rl_ch ?_ | with_reducible refine rl_tn ?_ | with_reducible refine rl_dr ?_ | with_reducible refine rl_ln ?_ | omega | decide)
  obtain ⟨g1, g2⟩ := rl_go (e7 := fun M => eChain (fb 0) 402 1076 a b c M) (e8 := fun M => eChain 1100 1854 1502 a b c M) h hu hd hr
  clear hu hd hr
  obtain ⟨N, hN⟩ : ∃ N, N = eChain (fb 0) 402 1076 a b c M := ⟨_, rfl⟩
  have g1 : Rl M (eChain (fb 0) 402 1076 a b c M) := g1
  have g2 : Rl (eChain 1100 1854 1502 a b c (eChain (fb 0) 402 1076 a b c M)) (eChain 1100 1854 1502 a b c (eChain (fb 0) 402 1076 a b c M)) := g2
  have c7 := c_X7_chain (M := M) l E a b c (h.i7)
  rw [← hN] at g1 g2 c7
  have c8 := c_X8_chain (M := N) l E a b c (g1.2.1)
  have e : aChain (vb 1100 N) a b c = aChain (vb (fb 0) M) a b c := by rw [← g1.1]
  rw [e] at c8
  exact ⟨_, _, _, c7, c8, g2⟩
theorem p_through (l : Launch) (E : jE) {M : jM} (h : Rl M M) (a b : Int32) : ∃ r M1 M2, K_X7_through l E [.ref (ja E 59), .int a, .int b] M r M1 ∧ K_X8_through l E [.ref (ja E 60), .int a, .int b] M1 r M2 ∧ Rl M2 M2 := by
  have hu : Up M (eThrough (fb 0) 402 1076 a b M) := by
    unfold eThrough
    repeat' (first | with_reducible exact up_rf | with_reducible exact lnM_up | with_reducible refine up_itc (fun hc => ?_) (fun hc => ?_) | with_reducible refine up_fl ?_ ?_ | with_reducible refine up_mF ?_ ?_ | with_reducible refine up_ch ?_ ?_ | with_reducible refine up_tn ?_ ?_ | with_reducible refine up_dr ?_ | with_reducible refine up_qs ?_ | with_reducible refine up_lay ?_ ?_ | with_reducible refine up_upd ?_ ?_ | omega | decide)
  have hd : ∀ Q, Dn Q (eThrough 1100 1854 1502 a b Q) := by
    intro Q
    unfold eThrough
    repeat' (first | with_reducible exact dn_rf | with_reducible refine dn_itc (fun hc => ?_) (fun hc => ?_) | with_reducible refine dn_fl ?_ ?_ | with_reducible refine dn_mF ?_ ?_ | with_reducible refine dn_ch ?_ ?_ | with_reducible refine dn_tn ?_ ?_ | with_reducible refine dn_asd ?_ | with_reducible refine dn_qs ?_ | with_reducible refine dn_crr ?_ | with_reducible refine dn_lay ?_ ?_ | with_reducible refine dn_upd ?_ ?_ | omega | decide)
  have hr : ∀ Q, Rl M Q → Rl (eThrough (fb 0) 402 1076 a b M) (eThrough 1100 1854 1502 a b Q) := by
    intro Q hQ
    have hS8 := hQ.2.1
    unfold eThrough
    try rw [hQ.1]
    try rw [hQ.2.2.2.2.1]
    repeat' (first | with_reducible exact hQ | with_reducible refine rl_ite (fun hc => ?_) (fun hc => ?_) | with_reducible refine rl_fl ?_ ?_ | with_reducible refine rl_mF ?_ | with_reducible refine rl_ch ?_ | with_reducible refine rl_tn ?_ | with_reducible refine rl_dr ?_ | with_reducible refine rl_ln ?_ | omega | decide)
  obtain ⟨g1, g2⟩ := rl_go (e7 := fun M => eThrough (fb 0) 402 1076 a b M) (e8 := fun M => eThrough 1100 1854 1502 a b M) h hu hd hr
  clear hu hd hr
  obtain ⟨N, hN⟩ : ∃ N, N = eThrough (fb 0) 402 1076 a b M := ⟨_, rfl⟩
  have g1 : Rl M (eThrough (fb 0) 402 1076 a b M) := g1
  have g2 : Rl (eThrough 1100 1854 1502 a b (eThrough (fb 0) 402 1076 a b M)) (eThrough 1100 1854 1502 a b (eThrough (fb 0) 402 1076 a b M)) := g2
  have c7 := c_X7_through (M := M) l E a b (h.i7)
  rw [← hN] at g1 g2 c7
  have c8 := c_X8_through (M := N) l E a b (g1.2.1)
  have e : aThrough (vb 1100 N) a b = aThrough (vb (fb 0) M) a b := by rw [← g1.1]
  rw [e] at c8
  exact ⟨_, _, _, c7, c8, g2⟩
theorem p_upright (l : Launch) (E : jE) {M : jM} (h : Rl M M) (a : Int32) : ∃ r M1 M2, K_X7_upright l E [.ref (ja E 59), .int a] M r M1 ∧ K_X8_upright l E [.ref (ja E 60), .int a] M1 r M2 ∧ Rl M2 M2 := by
  have hu : Up M (eUp (fb 0) 402 1076 a M) := by
    unfold eUp
    repeat' (first | with_reducible exact up_rf | with_reducible exact lnM_up | with_reducible refine up_itc (fun hc => ?_) (fun hc => ?_) | with_reducible refine up_fl ?_ ?_ | with_reducible refine up_mF ?_ ?_ | with_reducible refine up_ch ?_ ?_ | with_reducible refine up_tn ?_ ?_ | with_reducible refine up_dr ?_ | with_reducible refine up_qs ?_ | with_reducible refine up_lay ?_ ?_ | with_reducible refine up_upd ?_ ?_ | omega | decide)
  have hd : ∀ Q, Dn Q (eUp 1100 1854 1502 a Q) := by
    intro Q
    unfold eUp
    repeat' (first | with_reducible exact dn_rf | with_reducible refine dn_itc (fun hc => ?_) (fun hc => ?_) | with_reducible refine dn_fl ?_ ?_ | with_reducible refine dn_mF ?_ ?_ | with_reducible refine dn_ch ?_ ?_ | with_reducible refine dn_tn ?_ ?_ | with_reducible refine dn_asd ?_ | with_reducible refine dn_qs ?_ | with_reducible refine dn_crr ?_ | with_reducible refine dn_lay ?_ ?_ | with_reducible refine dn_upd ?_ ?_ | omega | decide)
  have hr : ∀ Q, Rl M Q → Rl (eUp (fb 0) 402 1076 a M) (eUp 1100 1854 1502 a Q) := by
    intro Q hQ
    have hS8 := hQ.2.1
    unfold eUp
    try rw [hQ.1]
    try rw [hQ.2.2.2.2.1]
    repeat' (first | with_reducible exact hQ | with_reducible refine rl_ite (fun hc => ?_) (fun hc => ?_) | with_reducible refine rl_fl ?_ ?_ | with_reducible refine rl_mF ?_ | with_reducible refine rl_ch ?_ | with_reducible refine rl_tn ?_ | with_reducible refine rl_dr ?_ | with_reducible refine rl_ln ?_ | omega | decide)
  obtain ⟨g1, g2⟩ := rl_go (e7 := fun M => eUp (fb 0) 402 1076 a M) (e8 := fun M => eUp 1100 1854 1502 a M) h hu hd hr
  clear hu hd hr
  obtain ⟨N, hN⟩ : ∃ N, N = eUp (fb 0) 402 1076 a M := ⟨_, rfl⟩
  have g1 : Rl M (eUp (fb 0) 402 1076 a M) := g1
  have g2 : Rl (eUp 1100 1854 1502 a (eUp (fb 0) 402 1076 a M)) (eUp 1100 1854 1502 a (eUp (fb 0) 402 1076 a M)) := g2
  have c7 := c_X7_upright (M := M) l E a (h.i7)
  rw [← hN] at g1 g2 c7
  have c8 := c_X8_upright (M := N) l E a (g1.2.1)
  have e : aUp (vb 1100 N) a = aUp (vb (fb 0) M) a := by rw [← g1.1]
  rw [e] at c8
  exact ⟨_, _, _, c7, c8, g2⟩
theorem p_large (l : Launch) (E : jE) {M : jM} (h : Rl M M) (a b c : Int32) : ∃ r M1 M2, K_X7_large l E [.ref (ja E 59), .int a, .int b, .int c] M r M1 ∧ K_X8_large l E [.ref (ja E 60), .int a, .int b, .int c] M1 r M2 ∧ Rl M2 M2 := by
  have hu : Up M (eLarge (fb 0) 402 1076 a b c M) := by
    unfold eLarge
    repeat' (first | with_reducible exact up_rf | with_reducible exact lnM_up | with_reducible refine up_itc (fun hc => ?_) (fun hc => ?_) | with_reducible refine up_fl ?_ ?_ | with_reducible refine up_mF ?_ ?_ | with_reducible refine up_ch ?_ ?_ | with_reducible refine up_tn ?_ ?_ | with_reducible refine up_dr ?_ | with_reducible refine up_qs ?_ | with_reducible refine up_lay ?_ ?_ | with_reducible refine up_upd ?_ ?_ | omega | decide)
  have hd : ∀ Q, Dn Q (eLarge 1100 1854 1502 a b c Q) := by
    intro Q
    unfold eLarge
    repeat' (first | with_reducible exact dn_rf | with_reducible refine dn_itc (fun hc => ?_) (fun hc => ?_) | with_reducible refine dn_fl ?_ ?_ | with_reducible refine dn_mF ?_ ?_ | with_reducible refine dn_ch ?_ ?_ | with_reducible refine dn_tn ?_ ?_ | with_reducible refine dn_asd ?_ | with_reducible refine dn_qs ?_ | with_reducible refine dn_crr ?_ | with_reducible refine dn_lay ?_ ?_ | with_reducible refine dn_upd ?_ ?_ | omega | decide)
  have hr : ∀ Q, Rl M Q → Rl (eLarge (fb 0) 402 1076 a b c M) (eLarge 1100 1854 1502 a b c Q) := by
    intro Q hQ
    have hS8 := hQ.2.1
    unfold eLarge
    try rw [hQ.1]
    try rw [hQ.2.2.2.2.1]
    repeat' (first | with_reducible exact hQ | with_reducible refine rl_ite (fun hc => ?_) (fun hc => ?_) | with_reducible refine rl_fl ?_ ?_ | with_reducible refine rl_mF ?_ | with_reducible refine rl_ch ?_ | with_reducible refine rl_tn ?_ | with_reducible refine rl_dr ?_ | with_reducible refine rl_ln ?_ | omega | decide)
  obtain ⟨g1, g2⟩ := rl_go (e7 := fun M => eLarge (fb 0) 402 1076 a b c M) (e8 := fun M => eLarge 1100 1854 1502 a b c M) h hu hd hr
  clear hu hd hr
  obtain ⟨N, hN⟩ : ∃ N, N = eLarge (fb 0) 402 1076 a b c M := ⟨_, rfl⟩
  have g1 : Rl M (eLarge (fb 0) 402 1076 a b c M) := g1
  have g2 : Rl (eLarge 1100 1854 1502 a b c (eLarge (fb 0) 402 1076 a b c M)) (eLarge 1100 1854 1502 a b c (eLarge (fb 0) 402 1076 a b c M)) := g2
  have c7 := c_X7_large (M := M) l E a b c (h.i7)
  rw [← hN] at g1 g2 c7
  have c8 := c_X8_large (M := N) l E a b c (g1.2.1)
  have e : aLarge (vb 1100 N) a b c = aLarge (vb (fb 0) M) a b c := by rw [← g1.1]
  rw [e] at c8
  exact ⟨_, _, _, c7, c8, g2⟩
theorem p_ahead (l : Launch) (E : jE) {M : jM} (h : Rl M M) (a b : Int32) : ∃ r M1 M2, K_X7_ahead l E [.ref (ja E 59), .int a, .int b] M r M1 ∧ K_X8_ahead l E [.ref (ja E 60), .int a, .int b] M1 r M2 ∧ Rl M2 M2 := by
  have hu : Up M (eAhead7 1076 a b M) := by
    unfold eAhead7
    repeat' (first | with_reducible exact up_rf | with_reducible exact lnM_up | with_reducible refine up_itc (fun hc => ?_) (fun hc => ?_) | with_reducible refine up_fl ?_ ?_ | with_reducible refine up_mF ?_ ?_ | with_reducible refine up_ch ?_ ?_ | with_reducible refine up_tn ?_ ?_ | with_reducible refine up_dr ?_ | with_reducible refine up_qs ?_ | with_reducible refine up_lay ?_ ?_ | with_reducible refine up_upd ?_ ?_ | omega | decide)
  have hd : ∀ Q, Dn Q (eAhead8 1502 a b Q) := by
    intro Q
    unfold eAhead8
    repeat' (first | with_reducible exact dn_rf | with_reducible refine dn_itc (fun hc => ?_) (fun hc => ?_) | with_reducible refine dn_fl ?_ ?_ | with_reducible refine dn_mF ?_ ?_ | with_reducible refine dn_ch ?_ ?_ | with_reducible refine dn_tn ?_ ?_ | with_reducible refine dn_asd ?_ | with_reducible refine dn_qs ?_ | with_reducible refine dn_crr ?_ | with_reducible refine dn_lay ?_ ?_ | with_reducible refine dn_upd ?_ ?_ | omega | decide)
  have hr : ∀ Q, Rl M Q → Rl (eAhead7 1076 a b M) (eAhead8 1502 a b Q) := by
    intro Q hQ
    have hS8 := hQ.2.1
    unfold eAhead7
    unfold eAhead8
    try rw [hQ.1]
    try rw [hQ.2.2.2.2.1]
    repeat' (first | with_reducible exact hQ | with_reducible refine rl_ite (fun hc => ?_) (fun hc => ?_) | with_reducible refine rl_fl ?_ ?_ | with_reducible refine rl_mF ?_ | with_reducible refine rl_ch ?_ | with_reducible refine rl_tn ?_ | with_reducible refine rl_dr ?_ | with_reducible refine rl_ln ?_ | omega | decide)
  obtain ⟨g1, g2⟩ := rl_go (e7 := fun M => eAhead7 1076 a b M) (e8 := fun M => eAhead8 1502 a b M) h hu hd hr
  clear hu hd hr
  obtain ⟨N, hN⟩ : ∃ N, N = eAhead7 1076 a b M := ⟨_, rfl⟩
  have g1 : Rl M (eAhead7 1076 a b M) := g1
  have g2 : Rl (eAhead8 1502 a b (eAhead7 1076 a b M)) (eAhead8 1502 a b (eAhead7 1076 a b M)) := g2
  have c7 := c_X7_ahead (M := M) l E a b (h.i7)
  rw [← hN] at g1 g2 c7
  have c8 := c_X8_ahead (M := N) l E a b (g1.2.1)
  have e : aAhead (vb 1100 N) a b = aAhead (vb (fb 0) M) a b := by rw [← g1.1]
  rw [e] at c8
  exact ⟨_, _, _, c7, c8, g2⟩
theorem p_comes (l : Launch) (E : jE) {M : jM} (h : Rl M M) (a b : Int32) : ∃ r M1 M2, K_X7_comes l E [.ref (ja E 59), .int a, .int b] M r M1 ∧ K_X8_comes l E [.ref (ja E 60), .int a, .int b] M1 r M2 ∧ Rl M2 M2 := by
  have hu : Up M (eComes7 a b M) := by
    unfold eComes7
    repeat' (first | with_reducible exact up_rf | with_reducible exact lnM_up | with_reducible refine up_itc (fun hc => ?_) (fun hc => ?_) | with_reducible refine up_fl ?_ ?_ | with_reducible refine up_mF ?_ ?_ | with_reducible refine up_ch ?_ ?_ | with_reducible refine up_tn ?_ ?_ | with_reducible refine up_dr ?_ | with_reducible refine up_qs ?_ | with_reducible refine up_lay ?_ ?_ | with_reducible refine up_upd ?_ ?_ | omega | decide)
  have hd : ∀ Q, Dn Q (eComes8 a b Q) := by
    intro Q
    unfold eComes8
    repeat' (first | with_reducible exact dn_rf | with_reducible refine dn_itc (fun hc => ?_) (fun hc => ?_) | with_reducible refine dn_fl ?_ ?_ | with_reducible refine dn_mF ?_ ?_ | with_reducible refine dn_ch ?_ ?_ | with_reducible refine dn_tn ?_ ?_ | with_reducible refine dn_asd ?_ | with_reducible refine dn_qs ?_ | with_reducible refine dn_crr ?_ | with_reducible refine dn_lay ?_ ?_ | with_reducible refine dn_upd ?_ ?_ | omega | decide)
  have hr : ∀ Q, Rl M Q → Rl (eComes7 a b M) (eComes8 a b Q) := by
    intro Q hQ
    have hS8 := hQ.2.1
    unfold eComes7
    unfold eComes8
    try rw [hQ.1]
    try rw [hQ.2.2.2.2.1]
    repeat' (first | with_reducible exact hQ | with_reducible refine rl_ite (fun hc => ?_) (fun hc => ?_) | with_reducible refine rl_fl ?_ ?_ | with_reducible refine rl_mF ?_ | with_reducible refine rl_ch ?_ | with_reducible refine rl_tn ?_ | with_reducible refine rl_dr ?_ | with_reducible refine rl_ln ?_ | omega | decide)
  obtain ⟨g1, g2⟩ := rl_go (e7 := fun M => eComes7 a b M) (e8 := fun M => eComes8 a b M) h hu hd hr
  clear hu hd hr
  obtain ⟨N, hN⟩ : ∃ N, N = eComes7 a b M := ⟨_, rfl⟩
  have g1 : Rl M (eComes7 a b M) := g1
  have g2 : Rl (eComes8 a b (eComes7 a b M)) (eComes8 a b (eComes7 a b M)) := g2
  have c7 := c_X7_comes (M := M) l E a b (h.i7)
  rw [← hN] at g1 g2 c7
  have c8 := c_X8_comes (M := N) l E a b (g1.2.1)
  have e : aComes (vb 1100 N) a b = aComes (vb (fb 0) M) a b := by rw [← g1.1]
  rw [e] at c8
  exact ⟨_, _, _, c7, c8, g2⟩
theorem p_seen (l : Launch) (E : jE) {M : jM} (h : Rl M M) (a b : Int32) : ∃ r M1 M2, K_X7_seen l E [.ref (ja E 59), .int a, .int b] M r M1 ∧ K_X8_seen l E [.ref (ja E 60), .int a, .int b] M1 r M2 ∧ Rl M2 M2 := by
  have hu : Up M (eSeen7 a b M) := by
    unfold eSeen7
    repeat' (first | with_reducible exact up_rf | with_reducible exact lnM_up | with_reducible refine up_itc (fun hc => ?_) (fun hc => ?_) | with_reducible refine up_fl ?_ ?_ | with_reducible refine up_mF ?_ ?_ | with_reducible refine up_ch ?_ ?_ | with_reducible refine up_tn ?_ ?_ | with_reducible refine up_dr ?_ | with_reducible refine up_qs ?_ | with_reducible refine up_lay ?_ ?_ | with_reducible refine up_upd ?_ ?_ | omega | decide)
  have hd : ∀ Q, Dn Q (eSeen8 a b Q) := by
    intro Q
    unfold eSeen8
    repeat' (first | with_reducible exact dn_rf | with_reducible refine dn_itc (fun hc => ?_) (fun hc => ?_) | with_reducible refine dn_fl ?_ ?_ | with_reducible refine dn_mF ?_ ?_ | with_reducible refine dn_ch ?_ ?_ | with_reducible refine dn_tn ?_ ?_ | with_reducible refine dn_asd ?_ | with_reducible refine dn_qs ?_ | with_reducible refine dn_crr ?_ | with_reducible refine dn_lay ?_ ?_ | with_reducible refine dn_upd ?_ ?_ | omega | decide)
  have hr : ∀ Q, Rl M Q → Rl (eSeen7 a b M) (eSeen8 a b Q) := by
    intro Q hQ
    have hS8 := hQ.2.1
    unfold eSeen7
    unfold eSeen8
    try rw [hQ.1]
    try rw [hQ.2.2.2.2.1]
    repeat' (first | with_reducible exact hQ | with_reducible refine rl_ite (fun hc => ?_) (fun hc => ?_) | with_reducible refine rl_fl ?_ ?_ | with_reducible refine rl_mF ?_ | with_reducible refine rl_ch ?_ | with_reducible refine rl_tn ?_ | with_reducible refine rl_dr ?_ | with_reducible refine rl_ln ?_ | omega | decide)
  obtain ⟨g1, g2⟩ := rl_go (e7 := fun M => eSeen7 a b M) (e8 := fun M => eSeen8 a b M) h hu hd hr
  clear hu hd hr
  obtain ⟨N, hN⟩ : ∃ N, N = eSeen7 a b M := ⟨_, rfl⟩
  have g1 : Rl M (eSeen7 a b M) := g1
  have g2 : Rl (eSeen8 a b (eSeen7 a b M)) (eSeen8 a b (eSeen7 a b M)) := g2
  have c7 := c_X7_seen (M := M) l E a b (h.i7)
  rw [← hN] at g1 g2 c7
  have c8 := c_X8_seen (M := N) l E a b (g1.2.1)
  have e : aSeen (vb 1100 N) a b = aSeen (vb (fb 0) M) a b := by rw [← g1.1]
  rw [e] at c8
  exact ⟨_, _, _, c7, c8, g2⟩
theorem p_meet (l : Launch) (E : jE) {M : jM} (h : Rl M M) (a b : Int32) : ∃ r M1 M2, K_X7_meet l E [.ref (ja E 59), .int a, .int b] M r M1 ∧ K_X8_meet l E [.ref (ja E 60), .int a, .int b] M1 r M2 ∧ Rl M2 M2 := by
  have hu : Up M (eMeet7 a b M) := by
    unfold eMeet7
    repeat' (first | with_reducible exact up_rf | with_reducible exact lnM_up | with_reducible refine up_itc (fun hc => ?_) (fun hc => ?_) | with_reducible refine up_fl ?_ ?_ | with_reducible refine up_mF ?_ ?_ | with_reducible refine up_ch ?_ ?_ | with_reducible refine up_tn ?_ ?_ | with_reducible refine up_dr ?_ | with_reducible refine up_qs ?_ | with_reducible refine up_lay ?_ ?_ | with_reducible refine up_upd ?_ ?_ | omega | decide)
  have hd : ∀ Q, Dn Q (eMeet8 a b Q) := by
    intro Q
    unfold eMeet8
    repeat' (first | with_reducible exact dn_rf | with_reducible refine dn_itc (fun hc => ?_) (fun hc => ?_) | with_reducible refine dn_fl ?_ ?_ | with_reducible refine dn_mF ?_ ?_ | with_reducible refine dn_ch ?_ ?_ | with_reducible refine dn_tn ?_ ?_ | with_reducible refine dn_asd ?_ | with_reducible refine dn_qs ?_ | with_reducible refine dn_crr ?_ | with_reducible refine dn_lay ?_ ?_ | with_reducible refine dn_upd ?_ ?_ | omega | decide)
  have hr : ∀ Q, Rl M Q → Rl (eMeet7 a b M) (eMeet8 a b Q) := by
    intro Q hQ
    have hS8 := hQ.2.1
    unfold eMeet7
    unfold eMeet8
    try rw [hQ.1]
    try rw [hQ.2.2.2.2.1]
    repeat' (first | with_reducible exact hQ | with_reducible refine rl_ite (fun hc => ?_) (fun hc => ?_) | with_reducible refine rl_fl ?_ ?_ | with_reducible refine rl_mF ?_ | with_reducible refine rl_ch ?_ | with_reducible refine rl_tn ?_ | with_reducible refine rl_dr ?_ | with_reducible refine rl_ln ?_ | omega | decide)
  obtain ⟨g1, g2⟩ := rl_go (e7 := fun M => eMeet7 a b M) (e8 := fun M => eMeet8 a b M) h hu hd hr
  clear hu hd hr
  obtain ⟨N, hN⟩ : ∃ N, N = eMeet7 a b M := ⟨_, rfl⟩
  have g1 : Rl M (eMeet7 a b M) := g1
  have g2 : Rl (eMeet8 a b (eMeet7 a b M)) (eMeet8 a b (eMeet7 a b M)) := g2
  have c7 := c_X7_meet (M := M) l E a b (h.i7)
  rw [← hN] at g1 g2 c7
  have c8 := c_X8_meet (M := N) l E a b (g1.2.1)
  have e : aMeet (vb 1100 N) a b = aMeet (vb (fb 0) M) a b := by rw [← g1.1]
  rw [e] at c8
  exact ⟨_, _, _, c7, c8, g2⟩
theorem p_cast (l : Launch) (E : jE) {M : jM} (h : Rl M M) (a b : Int32) : ∃ r M1 M2, K_X7_cast l E [.ref (ja E 59), .int a, .int b] M r M1 ∧ K_X8_cast l E [.ref (ja E 60), .int a, .int b] M1 r M2 ∧ Rl M2 M2 := by
  have hu : Up M (eCast7 a b M) := by
    unfold eCast7
    repeat' (first | with_reducible exact up_rf | with_reducible exact lnM_up | with_reducible refine up_itc (fun hc => ?_) (fun hc => ?_) | with_reducible refine up_fl ?_ ?_ | with_reducible refine up_mF ?_ ?_ | with_reducible refine up_ch ?_ ?_ | with_reducible refine up_tn ?_ ?_ | with_reducible refine up_dr ?_ | with_reducible refine up_qs ?_ | with_reducible refine up_lay ?_ ?_ | with_reducible refine up_upd ?_ ?_ | omega | decide)
  have hd : ∀ Q, Dn Q (eCast8 a b Q) := by
    intro Q
    unfold eCast8
    repeat' (first | with_reducible exact dn_rf | with_reducible refine dn_itc (fun hc => ?_) (fun hc => ?_) | with_reducible refine dn_fl ?_ ?_ | with_reducible refine dn_mF ?_ ?_ | with_reducible refine dn_ch ?_ ?_ | with_reducible refine dn_tn ?_ ?_ | with_reducible refine dn_asd ?_ | with_reducible refine dn_qs ?_ | with_reducible refine dn_crr ?_ | with_reducible refine dn_lay ?_ ?_ | with_reducible refine dn_upd ?_ ?_ | omega | decide)
  have hr : ∀ Q, Rl M Q → Rl (eCast7 a b M) (eCast8 a b Q) := by
    intro Q hQ
    have hS8 := hQ.2.1
    unfold eCast7
    unfold eCast8
    try rw [hQ.1]
    try rw [hQ.2.2.2.2.1]
    repeat' (first | with_reducible exact hQ | with_reducible refine rl_ite (fun hc => ?_) (fun hc => ?_) | with_reducible refine rl_fl ?_ ?_ | with_reducible refine rl_mF ?_ | with_reducible refine rl_ch ?_ | with_reducible refine rl_tn ?_ | with_reducible refine rl_dr ?_ | with_reducible refine rl_ln ?_ | omega | decide)
  obtain ⟨g1, g2⟩ := rl_go (e7 := fun M => eCast7 a b M) (e8 := fun M => eCast8 a b M) h hu hd hr
  clear hu hd hr
  obtain ⟨N, hN⟩ : ∃ N, N = eCast7 a b M := ⟨_, rfl⟩
  have g1 : Rl M (eCast7 a b M) := g1
  have g2 : Rl (eCast8 a b (eCast7 a b M)) (eCast8 a b (eCast7 a b M)) := g2
  have c7 := c_X7_cast (M := M) l E a b (h.i7)
  rw [← hN] at g1 g2 c7
  have c8 := c_X8_cast (M := N) l E a b (g1.2.1)
  have e : aCast (vb 1100 N) a b = aCast (vb (fb 0) M) a b := by rw [← g1.1]
  rw [e] at c8
  exact ⟨_, _, _, c7, c8, g2⟩
theorem p_kindFor (l : Launch) (E : jE) {M : jM} (h : Rl M M) (a : Int32) : ∃ r M1 M2, K_X7_kindFor l E [.ref (ja E 59), .int a] M r M1 ∧ K_X8_kindFor l E [.ref (ja E 60), .int a] M1 r M2 ∧ Rl M2 M2 := by
  have hu : Up M (eKind7 a M) := by
    unfold eKind7
    repeat' (first | with_reducible exact up_rf | with_reducible exact lnM_up | with_reducible refine up_itc (fun hc => ?_) (fun hc => ?_) | with_reducible refine up_fl ?_ ?_ | with_reducible refine up_mF ?_ ?_ | with_reducible refine up_ch ?_ ?_ | with_reducible refine up_tn ?_ ?_ | with_reducible refine up_dr ?_ | with_reducible refine up_qs ?_ | with_reducible refine up_lay ?_ ?_ | with_reducible refine up_upd ?_ ?_ | omega | decide)
  have hd : ∀ Q, Dn Q (eKind8 a Q) := by
    intro Q
    unfold eKind8
    repeat' (first | with_reducible exact dn_rf | with_reducible refine dn_itc (fun hc => ?_) (fun hc => ?_) | with_reducible refine dn_fl ?_ ?_ | with_reducible refine dn_mF ?_ ?_ | with_reducible refine dn_ch ?_ ?_ | with_reducible refine dn_tn ?_ ?_ | with_reducible refine dn_asd ?_ | with_reducible refine dn_qs ?_ | with_reducible refine dn_crr ?_ | with_reducible refine dn_lay ?_ ?_ | with_reducible refine dn_upd ?_ ?_ | omega | decide)
  have hr : ∀ Q, Rl M Q → Rl (eKind7 a M) (eKind8 a Q) := by
    intro Q hQ
    have hS8 := hQ.2.1
    unfold eKind7
    unfold eKind8
    try rw [hQ.1]
    try rw [hQ.2.2.2.2.1]
    repeat' (first | with_reducible exact hQ | with_reducible refine rl_ite (fun hc => ?_) (fun hc => ?_) | with_reducible refine rl_fl ?_ ?_ | with_reducible refine rl_mF ?_ | with_reducible refine rl_ch ?_ | with_reducible refine rl_tn ?_ | with_reducible refine rl_dr ?_ | with_reducible refine rl_ln ?_ | omega | decide)
  obtain ⟨g1, g2⟩ := rl_go (e7 := fun M => eKind7 a M) (e8 := fun M => eKind8 a M) h hu hd hr
  clear hu hd hr
  obtain ⟨N, hN⟩ : ∃ N, N = eKind7 a M := ⟨_, rfl⟩
  have g1 : Rl M (eKind7 a M) := g1
  have g2 : Rl (eKind8 a (eKind7 a M)) (eKind8 a (eKind7 a M)) := g2
  have c7 := c_X7_kindFor (M := M) l E a (h.i7)
  rw [← hN] at g1 g2 c7
  have c8 := c_X8_kindFor (M := N) l E a (g1.2.1)
  have e : aKind (vb 1100 N) a = aKind (vb (fb 0) M) a := by rw [← g1.1]
  rw [e] at c8
  exact ⟨_, _, _, c7, c8, g2⟩
theorem p_watch (l : Launch) (E : jE) {M : jM} (h : Rl M M) (a : Int32) : ∃ r M1 M2, K_X7_watch l E [.ref (ja E 59), .int a] M r M1 ∧ K_X8_watch l E [.ref (ja E 60), .int a] M1 r M2 ∧ Rl M2 M2 := by
  have hu : Up M (eWatch7 a M) := by
    unfold eWatch7
    repeat' (first | with_reducible exact up_rf | with_reducible exact lnM_up | with_reducible refine up_itc (fun hc => ?_) (fun hc => ?_) | with_reducible refine up_fl ?_ ?_ | with_reducible refine up_mF ?_ ?_ | with_reducible refine up_ch ?_ ?_ | with_reducible refine up_tn ?_ ?_ | with_reducible refine up_dr ?_ | with_reducible refine up_qs ?_ | with_reducible refine up_lay ?_ ?_ | with_reducible refine up_upd ?_ ?_ | omega | decide)
  have hd : ∀ Q, Dn Q (eWatch8 a Q) := by
    intro Q
    unfold eWatch8
    repeat' (first | with_reducible exact dn_rf | with_reducible refine dn_itc (fun hc => ?_) (fun hc => ?_) | with_reducible refine dn_fl ?_ ?_ | with_reducible refine dn_mF ?_ ?_ | with_reducible refine dn_ch ?_ ?_ | with_reducible refine dn_tn ?_ ?_ | with_reducible refine dn_asd ?_ | with_reducible refine dn_qs ?_ | with_reducible refine dn_crr ?_ | with_reducible refine dn_lay ?_ ?_ | with_reducible refine dn_upd ?_ ?_ | omega | decide)
  have hr : ∀ Q, Rl M Q → Rl (eWatch7 a M) (eWatch8 a Q) := by
    intro Q hQ
    have hS8 := hQ.2.1
    unfold eWatch7
    unfold eWatch8
    try rw [hQ.1]
    try rw [hQ.2.2.2.2.1]
    repeat' (first | with_reducible exact hQ | with_reducible refine rl_ite (fun hc => ?_) (fun hc => ?_) | with_reducible refine rl_fl ?_ ?_ | with_reducible refine rl_mF ?_ | with_reducible refine rl_ch ?_ | with_reducible refine rl_tn ?_ | with_reducible refine rl_dr ?_ | with_reducible refine rl_ln ?_ | omega | decide)
  obtain ⟨g1, g2⟩ := rl_go (e7 := fun M => eWatch7 a M) (e8 := fun M => eWatch8 a M) h hu hd hr
  clear hu hd hr
  obtain ⟨N, hN⟩ : ∃ N, N = eWatch7 a M := ⟨_, rfl⟩
  have g1 : Rl M (eWatch7 a M) := g1
  have g2 : Rl (eWatch8 a (eWatch7 a M)) (eWatch8 a (eWatch7 a M)) := g2
  have c7 := c_X7_watch (M := M) l E a (h.i7)
  rw [← hN] at g1 g2 c7
  have c8 := c_X8_watch (M := N) l E a (g1.2.1)
  have e : aWatch (vb 1100 N) a = aWatch (vb (fb 0) M) a := by rw [← g1.1]
  rw [e] at c8
  exact ⟨_, _, _, c7, c8, g2⟩
theorem p_dig (l : Launch) (E : jE) {M : jM} (h : Rl M M) (a b c : Int32) : ∃ r M1 M2, K_X7_dig l E [.ref (ja E 59), .int a, .int b, .int c] M r M1 ∧ K_X8_dig l E [.ref (ja E 60), .int a, .int b, .int c] M1 r M2 ∧ Rl M2 M2 := by
  have hu : Up M (eDig (fb 0) 1076 a b c M) := by
    unfold eDig
    repeat' (first | with_reducible exact up_rf | with_reducible exact lnM_up | with_reducible refine up_itc (fun hc => ?_) (fun hc => ?_) | with_reducible refine up_fl ?_ ?_ | with_reducible refine up_mF ?_ ?_ | with_reducible refine up_ch ?_ ?_ | with_reducible refine up_tn ?_ ?_ | with_reducible refine up_dr ?_ | with_reducible refine up_qs ?_ | with_reducible refine up_lay ?_ ?_ | with_reducible refine up_upd ?_ ?_ | omega | decide)
  have hd : ∀ Q, Dn Q (eDig 1100 1502 a b c Q) := by
    intro Q
    unfold eDig
    repeat' (first | with_reducible exact dn_rf | with_reducible refine dn_itc (fun hc => ?_) (fun hc => ?_) | with_reducible refine dn_fl ?_ ?_ | with_reducible refine dn_mF ?_ ?_ | with_reducible refine dn_ch ?_ ?_ | with_reducible refine dn_tn ?_ ?_ | with_reducible refine dn_asd ?_ | with_reducible refine dn_qs ?_ | with_reducible refine dn_crr ?_ | with_reducible refine dn_lay ?_ ?_ | with_reducible refine dn_upd ?_ ?_ | omega | decide)
  have hr : ∀ Q, Rl M Q → Rl (eDig (fb 0) 1076 a b c M) (eDig 1100 1502 a b c Q) := by
    intro Q hQ
    have hS8 := hQ.2.1
    unfold eDig
    try rw [hQ.1]
    try rw [hQ.2.2.2.2.1]
    repeat' (first | with_reducible exact hQ | with_reducible refine rl_ite (fun hc => ?_) (fun hc => ?_) | with_reducible refine rl_fl ?_ ?_ | with_reducible refine rl_mF ?_ | with_reducible refine rl_ch ?_ | with_reducible refine rl_tn ?_ | with_reducible refine rl_dr ?_ | with_reducible refine rl_ln ?_ | omega | decide)
    exact rl_lay (okP_I hS8 hc) hQ
  obtain ⟨g1, g2⟩ := rl_go (e7 := fun M => eDig (fb 0) 1076 a b c M) (e8 := fun M => eDig 1100 1502 a b c M) h hu hd hr
  clear hu hd hr
  obtain ⟨N, hN⟩ : ∃ N, N = eDig (fb 0) 1076 a b c M := ⟨_, rfl⟩
  have g1 : Rl M (eDig (fb 0) 1076 a b c M) := g1
  have g2 : Rl (eDig 1100 1502 a b c (eDig (fb 0) 1076 a b c M)) (eDig 1100 1502 a b c (eDig (fb 0) 1076 a b c M)) := g2
  have c7 := c_X7_dig (M := M) l E a b c (h.i7)
  rw [← hN] at g1 g2 c7
  have c8 := c_X8_dig (M := N) l E a b c (g1.2.1)
  have e : aDig (vb 1100 N) a b c = aDig (vb (fb 0) M) a b c := by rw [← g1.1]
  rw [e] at c8
  exact ⟨_, _, _, c7, c8, g2⟩
theorem p_change (l : Launch) (E : jE) {M : jM} (h : Rl M M) (a b c : Int32) : ∃ r M1 M2, K_X7_change l E [.ref (ja E 59), .int a, .int b, .int c] M r M1 ∧ K_X8_change l E [.ref (ja E 60), .int a, .int b, .int c] M1 r M2 ∧ Rl M2 M2 := by
  have hu : Up M (eChange (fb 0) 1076 a b c M) := by
    unfold eChange
    repeat' (first | with_reducible exact up_rf | with_reducible exact lnM_up | with_reducible refine up_itc (fun hc => ?_) (fun hc => ?_) | with_reducible refine up_fl ?_ ?_ | with_reducible refine up_mF ?_ ?_ | with_reducible refine up_ch ?_ ?_ | with_reducible refine up_tn ?_ ?_ | with_reducible refine up_dr ?_ | with_reducible refine up_qs ?_ | with_reducible refine up_lay ?_ ?_ | with_reducible refine up_upd ?_ ?_ | omega | decide)
  have hd : ∀ Q, Dn Q (eChange 1100 1502 a b c Q) := by
    intro Q
    unfold eChange
    repeat' (first | with_reducible exact dn_rf | with_reducible refine dn_itc (fun hc => ?_) (fun hc => ?_) | with_reducible refine dn_fl ?_ ?_ | with_reducible refine dn_mF ?_ ?_ | with_reducible refine dn_ch ?_ ?_ | with_reducible refine dn_tn ?_ ?_ | with_reducible refine dn_asd ?_ | with_reducible refine dn_qs ?_ | with_reducible refine dn_crr ?_ | with_reducible refine dn_lay ?_ ?_ | with_reducible refine dn_upd ?_ ?_ | omega | decide)
  have hr : ∀ Q, Rl M Q → Rl (eChange (fb 0) 1076 a b c M) (eChange 1100 1502 a b c Q) := by
    intro Q hQ
    have hS8 := hQ.2.1
    unfold eChange
    try rw [hQ.1]
    try rw [hQ.2.2.2.2.1]
    repeat' (first | with_reducible exact hQ | with_reducible refine rl_ite (fun hc => ?_) (fun hc => ?_) | with_reducible refine rl_fl ?_ ?_ | with_reducible refine rl_mF ?_ | with_reducible refine rl_ch ?_ | with_reducible refine rl_tn ?_ | with_reducible refine rl_dr ?_ | with_reducible refine rl_ln ?_ | omega | decide)
    exact rl_lay (okT_I hS8 hc) hQ
  obtain ⟨g1, g2⟩ := rl_go (e7 := fun M => eChange (fb 0) 1076 a b c M) (e8 := fun M => eChange 1100 1502 a b c M) h hu hd hr
  clear hu hd hr
  obtain ⟨N, hN⟩ : ∃ N, N = eChange (fb 0) 1076 a b c M := ⟨_, rfl⟩
  have g1 : Rl M (eChange (fb 0) 1076 a b c M) := g1
  have g2 : Rl (eChange 1100 1502 a b c (eChange (fb 0) 1076 a b c M)) (eChange 1100 1502 a b c (eChange (fb 0) 1076 a b c M)) := g2
  have c7 := c_X7_change (M := M) l E a b c (h.i7)
  rw [← hN] at g1 g2 c7
  have c8 := c_X8_change (M := N) l E a b c (g1.2.1)
  have e : aChange (vb 1100 N) a b c = aChange (vb (fb 0) M) a b c := by rw [← g1.1]
  rw [e] at c8
  exact ⟨_, _, _, c7, c8, g2⟩
theorem p_rain (l : Launch) (E : jE) {M : jM} (h : Rl M M) (a : Int32) : ∃ r M1 M2, K_X7_rain l E [.ref (ja E 59), .int a] M r M1 ∧ K_X8_rain l E [.ref (ja E 60), .int a] M1 r M2 ∧ Rl M2 M2 := by
  have hu : Up M (eRain (fb 0) 1076 a M) := by
    unfold eRain
    repeat' (first | with_reducible exact up_rf | with_reducible exact lnM_up | with_reducible refine up_itc (fun hc => ?_) (fun hc => ?_) | with_reducible refine up_fl ?_ ?_ | with_reducible refine up_mF ?_ ?_ | with_reducible refine up_ch ?_ ?_ | with_reducible refine up_tn ?_ ?_ | with_reducible refine up_dr ?_ | with_reducible refine up_qs ?_ | with_reducible refine up_lay ?_ ?_ | with_reducible refine up_upd ?_ ?_ | omega | decide)
  have hd : ∀ Q, Dn Q (eRain 1100 1502 a Q) := by
    intro Q
    unfold eRain
    repeat' (first | with_reducible exact dn_rf | with_reducible refine dn_itc (fun hc => ?_) (fun hc => ?_) | with_reducible refine dn_fl ?_ ?_ | with_reducible refine dn_mF ?_ ?_ | with_reducible refine dn_ch ?_ ?_ | with_reducible refine dn_tn ?_ ?_ | with_reducible refine dn_asd ?_ | with_reducible refine dn_qs ?_ | with_reducible refine dn_crr ?_ | with_reducible refine dn_lay ?_ ?_ | with_reducible refine dn_upd ?_ ?_ | omega | decide)
  have hr : ∀ Q, Rl M Q → Rl (eRain (fb 0) 1076 a M) (eRain 1100 1502 a Q) := by
    intro Q hQ
    have hS8 := hQ.2.1
    unfold eRain
    try rw [hQ.1]
    try rw [hQ.2.2.2.2.1]
    repeat' (first | with_reducible exact hQ | with_reducible refine rl_ite (fun hc => ?_) (fun hc => ?_) | with_reducible refine rl_fl ?_ ?_ | with_reducible refine rl_mF ?_ | with_reducible refine rl_ch ?_ | with_reducible refine rl_tn ?_ | with_reducible refine rl_dr ?_ | with_reducible refine rl_ln ?_ | omega | decide)
    obtain ⟨v, hv, rfl⟩ := inr_of (b := 1) hc
    exact rl_lay (IS_rn hS8 hv) hQ
  obtain ⟨g1, g2⟩ := rl_go (e7 := fun M => eRain (fb 0) 1076 a M) (e8 := fun M => eRain 1100 1502 a M) h hu hd hr
  clear hu hd hr
  obtain ⟨N, hN⟩ : ∃ N, N = eRain (fb 0) 1076 a M := ⟨_, rfl⟩
  have g1 : Rl M (eRain (fb 0) 1076 a M) := g1
  have g2 : Rl (eRain 1100 1502 a (eRain (fb 0) 1076 a M)) (eRain 1100 1502 a (eRain (fb 0) 1076 a M)) := g2
  have c7 := c_X7_rain (M := M) l E a (h.i7)
  rw [← hN] at g1 g2 c7
  have c8 := c_X8_rain (M := N) l E a (g1.2.1)
  have e : aRain (vb 1100 N) a = aRain (vb (fb 0) M) a := by rw [← g1.1]
  rw [e] at c8
  exact ⟨_, _, _, c7, c8, g2⟩
theorem p_go (l : Launch) (E : jE) {M : jM} (h : Rl M M) (a : Int32) : ∃ r M1 M2, K_X7_go l E [.ref (ja E 59), .int a] M r M1 ∧ K_X8_go l E [.ref (ja E 60), .int a] M1 r M2 ∧ Rl M2 M2 := by
  have hu : Up M (eGo (fb 0) 1076 a M) := by
    unfold eGo
    repeat' (first | with_reducible exact up_rf | with_reducible exact lnM_up | with_reducible refine up_itc (fun hc => ?_) (fun hc => ?_) | with_reducible refine up_fl ?_ ?_ | with_reducible refine up_mF ?_ ?_ | with_reducible refine up_ch ?_ ?_ | with_reducible refine up_tn ?_ ?_ | with_reducible refine up_dr ?_ | with_reducible refine up_qs ?_ | with_reducible refine up_lay ?_ ?_ | with_reducible refine up_upd ?_ ?_ | omega | decide)
  have hd : ∀ Q, Dn Q (eGo 1100 1502 a Q) := by
    intro Q
    unfold eGo
    repeat' (first | with_reducible exact dn_rf | with_reducible refine dn_itc (fun hc => ?_) (fun hc => ?_) | with_reducible refine dn_fl ?_ ?_ | with_reducible refine dn_mF ?_ ?_ | with_reducible refine dn_ch ?_ ?_ | with_reducible refine dn_tn ?_ ?_ | with_reducible refine dn_asd ?_ | with_reducible refine dn_qs ?_ | with_reducible refine dn_crr ?_ | with_reducible refine dn_lay ?_ ?_ | with_reducible refine dn_upd ?_ ?_ | omega | decide)
  have hr : ∀ Q, Rl M Q → Rl (eGo (fb 0) 1076 a M) (eGo 1100 1502 a Q) := by
    intro Q hQ
    have hS8 := hQ.2.1
    unfold eGo
    try rw [hQ.1]
    try rw [hQ.2.2.2.2.1]
    repeat' (first | with_reducible exact hQ | with_reducible refine rl_ite (fun hc => ?_) (fun hc => ?_) | with_reducible refine rl_fl ?_ ?_ | with_reducible refine rl_mF ?_ | with_reducible refine rl_ch ?_ | with_reducible refine rl_tn ?_ | with_reducible refine rl_dr ?_ | with_reducible refine rl_ln ?_ | omega | decide)
    exact rl_lay (IS_mins hS8 _).1 hQ
  obtain ⟨g1, g2⟩ := rl_go (e7 := fun M => eGo (fb 0) 1076 a M) (e8 := fun M => eGo 1100 1502 a M) h hu hd hr
  clear hu hd hr
  obtain ⟨N, hN⟩ : ∃ N, N = eGo (fb 0) 1076 a M := ⟨_, rfl⟩
  have g1 : Rl M (eGo (fb 0) 1076 a M) := g1
  have g2 : Rl (eGo 1100 1502 a (eGo (fb 0) 1076 a M)) (eGo 1100 1502 a (eGo (fb 0) 1076 a M)) := g2
  have c7 := c_X7_go (M := M) l E a (h.i7)
  rw [← hN] at g1 g2 c7
  have c8 := c_X8_go (M := N) l E a (g1.2.1)
  have e : aGo (vb 1100 N) a = aGo (vb (fb 0) M) a := by rw [← g1.1]
  rw [e] at c8
  exact ⟨_, _, _, c7, c8, g2⟩
theorem p_falls (l : Launch) (E : jE) {M : jM} (h : Rl M M) (a : Int32) : ∃ r M1 M2, K_X7_falls l E [.ref (ja E 59), .int a] M r M1 ∧ K_X8_falls l E [.ref (ja E 60), .int a] M1 r M2 ∧ Rl M2 M2 := by
  have hu : Up M (eFalls (fb 0) 1076 a M) := by
    unfold eFalls
    repeat' (first | with_reducible exact up_rf | with_reducible exact lnM_up | with_reducible refine up_itc (fun hc => ?_) (fun hc => ?_) | with_reducible refine up_fl ?_ ?_ | with_reducible refine up_mF ?_ ?_ | with_reducible refine up_ch ?_ ?_ | with_reducible refine up_tn ?_ ?_ | with_reducible refine up_dr ?_ | with_reducible refine up_qs ?_ | with_reducible refine up_lay ?_ ?_ | with_reducible refine up_upd ?_ ?_ | omega | decide)
  have hd : ∀ Q, Dn Q (eFalls 1100 1502 a Q) := by
    intro Q
    unfold eFalls
    repeat' (first | with_reducible exact dn_rf | with_reducible refine dn_itc (fun hc => ?_) (fun hc => ?_) | with_reducible refine dn_fl ?_ ?_ | with_reducible refine dn_mF ?_ ?_ | with_reducible refine dn_ch ?_ ?_ | with_reducible refine dn_tn ?_ ?_ | with_reducible refine dn_asd ?_ | with_reducible refine dn_qs ?_ | with_reducible refine dn_crr ?_ | with_reducible refine dn_lay ?_ ?_ | with_reducible refine dn_upd ?_ ?_ | omega | decide)
  have hr : ∀ Q, Rl M Q → Rl (eFalls (fb 0) 1076 a M) (eFalls 1100 1502 a Q) := by
    intro Q hQ
    have hS8 := hQ.2.1
    unfold eFalls
    try rw [hQ.1]
    try rw [hQ.2.2.2.2.1]
    repeat' (first | with_reducible exact hQ | with_reducible refine rl_ite (fun hc => ?_) (fun hc => ?_) | with_reducible refine rl_fl ?_ ?_ | with_reducible refine rl_mF ?_ | with_reducible refine rl_ch ?_ | with_reducible refine rl_tn ?_ | with_reducible refine rl_dr ?_ | with_reducible refine rl_ln ?_ | omega | decide)
    exact rl_lay (IS_fl hS8 _) hQ
  obtain ⟨g1, g2⟩ := rl_go (e7 := fun M => eFalls (fb 0) 1076 a M) (e8 := fun M => eFalls 1100 1502 a M) h hu hd hr
  clear hu hd hr
  obtain ⟨N, hN⟩ : ∃ N, N = eFalls (fb 0) 1076 a M := ⟨_, rfl⟩
  have g1 : Rl M (eFalls (fb 0) 1076 a M) := g1
  have g2 : Rl (eFalls 1100 1502 a (eFalls (fb 0) 1076 a M)) (eFalls 1100 1502 a (eFalls (fb 0) 1076 a M)) := g2
  have c7 := c_X7_falls (M := M) l E a (h.i7)
  rw [← hN] at g1 g2 c7
  have c8 := c_X8_falls (M := N) l E a (g1.2.1)
  have e : aFalls (vb 1100 N) a = aFalls (vb (fb 0) M) a := by rw [← g1.1]
  rw [e] at c8
  exact ⟨_, _, _, c7, c8, g2⟩
theorem p_thing (l : Launch) (E : jE) {M : jM} (h : Rl M M) (a b : Int32) : ∃ r M1 M2, K_X7_thing l E [.ref (ja E 59), .int a, .int b] M r M1 ∧ K_X8_thing l E [.ref (ja E 60), .int a, .int b] M1 r M2 ∧ Rl M2 M2 := by
  have hu : Up M (eThing (fb 0) 1076 a b M) := by
    unfold eThing
    repeat' (first | with_reducible exact up_rf | with_reducible exact lnM_up | with_reducible refine up_itc (fun hc => ?_) (fun hc => ?_) | with_reducible refine up_fl ?_ ?_ | with_reducible refine up_mF ?_ ?_ | with_reducible refine up_ch ?_ ?_ | with_reducible refine up_tn ?_ ?_ | with_reducible refine up_dr ?_ | with_reducible refine up_qs ?_ | with_reducible refine up_lay ?_ ?_ | with_reducible refine up_upd ?_ ?_ | omega | decide)
  have hd : ∀ Q, Dn Q (eThing 1100 1502 a b Q) := by
    intro Q
    unfold eThing
    repeat' (first | with_reducible exact dn_rf | with_reducible refine dn_itc (fun hc => ?_) (fun hc => ?_) | with_reducible refine dn_fl ?_ ?_ | with_reducible refine dn_mF ?_ ?_ | with_reducible refine dn_ch ?_ ?_ | with_reducible refine dn_tn ?_ ?_ | with_reducible refine dn_asd ?_ | with_reducible refine dn_qs ?_ | with_reducible refine dn_crr ?_ | with_reducible refine dn_lay ?_ ?_ | with_reducible refine dn_upd ?_ ?_ | omega | decide)
  have hr : ∀ Q, Rl M Q → Rl (eThing (fb 0) 1076 a b M) (eThing 1100 1502 a b Q) := by
    intro Q hQ
    have hS8 := hQ.2.1
    unfold eThing
    try rw [hQ.1]
    try rw [hQ.2.2.2.2.1]
    repeat' (first | with_reducible exact hQ | with_reducible refine rl_ite (fun hc => ?_) (fun hc => ?_) | with_reducible refine rl_fl ?_ ?_ | with_reducible refine rl_mF ?_ | with_reducible refine rl_ch ?_ | with_reducible refine rl_tn ?_ | with_reducible refine rl_dr ?_ | with_reducible refine rl_ln ?_ | omega | decide)
    rename_i h1
    obtain ⟨v, hv, rfl⟩ := inr_of (b := 6) h1.1
    obtain ⟨y, hy, rfl⟩ := inr_of (b := 15) h1.2
    rw [nv_nI (by omega), nv_nI (by omega)]
    exact rl_lay (IS_add hS8 (by have := hS8.2.2.2.2.2.1.2; omega) hv hy (by decide)).1 hQ
  obtain ⟨g1, g2⟩ := rl_go (e7 := fun M => eThing (fb 0) 1076 a b M) (e8 := fun M => eThing 1100 1502 a b M) h hu hd hr
  clear hu hd hr
  obtain ⟨N, hN⟩ : ∃ N, N = eThing (fb 0) 1076 a b M := ⟨_, rfl⟩
  have g1 : Rl M (eThing (fb 0) 1076 a b M) := g1
  have g2 : Rl (eThing 1100 1502 a b (eThing (fb 0) 1076 a b M)) (eThing 1100 1502 a b (eThing (fb 0) 1076 a b M)) := g2
  have c7 := c_X7_thing (M := M) l E a b (h.i7)
  rw [← hN] at g1 g2 c7
  have c8 := c_X8_thing (M := N) l E a b (g1.2.1)
  have e : aThing (vb 1100 N) a b = aThing (vb (fb 0) M) a b := by rw [← g1.1]
  rw [e] at c8
  exact ⟨_, _, _, c7, c8, g2⟩
theorem p_hold (l : Launch) (E : jE) {M : jM} (h : Rl M M) (a b : Int32) : ∃ r M1 M2, K_X7_hold l E [.ref (ja E 59), .int a, .int b] M r M1 ∧ K_X8_hold l E [.ref (ja E 60), .int a, .int b] M1 r M2 ∧ Rl M2 M2 := by
  have hu : Up M (eHold (fb 0) 1076 a b M) := by
    unfold eHold
    repeat' (first | with_reducible exact up_rf | with_reducible exact lnM_up | with_reducible refine up_itc (fun hc => ?_) (fun hc => ?_) | with_reducible refine up_fl ?_ ?_ | with_reducible refine up_mF ?_ ?_ | with_reducible refine up_ch ?_ ?_ | with_reducible refine up_tn ?_ ?_ | with_reducible refine up_dr ?_ | with_reducible refine up_qs ?_ | with_reducible refine up_lay ?_ ?_ | with_reducible refine up_upd ?_ ?_ | omega | decide)
  have hd : ∀ Q, Dn Q (eHold 1100 1502 a b Q) := by
    intro Q
    unfold eHold
    repeat' (first | with_reducible exact dn_rf | with_reducible refine dn_itc (fun hc => ?_) (fun hc => ?_) | with_reducible refine dn_fl ?_ ?_ | with_reducible refine dn_mF ?_ ?_ | with_reducible refine dn_ch ?_ ?_ | with_reducible refine dn_tn ?_ ?_ | with_reducible refine dn_asd ?_ | with_reducible refine dn_qs ?_ | with_reducible refine dn_crr ?_ | with_reducible refine dn_lay ?_ ?_ | with_reducible refine dn_upd ?_ ?_ | omega | decide)
  have hr : ∀ Q, Rl M Q → Rl (eHold (fb 0) 1076 a b M) (eHold 1100 1502 a b Q) := by
    intro Q hQ
    have hS8 := hQ.2.1
    unfold eHold
    try rw [hQ.1]
    try rw [hQ.2.2.2.2.1]
    repeat' (first | with_reducible exact hQ | with_reducible refine rl_ite (fun hc => ?_) (fun hc => ?_) | with_reducible refine rl_fl ?_ ?_ | with_reducible refine rl_mF ?_ | with_reducible refine rl_ch ?_ | with_reducible refine rl_tn ?_ | with_reducible refine rl_dr ?_ | with_reducible refine rl_ln ?_ | omega | decide)
    obtain ⟨h1, h2⟩ := hc
    obtain ⟨v, hv, rfl⟩ := inr_of (b := 9) h1
    rw [nv_nI (by omega)]
    refine rl_lay (IS_sp hS8 (by omega) ?_) hQ
    rcases h2 with h2 | h2
    · exact Or.inl h2
    · exact Or.inr (inN_I hS8 h2)
  obtain ⟨g1, g2⟩ := rl_go (e7 := fun M => eHold (fb 0) 1076 a b M) (e8 := fun M => eHold 1100 1502 a b M) h hu hd hr
  clear hu hd hr
  obtain ⟨N, hN⟩ : ∃ N, N = eHold (fb 0) 1076 a b M := ⟨_, rfl⟩
  have g1 : Rl M (eHold (fb 0) 1076 a b M) := g1
  have g2 : Rl (eHold 1100 1502 a b (eHold (fb 0) 1076 a b M)) (eHold 1100 1502 a b (eHold (fb 0) 1076 a b M)) := g2
  have c7 := c_X7_hold (M := M) l E a b (h.i7)
  rw [← hN] at g1 g2 c7
  have c8 := c_X8_hold (M := N) l E a b (g1.2.1)
  have e : aHold (vb 1100 N) a b = aHold (vb (fb 0) M) a b := by rw [← g1.1]
  rw [e] at c8
  exact ⟨_, _, _, c7, c8, g2⟩
theorem p_load (l : Launch) (E : jE) {M : jM} (h : Rl M M) (a : Int32) : ∃ r M1 M2, K_X7_load l E [.ref (ja E 59), .int a] M r M1 ∧ K_X8_load l E [.ref (ja E 60), .int a] M1 r M2 ∧ Rl M2 M2 := by
  have hu : Up M (eLoad (sv7 M) (fb 0) 1076 a M) := by
    have hk := lkS_le (Z := sv7 M) (a := a)
    unfold eLoad
    repeat' (first | with_reducible exact up_rf | with_reducible exact lnM_up | with_reducible refine up_itc (fun hc => ?_) (fun hc => ?_) | with_reducible refine up_fl ?_ ?_ | with_reducible refine up_mF ?_ ?_ | with_reducible refine up_ch ?_ ?_ | with_reducible refine up_tn ?_ ?_ | with_reducible refine up_dr ?_ | with_reducible refine up_qs ?_ | with_reducible refine up_lay ?_ ?_ | with_reducible refine up_upd ?_ ?_ | omega | decide)
  have hd : ∀ Q, Dn Q (eLoad (sv8 Q) 1100 1502 a Q) := by
    intro Q
    have hk := lkS_le (Z := sv8 Q) (a := a)
    unfold eLoad
    repeat' (first | with_reducible exact dn_rf | with_reducible refine dn_itc (fun hc => ?_) (fun hc => ?_) | with_reducible refine dn_fl ?_ ?_ | with_reducible refine dn_mF ?_ ?_ | with_reducible refine dn_ch ?_ ?_ | with_reducible refine dn_tn ?_ ?_ | with_reducible refine dn_asd ?_ | with_reducible refine dn_qs ?_ | with_reducible refine dn_crr ?_ | with_reducible refine dn_lay ?_ ?_ | with_reducible refine dn_upd ?_ ?_ | omega | decide)
  have hr : ∀ Q, Rl M Q → Rl (eLoad (sv7 M) (fb 0) 1076 a M) (eLoad (sv8 Q) 1100 1502 a Q) := by
    intro Q hQ
    have hS8 := hQ.2.1
    have hk := lkS_le (Z := sv8 Q) (a := a)
    unfold eLoad
    rw [hQ.2.2.2.2.1]
    try rw [hQ.1]
    repeat' (first | with_reducible exact hQ | with_reducible refine rl_ite (fun hc => ?_) (fun hc => ?_) | with_reducible refine rl_fl ?_ ?_ | with_reducible refine rl_mF ?_ | with_reducible refine rl_ch ?_ | with_reducible refine rl_tn ?_ | with_reducible refine rl_dr ?_ | with_reducible refine rl_ln ?_ | omega | decide)
    exact rl_lay (ld_I hS8) hQ
  obtain ⟨g1, g2⟩ := rl_go (e7 := fun M => eLoad (sv7 M) (fb 0) 1076 a M) (e8 := fun M => eLoad (sv8 M) 1100 1502 a M) h hu hd hr
  clear hu hd hr
  obtain ⟨N, hN⟩ : ∃ N, N = eLoad (sv7 M) (fb 0) 1076 a M := ⟨_, rfl⟩
  have g1 : Rl M (eLoad (sv7 M) (fb 0) 1076 a M) := g1
  have g2 : Rl (eLoad (sv8 (eLoad (sv7 M) (fb 0) 1076 a M)) 1100 1502 a (eLoad (sv7 M) (fb 0) 1076 a M)) (eLoad (sv8 (eLoad (sv7 M) (fb 0) 1076 a M)) 1100 1502 a (eLoad (sv7 M) (fb 0) 1076 a M)) := g2
  have c7 := c_X7_load (M := M) l E a (h.q7) (h.i7)
  rw [← hN] at g1 g2 c7
  have c8 := c_X8_load (M := N) l E a (g1.2.2.2.2.2.1) (g1.2.1)
  have e : aLoad (sv8 N) a = aLoad (sv7 M) a := by rw [← g1.2.2.2.2.1]
  rw [e] at c8
  exact ⟨_, _, _, c7, c8, g2⟩
theorem p_judge (l : Launch) (E : jE) {M : jM} (h : Rl M M) (a : Int32) : ∃ r M1 M2, K_X7_judge l E [.ref (ja E 59), .int a] M r M1 ∧ K_X8_judge l E [.ref (ja E 60), .int a] M1 r M2 ∧ Rl M2 M2 := by
  have hu : Up M (eJudge (sv7 M) 1076 a M) := by
    have hk := lkS_le (Z := sv7 M) (a := a)
    unfold eJudge
    repeat' (first | with_reducible exact up_rf | with_reducible exact lnM_up | with_reducible refine up_itc (fun hc => ?_) (fun hc => ?_) | with_reducible refine up_fl ?_ ?_ | with_reducible refine up_mF ?_ ?_ | with_reducible refine up_ch ?_ ?_ | with_reducible refine up_tn ?_ ?_ | with_reducible refine up_dr ?_ | with_reducible refine up_qs ?_ | with_reducible refine up_lay ?_ ?_ | with_reducible refine up_upd ?_ ?_ | omega | decide)
  have hd : ∀ Q, Dn Q (eJudge (sv8 Q) 1502 a Q) := by
    intro Q
    have hk := lkS_le (Z := sv8 Q) (a := a)
    unfold eJudge
    repeat' (first | with_reducible exact dn_rf | with_reducible refine dn_itc (fun hc => ?_) (fun hc => ?_) | with_reducible refine dn_fl ?_ ?_ | with_reducible refine dn_mF ?_ ?_ | with_reducible refine dn_ch ?_ ?_ | with_reducible refine dn_tn ?_ ?_ | with_reducible refine dn_asd ?_ | with_reducible refine dn_qs ?_ | with_reducible refine dn_crr ?_ | with_reducible refine dn_lay ?_ ?_ | with_reducible refine dn_upd ?_ ?_ | omega | decide)
  have hr : ∀ Q, Rl M Q → Rl (eJudge (sv7 M) 1076 a M) (eJudge (sv8 Q) 1502 a Q) := by
    intro Q hQ
    have hS8 := hQ.2.1
    have hk := lkS_le (Z := sv8 Q) (a := a)
    unfold eJudge
    rw [hQ.2.2.2.2.1]
    try rw [hQ.1]
    repeat' (first | with_reducible exact hQ | with_reducible refine rl_ite (fun hc => ?_) (fun hc => ?_) | with_reducible refine rl_fl ?_ ?_ | with_reducible refine rl_mF ?_ | with_reducible refine rl_ch ?_ | with_reducible refine rl_tn ?_ | with_reducible refine rl_dr ?_ | with_reducible refine rl_ln ?_ | omega | decide)
  obtain ⟨g1, g2⟩ := rl_go (e7 := fun M => eJudge (sv7 M) 1076 a M) (e8 := fun M => eJudge (sv8 M) 1502 a M) h hu hd hr
  clear hu hd hr
  obtain ⟨N, hN⟩ : ∃ N, N = eJudge (sv7 M) 1076 a M := ⟨_, rfl⟩
  have g1 : Rl M (eJudge (sv7 M) 1076 a M) := g1
  have g2 : Rl (eJudge (sv8 (eJudge (sv7 M) 1076 a M)) 1502 a (eJudge (sv7 M) 1076 a M)) (eJudge (sv8 (eJudge (sv7 M) 1076 a M)) 1502 a (eJudge (sv7 M) 1076 a M)) := g2
  have c7 := c_X7_judge (M := M) l E a (h.q7) (h.i7)
  rw [← hN] at g1 g2 c7
  have c8 := c_X8_judge (M := N) l E a (g1.2.2.2.2.2.1) (g1.2.1)
  have e : aJudge (sv8 N) (vb 1100 N) a = aJudge (sv7 M) (vb (fb 0) M) a := by rw [← g1.1, ← g1.2.2.2.2.1]
  rw [e] at c8
  exact ⟨_, _, _, c7, c8, g2⟩
theorem p_which (l : Launch) (E : jE) {M : jM} (h : Rl M M) (a : Int32) : ∃ r M1 M2, K_X7_which l E [.ref (ja E 59), .int a] M r M1 ∧ K_X8_which l E [.ref (ja E 60), .int a] M1 r M2 ∧ Rl M2 M2 := by
  have hu : Up M (eWhich (sv7 M) 1076 a (dr M (minsS (vb (fb 0) M) (lnq (sv7 M) (nv a)))) M) := by
    have hk := lkS_le (Z := sv7 M) (a := a)
    unfold eWhich
    repeat' (first | with_reducible exact up_rf | with_reducible exact lnM_up | with_reducible refine up_itc (fun hc => ?_) (fun hc => ?_) | with_reducible refine up_fl ?_ ?_ | with_reducible refine up_mF ?_ ?_ | with_reducible refine up_ch ?_ ?_ | with_reducible refine up_tn ?_ ?_ | with_reducible refine up_dr ?_ | with_reducible refine up_qs ?_ | with_reducible refine up_lay ?_ ?_ | with_reducible refine up_upd ?_ ?_ | omega | decide)
  have hd : ∀ Q, Dn Q (eWhich (sv8 Q) 1502 a (asd Q) Q) := by
    intro Q
    have hk := lkS_le (Z := sv8 Q) (a := a)
    unfold eWhich
    repeat' (first | with_reducible exact dn_rf | with_reducible refine dn_itc (fun hc => ?_) (fun hc => ?_) | with_reducible refine dn_fl ?_ ?_ | with_reducible refine dn_mF ?_ ?_ | with_reducible refine dn_ch ?_ ?_ | with_reducible refine dn_tn ?_ ?_ | with_reducible refine dn_asd ?_ | with_reducible refine dn_qs ?_ | with_reducible refine dn_crr ?_ | with_reducible refine dn_lay ?_ ?_ | with_reducible refine dn_upd ?_ ?_ | omega | decide)
  have hr : ∀ Q, Rl M Q → Rl (eWhich (sv7 M) 1076 a (dr M (minsS (vb (fb 0) M) (lnq (sv7 M) (nv a)))) M) (eWhich (sv8 Q) 1502 a (asd Q) Q) := by
    intro Q hQ
    have hS8 := hQ.2.1
    have hk := lkS_le (Z := sv8 Q) (a := a)
    unfold eWhich
    rw [hQ.2.2.2.2.1]
    try rw [hQ.1]
    repeat' (first | with_reducible exact hQ | with_reducible refine rl_ite (fun hc => ?_) (fun hc => ?_) | with_reducible refine rl_fl ?_ ?_ | with_reducible refine rl_mF ?_ | with_reducible refine rl_ch ?_ | with_reducible refine rl_tn ?_ | with_reducible refine rl_dr ?_ | with_reducible refine rl_ln ?_ | omega | decide)
  obtain ⟨g1, g2⟩ := rl_go (e7 := fun M => eWhich (sv7 M) 1076 a (dr M (minsS (vb (fb 0) M) (lnq (sv7 M) (nv a)))) M) (e8 := fun M => eWhich (sv8 M) 1502 a (asd M) M) h hu hd hr
  clear hu hd hr
  obtain ⟨N, hN⟩ : ∃ N, N = eWhich (sv7 M) 1076 a (dr M (minsS (vb (fb 0) M) (lnq (sv7 M) (nv a)))) M := ⟨_, rfl⟩
  have g1 : Rl M (eWhich (sv7 M) 1076 a (dr M (minsS (vb (fb 0) M) (lnq (sv7 M) (nv a)))) M) := g1
  have g2 : Rl (eWhich (sv8 (eWhich (sv7 M) 1076 a (dr M (minsS (vb (fb 0) M) (lnq (sv7 M) (nv a)))) M)) 1502 a (asd (eWhich (sv7 M) 1076 a (dr M (minsS (vb (fb 0) M) (lnq (sv7 M) (nv a)))) M)) (eWhich (sv7 M) 1076 a (dr M (minsS (vb (fb 0) M) (lnq (sv7 M) (nv a)))) M)) (eWhich (sv8 (eWhich (sv7 M) 1076 a (dr M (minsS (vb (fb 0) M) (lnq (sv7 M) (nv a)))) M)) 1502 a (asd (eWhich (sv7 M) 1076 a (dr M (minsS (vb (fb 0) M) (lnq (sv7 M) (nv a)))) M)) (eWhich (sv7 M) 1076 a (dr M (minsS (vb (fb 0) M) (lnq (sv7 M) (nv a)))) M)) := g2
  have c7 := c_X7_which (M := M) l E a (h.q7) (h.i7)
  rw [← hN] at g1 g2 c7
  have c8 := c_X8_which (M := N) l E a (g1.2.2.2.2.2.1) (g1.2.1)
  have e : aWhich (sv8 N) (vb 1100 N) a = aWhich (sv7 M) (vb (fb 0) M) a := by rw [← g1.1, ← g1.2.2.2.2.1]
  rw [e] at c8
  exact ⟨_, _, _, c7, c8, g2⟩
theorem p_fits (l : Launch) (E : jE) {M : jM} (h : Rl M M) (a b : Int32) : ∃ r M1 M2, K_X7_fits l E [.ref (ja E 59), .int a, .int b] M r M1 ∧ K_X8_fits l E [.ref (ja E 60), .int a, .int b] M1 r M2 ∧ Rl M2 M2 := by
  have hu : Up M (eFits (sv7 M) 1076 a b (lnM M (sv7 M) (vb (fb 0) M) (nv a) (nv b) 16) M) := by
    have hk := lkP_le (Z := sv7 M) (a := a) (b := b)
    unfold eFits
    repeat' (first | with_reducible exact up_rf | with_reducible exact lnM_up | with_reducible refine up_itc (fun hc => ?_) (fun hc => ?_) | with_reducible refine up_fl ?_ ?_ | with_reducible refine up_mF ?_ ?_ | with_reducible refine up_ch ?_ ?_ | with_reducible refine up_tn ?_ ?_ | with_reducible refine up_dr ?_ | with_reducible refine up_qs ?_ | with_reducible refine up_lay ?_ ?_ | with_reducible refine up_upd ?_ ?_ | omega | decide)
  have hd : ∀ Q, Dn Q (eFits (sv8 Q) 1502 a b (asd Q) Q) := by
    intro Q
    have hk := lkP_le (Z := sv8 Q) (a := a) (b := b)
    unfold eFits
    repeat' (first | with_reducible exact dn_rf | with_reducible refine dn_itc (fun hc => ?_) (fun hc => ?_) | with_reducible refine dn_fl ?_ ?_ | with_reducible refine dn_mF ?_ ?_ | with_reducible refine dn_ch ?_ ?_ | with_reducible refine dn_tn ?_ ?_ | with_reducible refine dn_asd ?_ | with_reducible refine dn_qs ?_ | with_reducible refine dn_crr ?_ | with_reducible refine dn_lay ?_ ?_ | with_reducible refine dn_upd ?_ ?_ | omega | decide)
  have hr : ∀ Q, Rl M Q → Rl (eFits (sv7 M) 1076 a b (lnM M (sv7 M) (vb (fb 0) M) (nv a) (nv b) 16) M) (eFits (sv8 Q) 1502 a b (asd Q) Q) := by
    intro Q hQ
    have hS8 := hQ.2.1
    have hk := lkP_le (Z := sv8 Q) (a := a) (b := b)
    unfold eFits
    rw [hQ.2.2.2.2.1]
    try rw [hQ.1]
    repeat' (first | with_reducible exact hQ | with_reducible refine rl_ite (fun hc => ?_) (fun hc => ?_) | with_reducible refine rl_fl ?_ ?_ | with_reducible refine rl_mF ?_ | with_reducible refine rl_ch ?_ | with_reducible refine rl_tn ?_ | with_reducible refine rl_dr ?_ | with_reducible refine rl_ln ?_ | omega | decide)
  obtain ⟨g1, g2⟩ := rl_go (e7 := fun M => eFits (sv7 M) 1076 a b (lnM M (sv7 M) (vb (fb 0) M) (nv a) (nv b) 16) M) (e8 := fun M => eFits (sv8 M) 1502 a b (asd M) M) h hu hd hr
  clear hu hd hr
  obtain ⟨N, hN⟩ : ∃ N, N = eFits (sv7 M) 1076 a b (lnM M (sv7 M) (vb (fb 0) M) (nv a) (nv b) 16) M := ⟨_, rfl⟩
  have g1 : Rl M (eFits (sv7 M) 1076 a b (lnM M (sv7 M) (vb (fb 0) M) (nv a) (nv b) 16) M) := g1
  have g2 : Rl (eFits (sv8 (eFits (sv7 M) 1076 a b (lnM M (sv7 M) (vb (fb 0) M) (nv a) (nv b) 16) M)) 1502 a b (asd (eFits (sv7 M) 1076 a b (lnM M (sv7 M) (vb (fb 0) M) (nv a) (nv b) 16) M)) (eFits (sv7 M) 1076 a b (lnM M (sv7 M) (vb (fb 0) M) (nv a) (nv b) 16) M)) (eFits (sv8 (eFits (sv7 M) 1076 a b (lnM M (sv7 M) (vb (fb 0) M) (nv a) (nv b) 16) M)) 1502 a b (asd (eFits (sv7 M) 1076 a b (lnM M (sv7 M) (vb (fb 0) M) (nv a) (nv b) 16) M)) (eFits (sv7 M) 1076 a b (lnM M (sv7 M) (vb (fb 0) M) (nv a) (nv b) 16) M)) := g2
  have c7 := c_X7_fits (M := M) l E a b (h.q7) (h.i7)
  rw [← hN] at g1 g2 c7
  have c8 := c_X8_fits (M := N) l E a b (g1.2.2.2.2.2.1) (g1.2.1)
  have e : aFits (sv8 N) (vb 1100 N) a b = aFits (sv7 M) (vb (fb 0) M) a b := by rw [← g1.1, ← g1.2.2.2.2.1]
  rw [e] at c8
  exact ⟨_, _, _, c7, c8, g2⟩
theorem p_lens (l : Launch) (E : jE) {M : jM} (h : Rl M M) (a b : Int32) : ∃ r M1 M2, K_X7_lens l E [.ref (ja E 59), .int a, .int b] M r M1 ∧ K_X8_lens l E [.ref (ja E 60), .int a, .int b] M1 r M2 ∧ Rl M2 M2 := by
  have hu : Up M (eLens (sv7 M) (vb (fb 0) M) 1076 a b (lnM M (sv7 M) (vb (fb 0) M) (nv a) (nv b) 16) M) := by
    have hk := lkP_le (Z := sv7 M) (a := a) (b := b)
    unfold eLens
    repeat' (first | with_reducible exact up_rf | with_reducible exact lnM_up | with_reducible refine up_itc (fun hc => ?_) (fun hc => ?_) | with_reducible refine up_fl ?_ ?_ | with_reducible refine up_mF ?_ ?_ | with_reducible refine up_ch ?_ ?_ | with_reducible refine up_tn ?_ ?_ | with_reducible refine up_dr ?_ | with_reducible refine up_qs ?_ | with_reducible refine up_lay ?_ ?_ | with_reducible refine up_upd ?_ ?_ | omega | decide)
  have hd : ∀ Q, Dn Q (eLens (sv8 Q) (vb 1100 Q) 1502 a b (asd Q) Q) := by
    intro Q
    have hk := lkP_le (Z := sv8 Q) (a := a) (b := b)
    unfold eLens
    repeat' (first | with_reducible exact dn_rf | with_reducible refine dn_itc (fun hc => ?_) (fun hc => ?_) | with_reducible refine dn_fl ?_ ?_ | with_reducible refine dn_mF ?_ ?_ | with_reducible refine dn_ch ?_ ?_ | with_reducible refine dn_tn ?_ ?_ | with_reducible refine dn_asd ?_ | with_reducible refine dn_qs ?_ | with_reducible refine dn_crr ?_ | with_reducible refine dn_lay ?_ ?_ | with_reducible refine dn_upd ?_ ?_ | omega | decide)
  have hr : ∀ Q, Rl M Q → Rl (eLens (sv7 M) (vb (fb 0) M) 1076 a b (lnM M (sv7 M) (vb (fb 0) M) (nv a) (nv b) 16) M) (eLens (sv8 Q) (vb 1100 Q) 1502 a b (asd Q) Q) := by
    intro Q hQ
    have hS8 := hQ.2.1
    have hk := lkP_le (Z := sv8 Q) (a := a) (b := b)
    unfold eLens
    rw [hQ.2.2.2.2.1]
    try rw [hQ.1]
    repeat' (first | with_reducible exact hQ | with_reducible refine rl_ite (fun hc => ?_) (fun hc => ?_) | with_reducible refine rl_fl ?_ ?_ | with_reducible refine rl_mF ?_ | with_reducible refine rl_ch ?_ | with_reducible refine rl_tn ?_ | with_reducible refine rl_dr ?_ | with_reducible refine rl_ln ?_ | omega | decide)
  obtain ⟨g1, g2⟩ := rl_go (e7 := fun M => eLens (sv7 M) (vb (fb 0) M) 1076 a b (lnM M (sv7 M) (vb (fb 0) M) (nv a) (nv b) 16) M) (e8 := fun M => eLens (sv8 M) (vb 1100 M) 1502 a b (asd M) M) h hu hd hr
  clear hu hd hr
  obtain ⟨N, hN⟩ : ∃ N, N = eLens (sv7 M) (vb (fb 0) M) 1076 a b (lnM M (sv7 M) (vb (fb 0) M) (nv a) (nv b) 16) M := ⟨_, rfl⟩
  have g1 : Rl M (eLens (sv7 M) (vb (fb 0) M) 1076 a b (lnM M (sv7 M) (vb (fb 0) M) (nv a) (nv b) 16) M) := g1
  have g2 : Rl (eLens (sv8 (eLens (sv7 M) (vb (fb 0) M) 1076 a b (lnM M (sv7 M) (vb (fb 0) M) (nv a) (nv b) 16) M)) (vb 1100 (eLens (sv7 M) (vb (fb 0) M) 1076 a b (lnM M (sv7 M) (vb (fb 0) M) (nv a) (nv b) 16) M)) 1502 a b (asd (eLens (sv7 M) (vb (fb 0) M) 1076 a b (lnM M (sv7 M) (vb (fb 0) M) (nv a) (nv b) 16) M)) (eLens (sv7 M) (vb (fb 0) M) 1076 a b (lnM M (sv7 M) (vb (fb 0) M) (nv a) (nv b) 16) M)) (eLens (sv8 (eLens (sv7 M) (vb (fb 0) M) 1076 a b (lnM M (sv7 M) (vb (fb 0) M) (nv a) (nv b) 16) M)) (vb 1100 (eLens (sv7 M) (vb (fb 0) M) 1076 a b (lnM M (sv7 M) (vb (fb 0) M) (nv a) (nv b) 16) M)) 1502 a b (asd (eLens (sv7 M) (vb (fb 0) M) 1076 a b (lnM M (sv7 M) (vb (fb 0) M) (nv a) (nv b) 16) M)) (eLens (sv7 M) (vb (fb 0) M) 1076 a b (lnM M (sv7 M) (vb (fb 0) M) (nv a) (nv b) 16) M)) := g2
  have c7 := c_X7_lens (M := M) l E a b (h.q7) (h.i7)
  rw [← hN] at g1 g2 c7
  have c8 := c_X8_lens (M := N) l E a b (g1.2.2.2.2.2.1) (g1.2.1)
  have e : aLens (sv8 N) (vb 1100 N) a b = aLens (sv7 M) (vb (fb 0) M) a b := by rw [← g1.1, ← g1.2.2.2.2.1]
  rw [e] at c8
  exact ⟨_, _, _, c7, c8, g2⟩
theorem p_write (l : Launch) (E : jE) {M : jM} (h : Rl M M) (a i v : Int32) : ∃ r M1 M2, K_X7_write l E [.ref (ja E 59), .int a, .int i, .int v] M r M1 ∧ K_X8_write l E [.ref (ja E 60), .int a, .int i, .int v] M1 r M2 ∧ Rl M2 M2 := by
  have hu : Up M (eWrite (sv7 M) 1076 a i (qs7 M (wrq (sv7 M) a i v)) M) := by
    have hk := lkS_le (Z := sv7 M) (a := a)
    unfold eWrite
    repeat' (first | with_reducible exact up_rf | with_reducible exact lnM_up | with_reducible refine up_itc (fun hc => ?_) (fun hc => ?_) | with_reducible refine up_fl ?_ ?_ | with_reducible refine up_mF ?_ ?_ | with_reducible refine up_ch ?_ ?_ | with_reducible refine up_tn ?_ ?_ | with_reducible refine up_dr ?_ | with_reducible refine up_qs ?_ | with_reducible refine up_lay ?_ ?_ | with_reducible refine up_upd ?_ ?_ | omega | decide)
  have hd : ∀ Q, Dn Q (eWrite (sv8 Q) 1502 a i (qs8 Q (wrq (sv8 Q) a i v)) Q) := by
    intro Q
    have hk := lkS_le (Z := sv8 Q) (a := a)
    unfold eWrite
    repeat' (first | with_reducible exact dn_rf | with_reducible refine dn_itc (fun hc => ?_) (fun hc => ?_) | with_reducible refine dn_fl ?_ ?_ | with_reducible refine dn_mF ?_ ?_ | with_reducible refine dn_ch ?_ ?_ | with_reducible refine dn_tn ?_ ?_ | with_reducible refine dn_asd ?_ | with_reducible refine dn_qs ?_ | with_reducible refine dn_crr ?_ | with_reducible refine dn_lay ?_ ?_ | with_reducible refine dn_upd ?_ ?_ | omega | decide)
  have hr : ∀ Q, Rl M Q → Rl (eWrite (sv7 M) 1076 a i (qs7 M (wrq (sv7 M) a i v)) M) (eWrite (sv8 Q) 1502 a i (qs8 Q (wrq (sv8 Q) a i v)) Q) := by
    intro Q hQ
    have hS8 := hQ.2.1
    have hk := lkS_le (Z := sv8 Q) (a := a)
    unfold eWrite
    rw [hQ.2.2.2.2.1]
    try rw [hQ.1]
    repeat' (first | with_reducible exact hQ | with_reducible refine rl_ite (fun hc => ?_) (fun hc => ?_) | with_reducible refine rl_fl ?_ ?_ | with_reducible refine rl_mF ?_ | with_reducible refine rl_ch ?_ | with_reducible refine rl_tn ?_ | with_reducible refine rl_dr ?_ | with_reducible refine rl_ln ?_ | omega | decide)
    rename_i h1
    obtain ⟨q1, q2⟩ := wr_I (v := v) hQ.2.2.2.2.2.1 (Qc_sv8 Q) h1 hc
    exact rl_qs q1 q2 hQ
  obtain ⟨g1, g2⟩ := rl_go (e7 := fun M => eWrite (sv7 M) 1076 a i (qs7 M (wrq (sv7 M) a i v)) M) (e8 := fun M => eWrite (sv8 M) 1502 a i (qs8 M (wrq (sv8 M) a i v)) M) h hu hd hr
  clear hu hd hr
  obtain ⟨N, hN⟩ : ∃ N, N = eWrite (sv7 M) 1076 a i (qs7 M (wrq (sv7 M) a i v)) M := ⟨_, rfl⟩
  have g1 : Rl M (eWrite (sv7 M) 1076 a i (qs7 M (wrq (sv7 M) a i v)) M) := g1
  have g2 : Rl (eWrite (sv8 (eWrite (sv7 M) 1076 a i (qs7 M (wrq (sv7 M) a i v)) M)) 1502 a i (qs8 (eWrite (sv7 M) 1076 a i (qs7 M (wrq (sv7 M) a i v)) M) (wrq (sv8 (eWrite (sv7 M) 1076 a i (qs7 M (wrq (sv7 M) a i v)) M)) a i v)) (eWrite (sv7 M) 1076 a i (qs7 M (wrq (sv7 M) a i v)) M)) (eWrite (sv8 (eWrite (sv7 M) 1076 a i (qs7 M (wrq (sv7 M) a i v)) M)) 1502 a i (qs8 (eWrite (sv7 M) 1076 a i (qs7 M (wrq (sv7 M) a i v)) M) (wrq (sv8 (eWrite (sv7 M) 1076 a i (qs7 M (wrq (sv7 M) a i v)) M)) a i v)) (eWrite (sv7 M) 1076 a i (qs7 M (wrq (sv7 M) a i v)) M)) := g2
  have c7 := c_X7_write (M := M) l E a i v (h.q7)
  rw [← hN] at g1 g2 c7
  have c8 := c_X8_write (M := N) l E a i v (g1.2.2.2.2.2.1)
  have e : aWrite (sv8 N) a i = aWrite (sv7 M) a i := by rw [← g1.2.2.2.2.1]
  rw [e] at c8
  exact ⟨_, _, _, c7, c8, g2⟩
theorem p_copy (l : Launch) (E : jE) {M : jM} (h : Rl M M) (s x t y n : Int32) : ∃ r M1 M2, K_X7_copy l E [.ref (ja E 59), .int s, .int x, .int t, .int y, .int n] M r M1 ∧ K_X8_copy l E [.ref (ja E 60), .int s, .int x, .int t, .int y, .int n] M1 r M2 ∧ Rl M2 M2 := by
  have hu : Up M (eCopy (sv7 M) 1076 s x t y n (qs7 M (cpq (sv7 M) (nv s) (nv x) (nv t) (nv y) (nv n))) M) := by
    unfold eCopy
    repeat' (first | with_reducible exact up_rf | with_reducible exact lnM_up | with_reducible refine up_itc (fun hc => ?_) (fun hc => ?_) | with_reducible refine up_fl ?_ ?_ | with_reducible refine up_mF ?_ ?_ | with_reducible refine up_ch ?_ ?_ | with_reducible refine up_tn ?_ ?_ | with_reducible refine up_dr ?_ | with_reducible refine up_qs ?_ | with_reducible refine up_lay ?_ ?_ | with_reducible refine up_upd ?_ ?_ | omega | decide)
  have hd : ∀ Q, Dn Q (eCopy (sv8 Q) 1502 s x t y n (qs8 (crr Q (sv8 Q) (nv s) (nv x) (nv n)) (cpq (sv8 Q) (nv s) (nv x) (nv t) (nv y) (nv n))) Q) := by
    intro Q
    unfold eCopy
    repeat' (first | with_reducible exact dn_rf | with_reducible refine dn_itc (fun hc => ?_) (fun hc => ?_) | with_reducible refine dn_fl ?_ ?_ | with_reducible refine dn_mF ?_ ?_ | with_reducible refine dn_ch ?_ ?_ | with_reducible refine dn_tn ?_ ?_ | with_reducible refine dn_asd ?_ | with_reducible refine dn_qs ?_ | with_reducible refine dn_crr ?_ | with_reducible refine dn_lay ?_ ?_ | with_reducible refine dn_upd ?_ ?_ | omega | decide)
  have hr : ∀ Q, Rl M Q → Rl (eCopy (sv7 M) 1076 s x t y n (qs7 M (cpq (sv7 M) (nv s) (nv x) (nv t) (nv y) (nv n))) M) (eCopy (sv8 Q) 1502 s x t y n (qs8 (crr Q (sv8 Q) (nv s) (nv x) (nv n)) (cpq (sv8 Q) (nv s) (nv x) (nv t) (nv y) (nv n))) Q) := by
    intro Q hQ
    have hS8 := hQ.2.1
    unfold eCopy
    try rw [hQ.1]
    try rw [hQ.2.2.2.2.1]
    repeat' (first | with_reducible exact hQ | with_reducible refine rl_ite (fun hc => ?_) (fun hc => ?_) | with_reducible refine rl_fl ?_ ?_ | with_reducible refine rl_mF ?_ | with_reducible refine rl_ch ?_ | with_reducible refine rl_tn ?_ | with_reducible refine rl_dr ?_ | with_reducible refine rl_ln ?_ | omega | decide)
    rename_i h1 h2 h3
    obtain ⟨q1, q2, q3⟩ := cp_I (s := s) (x := x) hQ.2.2.2.2.2.1 (Qc_sv8 Q) h1.2 hc.2
    exact rl_qs q1 q2 (rl_R hQ (fun a ha => by unfold crr; rw [if_neg (by omega)]))
  obtain ⟨g1, g2⟩ := rl_go (e7 := fun M => eCopy (sv7 M) 1076 s x t y n (qs7 M (cpq (sv7 M) (nv s) (nv x) (nv t) (nv y) (nv n))) M) (e8 := fun M => eCopy (sv8 M) 1502 s x t y n (qs8 (crr M (sv8 M) (nv s) (nv x) (nv n)) (cpq (sv8 M) (nv s) (nv x) (nv t) (nv y) (nv n))) M) h hu hd hr
  clear hu hd hr
  obtain ⟨N, hN⟩ : ∃ N, N = eCopy (sv7 M) 1076 s x t y n (qs7 M (cpq (sv7 M) (nv s) (nv x) (nv t) (nv y) (nv n))) M := ⟨_, rfl⟩
  have g1 : Rl M (eCopy (sv7 M) 1076 s x t y n (qs7 M (cpq (sv7 M) (nv s) (nv x) (nv t) (nv y) (nv n))) M) := g1
  have g2 : Rl (eCopy (sv8 (eCopy (sv7 M) 1076 s x t y n (qs7 M (cpq (sv7 M) (nv s) (nv x) (nv t) (nv y) (nv n))) M)) 1502 s x t y n (qs8 (crr (eCopy (sv7 M) 1076 s x t y n (qs7 M (cpq (sv7 M) (nv s) (nv x) (nv t) (nv y) (nv n))) M) (sv8 (eCopy (sv7 M) 1076 s x t y n (qs7 M (cpq (sv7 M) (nv s) (nv x) (nv t) (nv y) (nv n))) M)) (nv s) (nv x) (nv n)) (cpq (sv8 (eCopy (sv7 M) 1076 s x t y n (qs7 M (cpq (sv7 M) (nv s) (nv x) (nv t) (nv y) (nv n))) M)) (nv s) (nv x) (nv t) (nv y) (nv n))) (eCopy (sv7 M) 1076 s x t y n (qs7 M (cpq (sv7 M) (nv s) (nv x) (nv t) (nv y) (nv n))) M)) (eCopy (sv8 (eCopy (sv7 M) 1076 s x t y n (qs7 M (cpq (sv7 M) (nv s) (nv x) (nv t) (nv y) (nv n))) M)) 1502 s x t y n (qs8 (crr (eCopy (sv7 M) 1076 s x t y n (qs7 M (cpq (sv7 M) (nv s) (nv x) (nv t) (nv y) (nv n))) M) (sv8 (eCopy (sv7 M) 1076 s x t y n (qs7 M (cpq (sv7 M) (nv s) (nv x) (nv t) (nv y) (nv n))) M)) (nv s) (nv x) (nv n)) (cpq (sv8 (eCopy (sv7 M) 1076 s x t y n (qs7 M (cpq (sv7 M) (nv s) (nv x) (nv t) (nv y) (nv n))) M)) (nv s) (nv x) (nv t) (nv y) (nv n))) (eCopy (sv7 M) 1076 s x t y n (qs7 M (cpq (sv7 M) (nv s) (nv x) (nv t) (nv y) (nv n))) M)) := g2
  have c7 := c_X7_copy (M := M) l E s x t y n (h.q7)
  rw [← hN] at g1 g2 c7
  have c8 := c_X8_copy (M := N) l E s x t y n (g1.2.2.2.2.2.1)
  have e : aCopy (sv8 N) s x t y n = aCopy (sv7 M) s x t y n := by rw [← g1.2.2.2.2.1]
  rw [e] at c8
  exact ⟨_, _, _, c7, c8, g2⟩
theorem p_sheet (l : Launch) (E : jE) {M : jM} (h : Rl M M) (a b n : Int32) : ∃ r M1 M2, K_X7_sheet l E [.ref (ja E 59), .int a, .int b, .int n] M r M1 ∧ K_X8_sheet l E [.ref (ja E 60), .int a, .int b, .int n] M1 r M2 ∧ Rl M2 M2 := by
  have hu : Up M (eSheet 1076 a b n (qs7 M (clq (sv7 M) (nv a) b n)) M) := by
    unfold eSheet
    repeat' (first | with_reducible exact up_rf | with_reducible exact lnM_up | with_reducible refine up_itc (fun hc => ?_) (fun hc => ?_) | with_reducible refine up_fl ?_ ?_ | with_reducible refine up_mF ?_ ?_ | with_reducible refine up_ch ?_ ?_ | with_reducible refine up_tn ?_ ?_ | with_reducible refine up_dr ?_ | with_reducible refine up_qs ?_ | with_reducible refine up_lay ?_ ?_ | with_reducible refine up_upd ?_ ?_ | omega | decide)
  have hd : ∀ Q, Dn Q (eSheet 1502 a b n (qs8 Q (clq (sv8 Q) (nv a) b n)) Q) := by
    intro Q
    unfold eSheet
    repeat' (first | with_reducible exact dn_rf | with_reducible refine dn_itc (fun hc => ?_) (fun hc => ?_) | with_reducible refine dn_fl ?_ ?_ | with_reducible refine dn_mF ?_ ?_ | with_reducible refine dn_ch ?_ ?_ | with_reducible refine dn_tn ?_ ?_ | with_reducible refine dn_asd ?_ | with_reducible refine dn_qs ?_ | with_reducible refine dn_crr ?_ | with_reducible refine dn_lay ?_ ?_ | with_reducible refine dn_upd ?_ ?_ | omega | decide)
  have hr : ∀ Q, Rl M Q → Rl (eSheet 1076 a b n (qs7 M (clq (sv7 M) (nv a) b n)) M) (eSheet 1502 a b n (qs8 Q (clq (sv8 Q) (nv a) b n)) Q) := by
    intro Q hQ
    have hS8 := hQ.2.1
    unfold eSheet
    try rw [hQ.1]
    try rw [hQ.2.2.2.2.1]
    repeat' (first | with_reducible exact hQ | with_reducible refine rl_ite (fun hc => ?_) (fun hc => ?_) | with_reducible refine rl_fl ?_ ?_ | with_reducible refine rl_mF ?_ | with_reducible refine rl_ch ?_ | with_reducible refine rl_tn ?_ | with_reducible refine rl_dr ?_ | with_reducible refine rl_ln ?_ | omega | decide)
    rename_i h1
    refine rl_qs (QS_clq hQ.2.2.2.2.2.1 h1.2 hc) (Qc_clq (Qc_sv8 Q) ?_) hQ
    obtain ⟨v, hv, e⟩ := inr_of (b := 3) h1.1
    rw [e, nv_nI (by omega)]
    omega
  obtain ⟨g1, g2⟩ := rl_go (e7 := fun M => eSheet 1076 a b n (qs7 M (clq (sv7 M) (nv a) b n)) M) (e8 := fun M => eSheet 1502 a b n (qs8 M (clq (sv8 M) (nv a) b n)) M) h hu hd hr
  clear hu hd hr
  obtain ⟨N, hN⟩ : ∃ N, N = eSheet 1076 a b n (qs7 M (clq (sv7 M) (nv a) b n)) M := ⟨_, rfl⟩
  have g1 : Rl M (eSheet 1076 a b n (qs7 M (clq (sv7 M) (nv a) b n)) M) := g1
  have g2 : Rl (eSheet 1502 a b n (qs8 (eSheet 1076 a b n (qs7 M (clq (sv7 M) (nv a) b n)) M) (clq (sv8 (eSheet 1076 a b n (qs7 M (clq (sv7 M) (nv a) b n)) M)) (nv a) b n)) (eSheet 1076 a b n (qs7 M (clq (sv7 M) (nv a) b n)) M)) (eSheet 1502 a b n (qs8 (eSheet 1076 a b n (qs7 M (clq (sv7 M) (nv a) b n)) M) (clq (sv8 (eSheet 1076 a b n (qs7 M (clq (sv7 M) (nv a) b n)) M)) (nv a) b n)) (eSheet 1076 a b n (qs7 M (clq (sv7 M) (nv a) b n)) M)) := g2
  have c7 := c_X7_sheet (M := M) l E a b n
  rw [← hN] at g1 g2 c7
  have c8 := c_X8_sheet (M := N) l E a b n
  have e : aSheet a b n = aSheet a b n := by rfl
  rw [e] at c8
  exact ⟨_, _, _, c7, c8, g2⟩
theorem p_rounds (l : Launch) (E : jE) {M : jM} (h : Rl M M) : ∃ r M1 M2, K_X7_rounds l E [.ref (ja E 59)] M r M1 ∧ K_X8_rounds l E [.ref (ja E 60)] M1 r M2 ∧ Rl M2 M2 := by
  have c7 := c_X7_rounds (M := M) l E h.i7
  have c8 := c_X8_rounds (M := M) l E h.2.1
  rw [h.1] at c7
  exact ⟨_, _, _, c7, c8, h⟩
theorem p_count (l : Launch) (E : jE) {M : jM} (h : Rl M M) (a : Int32) : ∃ r M1 M2, K_X7_count l E [.ref (ja E 59), .int a] M r M1 ∧ K_X8_count l E [.ref (ja E 60), .int a] M1 r M2 ∧ Rl M2 M2 := by
  have hu : Up M (eCount 1076 a M) := by
    unfold eCount
    repeat' (first | with_reducible exact up_rf | with_reducible exact lnM_up | with_reducible refine up_itc (fun hc => ?_) (fun hc => ?_) | with_reducible refine up_fl ?_ ?_ | with_reducible refine up_mF ?_ ?_ | with_reducible refine up_ch ?_ ?_ | with_reducible refine up_tn ?_ ?_ | with_reducible refine up_dr ?_ | with_reducible refine up_qs ?_ | with_reducible refine up_lay ?_ ?_ | with_reducible refine up_upd ?_ ?_ | omega | decide)
  have hd : ∀ Q, Dn Q (eCount 1502 a Q) := by
    intro Q
    unfold eCount
    repeat' (first | with_reducible exact dn_rf | with_reducible refine dn_itc (fun hc => ?_) (fun hc => ?_) | with_reducible refine dn_fl ?_ ?_ | with_reducible refine dn_mF ?_ ?_ | with_reducible refine dn_ch ?_ ?_ | with_reducible refine dn_tn ?_ ?_ | with_reducible refine dn_asd ?_ | with_reducible refine dn_qs ?_ | with_reducible refine dn_crr ?_ | with_reducible refine dn_lay ?_ ?_ | with_reducible refine dn_upd ?_ ?_ | omega | decide)
  have hr : ∀ Q, Rl M Q → Rl (eCount 1076 a M) (eCount 1502 a Q) := by
    intro Q hQ
    have hS8 := hQ.2.1
    unfold eCount
    try rw [hQ.1]
    try rw [hQ.2.2.2.2.1]
    repeat' (first | with_reducible exact hQ | with_reducible refine rl_ite (fun hc => ?_) (fun hc => ?_) | with_reducible refine rl_fl ?_ ?_ | with_reducible refine rl_mF ?_ | with_reducible refine rl_ch ?_ | with_reducible refine rl_tn ?_ | with_reducible refine rl_dr ?_ | with_reducible refine rl_ln ?_ | omega | decide)
  obtain ⟨g1, g2⟩ := rl_go (e7 := fun M => eCount 1076 a M) (e8 := fun M => eCount 1502 a M) h hu hd hr
  clear hu hd hr
  obtain ⟨N, hN⟩ : ∃ N, N = eCount 1076 a M := ⟨_, rfl⟩
  have g1 : Rl M (eCount 1076 a M) := g1
  have g2 : Rl (eCount 1502 a (eCount 1076 a M)) (eCount 1502 a (eCount 1076 a M)) := g2
  have c7 := c_X7_count (M := M) l E a (h.i7)
  rw [← hN] at g1 g2 c7
  have c8 := c_X8_count (M := N) l E a (g1.2.1)
  have e : aCount (vb 1100 N) (N 1858) a = aCount (vb (fb 0) M) (M 422) a := by obtain ⟨n, _, n1, n2, _⟩ := g1.2.2.2.2.2.2.1; rw [← g1.1, n1, n2]
  rw [e] at c8
  exact ⟨_, _, _, c7, c8, g2⟩
theorem p_seed (l : Launch) (E : jE) {M : jM} (h : Rl M M) (a : Int32) : ∃ r M1 M2, K_X7_seed l E [.ref (ja E 59), .int a] M r M1 ∧ K_X8_seed l E [.ref (ja E 60), .int a] M1 r M2 ∧ Rl M2 M2 := by
  have hu : Up M (lay (fb 0) M (upd (vb (fb 0) M) 2 a)) := by
    exact up_lay (by decide) up_rf
  have hd : ∀ Q, Dn Q (lay 1100 Q (upd (vb 1100 Q) 2 a)) := by
    intro Q
    exact dn_lay (by decide) dn_rf
  have hr : ∀ Q, Rl M Q → Rl (lay (fb 0) M (upd (vb (fb 0) M) 2 a)) (lay 1100 Q (upd (vb 1100 Q) 2 a)) := by
    intro Q hQ
    have hS8 := hQ.2.1
    show Rl (lay (fb 0) M (upd (vb (fb 0) M) 2 a)) (lay 1100 Q (upd (vb 1100 Q) 2 a))
    rw [hQ.1]
    exact rl_lay (IS_z hS8 a) hQ
  obtain ⟨g1, g2⟩ := rl_go (e7 := fun M => lay (fb 0) M (upd (vb (fb 0) M) 2 a)) (e8 := fun M => lay 1100 M (upd (vb 1100 M) 2 a)) h hu hd hr
  clear hu hd hr
  obtain ⟨N, hN⟩ : ∃ N, N = lay (fb 0) M (upd (vb (fb 0) M) 2 a) := ⟨_, rfl⟩
  have g1 : Rl M (lay (fb 0) M (upd (vb (fb 0) M) 2 a)) := g1
  have g2 : Rl (lay 1100 (lay (fb 0) M (upd (vb (fb 0) M) 2 a)) (upd (vb 1100 (lay (fb 0) M (upd (vb (fb 0) M) 2 a))) 2 a)) (lay 1100 (lay (fb 0) M (upd (vb (fb 0) M) 2 a)) (upd (vb 1100 (lay (fb 0) M (upd (vb (fb 0) M) 2 a))) 2 a)) := g2
  have c7 := c_X7_seed (M := M) l E a
  rw [← hN] at g1 g2 c7
  have c8 := c_X8_seed (M := N) l E a
  have e : (N (1100 + 2)) = (M (fb 0 + 2)) := by exact (vv g1.1 2 (by decide)).symm
  rw [e] at c8
  exact ⟨_, _, _, c7, c8, g2⟩
