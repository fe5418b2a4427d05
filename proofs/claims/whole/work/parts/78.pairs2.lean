def Kp (P Q : jM) : Prop := ∃ kp : Bool, P 1083 = jb kp ∧ Q 1853 = jb kp ∧ (kp = true → vb (fb 2) P = vb 1234 Q ∧ IS (vb 1234 Q))
def Tp (P Q : jM) : Prop := ∃ n, n ≤ 120 ∧ P 422 = nI n ∧ Q 1858 = nI n ∧ ∀ j, j < n → P (423 + j) = Q (1525 + j)
theorem rl_mk {P P' Q Q' : jM} (h : Rl P Q) (h7 : ∀ a, 908 ≤ a → a < 1083 → P' a = P a) (h8 : ∀ a, ((1502 ≤ a ∧ a < 1509) ∨ (1645 ≤ a ∧ a < 1813) ∨ (1862 ≤ a ∧ a < 2006)) → Q' a = Q a) (hv : vb (fb 0) P' = vb 1100 Q' ∧ IS (vb 1100 Q')) (hk : Kp P' Q') (ht : Tp P' Q') : Rl P' Q' := by
  obtain ⟨a1, a2, a3, a4, a5, a6, a7, a8⟩ := h
  have z7 : sv7 P' = sv7 P := by
    funext q i
    unfold sv7
    split
    · exact h7 _ (by omega) (by omega)
    · rfl
  have z8 : sv8 Q' = sv8 Q := by
    funext q i
    unfold sv8
    split
    · refine h8 _ ?_
      split
      · omega
      · split <;> omega
    · rfl
  exact ⟨hv.1, hv.2, fun k hk => by rw [h7 _ (by omega) (by omega), h8 _ (by omega)]; exact a3 k hk, hk, by rw [z7, z8]; exact a5, by rw [z8]; exact a6, ht, fun i hi => by rw [h8 _ (by omega)]; exact a8 i hi⟩
theorem Rl.v {P Q : jM} (h : Rl P Q) : vb (fb 0) P = vb 1100 Q ∧ IS (vb 1100 Q) := ⟨h.1, h.2.1⟩
theorem Rl.k {P Q : jM} (h : Rl P Q) : Kp P Q := h.2.2.2.1
theorem Rl.t {P Q : jM} (h : Rl P Q) : Tp P Q := h.2.2.2.2.2.2.1
theorem hv_s {P P' Q Q' : jM} (h : Rl P Q) (h7 : ∀ a, a < 134 → P' a = P a) (h8 : ∀ a, 1100 ≤ a → a < 1234 → Q' a = Q a) : vb (fb 0) P' = vb 1100 Q' ∧ IS (vb 1100 Q') := by
  obtain ⟨b0, b1, b2⟩ := fbn
  rw [show vb (fb 0) P' = vb (fb 0) P from vb_same (fun a h1 h2 => h7 a (by omega)), show vb 1100 Q' = vb 1100 Q from vb_same (fun a h1 h2 => h8 a (by omega) (by omega))]
  exact h.v
theorem Kp_s {P P' Q Q' : jM} (h : Kp P Q) (h7 : ∀ a, ((268 ≤ a ∧ a < 402) ∨ a = 1083) → P' a = P a) (h8 : ∀ a, ((1234 ≤ a ∧ a < 1368) ∨ a = 1853) → Q' a = Q a) : Kp P' Q' := by
  obtain ⟨b0, b1, b2⟩ := fbn
  obtain ⟨kp, k1, k2, k3⟩ := h
  refine ⟨kp, by rw [h7 _ (by omega)]; exact k1, by rw [h8 _ (by omega)]; exact k2, fun z => ?_⟩
  rw [show vb (fb 2) P' = vb (fb 2) P from vb_same (fun a h1 h2 => h7 a (by omega)), show vb 1234 Q' = vb 1234 Q from vb_same (fun a h1 h2 => h8 a (by omega))]
  exact k3 z
theorem Tp_s {P P' Q Q' : jM} (h : Tp P Q) (h7 : ∀ a, 422 ≤ a → a < 543 → P' a = P a) (h8 : ∀ a, ((1525 ≤ a ∧ a < 1645) ∨ a = 1858) → Q' a = Q a) : Tp P' Q' := by
  obtain ⟨n, n1, n2, n3, n4⟩ := h
  exact ⟨n, n1, by rw [h7 _ (by omega) (by omega)]; exact n2, by rw [h8 _ (by omega)]; exact n3, fun j hj => by rw [h7 _ (by omega) (by omega), h8 _ (by omega)]; exact n4 j hj⟩
theorem jb_i {a b : Bool} (h : jb a = jb b) : a = b := by revert h; cases a <;> cases b <;> decide
theorem sumI_c {f g : Nat → Int32} : ∀ n, (∀ k, k < n → f k = g k) → sumI n f = sumI n g
  | 0, _ => rfl
  | n + 1, h => by
    have ih := sumI_c (f := f) (g := g) n (fun k hk => h k (by omega))
    simp only [sumI, ih, h n (by omega)]
theorem aStat_c {f g : Nat → Int32} {a : Int32} (h : ∀ k, k < 7 → f k = g k) : aStat f a = aStat g a := by
  unfold aStat
  split
  · next h1 =>
    split
    · exact sumI_c 7 h
    · next h2 =>
      have h1 := inr_t h1
      have : ¬ a.toInt = -1 := fun z => h2 (Int32.toInt_inj.mp (by rw [z]; rfl))
      obtain ⟨k, hk, rfl⟩ := toNI (x := a) (n := 7) (by omega) (by omega)
      rw [nv_nI (by omega)]
      exact h k hk
  · rfl
theorem p_status (l : Launch) (E : jE) {M : jM} (h : Rl M M) (a : Int32) : ∃ r M1 M2, K_X7_status l E [.ref (ja E 59), .int a] M r M1 ∧ K_X8_status l E [.ref (ja E 60), .int a] M1 r M2 ∧ Rl M2 M2 := by
  have hu : Up M (eStat 1076 a M) := by
    unfold eStat
    exact up_ite up_rf (up_fl (by decide) up_rf)
  have hd : ∀ Q, Dn Q (eStat 1502 a Q) := fun Q => by
    unfold eStat
    exact dn_ite dn_rf (dn_fl (by decide) dn_rf)
  have hr : ∀ Q, Rl M Q → Rl (eStat 1076 a M) (eStat 1502 a Q) := fun Q hQ => by
    unfold eStat
    exact rl_ite (fun _ => hQ) (fun _ => rl_fl (by decide) hQ)
  obtain ⟨g1, g2⟩ := rl_go (e7 := eStat 1076 a) (e8 := eStat 1502 a) h hu hd hr
  have c7 := c_X7_status (M := M) l E a
  have c8 := c_X8_status (M := eStat 1076 a M) l E a
  rw [show aStat (rw7 1502 (eStat 1076 a M)) a = aStat (rw7 1076 M) a from (aStat_c (fun k hk => g1.2.2.1 k hk)).symm] at c8
  exact ⟨_, _, _, c7, c8, g2⟩
theorem p_odds (l : Launch) (E : jE) {M : jM} (h : Rl M M) (a b : Int32) : ∃ r M1 M2, K_X7_odds l E [.ref (ja E 59), .int a, .int b] M r M1 ∧ K_X8_odds l E [.ref (ja E 60), .int a, .int b] M1 r M2 ∧ Rl M2 M2 := by
  have hu : Up M (eOdds 1076 a b M) := by
    unfold eOdds
    exact up_ite up_rf (up_fl (by decide) up_rf)
  have hd : ∀ Q, Dn Q (eOdds 1502 a b Q) := fun Q => by
    unfold eOdds
    exact dn_ite dn_rf (dn_fl (by decide) dn_rf)
  have hr : ∀ Q, Rl M Q → Rl (eOdds 1076 a b M) (eOdds 1502 a b Q) := fun Q hQ => by
    unfold eOdds
    exact rl_ite (fun _ => hQ) (fun _ => rl_fl (by decide) hQ)
  obtain ⟨g1, g2⟩ := rl_go (e7 := eOdds 1076 a b) (e8 := eOdds 1502 a b) h hu hd hr
  have c7 := c_X7_odds (M := M) l E a b h.i7
  have c8 := c_X8_odds (M := eOdds 1076 a b M) l E a b g1.2.1
  rw [show aOdds (vb 1100 (eOdds 1076 a b M)) a b = aOdds (vb (fb 0) M) a b from by rw [← g1.1]] at c8
  exact ⟨_, _, _, c7, c8, g2⟩
theorem p_wipe (l : Launch) (E : jE) {M : jM} (h : Rl M M) : ∃ r M1 M2, K_X7_wipe l E [.ref (ja E 59)] M r M1 ∧ K_X8_wipe l E [.ref (ja E 60)] M1 r M2 ∧ Rl M2 M2 := by
  obtain ⟨g1, g2⟩ := rl_go (e7 := fun M => upd M 422 (nI 0)) (e8 := fun M => upd M 1858 (nI 0)) h (up_upd (by decide) up_rf) (fun Q => dn_upd (by decide) dn_rf) (fun Q hQ => rl_mk hQ (fun a h1 h2 => pk_un (by omega)) (fun a ha => pk_un (by omega)) (hv_s hQ (fun a ha => pk_un (by omega)) (fun a h1 h2 => pk_un (by omega))) (Kp_s hQ.k (fun a ha => pk_un (by omega)) (fun a ha => pk_un (by omega))) ⟨0, by decide, pk_us, pk_us, fun j hj => absurd hj (by omega)⟩)
  have c7 := c_X7_wipe (M := M) l E
  have c8 := c_X8_wipe (M := upd M 422 (nI 0)) l E
  have e : (upd M 422 (nI 0)) 1858 = M 422 := by
    obtain ⟨n, _, n1, n2, _⟩ := h.t
    rw [pk_un (by decide), n1, n2]
  rw [e] at c8
  exact ⟨_, _, _, c7, c8, g2⟩
theorem p_tear (l : Launch) (E : jE) {M : jM} (h : Rl M M) : ∃ r M1 M2, K_X7_tear l E [.ref (ja E 59)] M r M1 ∧ K_X8_tear l E [.ref (ja E 60)] M1 r M2 ∧ Rl M2 M2 := by
  obtain ⟨g1, g2⟩ := rl_go (e7 := fun M => upd M 1083 (nI 0)) (e8 := fun M => upd M 1853 (nI 0)) h (up_upd (by decide) up_rf) (fun Q => dn_upd (by decide) dn_rf) (fun Q hQ => rl_mk hQ (fun a h1 h2 => pk_un (by omega)) (fun a ha => pk_un (by omega)) (hv_s hQ (fun a ha => pk_un (by omega)) (fun a h1 h2 => pk_un (by omega))) ⟨false, pk_us, pk_us, fun z => absurd z (by decide)⟩ (Tp_s hQ.t (fun a h1 h2 => pk_un (by omega)) (fun a ha => pk_un (by omega))))
  obtain ⟨kp, k1, k2, _⟩ := h.k
  have c7 := c_X7_tear (M := M) l E kp k1
  have c8 := c_X8_tear (M := upd M 1083 (nI 0)) l E kp (by rw [pk_un (by decide)]; exact k2)
  exact ⟨_, _, _, c7, c8, g2⟩
theorem p_image (l : Launch) (E : jE) {M : jM} (h : Rl M M) : ∃ r M1 M2, K_X7_image l E [.ref (ja E 59)] M r M1 ∧ K_X8_image l E [.ref (ja E 60)] M1 r M2 ∧ Rl M2 M2 := by
  obtain ⟨b0, b1, b2⟩ := fbn
  have o7 : ∀ (P : jM) S a, (a < 268 ∨ (402 ≤ a ∧ a ≠ 1083)) → upd (lay (fb 2) P S) 1083 (nI 1) a = P a := fun P S a ha => by rw [pk_un (by omega)]; exact lay_out (by omega)
  have o8 : ∀ (P : jM) S a, (a < 1234 ∨ (1368 ≤ a ∧ a ≠ 1853)) → upd (lay 1234 P S) 1853 (nI 1) a = P a := fun P S a ha => by rw [pk_un (by omega)]; exact lay_out (by omega)
  obtain ⟨g1, g2⟩ := rl_go (e7 := fun M => upd (lay (fb 2) M (vb (fb 0) M)) 1083 (nI 1)) (e8 := fun M => upd (lay 1234 M (vb 1100 M)) 1853 (nI 1)) h (up_upd (by decide) (up_lay (by decide) up_rf)) (fun Q => dn_upd (by decide) (dn_lay (by decide) dn_rf)) (fun Q hQ => rl_mk hQ (fun a h1 h2 => o7 _ _ _ (by omega)) (fun a ha => o8 _ _ _ (by omega)) (hv_s hQ (fun a ha => o7 _ _ _ (by omega)) (fun a h1 h2 => o8 _ _ _ (by omega))) ⟨true, pk_us, pk_us, fun _ => by
      rw [vb_upd_ne (by omega), vb_upd_ne (by omega), vb_lay (Can_vb _ _), vb_lay (Can_vb _ _)]
      exact hQ.v⟩ (Tp_s hQ.t (fun a h1 h2 => o7 _ _ _ (by omega)) (fun a ha => o8 _ _ _ (by omega))))
  have c7 := c_X7_image (M := M) l E
  have c8 := c_X8_image (M := upd (lay (fb 2) M (vb (fb 0) M)) 1083 (nI 1)) l E
  exact ⟨_, _, _, c7, c8, g2⟩
theorem p_undo (l : Launch) (E : jE) {M : jM} (h : Rl M M) : ∃ r M1 M2, K_X7_undo l E [.ref (ja E 59)] M r M1 ∧ K_X8_undo l E [.ref (ja E 60)] M1 r M2 ∧ Rl M2 M2 := by
  obtain ⟨kp, k1, k2, k3⟩ := h.k
  have hu : Up M (eUndo kp (fb 0) 1076 (vb (fb 2) M) M) := by
    unfold eUndo
    exact up_ite (up_lay (by decide) up_rf) (up_fl (by decide) up_rf)
  have hd : ∀ Q, Dn Q (eUndo kp 1100 1502 (vb 1234 Q) Q) := fun Q => by
    unfold eUndo
    exact dn_ite (dn_lay (by decide) dn_rf) (dn_fl (by decide) dn_rf)
  have hr : ∀ Q, Rl M Q → Rl (eUndo kp (fb 0) 1076 (vb (fb 2) M) M) (eUndo kp 1100 1502 (vb 1234 Q) Q) := fun Q hQ => by
    unfold eUndo
    obtain ⟨kq, q1, q2, q3⟩ := hQ.k
    have e : kp = kq := jb_i (by rw [← k1, q1])
    subst e
    exact rl_ite (fun z => by rw [(q3 z).1]; exact rl_lay (q3 z).2 hQ) (fun _ => rl_fl (by decide) hQ)
  obtain ⟨g1, g2⟩ := rl_go (e7 := fun M => eUndo kp (fb 0) 1076 (vb (fb 2) M) M) (e8 := fun Q => eUndo kp 1100 1502 (vb 1234 Q) Q) h hu hd hr
  obtain ⟨N, hN⟩ : ∃ N, N = eUndo kp (fb 0) 1076 (vb (fb 2) M) M := ⟨_, rfl⟩
  have c7 := c_X7_undo (M := M) l E kp k1 (fun z => by rw [(k3 z).1]; exact (k3 z).2)
  have g1 : Rl M (eUndo kp (fb 0) 1076 (vb (fb 2) M) M) := g1
  have g2 : Rl (eUndo kp 1100 1502 (vb 1234 (eUndo kp (fb 0) 1076 (vb (fb 2) M) M)) (eUndo kp (fb 0) 1076 (vb (fb 2) M) M)) (eUndo kp 1100 1502 (vb 1234 (eUndo kp (fb 0) 1076 (vb (fb 2) M) M)) (eUndo kp (fb 0) 1076 (vb (fb 2) M) M)) := g2
  rw [← hN] at g1 g2 c7
  obtain ⟨kq, q1, q2, q3⟩ := g1.k
  have e : kp = kq := jb_i (by rw [← k1, q1])
  subst e
  have c8 := c_X8_undo (M := N) l E kp q2 (fun z => (q3 z).2)
  have e : aUndo kp (vb 1234 N) = aUndo kp (vb (fb 2) M) := by
    unfold aUndo
    by_cases z : kp = true
    · rw [if_pos z, if_pos z, (q3 z).1]
    · rw [if_neg z, if_neg z]
  rw [e] at c8
  exact ⟨_, _, _, c7, c8, g2⟩
theorem fd_o {b lp a : Nat} {M : jM} {m : Nat} {x : Int32} {n j : Nat} (h : a ≠ lp) (h2 : a < b ∨ b + m + j ≤ a) : fdT b lp M m x n j a = M a := by
  unfold fdT
  rw [if_neg h, if_neg (by omega)]
theorem p_feed (l : Launch) (E : jE) {M : jM} (h : Rl M M) (x n : Int32) : ∃ r M1 M2, K_X7_feed l E [.ref (ja E 59), .int x, .int n] M r M1 ∧ K_X8_feed l E [.ref (ja E 60), .int x, .int n] M1 r M2 ∧ Rl M2 M2 := by
  obtain ⟨m, m1, m2, m3, m4⟩ := h.t
  have hu : Up M (eFeed 423 422 1076 m x n M) := by
    unfold eFeed
    refine up_itc (fun hc => up_itc (fun h2 => up_fl (by decide) up_rf) (fun h2 => fun a ha => fd_o (by omega) (by omega))) (fun _ => up_fl (by decide) up_rf)
  have hd : ∀ Q, Dn Q (eFeed 1525 1858 1502 m x n Q) := fun Q => by
    unfold eFeed
    refine dn_itc (fun hc => dn_itc (fun h2 => dn_fl (by decide) dn_rf) (fun h2 => fun a ha => fd_o (by omega) (by omega))) (fun _ => dn_fl (by decide) dn_rf)
  have hr : ∀ Q, Rl M Q → Rl (eFeed 423 422 1076 m x n M) (eFeed 1525 1858 1502 m x n Q) := fun Q hQ => by
    unfold eFeed
    refine rl_ite (fun hc => rl_ite (fun h2 => rl_fl (by decide) hQ) (fun h2 => ?_)) (fun _ => rl_fl (by decide) hQ)
    obtain ⟨q, q1, q2, q3, q4⟩ := hQ.t
    have e : q = m := by
      rw [m2] at q2
      exact ((nI_eq (by omega) (by omega)).mp q2).symm
    subst e
    refine rl_mk hQ (fun a h1 h2 => fd_o (by omega) (by omega)) (fun a ha => fd_o (by omega) (by omega)) (hv_s hQ (fun a ha => fd_o (by omega) (by omega)) (fun a h1 h2 => fd_o (by omega) (by omega))) (Kp_s hQ.k (fun a ha => fd_o (by omega) (by omega)) (fun a ha => fd_o (by omega) (by omega))) ⟨q + nv n, by omega, fdT_l, fdT_l, fun j hj => ?_⟩
    unfold fdT
    rw [if_neg (show ¬ 423 + j = 422 by omega), if_neg (show ¬ 1525 + j = 1858 by omega)]
    by_cases z : q ≤ j
    · rw [if_pos (show 423 + q ≤ 423 + j ∧ 423 + j < 423 + q + nv n by omega), if_pos (show 1525 + q ≤ 1525 + j ∧ 1525 + j < 1525 + q + nv n by omega)]
      exact congrArg (byt x) (by omega)
    · rw [if_neg (show ¬ (423 + q ≤ 423 + j ∧ 423 + j < 423 + q + nv n) by omega), if_neg (show ¬ (1525 + q ≤ 1525 + j ∧ 1525 + j < 1525 + q + nv n) by omega)]
      exact q4 j (by omega)
  obtain ⟨g1, g2⟩ := rl_go (e7 := eFeed 423 422 1076 m x n) (e8 := eFeed 1525 1858 1502 m x n) h hu hd hr
  have c7 := c_X7_feed (M := M) l E x n m m1 m2
  have c8 := c_X8_feed (M := eFeed 423 422 1076 m x n M) l E x n m m1 (by
    obtain ⟨q, q1, q2, q3, q4⟩ := g1.t
    rw [q3, ← q2, m2])
  exact ⟨_, _, _, c7, c8, g2⟩
theorem m7_o {g : Nat → Int32} {n : Nat} {M : jM} {a : Nat} (hn : n ≤ 120) (h : a < 134 ∨ (268 ≤ a ∧ a < 543) ∨ 908 ≤ a) : m7T g n M a = M a := by
  obtain ⟨b0, b1, b2⟩ := fbn
  unfold m7T rdM
  rw [rs_o (by omega), tkF_out hn (by omega), pk_un (by omega)]
  exact lay_out (by omega)
theorem m8_o {M : jM} {a : Nat} (h : a < 1368 ∨ (1502 ≤ a ∧ a ≠ 1861)) : m8T M a = M a := by
  unfold m8T
  rw [pk_un (by omega)]
  exact lay_out (by omega)
theorem p_text (l : Launch) (E : jE) {M : jM} (h : Rl M M) : ∃ r M1 M2, K_X7_text l E [.ref (ja E 59)] M r M1 ∧ K_X8_text l E [.ref (ja E 60)] M1 r M2 ∧ Rl M2 M2 := by
  obtain ⟨b0, b1, b2⟩ := fbn
  obtain ⟨n, n1, n2, n3, n4⟩ := h.t
  obtain ⟨g, hg⟩ : ∃ g, g = gT 423 M := ⟨_, rfl⟩
  have gg : ∀ j, M (423 + j) = g j := fun j => by rw [hg]; rfl
  obtain ⟨t1, t2, t3⟩ := tx_eq (g := g) (n := n) (S := vb (fb 0) M)
  have f1 := (tx_inv (c := true) (g := g) n1 h.i7).2.1
  have okI : txOK g n (pTx true g n (vb (fb 0) M)) = true → IS (pTx true g n (vb (fb 0) M)).1.2.2 := fun z => f1.2.2 (by
    unfold txOK at z
    exact (Bool.and_eq_true _ _ ▸ z).1)
  have o7 : ∀ a, ((268 ≤ a ∧ a < 422) ∨ (423 ≤ a ∧ a < 543) ∨ 908 ≤ a) → e7T g n M a = M a := fun a ha => by
    unfold e7T
    rw [pk_un (by omega)]
    split
    · rw [lay_out (by omega)]; exact m7_o n1 (by omega)
    · exact m7_o n1 (by omega)
  have o8 : ∀ Q a, (a < 1100 ∨ (1234 ≤ a ∧ a < 1368) ∨ (1502 ≤ a ∧ a < 1858) ∨ (1862 ≤ a ∧ a < 2006)) → e8T g n Q a = Q a := fun Q a ha => by
    unfold e8T
    split
    · rw [pk_un (by omega), rr_o (by omega), m8_o (by omega)]
    · rw [lay_out (by omega), pk_un (by omega), rr_o (by omega), m8_o (by omega)]
  have hu : Up M (e7T g n M) := fun a ha => o7 a (by omega)
  have hd : ∀ Q, Dn Q (e8T g n Q) := fun Q a ha => o8 Q a (by omega)
  have hr : ∀ Q, Rl M Q → Rl (e7T g n M) (e8T g n Q) := fun Q hQ => by
    refine rl_mk hQ (fun a h1 h2 => o7 a (by omega)) (fun a ha => o8 Q a (by omega)) ?_ (Kp_s hQ.k (fun a ha => o7 a (by omega)) (fun a ha => o8 Q a (by omega))) ⟨0, by decide, ?_, ?_, fun j hj => absurd hj (by omega)⟩
    · by_cases z : txOK g n (pTx true g n (vb (fb 0) M)) = true
      · have z8 : txOK g n (pTx false g n (vb 1100 Q)) = true := by rw [← hQ.1, ← t2]; exact z
        have v7 : vb (fb 0) (e7T g n M) = (pTx true g n (vb (fb 0) M)).1.2.2 := by
          unfold e7T
          rw [if_pos z, vb_upd_ne (by omega), vb_lay f1.2.1]
        have v8 : vb 1100 (e8T g n Q) = (pTx true g n (vb (fb 0) M)).1.2.2 := by
          unfold e8T
          rw [if_pos z8, vb_upd_ne (by omega)]
          rw [← hQ.1, ← t3 z]
          exact rr_vb f1.2.1
        rw [v7, v8]
        exact ⟨rfl, okI z⟩
      · have z8 : ¬ txOK g n (pTx false g n (vb 1100 Q)) = true := by rw [← hQ.1, ← t2]; exact z
        have v7 : vb (fb 0) (e7T g n M) = vb (fb 0) M := by
          unfold e7T
          rw [if_neg z, vb_upd_ne (by omega)]
          exact vb_same (fun a h1 h2 => m7_o n1 (by omega))
        have v8 : vb 1100 (e8T g n Q) = vb 1100 Q := by
          unfold e8T
          rw [if_neg z8]
          exact vb_lay (Can_vb _ _)
        rw [v7, v8]
        exact hQ.v
    · unfold e7T
      exact pk_us
    · unfold e8T
      split
      · exact pk_us
      · rw [lay_out (by omega)]; exact pk_us
  obtain ⟨g1, g2⟩ := rl_go (e7 := e7T g n) (e8 := e8T g n) h hu hd hr
  have c7 := c_X7_text (M := M) (g := g) l E n1 n2 (fun j _ => gg j) h.i7
  have c8 := c_X8_text (M := e7T g n M) (g := g) l E n1 (by rw [o7 _ (by omega)]; exact n3) (fun j hj => by rw [o7 _ (by omega), ← n4 j hj]; exact gg j) g1.2.2.2.2.2.2.2 g1.2.1
  have e : aText g n (pTx false g n (vb 1100 (e7T g n M))) = aText g n (pTx true g n (vb (fb 0) M)) := by
    rw [← g1.1]; exact t1.symm
  rw [e] at c8
  exact ⟨_, _, _, c7, c8, g2⟩
