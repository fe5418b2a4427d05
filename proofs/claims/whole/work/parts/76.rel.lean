/-- the two sides hold the same: P is read on the class's side, Q on the reference's -/
def Rl (P Q : jM) : Prop :=
  vb (fb 0) P = vb 1100 Q ∧ IS (vb 1100 Q) ∧ (∀ k, k < 7 → P (1076 + k) = Q (1502 + k)) ∧ (∃ kp : Bool, P 1083 = jb kp ∧ Q 1853 = jb kp ∧ (kp = true → vb (fb 2) P = vb 1234 Q ∧ IS (vb 1234 Q))) ∧ sv7 P = sv8 Q ∧ QS (sv8 Q) ∧ (∃ n, n ≤ 120 ∧ P 422 = nI n ∧ Q 1858 = nI n ∧ ∀ j, j < n → P (423 + j) = Q (1525 + j)) ∧ LT Q
def Same7 (P P' : jM) : Prop := ∀ a, (a < 134 ∨ (268 ≤ a ∧ a < 402) ∨ (422 ≤ a ∧ a < 543) ∨ (908 ≤ a ∧ a < 1084)) → P' a = P a
def Same8 (Q Q' : jM) : Prop := ∀ a, ((1100 ≤ a ∧ a < 1368) ∨ (1502 ≤ a ∧ a < 1509) ∨ (1525 ≤ a ∧ a < 1813) ∨ a = 1853 ∨ a = 1858 ∨ (1862 ≤ a ∧ a < 2006)) → Q' a = Q a
def Up (P P' : jM) : Prop := ∀ a, 1100 ≤ a → P' a = P a
def Dn (Q Q' : jM) : Prop := ∀ a, a < 1100 → Q' a = Q a
theorem Up.s {P P' : jM} (h : Up P P') : Same8 P P' := fun a ha => h a (by omega)
theorem Dn.s {P P' : jM} (h : Dn P P') : Same7 P P' := fun a ha => h a (by omega)
theorem s7_rf {P : jM} : Same7 P P := fun _ _ => rfl
theorem s8_rf {P : jM} : Same8 P P := fun _ _ => rfl
theorem vb_same {b : Nat} {P P' : jM} (h : ∀ a, b ≤ a → a < b + 134 → P' a = P a) : vb b P' = vb b P := by
  funext j
  unfold vb
  split
  · exact h _ (by omega) (by omega)
  · rfl
theorem fbn : fb 0 = 0 ∧ fb 1 = 134 ∧ fb 2 = 268 := ⟨rfl, rfl, rfl⟩
theorem Rl.j {P P' Q Q' : jM} (h : Rl P Q) (h7 : Same7 P P') (h8 : Same8 Q Q') : Rl P' Q' := by
  obtain ⟨b0, b1, b2⟩ := fbn
  obtain ⟨a1, a2, a3, ⟨kp, k1, k2, k3⟩, a5, a6, ⟨n, n1, n2, n3, n4⟩, a8⟩ := h
  have v0 : vb (fb 0) P' = vb (fb 0) P := vb_same (fun a h1 h2 => h7 a (by omega))
  have v2 : vb (fb 2) P' = vb (fb 2) P := vb_same (fun a h1 h2 => h7 a (by omega))
  have w0 : vb 1100 Q' = vb 1100 Q := vb_same (fun a h1 h2 => h8 a (by omega))
  have w2 : vb 1234 Q' = vb 1234 Q := vb_same (fun a h1 h2 => h8 a (by omega))
  have z7 : sv7 P' = sv7 P := by
    funext q k
    unfold sv7
    split
    · exact h7 _ (by omega)
    · rfl
  have z8 : sv8 Q' = sv8 Q := by
    funext q k
    unfold sv8
    split
    · refine h8 _ ?_
      split
      · omega
      · split <;> omega
    · rfl
  refine ⟨by rw [v0, w0]; exact a1, by rw [w0]; exact a2, fun k hk => by rw [h7 _ (by omega), h8 _ (by omega)]; exact a3 k hk, ⟨kp, by rw [h7 _ (by omega)]; exact k1, by rw [h8 _ (by omega)]; exact k2, fun z => by rw [v2, w2]; exact k3 z⟩, by rw [z7, z8]; exact a5, by rw [z8]; exact a6, ⟨n, n1, by rw [h7 _ (by omega)]; exact n2, by rw [h8 _ (by omega)]; exact n3, fun j hj => by rw [h7 _ (by omega), h8 _ (by omega)]; exact n4 j hj⟩, fun i hi => by rw [h8 _ (by omega)]; exact a8 i hi⟩
/-! what does not reach the other side -/
theorem up_rf {P : jM} : Up P P := fun _ _ => rfl
theorem up_ite {c : Prop} [Decidable c] {P A B : jM} (h1 : Up P A) (h2 : Up P B) : Up P (if c then A else B) := by split; exact h1; exact h2
theorem up_upd {P X : jM} {i : Nat} {x : Int32} (hi : i < 1100) (h : Up P X) : Up P (upd X i x) := fun a ha => by rw [pk_un (by omega)]; exact h a ha
theorem up_fl {P X : jM} {b k : Nat} (hi : b + k < 1100) (h : Up P X) : Up P (Fl b k X) := up_upd hi h
theorem up_lay {P X : jM} {b : Nat} {S : Nat → Int32} (hi : b + 134 ≤ 1100) (h : Up P X) : Up P (lay b X S) := fun a ha => by rw [lay_out (by omega)]; exact h a ha
theorem up_dr {P X : jM} {T : Nat → Int32} (h : Up P X) : Up P (dr X T) := up_lay (by decide) h
theorem up_l4 {P X : jM} {b : Nat} {e z t f : Int32} (hi : b + 4 ≤ 1100) (h : Up P X) : Up P (l4 b X e z t f) := fun a ha => by rw [l4_o (by omega)]; exact h a ha
theorem up_ch {P X : jM} {b p i : Nat} {S : Nat → Int32} (hi : b + 4 ≤ 1100) (h : Up P X) : Up P (chM b S p i X) := up_l4 hi h
theorem up_tn {P X : jM} {b : Nat} {c : Nat → Nat} (hi : b + 16 ≤ 1100) (h : Up P X) : Up P (tn b X c) := fun a ha => by
  unfold tn tl
  rw [if_neg (by omega)]; exact h a ha
theorem up_qs {P X : jM} {Z : Nat → Nat → Int32} (h : Up P X) : Up P (qs7 X Z) := fun a ha => by
  unfold qs7
  rw [if_neg (by omega)]; exact h a ha
theorem up_mF {P X : jM} {F : Nat} {p : Nat → Bool} (hi : F + 3 < 1100) (h : Up P X) : Up P (mF F p X) := by
  unfold mF; exact up_ite h (up_fl hi h)
theorem dn_rf {P : jM} : Dn P P := fun _ _ => rfl
theorem dn_ite {c : Prop} [Decidable c] {P A B : jM} (h1 : Dn P A) (h2 : Dn P B) : Dn P (if c then A else B) := by split; exact h1; exact h2
theorem dn_upd {P X : jM} {i : Nat} {x : Int32} (hi : 1100 ≤ i) (h : Dn P X) : Dn P (upd X i x) := fun a ha => by rw [pk_un (by omega)]; exact h a ha
theorem dn_fl {P X : jM} {b k : Nat} (hi : 1100 ≤ b + k) (h : Dn P X) : Dn P (Fl b k X) := dn_upd hi h
theorem dn_lay {P X : jM} {b : Nat} {S : Nat → Int32} (hi : 1100 ≤ b) (h : Dn P X) : Dn P (lay b X S) := fun a ha => by rw [lay_out (by omega)]; exact h a ha
theorem dn_asd {P X : jM} (h : Dn P X) : Dn P (asd X) := dn_lay (by decide) h
theorem dn_l4 {P X : jM} {b : Nat} {e z t f : Int32} (hi : 1100 ≤ b) (h : Dn P X) : Dn P (l4 b X e z t f) := fun a ha => by rw [l4_o (by omega)]; exact h a ha
theorem dn_ch {P X : jM} {b p i : Nat} {S : Nat → Int32} (hi : 1100 ≤ b) (h : Dn P X) : Dn P (chM b S p i X) := dn_l4 hi h
theorem dn_tn {P X : jM} {b : Nat} {c : Nat → Nat} (hi : 1100 ≤ b) (h : Dn P X) : Dn P (tn b X c) := fun a ha => by
  unfold tn tl
  rw [if_neg (by omega)]; exact h a ha
theorem dn_qs {P X : jM} {Z : Nat → Nat → Int32} (h : Dn P X) : Dn P (qs8 X Z) := fun a ha => by
  unfold qs8
  rw [if_neg (by omega)]; exact h a ha
theorem dn_crr {P X : jM} {Z : Nat → Nat → Int32} {s x i : Nat} (h : Dn P X) : Dn P (crr X Z s x i) := fun a ha => by
  unfold crr
  rw [if_neg (by omega)]; exact h a ha
theorem dn_mF {P X : jM} {F : Nat} {p : Nat → Bool} (hi : 1100 ≤ F + 3) (h : Dn P X) : Dn P (mF F p X) := by
  unfold mF; exact dn_ite h (dn_fl hi h)
/-! what both sides do alike -/
theorem rl_ite {c : Prop} [Decidable c] {A B A' B' : jM} (h1 : c → Rl A A') (h2 : ¬ c → Rl B B') : Rl (if c then A else B) (if c then A' else B') := by
  by_cases h : c
  · rw [if_pos h, if_pos h]; exact h1 h
  · rw [if_neg h, if_neg h]; exact h2 h
theorem rl_L {P P' Q : jM} (h : Rl P Q) (h7 : Same7 P P') : Rl P' Q := h.j h7 s8_rf
theorem rl_R {P Q Q' : jM} (h : Rl P Q) (h8 : Same8 Q Q') : Rl P Q' := h.j s7_rf h8
theorem rl_fl {P Q : jM} {k : Nat} (hk : k < 7) (h : Rl P Q) : Rl (Fl 1076 k P) (Fl 1502 k Q) := by
  obtain ⟨b0, b1, b2⟩ := fbn
  obtain ⟨a1, a2, a3, ⟨kp, k1, k2, k3⟩, a5, a6, ⟨n, n1, n2, n3, n4⟩, a8⟩ := h
  have o7 : ∀ a, a ≠ 1076 + k → Fl 1076 k P a = P a := fun a ha => pk_un ha
  have o8 : ∀ a, a ≠ 1502 + k → Fl 1502 k Q a = Q a := fun a ha => pk_un ha
  have v0 : vb (fb 0) (Fl 1076 k P) = vb (fb 0) P := vb_same (fun a h1 h2 => o7 a (by omega))
  have v2 : vb (fb 2) (Fl 1076 k P) = vb (fb 2) P := vb_same (fun a h1 h2 => o7 a (by omega))
  have w0 : vb 1100 (Fl 1502 k Q) = vb 1100 Q := vb_same (fun a h1 h2 => o8 a (by omega))
  have w2 : vb 1234 (Fl 1502 k Q) = vb 1234 Q := vb_same (fun a h1 h2 => o8 a (by omega))
  have z7 : sv7 (Fl 1076 k P) = sv7 P := by
    funext q i
    unfold sv7
    split
    · exact o7 _ (by omega)
    · rfl
  have z8 : sv8 (Fl 1502 k Q) = sv8 Q := by
    funext q i
    unfold sv8
    split
    · refine o8 _ ?_
      split
      · omega
      · split <;> omega
    · rfl
  refine ⟨by rw [v0, w0]; exact a1, by rw [w0]; exact a2, fun i hi => ?_, ⟨kp, by rw [o7 _ (by omega)]; exact k1, by rw [o8 _ (by omega)]; exact k2, fun z => by rw [v2, w2]; exact k3 z⟩, by rw [z7, z8]; exact a5, by rw [z8]; exact a6, ⟨n, n1, by rw [o7 _ (by omega)]; exact n2, by rw [o8 _ (by omega)]; exact n3, fun j hj => by rw [o7 _ (by omega), o8 _ (by omega)]; exact n4 j hj⟩, fun i hi => by rw [o8 _ (by omega)]; exact a8 i hi⟩
  by_cases e : i = k
  · subst e
    have e1 : Fl 1076 i P (1076 + i) = P (1076 + i) + nI 1 := pk_us
    have e2 : Fl 1502 i Q (1502 + i) = Q (1502 + i) + nI 1 := pk_us
    rw [e1, e2, a3 i hk]
  · rw [o7 _ (by omega), o8 _ (by omega)]; exact a3 i hi
theorem rl_lay {P Q : jM} {S : Nat → Int32} (hS : IS S) (h : Rl P Q) : Rl (lay (fb 0) P S) (lay 1100 Q S) := by
  obtain ⟨b0, b1, b2⟩ := fbn
  obtain ⟨a1, a2, a3, ⟨kp, k1, k2, k3⟩, a5, a6, ⟨n, n1, n2, n3, n4⟩, a8⟩ := h
  have o7 : ∀ a, 134 ≤ a → lay (fb 0) P S a = P a := fun a ha => lay_out (by omega)
  have o8 : ∀ a, (a < 1100 ∨ 1234 ≤ a) → lay 1100 Q S a = Q a := fun a ha => lay_out (by omega)
  refine ⟨by rw [vb_lay hS.1, vb_lay hS.1], by rw [vb_lay hS.1]; exact hS, fun i hi => by rw [o7 _ (by omega), o8 _ (by omega)]; exact a3 i hi, ⟨kp, by rw [o7 _ (by omega)]; exact k1, by rw [o8 _ (by omega)]; exact k2, fun z => by rw [vb_lay_ne (by omega), vb_lay_ne (by omega)]; exact k3 z⟩, by rw [sv7_lay, sv8_lay]; exact a5, by rw [sv8_lay]; exact a6, ⟨n, n1, by rw [o7 _ (by omega)]; exact n2, by rw [o8 _ (by omega)]; exact n3, fun j hj => by rw [o7 _ (by omega), o8 _ (by omega)]; exact n4 j hj⟩, fun i hi => by rw [o8 _ (by omega)]; exact a8 i hi⟩
theorem rl_dr {P Q : jM} {T : Nat → Int32} (h : Rl P Q) : Rl (dr P T) (asd Q) := h.j (fun a ha => lay_out (by have := fbn; omega)) (fun a ha => lay_out (by omega))
theorem rl_ch {P Q : jM} {S : Nat → Int32} {p i : Nat} (h : Rl P Q) : Rl (chM 402 S p i P) (chM 1854 S p i Q) := h.j (fun a ha => l4_o (by omega)) (fun a ha => l4_o (by omega))
theorem rl_tn {P Q : jM} {c : Nat → Nat} (h : Rl P Q) : Rl (tn 406 P c) (tn 1509 Q c) := h.j (fun a ha => by unfold tn tl; rw [if_neg (by omega)]) (fun a ha => by unfold tn tl; rw [if_neg (by omega)])
theorem rl_mF {P Q : jM} {p : Nat → Bool} (h : Rl P Q) : Rl (mF 1076 p P) (mF 1502 p Q) := by
  unfold mF
  exact rl_ite (fun _ => h) (fun _ => rl_fl (by decide) h)
theorem rl_qs {P Q : jM} {Z : Nat → Nat → Int32} (hZ : QS Z) (hC : Qc Z) (h : Rl P Q) : Rl (qs7 P Z) (qs8 Q Z) := by
  obtain ⟨b0, b1, b2⟩ := fbn
  obtain ⟨a1, a2, a3, ⟨kp, k1, k2, k3⟩, a5, a6, ⟨n, n1, n2, n3, n4⟩, a8⟩ := h
  have o7 : ∀ a, (a < 908 ∨ 1076 ≤ a) → qs7 P Z a = P a := fun a ha => if_neg (by omega)
  have o8 : ∀ a, (a < 1645 ∨ 1813 ≤ a) → qs8 Q Z a = Q a := fun a ha => if_neg (by omega)
  have v0 : vb (fb 0) (qs7 P Z) = vb (fb 0) P := vb_same (fun a h1 h2 => o7 a (by omega))
  have v2 : vb (fb 2) (qs7 P Z) = vb (fb 2) P := vb_same (fun a h1 h2 => o7 a (by omega))
  have w0 : vb 1100 (qs8 Q Z) = vb 1100 Q := vb_same (fun a h1 h2 => o8 a (by omega))
  have w2 : vb 1234 (qs8 Q Z) = vb 1234 Q := vb_same (fun a h1 h2 => o8 a (by omega))
  exact ⟨by rw [v0, w0]; exact a1, by rw [w0]; exact a2, fun i hi => by rw [o7 _ (by omega), o8 _ (by omega)]; exact a3 i hi, ⟨kp, by rw [o7 _ (by omega)]; exact k1, by rw [o8 _ (by omega)]; exact k2, fun z => by rw [v2, w2]; exact k3 z⟩, by rw [sv7_qs hC, sv8_qs hC], by rw [sv8_qs hC]; exact hZ, ⟨n, n1, by rw [o7 _ (by omega)]; exact n2, by rw [o8 _ (by omega)]; exact n3, fun j hj => by rw [o7 _ (by omega), o8 _ (by omega)]; exact n4 j hj⟩, fun i hi => by rw [o8 _ (by omega)]; exact a8 i hi⟩
/-- a pair of calls: what the class's side does, then what the reference's does -/
theorem rl_go {M : jM} {e7 e8 : jM → jM} (h : Rl M M) (hu : Up M (e7 M)) (hd : ∀ Q, Dn Q (e8 Q)) (hq : ∀ Q, Rl M Q → Rl (e7 M) (e8 Q)) : Rl M (e7 M) ∧ Rl (e8 (e7 M)) (e8 (e7 M)) := by
  have hQ : Rl M (e7 M) := rl_R h hu.s
  exact ⟨hQ, rl_L (hq _ hQ) (hd _).s⟩
