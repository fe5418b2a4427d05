def rdc : Nat → Nat → Nat → Nat × Nat
  | 0, a, b => (a, b)
  | f + 1, a, b => if 1 < b ∧ a % 2 = 0 then rdc f (a / 2) (b / 2) else (a, b)
def odG (c n : Nat) : Nat := Nat.gcd (c ^ n) (16 ^ n)
theorem od_eq : ∀ c, c < 17 → ∀ n, n < 13 → (rdc 4 c 16).1 ^ n = c ^ n / odG c n ∧ (rdc 4 c 16).2 ^ n = 16 ^ n / odG c n := by decide +kernel
theorem od_le : ∀ c, c < 17 → (rdc 4 c 16).1 ≤ 16 ∧ (rdc 4 c 16).2 ≤ 16 := by decide +kernel
def abC (S : Nat → Int32) : Nat := 16 - bcN (sightS S)
def vOdds (c n w : Nat) : Nat := if w = 0 then c ^ n / odG c n else 16 ^ n / odG c n
def aOdds (S : Nat → Int32) (a b : Int32) : Int64 := if inr a 0 12 = true ∧ inr b 0 1 = true then lN (vOdds (abC S) (nv a) (nv b)) else (fi 0).toInt64
def eOdds (F : Nat) (a b : Int32) (M : jM) : jM := if inr a 0 12 = true ∧ inr b 0 1 = true then M else Fl F 0 M
theorem ol {v v' : Int64} (h : v = v') : some (Value.long v) = some (Value.long v') := by rw [h]
theorem pw_le {c n : Nat} (hc : c ≤ 16) (hn : n ≤ 12) : c ^ n ≤ 281474976710656 := Nat.le_trans (Nat.pow_le_pow_left hc n) (Nat.le_trans (Nat.pow_le_pow_right (by decide) hn) (Nat.le_of_ble_eq_true rfl))
theorem gcd_s (a b : Nat) : Nat.gcd a b = Nat.gcd b (a % b) := by rw [Nat.gcd_comm, Nat.gcd_rec, Nat.gcd_comm]
theorem abC_le (S : Nat → Int32) : abC S ≤ 16 := Nat.sub_le _ _
section JO
variable {l : Launch} {E : jE} {X : jX} {own : String} {cc : ByteArray} {nL d : Nat} {pc : Nat} {lv : List (Option Value)} {st : List Value} {M : jM}
theorem J_lrem_n (C : jK l E X own cc nL d) {a b : Nat} (ha : a < 2 ^ 63) (h0 : 0 < b) (hb : b < 2 ^ 63) (hd : decode cc pc = .ok (.lrem, 1)) (k : J E X (pc + 1) lv (.long (lN (a % b)) :: st) M) : J E X pc lv (.long (lN b) :: .long (lN a) :: st) M := J_lrem C hd (fun z => by have := (pk_lEQ hb (by decide)).mp (show lN b = lN 0 from z); omega) (by rw [pk_lRem ha h0 hb]; exact k)
theorem J_ldiv_n (C : jK l E X own cc nL d) {a b : Nat} (ha : a < 2 ^ 63) (h0 : 0 < b) (hb : b < 2 ^ 63) (hd : decode cc pc = .ok (.ldiv, 1)) (k : J E X (pc + 1) lv (.long (lN (a / b)) :: st) M) : J E X pc lv (.long (lN b) :: .long (lN a) :: st) M := J_ldiv C hd (fun z => by have := (pk_lEQ hb (by decide)).mp (show lN b = lN 0 from z); omega) (by rw [pk_lDiv ha h0 hb]; exact k)
theorem J_lmul_n (C : jK l E X own cc nL d) {a b : Nat} (hd : decode cc pc = .ok (.lmul, 1)) (k : J E X (pc + 1) lv (.long (lN (a * b)) :: st) M) : J E X pc lv (.long (lN b) :: .long (lN a) :: st) M := J_lmul C hd (by rw [lN_mul]; exact k)
theorem J_ladd_n (C : jK l E X own cc nL d) {a b : Nat} (hd : decode cc pc = .ok (.ladd, 1)) (k : J E X (pc + 1) lv (.long (lN (a + b)) :: st) M) : J E X pc lv (.long (lN b) :: .long (lN a) :: st) M := J_ladd C hd (by rw [lN_add]; exact k)
theorem J_lsub_n (C : jK l E X own cc nL d) {a b : Nat} (h : b ≤ a) (hd : decode cc pc = .ok (.lsub, 1)) (k : J E X (pc + 1) lv (.long (lN (a - b)) :: st) M) : J E X pc lv (.long (lN b) :: .long (lN a) :: st) M := J_lsub C hd (by rw [lN_sub h]; exact k)
theorem J_i2l_n (C : jK l E X own cc nL d) {a : Nat} (ha : a < 2 ^ 31) (hd : decode cc pc = .ok (.i2l, 1)) (k : J E X (pc + 1) lv (.long (lN a) :: st) M) : J E X pc lv (.int (nI a) :: st) M := J_i2l C hd (by rw [nI_l ha]; exact k)
theorem J_l2i_n (C : jK l E X own cc nL d) {a : Nat} (hd : decode cc pc = .ok (.l2i, 1)) (k : J E X (pc + 1) lv (.int (nI a) :: st) M) : J E X pc lv (.long (lN a) :: st) M := J_l2i C hd (by rw [lN_i]; exact k)
end JO
section PA
variable {M : jM}
set_option maxRecDepth 4000 in
theorem c_X7_odds (l : Launch) (E : jE) (a b : Int32) (hS : IS (vb (fb 0) M))  : K_X7_odds l E [.ref (ja E 59), .int a, .int b] M (aOdds (vb (fb 0) M) a b) (eOdds 1076 a b M) := by
  refine CT_intro (own := RX7) (by decide +kernel) rfl (by simp [Value.category]) (Nat.le_of_ble_eq_true rfl) rfl (fun X C G => ?_)
  show J E X 0 [some (.ref (ja E 59)), some (.int a), some (.int b), none, none, none, none, none, none] [] M
  refine J_iload_n C (dA DX7_odds_0 0 rfl) rfl ?_
  first | refine J_if_lt_n (tgt := 19) C (by omega) (dA DX7_odds_0 1 rfl) (by decide) (fun h1 => ?_) (fun h1 => ?_) | refine J_if_lt_t (tgt := 19) C (dA DX7_odds_0 1 rfl) (by decide) (fun h1 => ?_) (fun h1 => ?_)
  · refine J_aload_n C (dA DX7_odds_0 10 rfl) rfl ?_
    refine J_ldc (v := (-1000001)) C wK_RX7_69 (dA DX7_odds_0 11 rfl) ?_
    refine V_X7_finding C (c_X7_finding l E 0 (by decide) _ (by decide)) wM_RX7_70 (by decide) (dA DX7_odds_0 12 rfl) rfl (Nat.le_of_ble_eq_true rfl) ?_
    refine J_i2l C (dA DX7_odds_0 13 rfl) ?_
    exact J_lret C G (dA DX7_odds_0 14 rfl) ⟨ol (by unfold aOdds; rw [if_neg (by rintro ⟨z1, z2⟩; try have z1 := inr_t z1; try have z2 := inr_t z2; omega)]; rfl), by unfold eOdds; rw [if_neg (by rintro ⟨z1, z2⟩; try have z1 := inr_t z1; try have z2 := inr_t z2; omega)]⟩
  · refine J_iload_n C (dA DX7_odds_0 2 rfl) rfl ?_
    refine J_bipush (v := nI 12) C (dA DX7_odds_0 3 rfl) (by decide) ?_
    first | refine J_icmp_gt_n (tgt := 19) C (by omega) (by omega) (dA DX7_odds_0 4 rfl) (by decide) (fun h7 => ?_) (fun h7 => ?_) | refine J_icmp_gt_c (tgt := 19) C (by omega) (dA DX7_odds_0 4 rfl) (by decide) (fun h7 => ?_) (fun h7 => ?_) | refine J_icmp_gt_t (tgt := 19) C (dA DX7_odds_0 4 rfl) (by decide) (fun h7 => ?_) (fun h7 => ?_)
    · refine J_aload_n C (dA DX7_odds_0 10 rfl) rfl ?_
      refine J_ldc (v := (-1000001)) C wK_RX7_69 (dA DX7_odds_0 11 rfl) ?_
      refine V_X7_finding C (c_X7_finding l E 0 (by decide) _ (by decide)) wM_RX7_70 (by decide) (dA DX7_odds_0 12 rfl) rfl (Nat.le_of_ble_eq_true rfl) ?_
      refine J_i2l C (dA DX7_odds_0 13 rfl) ?_
      exact J_lret C G (dA DX7_odds_0 14 rfl) ⟨ol (by unfold aOdds; rw [if_neg (by rintro ⟨z1, z2⟩; try have z1 := inr_t z1; try have z2 := inr_t z2; omega)]; rfl), by unfold eOdds; rw [if_neg (by rintro ⟨z1, z2⟩; try have z1 := inr_t z1; try have z2 := inr_t z2; omega)]⟩
    · refine J_iload_n C (dA DX7_odds_0 5 rfl) rfl ?_
      first | refine J_if_lt_n (tgt := 19) C (by omega) (dA DX7_odds_0 6 rfl) (by decide) (fun h11 => ?_) (fun h11 => ?_) | refine J_if_lt_t (tgt := 19) C (dA DX7_odds_0 6 rfl) (by decide) (fun h11 => ?_) (fun h11 => ?_)
      · refine J_aload_n C (dA DX7_odds_0 10 rfl) rfl ?_
        refine J_ldc (v := (-1000001)) C wK_RX7_69 (dA DX7_odds_0 11 rfl) ?_
        refine V_X7_finding C (c_X7_finding l E 0 (by decide) _ (by decide)) wM_RX7_70 (by decide) (dA DX7_odds_0 12 rfl) rfl (Nat.le_of_ble_eq_true rfl) ?_
        refine J_i2l C (dA DX7_odds_0 13 rfl) ?_
        exact J_lret C G (dA DX7_odds_0 14 rfl) ⟨ol (by unfold aOdds; rw [if_neg (by rintro ⟨z1, z2⟩; try have z1 := inr_t z1; try have z2 := inr_t z2; omega)]; rfl), by unfold eOdds; rw [if_neg (by rintro ⟨z1, z2⟩; try have z1 := inr_t z1; try have z2 := inr_t z2; omega)]⟩
      · refine J_iload_n C (dA DX7_odds_0 7 rfl) rfl ?_
        refine J_iconst (v := nI 1) C (dA DX7_odds_0 8 rfl) (by decide) ?_
        first | refine J_icmp_le_n (tgt := 27) C (by omega) (by omega) (dA DX7_odds_0 9 rfl) (by decide) (fun h16 => ?_) (fun h16 => ?_) | refine J_icmp_le_c (tgt := 27) C (by omega) (dA DX7_odds_0 9 rfl) (by decide) (fun h16 => ?_) (fun h16 => ?_) | refine J_icmp_le_t (tgt := 27) C (dA DX7_odds_0 9 rfl) (by decide) (fun h16 => ?_) (fun h16 => ?_)
        · obtain ⟨n, hn, rfl⟩ := toNI (x := a) (n := 13) (by omega) (by omega)
          obtain ⟨w, hw, rfl⟩ := toNI (x := b) (n := 2) (by omega) (by omega)
          have ta := tI (n := n) (by omega)
          have tb := tI (n := w) (by omega)
          have na : nv (nI n) = n := nv_nI (by omega)
          have nb : nv (nI w) = w := nv_nI (by omega)
          have pos : inr (nI n) 0 12 = true ∧ inr (nI w) 0 1 = true := ⟨decide_eq_true (by omega), decide_eq_true (by omega)⟩
          have hc := abC_le (vb (fb 0) M)
          have hbc := bcN_le (s16_sight (vb (fb 0) M))
          obtain ⟨m, hm, em⟩ := s16_sight (vb (fb 0) M)
          have ebc : 16 - bcN (sightS (vb (fb 0) M)) = (abC (vb (fb 0) M)) := rfl
          have hle := od_le (abC (vb (fb 0) M)) (by omega)
          have hoe0 := od_eq (abC (vb (fb 0) M)) (by omega) n (by omega)
          have hoe : (rdc 4 (abC (vb (fb 0) M)) 16).1 ^ n = vOdds (abC (vb (fb 0) M)) n 0 ∧ (rdc 4 (abC (vb (fb 0) M)) 16).2 ^ n = vOdds (abC (vb (fb 0) M)) n 1 := ⟨hoe0.1, hoe0.2⟩
          have power : ∀ base, base ≤ 16 → (base ^ n = vOdds (abC (vb (fb 0) M)) n w) → ∀ k i, i + k = n → J E X 88 [some (.ref (ja E 59)), some (.int (nI n)), some (.int (nI w)), some (.int (nI (rdc 4 (abC (vb (fb 0) M)) 16).1)), some (.int (nI (rdc 4 (abC (vb (fb 0) M)) 16).2)), some (.int (nI base)), some (.long (lN (base ^ i))), none, some (.int (nI i))] [] M := by
            intro base hb hv k
            induction k with
            | zero =>
              intro i hi
              obtain rfl : n = i := by omega
              refine J_iload C (dA DX7_odds_0 50 rfl) rfl ?_
              refine J_iload_n C (dA DX7_odds_0 51 rfl) rfl ?_
              refine J_icmp_ge_n (tgt := 108) C (by omega) (by omega) (dA DX7_odds_0 52 rfl) (by decide) (fun h91 => ?_) (fun h91 => ?_)
              · refine J_lload C (dA DX7_odds_0 60 rfl) rfl ?_
                exact J_lret C G (dA DX7_odds_0 61 rfl) ⟨ol (by unfold aOdds; rw [if_pos pos, na, nb, hv]), by unfold eOdds; rw [if_pos pos]⟩
              · exfalso; omega
            | succ k ih =>
              intro i hi
              refine J_iload C (dA DX7_odds_0 50 rfl) rfl ?_
              refine J_iload_n C (dA DX7_odds_0 51 rfl) rfl ?_
              refine J_icmp_ge_n (tgt := 108) C (by omega) (by omega) (dA DX7_odds_0 52 rfl) (by decide) (fun h91 => ?_) (fun h91 => ?_)
              · exfalso; omega
              · refine J_lload C (dA DX7_odds_0 53 rfl) rfl ?_
                refine J_iload C (dA DX7_odds_0 54 rfl) rfl ?_
                refine J_i2l_n C (by omega) (dA DX7_odds_0 55 rfl) ?_
                refine J_lmul_n C (dA DX7_odds_0 56 rfl) ?_
                refine J_lstore C (dA DX7_odds_0 57 rfl) rfl (Nat.le_of_ble_eq_true rfl) ?_
                first | refine J_inc1_8_9 C (dA DX7_odds_0 58 rfl) rfl ?_ | refine J_iinc_8_9 C (dA DX7_odds_0 58 rfl) rfl ?_
                refine J_goto (tgt := 88) C (dA DX7_odds_0 59 rfl) (by decide) ?_
                have h := ih (i + 1) (by omega)
                rw [Nat.pow_succ] at h
                exact h
          have tail : J E X 70 [some (.ref (ja E 59)), some (.int (nI n)), some (.int (nI w)), some (.int (nI (rdc 4 (abC (vb (fb 0) M)) 16).1)), some (.int (nI (rdc 4 (abC (vb (fb 0) M)) 16).2)), none, none, none, none] [] M := by
            refine J_iload_n C (dA DX7_odds_0 40 rfl) rfl ?_
            refine J_if_ne_n (tgt := 78) C (by omega) (dA DX7_odds_0 41 rfl) (by decide) (fun h71 => ?_) (fun h71 => ?_)
            · refine J_iload C (dA DX7_odds_0 44 rfl) rfl ?_
              refine J_ist_5_9 C (dA DX7_odds_0 45 rfl) rfl ?_
              obtain rfl : w = 1 := by omega
              refine J_lconst (v := lN 1) C (dA DX7_odds_0 46 rfl) (by decide) ?_
              refine J_lstore C (dA DX7_odds_0 47 rfl) rfl (Nat.le_of_ble_eq_true rfl) ?_
              refine J_iconst (v := nI 0) C (dA DX7_odds_0 48 rfl) (by decide) ?_
              refine J_ist_8_9 C (dA DX7_odds_0 49 rfl) rfl ?_
              exact power _ hle.2 (hoe.2) n 0 (Nat.zero_add _)
            · refine J_iload_n C (dA DX7_odds_0 42 rfl) rfl ?_
              refine J_goto (tgt := 80) C (dA DX7_odds_0 43 rfl) (by decide) ?_
              refine J_ist_5_9 C (dA DX7_odds_0 45 rfl) rfl ?_
              obtain rfl : w = 0 := by omega
              refine J_lconst (v := lN 1) C (dA DX7_odds_0 46 rfl) (by decide) ?_
              refine J_lstore C (dA DX7_odds_0 47 rfl) rfl (Nat.le_of_ble_eq_true rfl) ?_
              refine J_iconst (v := nI 0) C (dA DX7_odds_0 48 rfl) (by decide) ?_
              refine J_ist_8_9 C (dA DX7_odds_0 49 rfl) rfl ?_
              exact power _ hle.1 (hoe.1) n 0 (Nat.zero_add _)
          have loop : ∀ f x y, x ≤ 16 → y ≤ 16 → y ≤ 2 ^ f → rdc f x y = (rdc 4 (abC (vb (fb 0) M)) 16) → J E X 45 [some (.ref (ja E 59)), some (.int (nI n)), some (.int (nI w)), some (.int (nI x)), some (.int (nI y)), none, none, none, none] [] M := by
            intro f
            induction f with
            | zero =>
              intro x y hx hy hf he
              have hf : y ≤ 1 := hf
              have e1 : x = (rdc 4 (abC (vb (fb 0) M)) 16).1 := by rw [← he]; rfl
              have e2 : y = (rdc 4 (abC (vb (fb 0) M)) 16).2 := by rw [← he]; rfl
              refine J_iload C (dA DX7_odds_0 24 rfl) rfl ?_
              refine J_iconst (v := nI 1) C (dA DX7_odds_0 25 rfl) (by decide) ?_
              refine J_icmp_le_n (tgt := 70) C (by omega) (by omega) (dA DX7_odds_0 26 rfl) (by decide) (fun h48 => ?_) (fun h48 => ?_)
              · rw [e1, e2]
                exact tail
              · exfalso; omega
            | succ f ih =>
              intro x y hx hy hf he
              rw [Nat.pow_succ] at hf
              refine J_iload C (dA DX7_odds_0 24 rfl) rfl ?_
              refine J_iconst (v := nI 1) C (dA DX7_odds_0 25 rfl) (by decide) ?_
              refine J_icmp_le_n (tgt := 70) C (by omega) (by omega) (dA DX7_odds_0 26 rfl) (by decide) (fun h48 => ?_) (fun h48 => ?_)
              · have he2 : rdc (f + 1) x y = (x, y) := by show (if 1 < y ∧ x % 2 = 0 then rdc f (x / 2) (y / 2) else (x, y)) = (x, y); rw [if_neg (by omega)]
                rw [he2] at he
                have e1 : x = (rdc 4 (abC (vb (fb 0) M)) 16).1 := by rw [← he]
                have e2 : y = (rdc 4 (abC (vb (fb 0) M)) 16).2 := by rw [← he]
                rw [e1, e2]
                exact tail
              · refine J_iload_n C (dA DX7_odds_0 27 rfl) rfl ?_
                refine J_iconst (v := nI 2) C (dA DX7_odds_0 28 rfl) (by decide) ?_
                refine J_irem_n C (by omega) (by omega) (by omega) (dA DX7_odds_0 29 rfl) ?_
                refine J_if_ne_n (tgt := 70) C (by omega) (dA DX7_odds_0 30 rfl) (by decide) (fun h54 => ?_) (fun h54 => ?_)
                · have he2 : rdc (f + 1) x y = (x, y) := by show (if 1 < y ∧ x % 2 = 0 then rdc f (x / 2) (y / 2) else (x, y)) = (x, y); rw [if_neg (by omega)]
                  rw [he2] at he
                  have e1 : x = (rdc 4 (abC (vb (fb 0) M)) 16).1 := by rw [← he]
                  have e2 : y = (rdc 4 (abC (vb (fb 0) M)) 16).2 := by rw [← he]
                  rw [e1, e2]
                  exact tail
                · refine J_iload_n C (dA DX7_odds_0 31 rfl) rfl ?_
                  refine J_iconst (v := nI 2) C (dA DX7_odds_0 32 rfl) (by decide) ?_
                  refine J_idiv_n C (by omega) (by omega) (by omega) (dA DX7_odds_0 33 rfl) ?_
                  refine J_ist_3_9 C (dA DX7_odds_0 34 rfl) rfl ?_
                  refine J_iload C (dA DX7_odds_0 35 rfl) rfl ?_
                  refine J_iconst (v := nI 2) C (dA DX7_odds_0 36 rfl) (by decide) ?_
                  refine J_idiv_n C (by omega) (by omega) (by omega) (dA DX7_odds_0 37 rfl) ?_
                  refine J_ist_4_9 C (dA DX7_odds_0 38 rfl) rfl ?_
                  refine J_goto (tgt := 45) C (dA DX7_odds_0 39 rfl) (by decide) ?_
                  refine ih (x / 2) (y / 2) (by omega) (by omega) (by omega) ?_
                  rw [← he]
                  show rdc f (x / 2) (y / 2) = (if 1 < y ∧ x % 2 = 0 then rdc f (x / 2) (y / 2) else (x, y))
                  rw [if_pos ⟨by omega, by omega⟩]
          refine J_bipush (v := nI 16) C (dA DX7_odds_0 15 rfl) (by decide) ?_
          refine J_aload_n C (dA DX7_odds_0 16 rfl) rfl ?_
          refine G_X7_fen C wF_RX7_12 (dA DX7_odds_0 17 rfl) ?_
          refine V_X1_pondsWithSights C (by decide) (c_X1_pondsWithSights l E 0 (by decide) hS) wM_RX7_132 (by decide) (dA DX7_odds_0 18 rfl) rfl (Nat.le_of_ble_eq_true rfl) ?_
          rw [em]
          refine V_J6_bitCount_0f7a4 C (c_J6_bitCount l E m hm) wM_RX7_199 (by decide) (dA DX7_odds_0 19 rfl) rfl (Nat.le_of_ble_eq_true rfl) ?_
          rw [show pcN m = bcN (sightS (vb (fb 0) M)) by rw [em]; unfold bcN; rw [nv_nI (by omega)]]
          refine J_isub_n C hbc (dA DX7_odds_0 20 rfl) ?_
          refine J_ist_3_9 C (dA DX7_odds_0 21 rfl) rfl ?_
          refine J_bipush (v := nI 16) C (dA DX7_odds_0 22 rfl) (by decide) ?_
          refine J_ist_4_9 C (dA DX7_odds_0 23 rfl) rfl ?_
          exact loop 4 _ 16 hc (by decide) (by decide) rfl
        · refine J_aload_n C (dA DX7_odds_0 10 rfl) rfl ?_
          refine J_ldc (v := (-1000001)) C wK_RX7_69 (dA DX7_odds_0 11 rfl) ?_
          refine V_X7_finding C (c_X7_finding l E 0 (by decide) _ (by decide)) wM_RX7_70 (by decide) (dA DX7_odds_0 12 rfl) rfl (Nat.le_of_ble_eq_true rfl) ?_
          refine J_i2l C (dA DX7_odds_0 13 rfl) ?_
          exact J_lret C G (dA DX7_odds_0 14 rfl) ⟨ol (by unfold aOdds; rw [if_neg (by rintro ⟨z1, z2⟩; try have z1 := inr_t z1; try have z2 := inr_t z2; omega)]; rfl), by unfold eOdds; rw [if_neg (by rintro ⟨z1, z2⟩; try have z1 := inr_t z1; try have z2 := inr_t z2; omega)]⟩
set_option maxRecDepth 4000 in
theorem c_X8_odds (l : Launch) (E : jE) (a b : Int32) (hS : IS (vb 1100 M))  : K_X8_odds l E [.ref (ja E 60), .int a, .int b] M (aOdds (vb 1100 M) a b) (eOdds 1502 a b M) := by
  refine CT_intro (own := RX8) (by decide +kernel) rfl (by simp [Value.category]) (Nat.le_of_ble_eq_true rfl) rfl (fun X C G => ?_)
  show J E X 0 [some (.ref (ja E 60)), some (.int a), some (.int b), none, none, none, none, none, none, none, none, none, none] [] M
  refine J_iload_n C (dA DX8_odds_0 0 rfl) rfl ?_
  refine J_iconst (v := nI 0) C (dA DX8_odds_0 1 rfl) (by decide) ?_
  refine J_bipush (v := nI 12) C (dA DX8_odds_0 2 rfl) (by decide) ?_
  refine V_X8_in1 C (c_X8_in1n l E _ _ _ (by omega) (by omega)) wM_RX8_58 (by decide) (dA DX8_odds_0 3 rfl) rfl (Nat.le_of_ble_eq_true rfl) ?_
  refine J_if_eq_b (tgt := 19) C (dA DX8_odds_0 4 rfl) (by decide) (fun h7 => ?_) (fun h7 => ?_)
  · try have g7 := inr_t h7
    try have g7 := inr_f h7
    refine J_aload_n C (dA DX8_odds_0 10 rfl) rfl ?_
    refine J_iconst (v := nI 0) C (dA DX8_odds_0 11 rfl) (by decide) ?_
    refine V_X8_no C (c_X8_no l E 0 (by decide)) wM_RX8_106 (by decide) (dA DX8_odds_0 12 rfl) rfl (Nat.le_of_ble_eq_true rfl) ?_
    refine J_i2l C (dA DX8_odds_0 13 rfl) ?_
    exact J_lret C G (dA DX8_odds_0 14 rfl) ⟨ol (by unfold aOdds; rw [if_neg (by rintro ⟨z1, z2⟩; try have z1 := inr_t z1; try have z2 := inr_t z2; omega)]; rfl), by unfold eOdds; rw [if_neg (by rintro ⟨z1, z2⟩; try have z1 := inr_t z1; try have z2 := inr_t z2; omega)]⟩
  · try have g7 := inr_t h7
    try have g7 := inr_f h7
    refine J_iload_n C (dA DX8_odds_0 5 rfl) rfl ?_
    refine J_iconst (v := nI 0) C (dA DX8_odds_0 6 rfl) (by decide) ?_
    refine J_iconst (v := nI 1) C (dA DX8_odds_0 7 rfl) (by decide) ?_
    refine V_X8_in1 C (c_X8_in1n l E _ _ _ (by omega) (by omega)) wM_RX8_58 (by decide) (dA DX8_odds_0 8 rfl) rfl (Nat.le_of_ble_eq_true rfl) ?_
    refine J_if_ne_b (tgt := 26) C (dA DX8_odds_0 9 rfl) (by decide) (fun h16 => ?_) (fun h16 => ?_)
    · try have g16 := inr_t h16
      try have g16 := inr_f h16
      obtain ⟨n, hn, rfl⟩ := toNI (x := a) (n := 13) (by omega) (by omega)
      obtain ⟨w, hw, rfl⟩ := toNI (x := b) (n := 2) (by omega) (by omega)
      have ta := tI (n := n) (by omega)
      have tb := tI (n := w) (by omega)
      have na : nv (nI n) = n := nv_nI (by omega)
      have nb : nv (nI w) = w := nv_nI (by omega)
      have pos : inr (nI n) 0 12 = true ∧ inr (nI w) 0 1 = true := ⟨decide_eq_true (by omega), decide_eq_true (by omega)⟩
      have hc := abC_le (vb 1100 M)
      have hbc := bcN_le (s16_sight (vb 1100 M))
      obtain ⟨m, hm, em⟩ := s16_sight (vb 1100 M)
      have p16 : 16 ^ n ≤ 281474976710656 := pw_le (Nat.le_refl 16) (by omega)
      have pc0 : (abC (vb 1100 M)) ^ n ≤ 281474976710656 := pw_le hc (by omega)
      have hg0 : 0 < odG (abC (vb 1100 M)) n := Nat.gcd_pos_of_pos_right _ (Nat.pow_pos (by decide))
      have hg1 : odG (abC (vb 1100 M)) n ≤ 281474976710656 := Nat.le_trans (Nat.gcd_le_right _ (Nat.pow_pos (by decide))) p16
      have last : ∀ (x : Int64) (o1 o2 : Option Value), J E X 102 [some (.ref (ja E 60)), some (.int (nI n)), some (.int (nI w)), some (.long (lN ((abC (vb 1100 M)) ^ n))), none, some (.long (lN (16 ^ n))), none, some (.long (lN (odG (abC (vb 1100 M)) n))), none, some (.long x), none, o1, o2] [] M := by
        intro x o1 o2
        refine J_iload_n C (dA DX8_odds_0 57 rfl) rfl ?_
        refine J_if_ne_n (tgt := 113) C (by omega) (dA DX8_odds_0 58 rfl) (by decide) (fun h103 => ?_) (fun h103 => ?_)
        · refine J_lload C (dA DX8_odds_0 63 rfl) rfl ?_
          refine J_lload C (dA DX8_odds_0 64 rfl) rfl ?_
          refine J_ldiv_n C (by omega) hg0 (by omega) (dA DX8_odds_0 65 rfl) ?_
          exact J_lret C G (dA DX8_odds_0 66 rfl) ⟨ol (by unfold aOdds; rw [if_pos pos, na, nb]; unfold vOdds; rw [if_neg h103]), by unfold eOdds; rw [if_pos pos]⟩
        · refine J_lload_n C (dA DX8_odds_0 59 rfl) rfl ?_
          refine J_lload C (dA DX8_odds_0 60 rfl) rfl ?_
          refine J_ldiv_n C (by omega) hg0 (by omega) (dA DX8_odds_0 61 rfl) ?_
          refine J_goto (tgt := 118) C (dA DX8_odds_0 62 rfl) (by decide) ?_
          exact J_lret C G (dA DX8_odds_0 66 rfl) ⟨ol (by unfold aOdds; rw [if_pos pos, na, nb]; unfold vOdds; rw [if_pos h103]), by unfold eOdds; rw [if_pos pos]⟩
      have gloop : ∀ f y x, y ≤ f → x ≤ 281474976710656 → y ≤ 281474976710656 → Nat.gcd x y = odG (abC (vb 1100 M)) n → ∀ o1 o2 : Option Value, J E X 77 [some (.ref (ja E 60)), some (.int (nI n)), some (.int (nI w)), some (.long (lN ((abC (vb 1100 M)) ^ n))), none, some (.long (lN (16 ^ n))), none, some (.long (lN x)), none, some (.long (lN y)), none, o1, o2] [] M := by
        intro f
        induction f with
        | zero =>
          intro y x hf hx hy hg o1 o2
          have hf : y ≤ 0 := hf
          obtain rfl : y = 0 := by omega
          rw [Nat.gcd_zero_right] at hg
          rw [hg]
          refine J_lload C (dA DX8_odds_0 44 rfl) rfl ?_
          refine J_lconst (v := lN 0) C (dA DX8_odds_0 45 rfl) (by decide) ?_
          refine J_lcmp C (dA DX8_odds_0 46 rfl) ?_
          rw [show lg_cmp (lN 0) (lN 0) = nI 0 by decide +kernel]
          refine J_if_eq_n (tgt := 102) C (by decide) (dA DX8_odds_0 47 rfl) (by decide) (fun h81 => ?_) (fun h81 => ?_)
          · exact last _ o1 o2
          · exact absurd rfl h81
        | succ f ih =>
          intro y x hf hx hy hg o1 o2
          have hf : y ≤ f + 1 := hf
          have hcm : 0 < y → lg_cmp (lN y) (lN 0) = nI 1 := fun h0 => by
            unfold lg_cmp
            rw [if_pos (show lN y > lN 0 from (pk_lLT (by decide) (by omega)).mpr h0)]
            rfl
          rcases Nat.eq_zero_or_pos y with h0 | h0
          · subst h0
            exact ih 0 x (by omega) hx hy hg o1 o2
          · have hmod := Nat.mod_lt x h0
            refine J_lload C (dA DX8_odds_0 44 rfl) rfl ?_
            refine J_lconst (v := lN 0) C (dA DX8_odds_0 45 rfl) (by decide) ?_
            refine J_lcmp C (dA DX8_odds_0 46 rfl) ?_
            rw [hcm h0]
            refine J_if_eq_n (tgt := 102) C (by decide) (dA DX8_odds_0 47 rfl) (by decide) (fun h81 => ?_) (fun h81 => ?_)
            · exact absurd h81 (by decide)
            · refine J_lload C (dA DX8_odds_0 48 rfl) rfl ?_
              refine J_lload C (dA DX8_odds_0 49 rfl) rfl ?_
              refine J_lrem_n C (by omega) h0 (by omega) (dA DX8_odds_0 50 rfl) ?_
              refine J_lstore C (dA DX8_odds_0 51 rfl) rfl (Nat.le_of_ble_eq_true rfl) ?_
              refine J_lload C (dA DX8_odds_0 52 rfl) rfl ?_
              refine J_lstore C (dA DX8_odds_0 53 rfl) rfl (Nat.le_of_ble_eq_true rfl) ?_
              refine J_lload C (dA DX8_odds_0 54 rfl) rfl ?_
              refine J_lstore C (dA DX8_odds_0 55 rfl) rfl (Nat.le_of_ble_eq_true rfl) ?_
              refine J_goto (tgt := 77) C (dA DX8_odds_0 56 rfl) (by decide) ?_
              exact ih (x % y) y (by omega) hy (by omega) (by rw [← gcd_s]; exact hg) _ _
      have loop : ∀ k i (o8 o9 o10 o11 o12 : Option Value), i + k = n → J E X 34 [some (.ref (ja E 60)), some (.int (nI n)), some (.int (nI w)), some (.long (lN ((abC (vb 1100 M)) ^ i))), none, some (.long (lN (16 ^ i))), none, some (.int (nI i)), o8, o9, o10, o11, o12] [] M := by
        intro k
        induction k with
        | zero =>
          intro i o8 o9 o10 o11 o12 hi
          obtain rfl : n = i := by omega
          refine J_iload C (dA DX8_odds_0 21 rfl) rfl ?_
          refine J_iload_n C (dA DX8_odds_0 22 rfl) rfl ?_
          refine J_icmp_ge_n (tgt := 70) C (by omega) (by omega) (dA DX8_odds_0 23 rfl) (by decide) (fun h37 => ?_) (fun h37 => ?_)
          · refine J_lload_n C (dA DX8_odds_0 40 rfl) rfl ?_
            refine J_lstore C (dA DX8_odds_0 41 rfl) rfl (Nat.le_of_ble_eq_true rfl) ?_
            refine J_lload C (dA DX8_odds_0 42 rfl) rfl ?_
            refine J_lstore C (dA DX8_odds_0 43 rfl) rfl (Nat.le_of_ble_eq_true rfl) ?_
            exact gloop _ _ _ (Nat.le_refl _) (pw_le hc (by omega)) p16 rfl _ _
          · exfalso; omega
        | succ k ih =>
          intro i o8 o9 o10 o11 o12 hi
          refine J_iload C (dA DX8_odds_0 21 rfl) rfl ?_
          refine J_iload_n C (dA DX8_odds_0 22 rfl) rfl ?_
          refine J_icmp_ge_n (tgt := 70) C (by omega) (by omega) (dA DX8_odds_0 23 rfl) (by decide) (fun h37 => ?_) (fun h37 => ?_)
          · exfalso; omega
          · refine J_lload_n C (dA DX8_odds_0 24 rfl) rfl ?_
            refine J_ldc2 (v := lN 16) C wKL_RX8_201 (dA DX8_odds_0 25 rfl) ?_
            refine J_aload_n C (dA DX8_odds_0 26 rfl) rfl ?_
            refine J_iconst (v := nI 1) C (dA DX8_odds_0 27 rfl) (by decide) ?_
            refine V_X8_pondsWith C (c_X8_pondsWith_t l E hS) wM_RX8_122 (by decide) (dA DX8_odds_0 28 rfl) rfl (Nat.le_of_ble_eq_true rfl) ?_
            rw [em]
            refine V_X8_bits C (c_X8_bits l E m hm) wM_RX8_159 (by decide) (dA DX8_odds_0 29 rfl) rfl (Nat.le_of_ble_eq_true rfl) ?_
            rw [show pcN m = bcN (sightS (vb 1100 M)) by rw [em]; unfold bcN; rw [nv_nI (by omega)]]
            refine J_i2l_n C (by omega) (dA DX8_odds_0 30 rfl) ?_
            refine J_lsub_n C hbc (dA DX8_odds_0 31 rfl) ?_
            refine J_lmul_n C (dA DX8_odds_0 32 rfl) ?_
            refine J_lstore_n C (dA DX8_odds_0 33 rfl) rfl (Nat.le_of_ble_eq_true rfl) ?_
            refine J_lload C (dA DX8_odds_0 34 rfl) rfl ?_
            refine J_ldc2 (v := lN 16) C wKL_RX8_201 (dA DX8_odds_0 35 rfl) ?_
            refine J_lmul_n C (dA DX8_odds_0 36 rfl) ?_
            refine J_lstore C (dA DX8_odds_0 37 rfl) rfl (Nat.le_of_ble_eq_true rfl) ?_
            first | refine J_inc1_7_13 C (dA DX8_odds_0 38 rfl) rfl ?_ | refine J_iinc_7_13 C (dA DX8_odds_0 38 rfl) rfl ?_
            refine J_goto (tgt := 34) C (dA DX8_odds_0 39 rfl) (by decide) ?_
            have h := ih (i + 1) o8 o9 o10 o11 o12 (by omega)
            rw [Nat.pow_succ, Nat.pow_succ] at h
            exact h
      refine J_lconst (v := lN 1) C (dA DX8_odds_0 15 rfl) (by decide) ?_
      refine J_lstore_n C (dA DX8_odds_0 16 rfl) rfl (Nat.le_of_ble_eq_true rfl) ?_
      refine J_lconst (v := lN 1) C (dA DX8_odds_0 17 rfl) (by decide) ?_
      refine J_lstore C (dA DX8_odds_0 18 rfl) rfl (Nat.le_of_ble_eq_true rfl) ?_
      refine J_iconst (v := nI 0) C (dA DX8_odds_0 19 rfl) (by decide) ?_
      refine J_ist_7_13 C (dA DX8_odds_0 20 rfl) rfl ?_
      exact loop n 0 none none none none none (Nat.zero_add _)
    · try have g16 := inr_t h16
      try have g16 := inr_f h16
      refine J_aload_n C (dA DX8_odds_0 10 rfl) rfl ?_
      refine J_iconst (v := nI 0) C (dA DX8_odds_0 11 rfl) (by decide) ?_
      refine V_X8_no C (c_X8_no l E 0 (by decide)) wM_RX8_106 (by decide) (dA DX8_odds_0 12 rfl) rfl (Nat.le_of_ble_eq_true rfl) ?_
      refine J_i2l C (dA DX8_odds_0 13 rfl) ?_
      exact J_lret C G (dA DX8_odds_0 14 rfl) ⟨ol (by unfold aOdds; rw [if_neg (by rintro ⟨z1, z2⟩; try have z1 := inr_t z1; try have z2 := inr_t z2; omega)]; rfl), by unfold eOdds; rw [if_neg (by rintro ⟨z1, z2⟩; try have z1 := inr_t z1; try have z2 := inr_t z2; omega)]⟩
end PA
