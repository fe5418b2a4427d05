theorem addS_u1 {S : Nat → Int32} {a p q v : Nat} (hN : iN S < 8) : upd (addS S a p q) (100 + 3 * iN S + 1) (nI v) = addS S a v q := by
  funext x
  unfold addS upd
  by_cases h1 : x = 1
  · subst h1; simp
  · by_cases h2 : x = 100 + 3 * iN S + 2
    · subst h2; simp
    · by_cases h3 : x = 100 + 3 * iN S + 1
      · subst h3; simp
      · simp [h1, h2, h3]
theorem addS_u2 {S : Nat → Int32} {a p q v : Nat} (hN : iN S < 8) : upd (addS S a p q) (100 + 3 * iN S + 2) (nI v) = addS S a p v := by
  funext x
  unfold addS upd
  by_cases h1 : x = 1
  · subst h1; simp
  · by_cases h2 : x = 100 + 3 * iN S + 2
    · subst h2; simp
    · simp [h1, h2]
theorem trN_t {c : Bool} {g : Nat → Int32} {n p : Nat} {q : pT} {w : Nat} (h : (trN c g n p q w).1 = false) : ∀ d, trN c g n p q (w + d) = trN c g n p q w
  | 0 => rfl
  | d + 1 => by
    show trS c g n p (w + d) (trN c g n p q (w + d)) = _
    rw [trN_t h d]
    unfold trS
    rw [if_neg (fun z => by rw [h] at z; exact ff z.1)]
theorem num_self {g : Nat → Int32} {n k p : Nat} (hp : p < 16) : numB g n k 0 15 (nI p) = true ↔ numB g n k 0 15 (-1) = true ∧ ¬ tV g n k = p := by
  have hv : tV g n k ≤ 1000 := oV_le _ _ _
  unfold numB
  rw [decide_eq_true_iff, decide_eq_true_iff, nI_eq (by omega) (by omega)]
  constructor
  · rintro ⟨h1, h2, h3, h4⟩
    exact ⟨⟨h1, h2, h3, fun z => absurd (show nI (tV g n k) < 0 by rw [z]; decide) (nI_pos (by omega))⟩, h4⟩
  · rintro ⟨⟨h1, h2, h3, -⟩, h4⟩
    exact ⟨h1, h2, h3, h4⟩
section PA
variable {M m : jM} {g : Nat → Int32} {n : Nat} {S : Nat → Int32}
set_option maxRecDepth 4000 in
theorem c_X8_readsThing (l : Launch) (E : jE) (hB : RB g n m) (k : Nat) (hk : k ≤ tK g n) (h1 : tS g n k = 1) (h7 : tV g n k < 7) (hS : IS S)  : K_X8_readsThing l E [.ref (ja E 60), .int (nI (tV g n k))] (rr g n m k S) (jb (pThing false g n k S).1) (rr g n m (pThing false g n k S).2.1 (pThing false g n k S).2.2) := by
  refine CT_intro (own := RX8) (by decide +kernel) rfl (by simp [Value.category]) (Nat.le_of_ble_eq_true rfl) rfl (fun X C G => ?_)
  show J E X 0 [some (.ref (ja E 60)), some (.int (nI (tV g n k))), none, none, none] [] (rr g n m k S)
  have hv : ∀ (k : Nat) (T : Nat → Int32), Can T → vb 1100 (rr g n m k T) = T := fun k T hT => rr_vb hT
  have hI : ∀ (k : Nat) (T : Nat → Int32), IS T → IS (vb 1100 (rr g n m k T)) := fun k T hT => by rw [hv k T hT.1]; exact hT
  have hN := leN hS
  have hn := hB.1
  have two : ∀ (k2 : Nat) (T : Nat → Int32) (o4 : Option Value), pThing false g n k S = (true, k2, T) → J E X 32 [some (.ref (ja E 60)), some (.int (nI (tV g n k))), some (.int (nI (iN S))), some (.int (nI 2)), o4] [] (rr g n m k2 T) := by
    intro k2 T o4 hq
    refine J_iload_n C (dA DX8_readsThing_0 21 rfl) rfl ?_
    refine J_iconst (v := nI 2) C (dA DX8_readsThing_0 22 rfl) (by decide) ?_
    refine J_icmp_ge_n (tgt := 94) C (by decide) (by decide) (dA DX8_readsThing_0 23 rfl) (by decide) (fun h34 => ?_) (fun h34 => ?_)
    · refine J_iconst (v := nI 1) C (dA DX8_readsThing_0 54 rfl) (by decide) ?_
      exact J_zret C G rfl (dA DX8_readsThing_0 55 rfl) ⟨oi (by rw [hq]; rfl), by rw [hq]⟩
    · exact absurd h34 (by decide)
  have one : ∀ (r : Bool × Nat × Nat) (o4 : Option Value), ¬ iN S = 8 → thI g n k = r → r.1 = true → r.2.1 ≤ tK g n → r.2.2 ≤ 15 → (∀ a b c d : Int32, jok [some (.ref (ja E 60)), some (.int a), some (.int b), some (.int c), o4] 4 = true) → J E X 32 [some (.ref (ja E 60)), some (.int (nI (tV g n k))), some (.int (nI (iN S))), some (.int (nI 1)), o4] [] (rr g n m r.2.1 (addS S (tV g n k) r.2.2 9)) := by
    intro r o4 h8 hr hr1 hrk hrp k4
    have hpt : pThing false g n k S = ((thL false g n r).1, (thL false g n r).2.1, addS S (tV g n k) r.2.2 (thL false g n r).2.2) := by
      unfold pThing
      rw [if_neg h8, hr]
    have hA := (IS_add hS (by omega) (show tV g n k ≤ 6 by omega) hrp (show 9 ≤ 99 by decide)).1
    have hwi := wIx_w (g := g) (n := n) (k := r.2.1) (w0 := 13) (c := 2) (w := 1) (by decide) (by decide)
    refine J_iload_n C (dA DX8_readsThing_0 21 rfl) rfl ?_
    refine J_iconst (v := nI 2) C (dA DX8_readsThing_0 22 rfl) (by decide) ?_
    refine J_icmp_ge_n (tgt := 94) C (by decide) (by decide) (dA DX8_readsThing_0 23 rfl) (by decide) (fun h34 => ?_) (fun h34 => ?_)
    · exact absurd h34 (by decide)
    · refine J_aload_n C (dA DX8_readsThing_0 24 rfl) rfl ?_
      refine J_aload_n C (dA DX8_readsThing_0 25 rfl) rfl ?_
      refine G_X8_more C wF_RX8_32 (dA DX8_readsThing_0 26 rfl) ?_
      refine V_X8_wordOf C (c_wd72 l E hB r.2.1) wM_RX8_240 (by decide) (dA DX8_readsThing_0 27 rfl) rfl (Nat.le_of_ble_eq_true rfl) ?_
      refine J_iload_n C (dA DX8_readsThing_0 28 rfl) rfl ?_
      refine J_icmp_ne (tgt := 88) C (dA DX8_readsThing_0 29 rfl) (by decide) (fun h46 => ?_) (fun h46 => ?_)
      · first | refine J_inc1_3_5 C (dA DX8_readsThing_0 52 rfl) rfl ?_ | refine J_iinc_3_5 C (dA DX8_readsThing_0 52 rfl) rfl ?_
        refine J_goto (tgt := 32) C (dA DX8_readsThing_0 53 rfl) (by decide) ?_
        have e : thL false g n r = (true, r.2.1, 9) := by unfold thL; rw [if_neg (fun z => h46 (hwi.mpr z.2)), hr1]
        rw [e] at hpt
        exact two _ _ _ hpt
      · refine J_aload_n C (dA DX8_readsThing_0 30 rfl) rfl ?_
        refine V_X8_nextToken C (c_nt l E hB r.2.1) wM_RX8_237 (by decide) (dA DX8_readsThing_0 31 rfl) rfl (Nat.le_of_ble_eq_true rfl) ?_
        refine J_aload_n C (dA DX8_readsThing_0 32 rfl) rfl ?_
        refine J_iload_n C (dA DX8_readsThing_0 33 rfl) rfl ?_
        refine J_iload_n C (dA DX8_readsThing_0 34 rfl) rfl ?_
        refine J_if_ne_n (tgt := 64) C (by decide) (dA DX8_readsThing_0 35 rfl) (by decide) (fun h56 => ?_) (fun h56 => ?_)
        · refine J_bipush (v := nI 99) C (dA DX8_readsThing_0 38 rfl) (by decide) ?_
          refine V_X8_takesNumber C (c_X8_takesNumber l E hB (r.2.1 + 1) 1 99 (by decide) (by decide)) wM_RX8_244 (by decide) (dA DX8_readsThing_0 39 rfl) rfl (Nat.le_of_ble_eq_true rfl) ?_
          by_cases hb : numB g n (r.2.1 + 1) 1 99 (-1) = true
          · rw [if_pos hb, if_pos hb]
            have e : thL false g n r = (true, r.2.1 + 2, tV g n (r.2.1 + 1)) := by unfold thL; rw [if_pos ⟨hr1, hwi.mp h46⟩, if_pos hb]
            rw [e] at hpt
            have hvl : tV g n (r.2.1 + 1) ≤ 1000 := oV_le _ _ _
            refine J_ist_4_5 C (dA DX8_readsThing_0 40 rfl) (k4 _ _ _ 0) ?_
            refine J_iload C (dA DX8_readsThing_0 41 rfl) rfl ?_
            refine J_if_ge_n (tgt := 78) C (by omega) (dA DX8_readsThing_0 42 rfl) (by decide) (fun h73 => ?_) (fun h73 => ?_)
            · refine J_aload_n C (dA DX8_readsThing_0 45 rfl) rfl ?_
              refine J_iload_n C (dA DX8_readsThing_0 46 rfl) rfl ?_
              refine J_iconst (v := nI 1) C (dA DX8_readsThing_0 47 rfl) (by decide) ?_
              refine J_iload_n C (dA DX8_readsThing_0 48 rfl) rfl ?_
              first | refine J_iadd_n C (dA DX8_readsThing_0 49 rfl) ?_ | refine J_iadd C (dA DX8_readsThing_0 49 rfl) ?_
              refine J_iload C (dA DX8_readsThing_0 50 rfl) rfl ?_
              refine V_X8_puts C (c_X8_puts l E (iN S) 2 (by omega) (by decide) _) wM_RX8_95 (by decide) (dA DX8_readsThing_0 51 rfl) rfl (Nat.le_of_ble_eq_true rfl) ?_
              rw [hv _ _ hA.1, rr_lay, addS_u2 (by omega)]
              first | refine J_inc1_3_5 C (dA DX8_readsThing_0 52 rfl) rfl ?_ | refine J_iinc_3_5 C (dA DX8_readsThing_0 52 rfl) rfl ?_
              refine J_goto (tgt := 32) C (dA DX8_readsThing_0 53 rfl) (by decide) ?_
              exact two _ _ _ hpt
            · exfalso; omega
          · rw [if_neg hb, if_neg hb]
            have e : thL false g n r = (false, r.2.1 + 1, 9) := by unfold thL; rw [if_pos ⟨hr1, hwi.mp h46⟩, if_neg hb]; rfl
            rw [e] at hpt
            refine J_ist_4_5 C (dA DX8_readsThing_0 40 rfl) (k4 _ _ _ 0) ?_
            refine J_iload C (dA DX8_readsThing_0 41 rfl) rfl ?_
            refine J_if_ge (tgt := 78) C (dA DX8_readsThing_0 42 rfl) (by decide) (fun h73 => ?_) (fun h73 => ?_)
            · exact absurd h73 (by decide)
            · refine J_iconst (v := nI 0) C (dA DX8_readsThing_0 43 rfl) (by decide) ?_
              exact J_zret C G rfl (dA DX8_readsThing_0 44 rfl) ⟨oi (by rw [hpt]; rfl), by rw [hpt]⟩
        · exact absurd h56 (by decide)
  have zero : ¬ iN S = 8 → k + 1 ≤ tK g n → J E X 32 [some (.ref (ja E 60)), some (.int (nI (tV g n k))), some (.int (nI (iN S))), some (.int (nI 0)), none] [] (rr g n m (k + 1) (addS S (tV g n k) 0 9)) := by
    intro h8 hk1
    have k4 : ∀ a b c d : Int32, jok [some (.ref (ja E 60)), some (.int a), some (.int b), some (.int c), none] 4 = true := fun _ _ _ _ => rfl
    have hA := (IS_add hS (by omega) (show tV g n k ≤ 6 by omega) (Nat.zero_le 15) (show 9 ≤ 99 by decide)).1
    have hwi := wIx_w (g := g) (n := n) (k := k + 1) (w0 := 13) (c := 2) (w := 0) (by decide) (by decide)
    refine J_iload_n C (dA DX8_readsThing_0 21 rfl) rfl ?_
    refine J_iconst (v := nI 2) C (dA DX8_readsThing_0 22 rfl) (by decide) ?_
    refine J_icmp_ge_n (tgt := 94) C (by decide) (by decide) (dA DX8_readsThing_0 23 rfl) (by decide) (fun h34 => ?_) (fun h34 => ?_)
    · exact absurd h34 (by decide)
    · refine J_aload_n C (dA DX8_readsThing_0 24 rfl) rfl ?_
      refine J_aload_n C (dA DX8_readsThing_0 25 rfl) rfl ?_
      refine G_X8_more C wF_RX8_32 (dA DX8_readsThing_0 26 rfl) ?_
      refine V_X8_wordOf C (c_wd72 l E hB (k + 1)) wM_RX8_240 (by decide) (dA DX8_readsThing_0 27 rfl) rfl (Nat.le_of_ble_eq_true rfl) ?_
      refine J_iload_n C (dA DX8_readsThing_0 28 rfl) rfl ?_
      refine J_icmp_ne (tgt := 88) C (dA DX8_readsThing_0 29 rfl) (by decide) (fun h46 => ?_) (fun h46 => ?_)
      · first | refine J_inc1_3_5 C (dA DX8_readsThing_0 52 rfl) rfl ?_ | refine J_iinc_3_5 C (dA DX8_readsThing_0 52 rfl) rfl ?_
        refine J_goto (tgt := 32) C (dA DX8_readsThing_0 53 rfl) (by decide) ?_
        have e : thI g n k = (true, k + 1, 0) := by unfold thI; rw [if_neg (fun z => h46 (hwi.mpr z))]
        exact one (true, k + 1, 0) _ h8 e rfl hk1 (Nat.zero_le 15) (fun _ _ _ _ => rfl)
      · refine J_aload_n C (dA DX8_readsThing_0 30 rfl) rfl ?_
        have hk2 := hW_s hn hk1 (hwi.mp h46)
        refine V_X8_nextToken C (c_nt l E hB (k + 1)) wM_RX8_237 (by decide) (dA DX8_readsThing_0 31 rfl) rfl (Nat.le_of_ble_eq_true rfl) ?_
        refine J_aload_n C (dA DX8_readsThing_0 32 rfl) rfl ?_
        refine J_iload_n C (dA DX8_readsThing_0 33 rfl) rfl ?_
        refine J_iload_n C (dA DX8_readsThing_0 34 rfl) rfl ?_
        refine J_if_ne_n (tgt := 64) C (by decide) (dA DX8_readsThing_0 35 rfl) (by decide) (fun h56 => ?_) (fun h56 => ?_)
        · exact absurd rfl h56
        · refine J_bipush (v := nI 15) C (dA DX8_readsThing_0 36 rfl) (by decide) ?_
          refine J_goto (tgt := 66) C (dA DX8_readsThing_0 37 rfl) (by decide) ?_
          refine V_X8_takesNumber C (c_X8_takesNumber l E hB (k + 2) 0 15 (by decide) (by decide)) wM_RX8_244 (by decide) (dA DX8_readsThing_0 39 rfl) rfl (Nat.le_of_ble_eq_true rfl) ?_
          by_cases hb : numB g n (k + 2) 0 15 (-1) = true
          · rw [if_pos hb, if_pos hb]
            have e : thI g n k = (true, k + 3, tV g n (k + 2)) := by unfold thI; rw [if_pos (hwi.mp h46), if_pos hb]
            have hvl : tV g n (k + 2) ≤ 15 := (of_decide_eq_true hb).2.2.1
            refine J_ist_4_5 C (dA DX8_readsThing_0 40 rfl) (k4 _ _ _ 0) ?_
            refine J_iload C (dA DX8_readsThing_0 41 rfl) rfl ?_
            refine J_if_ge_n (tgt := 78) C (by omega) (dA DX8_readsThing_0 42 rfl) (by decide) (fun h73 => ?_) (fun h73 => ?_)
            · refine J_aload_n C (dA DX8_readsThing_0 45 rfl) rfl ?_
              refine J_iload_n C (dA DX8_readsThing_0 46 rfl) rfl ?_
              refine J_iconst (v := nI 1) C (dA DX8_readsThing_0 47 rfl) (by decide) ?_
              refine J_iload_n C (dA DX8_readsThing_0 48 rfl) rfl ?_
              first | refine J_iadd_n C (dA DX8_readsThing_0 49 rfl) ?_ | refine J_iadd C (dA DX8_readsThing_0 49 rfl) ?_
              refine J_iload C (dA DX8_readsThing_0 50 rfl) rfl ?_
              refine V_X8_puts C (c_X8_puts l E (iN S) 1 (by omega) (by decide) _) wM_RX8_95 (by decide) (dA DX8_readsThing_0 51 rfl) rfl (Nat.le_of_ble_eq_true rfl) ?_
              rw [hv _ _ hA.1, rr_lay, addS_u1 (by omega)]
              first | refine J_inc1_3_5 C (dA DX8_readsThing_0 52 rfl) rfl ?_ | refine J_iinc_3_5 C (dA DX8_readsThing_0 52 rfl) rfl ?_
              refine J_goto (tgt := 32) C (dA DX8_readsThing_0 53 rfl) (by decide) ?_
              exact one (true, k + 3, tV g n (k + 2)) _ h8 e rfl (numB_s hn hk2 hb) hvl (fun _ _ _ _ => rfl)
            · exfalso; omega
          · rw [if_neg hb, if_neg hb]
            have hpt : pThing false g n k S = (false, k + 2, addS S (tV g n k) 0 9) := by
              unfold pThing thI
              rw [if_neg h8, if_pos (hwi.mp h46), if_neg hb]
              unfold thL
              rw [if_neg (fun z => ff z.1)]
            refine J_ist_4_5 C (dA DX8_readsThing_0 40 rfl) (k4 _ _ _ 0) ?_
            refine J_iload C (dA DX8_readsThing_0 41 rfl) rfl ?_
            refine J_if_ge (tgt := 78) C (dA DX8_readsThing_0 42 rfl) (by decide) (fun h73 => ?_) (fun h73 => ?_)
            · exact absurd h73 (by decide)
            · refine J_iconst (v := nI 0) C (dA DX8_readsThing_0 43 rfl) (by decide) ?_
              exact J_zret C G rfl (dA DX8_readsThing_0 44 rfl) ⟨oi (by rw [hpt]; rfl), by rw [hpt]⟩
  refine J_aload_n C (dA DX8_readsThing_0 0 rfl) rfl ?_
  refine G_X8_s C wF_RX8_9 (dA DX8_readsThing_0 1 rfl) ?_
  refine J_iconst (v := nI 1) C (dA DX8_readsThing_0 2 rfl) (by decide) ?_
  refine Q_s1 C (hI _ _ hS) (dA DX8_readsThing_0 3 rfl) ?_
  rw [hv _ _ hS.1]
  refine J_bipush (v := nI 8) C (dA DX8_readsThing_0 4 rfl) (by decide) ?_
  refine J_icmp_ne_n (tgt := 13) C (by omega) (by decide) (dA DX8_readsThing_0 5 rfl) (by decide) (fun h8 => ?_) (fun h8 => ?_)
  · refine J_aload_n C (dA DX8_readsThing_0 8 rfl) rfl ?_
    refine G_X8_s C wF_RX8_9 (dA DX8_readsThing_0 9 rfl) ?_
    refine J_iconst (v := nI 1) C (dA DX8_readsThing_0 10 rfl) (by decide) ?_
    refine Q_s1 C (hI _ _ hS) (dA DX8_readsThing_0 11 rfl) ?_
    rw [hv _ _ hS.1]
    refine J_ist_2_5 C (dA DX8_readsThing_0 12 rfl) rfl ?_
    refine J_aload_n C (dA DX8_readsThing_0 13 rfl) rfl ?_
    refine J_iload_n C (dA DX8_readsThing_0 14 rfl) rfl ?_
    refine J_iconst (v := nI 0) C (dA DX8_readsThing_0 15 rfl) (by decide) ?_
    refine V_X8_addsThing C (c_X8_addsThing l E (tV g n k) 0 (by omega) (by decide) (by rw [hv _ _ hS.1]; omega) (hI _ _ hS)) wM_RX8_112 (by decide) (dA DX8_readsThing_0 16 rfl) rfl (Nat.le_of_ble_eq_true rfl) ?_
    rw [hv _ _ hS.1, rr_lay]
    refine J_aload_n C (dA DX8_readsThing_0 17 rfl) rfl ?_
    refine V_X8_nextToken C (c_nt l E hB k) wM_RX8_237 (by decide) (dA DX8_readsThing_0 18 rfl) rfl (Nat.le_of_ble_eq_true rfl) ?_
    refine J_iconst (v := nI 0) C (dA DX8_readsThing_0 19 rfl) (by decide) ?_
    refine J_ist_3_5 C (dA DX8_readsThing_0 20 rfl) rfl ?_
    exact zero h8 (tk_s hn hk (by omega))
  · refine J_iconst (v := nI 0) C (dA DX8_readsThing_0 6 rfl) (by decide) ?_
    have hpt : pThing false g n k S = (false, k, S) := by unfold pThing; rw [if_pos h8]
    exact J_zret C G rfl (dA DX8_readsThing_0 7 rfl) ⟨oi (by rw [hpt]; rfl), by rw [hpt]⟩
set_option maxRecDepth 4000 in
theorem c_X8_readsPond (l : Launch) (E : jE) (hB : RB g n m) (k : Nat) (hk : k ≤ tK g n) (hS : IS S)  : K_X8_readsPond l E [.ref (ja E 60)] (rr g n m k S) (jb (pPond false g n k S).1) (rr g n m (pPond false g n k S).2.1 (pPond false g n k S).2.2) := by
  refine CT_intro (own := RX8) (by decide +kernel) rfl (by simp [Value.category]) (Nat.le_of_ble_eq_true rfl) rfl (fun X C G => ?_)
  show J E X 0 [some (.ref (ja E 60)), none, none, none, none] [] (rr g n m k S)
  have hv : ∀ (k : Nat) (T : Nat → Int32), Can T → vb 1100 (rr g n m k T) = T := fun k T hT => rr_vb hT
  have hI : ∀ (k : Nat) (T : Nat → Int32), IS T → IS (vb 1100 (rr g n m k T)) := fun k T hT => by rw [hv k T hT.1]; exact hT
  have hn := hB.1
  have loop : ∀ (p : Nat) (q0 : pT), p < 16 → WQ g n q0 → pPond false g n k S = trN false g n p q0 6 → ∀ j w (o3 o4 : Option Value), w + j = 6 → (trN false g n p q0 w).1 = true → (∀ a b : Int32, jok [some (.ref (ja E 60)), some (.int a), some (.int b), o3, o4] 3 = true) → (∀ a b c : Int32, jok [some (.ref (ja E 60)), some (.int a), some (.int b), some (.int c), o4] 4 = true ∧ jok [some (.ref (ja E 60)), some (.int a), some (.int b), o3, o4] 4 = true) → J E X 16 [some (.ref (ja E 60)), some (.int (nI p)), some (.int (nI w)), o3, o4] [] (rr g n m (trN false g n p q0 w).2.1 (trN false g n p q0 w).2.2) := by
    intro p q0 hp hq0 hr j
    induction j with
    | zero =>
      intro w o3 o4 hw hq1 k3 k4
      obtain rfl : 6 = w := by omega
      refine J_iload_n C (dA DX8_readsPond_0 11 rfl) rfl ?_
      refine J_bipush (v := nI 6) C (dA DX8_readsPond_0 12 rfl) (by decide) ?_
      refine J_icmp_ge_n (tgt := 151) C (by omega) (by omega) (dA DX8_readsPond_0 13 rfl) (by decide) (fun h19 => ?_) (fun h19 => ?_)
      · refine J_iconst (v := nI 1) C (dA DX8_readsPond_0 83 rfl) (by decide) ?_
        exact J_zret C G rfl (dA DX8_readsPond_0 84 rfl) ⟨oi (by rw [hr, hq1]; rfl), by rw [hr]⟩
      · exfalso; omega
    | succ j ih =>
      intro w o3 o4 hw hq1 k3 k4
      have hw6 : w < 6 := by omega
      have hWQ := WQ_trN (c := false) hn hp hq0 w (by omega)
      have hnx : trN false g n p q0 (w + 1) = trS false g n p w (trN false g n p q0 w) := rfl
      have hih := ih (w + 1)
      have hbad : (trS false g n p w (trN false g n p q0 w)).1 = false → pPond false g n k S = trS false g n p w (trN false g n p q0 w) := fun z => by
        rw [hr, ← hnx, show 6 = (w + 1) + j by omega]
        exact trN_t (by rw [hnx]; exact z) j
      rw [hnx] at hih
      have hwi := wIx_w (g := g) (n := n) (k := (trN false g n p q0 w).2.1) (w0 := 7) (c := 6) (w := w) hw6 (by decide)
      generalize (trN false g n p q0 w) = q at hWQ hih hq1 hbad hwi ⊢
      obtain ⟨hqk, hqC, hqI⟩ := hWQ
      have hqI := hqI hq1
      have hpm : ∀ v : Int32, upd q.2.2 (4 + 6 * p + w) v = upd q.2.2 (4 + 6 * p + w) v := fun _ => rfl
      refine J_iload_n C (dA DX8_readsPond_0 11 rfl) rfl ?_
      refine J_bipush (v := nI 6) C (dA DX8_readsPond_0 12 rfl) (by decide) ?_
      refine J_icmp_ge_n (tgt := 151) C (by omega) (by omega) (dA DX8_readsPond_0 13 rfl) (by decide) (fun h19 => ?_) (fun h19 => ?_)
      · exfalso; omega
      · refine J_aload_n C (dA DX8_readsPond_0 14 rfl) rfl ?_
        refine J_aload_n C (dA DX8_readsPond_0 15 rfl) rfl ?_
        refine G_X8_about C wF_RX8_38 (dA DX8_readsPond_0 16 rfl) ?_
        refine V_X8_wordOf C (c_wd74 l E hB q.2.1) wM_RX8_240 (by decide) (dA DX8_readsPond_0 17 rfl) rfl (Nat.le_of_ble_eq_true rfl) ?_
        refine J_iload_n C (dA DX8_readsPond_0 18 rfl) rfl ?_
        refine J_icmp_ne (tgt := 145) C (dA DX8_readsPond_0 19 rfl) (by decide) (fun h31 => ?_) (fun h31 => ?_)
        · first | refine J_inc1_2_5 C (dA DX8_readsPond_0 81 rfl) rfl ?_ | refine J_iinc_2_5 C (dA DX8_readsPond_0 81 rfl) rfl ?_
          refine J_goto (tgt := 16) C (dA DX8_readsPond_0 82 rfl) (by decide) ?_
          have e : trS false g n p w q = q := by unfold trS; rw [if_neg (fun z => h31 (hwi.mpr z.2))]
          rw [e] at hih
          exact hih _ _ (by omega) hq1 k3 k4
        · refine J_aload_n C (dA DX8_readsPond_0 20 rfl) rfl ?_
          refine V_X8_nextToken C (c_nt l E hB q.2.1) wM_RX8_237 (by decide) (dA DX8_readsPond_0 21 rfl) rfl (Nat.le_of_ble_eq_true rfl) ?_
          have e : trS false g n p w q = trY false g n p w q := by unfold trS; rw [if_pos ⟨hq1, hwi.mp h31⟩]
          rw [e] at hih hbad
          have hk1 := hW_s hn hqk (hwi.mp h31)
          clear hwi h31 e hpm hnx
          rcases (show w = 0 ∨ w = 1 ∨ w = 2 ∨ w = 3 ∨ w = 4 ∨ w = 5 by omega) with rfl | rfl | rfl | rfl | rfl | rfl
          · refine J_iload_n C (dA DX8_readsPond_0 22 rfl) rfl ?_
            refine J_if_ne_n (tgt := 64) C (by decide) (dA DX8_readsPond_0 23 rfl) (by decide) (fun h39 => ?_) (fun h39 => ?_)
            · exact absurd rfl h39
            · refine J_aload_n C (dA DX8_readsPond_0 24 rfl) rfl ?_
              refine G_X8_token C wF_RX8_216 (dA DX8_readsPond_0 25 rfl) ?_
              rw [show rr g n m (q.2.1 + 1) q.2.2 1859 = nI (rSS g n (tB g n (q.2.1 + 1))) from t5_t]
              have hrl := rS_le g n (tB g n (q.2.1 + 1))
              have hrv := rV_le g n (tB g n (q.2.1 + 1))
              refine J_iconst (v := nI 2) C (dA DX8_readsPond_0 26 rfl) (by decide) ?_
              refine J_icmp_ne_n (tgt := 64) C (by omega) (by decide) (dA DX8_readsPond_0 27 rfl) (by decide) (fun h47 => ?_) (fun h47 => ?_)
              · refine J_iconst (v := nI 0) C (dA DX8_readsPond_0 36 rfl) (by decide) ?_
                refine J_ist_3_5 C (dA DX8_readsPond_0 37 rfl) (k3 _ _) ?_
                refine J_iload_n C (dA DX8_readsPond_0 38 rfl) rfl ?_
                refine J_iconst (v := nI 3) C (dA DX8_readsPond_0 39 rfl) (by decide) ?_
                refine J_icmp_ne_n (tgt := 75) C (by decide) (by decide) (dA DX8_readsPond_0 40 rfl) (by decide) (fun h68 => ?_) (fun h68 => ?_)
                · refine J_iload_n C (dA DX8_readsPond_0 43 rfl) rfl ?_
                  refine J_if_eq_n (tgt := 83) C (by decide) (dA DX8_readsPond_0 44 rfl) (by decide) (fun h76 => ?_) (fun h76 => ?_)
                  · refine J_aload_n C (dA DX8_readsPond_0 47 rfl) rfl ?_
                    refine J_iload_n C (dA DX8_readsPond_0 48 rfl) rfl ?_
                    refine J_iconst (v := nI 1) C (dA DX8_readsPond_0 49 rfl) (by decide) ?_
                    refine J_icmp_ne_n (tgt := 93) C (by decide) (by decide) (dA DX8_readsPond_0 50 rfl) (by decide) (fun h86 => ?_) (fun h86 => ?_)
                    · refine J_iconst (v := nI 0) C (dA DX8_readsPond_0 53 rfl) (by decide) ?_
                      refine J_iload_n C (dA DX8_readsPond_0 54 rfl) rfl ?_
                      refine J_iconst (v := nI 1) C (dA DX8_readsPond_0 55 rfl) (by decide) ?_
                      refine J_icmp_ne_n (tgt := 104) C (by decide) (by decide) (dA DX8_readsPond_0 56 rfl) (by decide) (fun h96 => ?_) (fun h96 => ?_)
                      · refine J_iload_n C (dA DX8_readsPond_0 59 rfl) rfl ?_
                        refine J_iconst (v := nI 2) C (dA DX8_readsPond_0 60 rfl) (by decide) ?_
                        refine J_icmp_ne_n (tgt := 113) C (by decide) (by decide) (dA DX8_readsPond_0 61 rfl) (by decide) (fun h106 => ?_) (fun h106 => ?_)
                        · refine J_iload_n C (dA DX8_readsPond_0 64 rfl) rfl ?_
                          refine J_iconst (v := nI 5) C (dA DX8_readsPond_0 65 rfl) (by decide) ?_
                          refine J_icmp_ne_n (tgt := 123) C (by decide) (by decide) (dA DX8_readsPond_0 66 rfl) (by decide) (fun h115 => ?_) (fun h115 => ?_)
                          · refine J_bipush (v := nI 15) C (dA DX8_readsPond_0 69 rfl) (by decide) ?_
                            refine V_X8_takesNumber C (c_X8_takesNumber l E hB (q.2.1 + 1) 0 15 (by decide) (by decide)) wM_RX8_244 (by decide) (dA DX8_readsPond_0 70 rfl) rfl (Nat.le_of_ble_eq_true rfl) ?_
                            have hcv : numB g n (q.2.1 + 1) (lo6 0) (mx6 0) (trX 0 p) = true ↔ numB g n (q.2.1 + 1) 0 15 (-1) = true := by
                              rw [show numB g n (q.2.1 + 1) (lo6 0) (mx6 0) (trX 0 p) = numB g n (q.2.1 + 1) 0 15 (nI p) from rfl, num_self hp]
                              refine ⟨fun z => z.1, fun z => ⟨z, fun y => ?_⟩⟩
                              have z2 := (num_iff (g := g) (n := n) (k := q.2.1 + 1) (lo := 0) (hi := 15) (x := -1) (by decide) rfl).mp z
                              have z3 := (num_v z2.1).2.2
                              have z4 : rVV g n (tB g n (q.2.1 + 1)) = p := z3.symm.trans y
                              exact h47 z2.1
                            by_cases hb : numB g n (q.2.1 + 1) 0 15 (-1) = true
                            · rw [if_pos hb, if_pos hb]
                              have e3 : trY false g n p 0 q = (true, q.2.1 + 2, upd q.2.2 (4 + 6 * p + 0) (nI (tV g n (q.2.1 + 1)))) := by unfold trY; rw [if_neg (by decide), if_pos (hcv.mpr hb)]
                              rw [e3] at hih
                              have hvl : tV g n (q.2.1 + 1) ≤ 1000 := oV_le _ _ _
                              refine J_ist_4_5 C (dA DX8_readsPond_0 71 rfl) (k4 _ _ _).1 ?_
                              refine J_iload C (dA DX8_readsPond_0 72 rfl) rfl ?_
                              refine J_if_ge_n (tgt := 137) C (by omega) (dA DX8_readsPond_0 73 rfl) (by decide) (fun h132 => ?_) (fun h132 => ?_)
                              · refine J_aload_n C (dA DX8_readsPond_0 76 rfl) rfl ?_
                                refine J_iload_n C (dA DX8_readsPond_0 77 rfl) rfl ?_
                                refine J_iload_n C (dA DX8_readsPond_0 78 rfl) rfl ?_
                                refine J_iload C (dA DX8_readsPond_0 79 rfl) rfl ?_
                                refine V_X8_lays1 C (c_X8_lays1 l E p 0 hp (by decide) _) wM_RX8_53 (by decide) (dA DX8_readsPond_0 80 rfl) rfl (Nat.le_of_ble_eq_true rfl) ?_
                                rw [hv _ _ hqC, rr_lay]
                                first | refine J_inc1_2_5 C (dA DX8_readsPond_0 81 rfl) rfl ?_ | refine J_iinc_2_5 C (dA DX8_readsPond_0 81 rfl) rfl ?_
                                refine J_goto (tgt := 16) C (dA DX8_readsPond_0 82 rfl) (by decide) ?_
                                exact hih _ _ (by omega) rfl (fun _ _ => rfl) (fun _ _ _ => ⟨rfl, rfl⟩)
                              · exfalso; omega
                            · rw [if_neg hb, if_neg hb]
                              have e3 : trY false g n p 0 q = (false, q.2.1 + 1, q.2.2) := by unfold trY; rw [if_neg (by decide), if_neg (fun z => hb (hcv.mp z))]; rfl
                              rw [e3] at hbad
                              refine J_ist_4_5 C (dA DX8_readsPond_0 71 rfl) (k4 _ _ _).1 ?_
                              refine J_iload C (dA DX8_readsPond_0 72 rfl) rfl ?_
                              refine J_if_ge (tgt := 137) C (dA DX8_readsPond_0 73 rfl) (by decide) (fun h132 => ?_) (fun h132 => ?_)
                              · exact absurd h132 (by decide)
                              · refine J_iconst (v := nI 0) C (dA DX8_readsPond_0 74 rfl) (by decide) ?_
                                exact J_zret C G rfl (dA DX8_readsPond_0 75 rfl) ⟨oi (by rw [hbad rfl]; rfl), by rw [hbad rfl]⟩
                          · exact absurd h115 (by decide)
                        · exact absurd h106 (by decide)
                      · exact absurd h96 (by decide)
                    · exact absurd h86 (by decide)
                  · exact absurd rfl h76
                · exact absurd h68 (by decide)
              · refine J_aload_n C (dA DX8_readsPond_0 28 rfl) rfl ?_
                refine G_X8_value C wF_RX8_212 (dA DX8_readsPond_0 29 rfl) ?_
                rw [show jmk (rr g n m (q.2.1 + 1) q.2.2 2006) (rr g n m (q.2.1 + 1) q.2.2 2007) = lN (rVV g n (tB g n (q.2.1 + 1))) from t5_v]
                refine J_iload_n C (dA DX8_readsPond_0 30 rfl) rfl ?_
                refine J_i2l_n C (by omega) (dA DX8_readsPond_0 31 rfl) ?_
                refine J_lcmp C (dA DX8_readsPond_0 32 rfl) ?_
                refine J_if_ne (tgt := 64) C (dA DX8_readsPond_0 33 rfl) (by decide) (fun h57 => ?_) (fun h57 => ?_)
                · refine J_iconst (v := nI 0) C (dA DX8_readsPond_0 36 rfl) (by decide) ?_
                  refine J_ist_3_5 C (dA DX8_readsPond_0 37 rfl) (k3 _ _) ?_
                  refine J_iload_n C (dA DX8_readsPond_0 38 rfl) rfl ?_
                  refine J_iconst (v := nI 3) C (dA DX8_readsPond_0 39 rfl) (by decide) ?_
                  refine J_icmp_ne_n (tgt := 75) C (by decide) (by decide) (dA DX8_readsPond_0 40 rfl) (by decide) (fun h68 => ?_) (fun h68 => ?_)
                  · refine J_iload_n C (dA DX8_readsPond_0 43 rfl) rfl ?_
                    refine J_if_eq_n (tgt := 83) C (by decide) (dA DX8_readsPond_0 44 rfl) (by decide) (fun h76 => ?_) (fun h76 => ?_)
                    · refine J_aload_n C (dA DX8_readsPond_0 47 rfl) rfl ?_
                      refine J_iload_n C (dA DX8_readsPond_0 48 rfl) rfl ?_
                      refine J_iconst (v := nI 1) C (dA DX8_readsPond_0 49 rfl) (by decide) ?_
                      refine J_icmp_ne_n (tgt := 93) C (by decide) (by decide) (dA DX8_readsPond_0 50 rfl) (by decide) (fun h86 => ?_) (fun h86 => ?_)
                      · refine J_iconst (v := nI 0) C (dA DX8_readsPond_0 53 rfl) (by decide) ?_
                        refine J_iload_n C (dA DX8_readsPond_0 54 rfl) rfl ?_
                        refine J_iconst (v := nI 1) C (dA DX8_readsPond_0 55 rfl) (by decide) ?_
                        refine J_icmp_ne_n (tgt := 104) C (by decide) (by decide) (dA DX8_readsPond_0 56 rfl) (by decide) (fun h96 => ?_) (fun h96 => ?_)
                        · refine J_iload_n C (dA DX8_readsPond_0 59 rfl) rfl ?_
                          refine J_iconst (v := nI 2) C (dA DX8_readsPond_0 60 rfl) (by decide) ?_
                          refine J_icmp_ne_n (tgt := 113) C (by decide) (by decide) (dA DX8_readsPond_0 61 rfl) (by decide) (fun h106 => ?_) (fun h106 => ?_)
                          · refine J_iload_n C (dA DX8_readsPond_0 64 rfl) rfl ?_
                            refine J_iconst (v := nI 5) C (dA DX8_readsPond_0 65 rfl) (by decide) ?_
                            refine J_icmp_ne_n (tgt := 123) C (by decide) (by decide) (dA DX8_readsPond_0 66 rfl) (by decide) (fun h115 => ?_) (fun h115 => ?_)
                            · refine J_bipush (v := nI 15) C (dA DX8_readsPond_0 69 rfl) (by decide) ?_
                              refine V_X8_takesNumber C (c_X8_takesNumber l E hB (q.2.1 + 1) 0 15 (by decide) (by decide)) wM_RX8_244 (by decide) (dA DX8_readsPond_0 70 rfl) rfl (Nat.le_of_ble_eq_true rfl) ?_
                              have hcv : numB g n (q.2.1 + 1) (lo6 0) (mx6 0) (trX 0 p) = true ↔ numB g n (q.2.1 + 1) 0 15 (-1) = true := by
                                rw [show numB g n (q.2.1 + 1) (lo6 0) (mx6 0) (trX 0 p) = numB g n (q.2.1 + 1) 0 15 (nI p) from rfl, num_self hp]
                                refine ⟨fun z => z.1, fun z => ⟨z, fun y => ?_⟩⟩
                                have z2 := (num_iff (g := g) (n := n) (k := q.2.1 + 1) (lo := 0) (hi := 15) (x := -1) (by decide) rfl).mp z
                                have z3 := (num_v z2.1).2.2
                                have z4 : rVV g n (tB g n (q.2.1 + 1)) = p := z3.symm.trans y
                                exact h57 ((lg_cmp_eq _ _).mpr (by rw [z4]))
                              by_cases hb : numB g n (q.2.1 + 1) 0 15 (-1) = true
                              · rw [if_pos hb, if_pos hb]
                                have e3 : trY false g n p 0 q = (true, q.2.1 + 2, upd q.2.2 (4 + 6 * p + 0) (nI (tV g n (q.2.1 + 1)))) := by unfold trY; rw [if_neg (by decide), if_pos (hcv.mpr hb)]
                                rw [e3] at hih
                                have hvl : tV g n (q.2.1 + 1) ≤ 1000 := oV_le _ _ _
                                refine J_ist_4_5 C (dA DX8_readsPond_0 71 rfl) (k4 _ _ _).1 ?_
                                refine J_iload C (dA DX8_readsPond_0 72 rfl) rfl ?_
                                refine J_if_ge_n (tgt := 137) C (by omega) (dA DX8_readsPond_0 73 rfl) (by decide) (fun h132 => ?_) (fun h132 => ?_)
                                · refine J_aload_n C (dA DX8_readsPond_0 76 rfl) rfl ?_
                                  refine J_iload_n C (dA DX8_readsPond_0 77 rfl) rfl ?_
                                  refine J_iload_n C (dA DX8_readsPond_0 78 rfl) rfl ?_
                                  refine J_iload C (dA DX8_readsPond_0 79 rfl) rfl ?_
                                  refine V_X8_lays1 C (c_X8_lays1 l E p 0 hp (by decide) _) wM_RX8_53 (by decide) (dA DX8_readsPond_0 80 rfl) rfl (Nat.le_of_ble_eq_true rfl) ?_
                                  rw [hv _ _ hqC, rr_lay]
                                  first | refine J_inc1_2_5 C (dA DX8_readsPond_0 81 rfl) rfl ?_ | refine J_iinc_2_5 C (dA DX8_readsPond_0 81 rfl) rfl ?_
                                  refine J_goto (tgt := 16) C (dA DX8_readsPond_0 82 rfl) (by decide) ?_
                                  exact hih _ _ (by omega) rfl (fun _ _ => rfl) (fun _ _ _ => ⟨rfl, rfl⟩)
                                · exfalso; omega
                              · rw [if_neg hb, if_neg hb]
                                have e3 : trY false g n p 0 q = (false, q.2.1 + 1, q.2.2) := by unfold trY; rw [if_neg (by decide), if_neg (fun z => hb (hcv.mp z))]; rfl
                                rw [e3] at hbad
                                refine J_ist_4_5 C (dA DX8_readsPond_0 71 rfl) (k4 _ _ _).1 ?_
                                refine J_iload C (dA DX8_readsPond_0 72 rfl) rfl ?_
                                refine J_if_ge (tgt := 137) C (dA DX8_readsPond_0 73 rfl) (by decide) (fun h132 => ?_) (fun h132 => ?_)
                                · exact absurd h132 (by decide)
                                · refine J_iconst (v := nI 0) C (dA DX8_readsPond_0 74 rfl) (by decide) ?_
                                  exact J_zret C G rfl (dA DX8_readsPond_0 75 rfl) ⟨oi (by rw [hbad rfl]; rfl), by rw [hbad rfl]⟩
                            · exact absurd h115 (by decide)
                          · exact absurd h106 (by decide)
                        · exact absurd h96 (by decide)
                      · exact absurd h86 (by decide)
                    · exact absurd rfl h76
                  · exact absurd h68 (by decide)
                · refine J_iconst (v := nI 1) C (dA DX8_readsPond_0 34 rfl) (by decide) ?_
                  refine J_goto (tgt := 65) C (dA DX8_readsPond_0 35 rfl) (by decide) ?_
                  refine J_ist_3_5 C (dA DX8_readsPond_0 37 rfl) (k3 _ _) ?_
                  refine J_iload_n C (dA DX8_readsPond_0 38 rfl) rfl ?_
                  refine J_iconst (v := nI 3) C (dA DX8_readsPond_0 39 rfl) (by decide) ?_
                  refine J_icmp_ne_n (tgt := 75) C (by decide) (by decide) (dA DX8_readsPond_0 40 rfl) (by decide) (fun h68 => ?_) (fun h68 => ?_)
                  · refine J_iload_n C (dA DX8_readsPond_0 43 rfl) rfl ?_
                    refine J_if_eq_n (tgt := 83) C (by decide) (dA DX8_readsPond_0 44 rfl) (by decide) (fun h76 => ?_) (fun h76 => ?_)
                    · exact absurd h76 (by decide)
                    · refine J_iconst (v := (-1)) C (dA DX8_readsPond_0 45 rfl) (by decide) ?_
                      refine J_goto (tgt := 128) C (dA DX8_readsPond_0 46 rfl) (by decide) ?_
                      have hself : rVV g n (tB g n (q.2.1 + 1)) = p := (pk_lEQ (by omega) (by omega)).mp ((lg_cmp_eq _ _).mp h57)
                      have hnb : ¬ numB g n (q.2.1 + 1) (lo6 0) (mx6 0) (trX 0 p) = true := fun z => by
                        have z2 := (num_self (g := g) (n := n) (k := q.2.1 + 1) hp).mp z
                        exact z2.2 ((num_v h47).2.2.trans hself)
                      have e3 : trY false g n p 0 q = (false, q.2.1 + 1, q.2.2) := by unfold trY; rw [if_neg (by decide), if_neg hnb]; rfl
                      rw [e3] at hbad
                      refine J_ist_4_5 C (dA DX8_readsPond_0 71 rfl) (k4 _ _ _).1 ?_
                      refine J_iload C (dA DX8_readsPond_0 72 rfl) rfl ?_
                      refine J_if_ge (tgt := 137) C (dA DX8_readsPond_0 73 rfl) (by decide) (fun h132 => ?_) (fun h132 => ?_)
                      · exact absurd h132 (by decide)
                      · refine J_iconst (v := nI 0) C (dA DX8_readsPond_0 74 rfl) (by decide) ?_
                        exact J_zret C G rfl (dA DX8_readsPond_0 75 rfl) ⟨oi (by rw [hbad rfl]; rfl), by rw [hbad rfl]⟩
                  · exact absurd h68 (by decide)
          · refine J_iload_n C (dA DX8_readsPond_0 22 rfl) rfl ?_
            refine J_if_ne_n (tgt := 64) C (by decide) (dA DX8_readsPond_0 23 rfl) (by decide) (fun h39 => ?_) (fun h39 => ?_)
            · refine J_iconst (v := nI 0) C (dA DX8_readsPond_0 36 rfl) (by decide) ?_
              refine J_ist_3_5 C (dA DX8_readsPond_0 37 rfl) (k3 _ _) ?_
              refine J_iload_n C (dA DX8_readsPond_0 38 rfl) rfl ?_
              refine J_iconst (v := nI 3) C (dA DX8_readsPond_0 39 rfl) (by decide) ?_
              refine J_icmp_ne_n (tgt := 75) C (by decide) (by decide) (dA DX8_readsPond_0 40 rfl) (by decide) (fun h68 => ?_) (fun h68 => ?_)
              · refine J_iload_n C (dA DX8_readsPond_0 43 rfl) rfl ?_
                refine J_if_eq_n (tgt := 83) C (by decide) (dA DX8_readsPond_0 44 rfl) (by decide) (fun h76 => ?_) (fun h76 => ?_)
                · refine J_aload_n C (dA DX8_readsPond_0 47 rfl) rfl ?_
                  refine J_iload_n C (dA DX8_readsPond_0 48 rfl) rfl ?_
                  refine J_iconst (v := nI 1) C (dA DX8_readsPond_0 49 rfl) (by decide) ?_
                  refine J_icmp_ne_n (tgt := 93) C (by decide) (by decide) (dA DX8_readsPond_0 50 rfl) (by decide) (fun h86 => ?_) (fun h86 => ?_)
                  · exact absurd rfl h86
                  · refine J_iconst (v := nI 1) C (dA DX8_readsPond_0 51 rfl) (by decide) ?_
                    refine J_goto (tgt := 94) C (dA DX8_readsPond_0 52 rfl) (by decide) ?_
                    refine J_iload_n C (dA DX8_readsPond_0 54 rfl) rfl ?_
                    refine J_iconst (v := nI 1) C (dA DX8_readsPond_0 55 rfl) (by decide) ?_
                    refine J_icmp_ne_n (tgt := 104) C (by decide) (by decide) (dA DX8_readsPond_0 56 rfl) (by decide) (fun h96 => ?_) (fun h96 => ?_)
                    · exact absurd rfl h96
                    · refine J_bipush (v := nI 9) C (dA DX8_readsPond_0 57 rfl) (by decide) ?_
                      refine J_goto (tgt := 125) C (dA DX8_readsPond_0 58 rfl) (by decide) ?_
                      refine V_X8_takesNumber C (c_X8_takesNumber l E hB (q.2.1 + 1) 1 9 (by decide) (by decide)) wM_RX8_244 (by decide) (dA DX8_readsPond_0 70 rfl) rfl (Nat.le_of_ble_eq_true rfl) ?_
                      have hcv : numB g n (q.2.1 + 1) (lo6 1) (mx6 1) (trX 1 p) = true ↔ numB g n (q.2.1 + 1) 1 9 (-1) = true := Iff.rfl
                      by_cases hb : numB g n (q.2.1 + 1) 1 9 (-1) = true
                      · rw [if_pos hb, if_pos hb]
                        have e3 : trY false g n p 1 q = (true, q.2.1 + 2, upd q.2.2 (4 + 6 * p + 1) (nI (tV g n (q.2.1 + 1)))) := by unfold trY; rw [if_neg (by decide), if_pos (hcv.mpr hb)]
                        rw [e3] at hih
                        have hvl : tV g n (q.2.1 + 1) ≤ 1000 := oV_le _ _ _
                        refine J_ist_4_5 C (dA DX8_readsPond_0 71 rfl) (k4 _ _ _).1 ?_
                        refine J_iload C (dA DX8_readsPond_0 72 rfl) rfl ?_
                        refine J_if_ge_n (tgt := 137) C (by omega) (dA DX8_readsPond_0 73 rfl) (by decide) (fun h132 => ?_) (fun h132 => ?_)
                        · refine J_aload_n C (dA DX8_readsPond_0 76 rfl) rfl ?_
                          refine J_iload_n C (dA DX8_readsPond_0 77 rfl) rfl ?_
                          refine J_iload_n C (dA DX8_readsPond_0 78 rfl) rfl ?_
                          refine J_iload C (dA DX8_readsPond_0 79 rfl) rfl ?_
                          refine V_X8_lays1 C (c_X8_lays1 l E p 1 hp (by decide) _) wM_RX8_53 (by decide) (dA DX8_readsPond_0 80 rfl) rfl (Nat.le_of_ble_eq_true rfl) ?_
                          rw [hv _ _ hqC, rr_lay]
                          first | refine J_inc1_2_5 C (dA DX8_readsPond_0 81 rfl) rfl ?_ | refine J_iinc_2_5 C (dA DX8_readsPond_0 81 rfl) rfl ?_
                          refine J_goto (tgt := 16) C (dA DX8_readsPond_0 82 rfl) (by decide) ?_
                          exact hih _ _ (by omega) rfl (fun _ _ => rfl) (fun _ _ _ => ⟨rfl, rfl⟩)
                        · exfalso; omega
                      · rw [if_neg hb, if_neg hb]
                        have e3 : trY false g n p 1 q = (false, q.2.1 + 1, q.2.2) := by unfold trY; rw [if_neg (by decide), if_neg (fun z => hb (hcv.mp z))]; rfl
                        rw [e3] at hbad
                        refine J_ist_4_5 C (dA DX8_readsPond_0 71 rfl) (k4 _ _ _).1 ?_
                        refine J_iload C (dA DX8_readsPond_0 72 rfl) rfl ?_
                        refine J_if_ge (tgt := 137) C (dA DX8_readsPond_0 73 rfl) (by decide) (fun h132 => ?_) (fun h132 => ?_)
                        · exact absurd h132 (by decide)
                        · refine J_iconst (v := nI 0) C (dA DX8_readsPond_0 74 rfl) (by decide) ?_
                          exact J_zret C G rfl (dA DX8_readsPond_0 75 rfl) ⟨oi (by rw [hbad rfl]; rfl), by rw [hbad rfl]⟩
                · exact absurd rfl h76
              · exact absurd h68 (by decide)
            · exact absurd h39 (by decide)
          · refine J_iload_n C (dA DX8_readsPond_0 22 rfl) rfl ?_
            refine J_if_ne_n (tgt := 64) C (by decide) (dA DX8_readsPond_0 23 rfl) (by decide) (fun h39 => ?_) (fun h39 => ?_)
            · refine J_iconst (v := nI 0) C (dA DX8_readsPond_0 36 rfl) (by decide) ?_
              refine J_ist_3_5 C (dA DX8_readsPond_0 37 rfl) (k3 _ _) ?_
              refine J_iload_n C (dA DX8_readsPond_0 38 rfl) rfl ?_
              refine J_iconst (v := nI 3) C (dA DX8_readsPond_0 39 rfl) (by decide) ?_
              refine J_icmp_ne_n (tgt := 75) C (by decide) (by decide) (dA DX8_readsPond_0 40 rfl) (by decide) (fun h68 => ?_) (fun h68 => ?_)
              · refine J_iload_n C (dA DX8_readsPond_0 43 rfl) rfl ?_
                refine J_if_eq_n (tgt := 83) C (by decide) (dA DX8_readsPond_0 44 rfl) (by decide) (fun h76 => ?_) (fun h76 => ?_)
                · refine J_aload_n C (dA DX8_readsPond_0 47 rfl) rfl ?_
                  refine J_iload_n C (dA DX8_readsPond_0 48 rfl) rfl ?_
                  refine J_iconst (v := nI 1) C (dA DX8_readsPond_0 49 rfl) (by decide) ?_
                  refine J_icmp_ne_n (tgt := 93) C (by decide) (by decide) (dA DX8_readsPond_0 50 rfl) (by decide) (fun h86 => ?_) (fun h86 => ?_)
                  · refine J_iconst (v := nI 0) C (dA DX8_readsPond_0 53 rfl) (by decide) ?_
                    refine J_iload_n C (dA DX8_readsPond_0 54 rfl) rfl ?_
                    refine J_iconst (v := nI 1) C (dA DX8_readsPond_0 55 rfl) (by decide) ?_
                    refine J_icmp_ne_n (tgt := 104) C (by decide) (by decide) (dA DX8_readsPond_0 56 rfl) (by decide) (fun h96 => ?_) (fun h96 => ?_)
                    · refine J_iload_n C (dA DX8_readsPond_0 59 rfl) rfl ?_
                      refine J_iconst (v := nI 2) C (dA DX8_readsPond_0 60 rfl) (by decide) ?_
                      refine J_icmp_ne_n (tgt := 113) C (by decide) (by decide) (dA DX8_readsPond_0 61 rfl) (by decide) (fun h106 => ?_) (fun h106 => ?_)
                      · exact absurd rfl h106
                      · refine J_iconst (v := nI 3) C (dA DX8_readsPond_0 62 rfl) (by decide) ?_
                        refine J_goto (tgt := 125) C (dA DX8_readsPond_0 63 rfl) (by decide) ?_
                        refine V_X8_takesNumber C (c_X8_takesNumber l E hB (q.2.1 + 1) 0 3 (by decide) (by decide)) wM_RX8_244 (by decide) (dA DX8_readsPond_0 70 rfl) rfl (Nat.le_of_ble_eq_true rfl) ?_
                        have hcv : numB g n (q.2.1 + 1) (lo6 2) (mx6 2) (trX 2 p) = true ↔ numB g n (q.2.1 + 1) 0 3 (-1) = true := Iff.rfl
                        by_cases hb : numB g n (q.2.1 + 1) 0 3 (-1) = true
                        · rw [if_pos hb, if_pos hb]
                          have e3 : trY false g n p 2 q = (true, q.2.1 + 2, upd q.2.2 (4 + 6 * p + 2) (nI (tV g n (q.2.1 + 1)))) := by unfold trY; rw [if_neg (by decide), if_pos (hcv.mpr hb)]
                          rw [e3] at hih
                          have hvl : tV g n (q.2.1 + 1) ≤ 1000 := oV_le _ _ _
                          refine J_ist_4_5 C (dA DX8_readsPond_0 71 rfl) (k4 _ _ _).1 ?_
                          refine J_iload C (dA DX8_readsPond_0 72 rfl) rfl ?_
                          refine J_if_ge_n (tgt := 137) C (by omega) (dA DX8_readsPond_0 73 rfl) (by decide) (fun h132 => ?_) (fun h132 => ?_)
                          · refine J_aload_n C (dA DX8_readsPond_0 76 rfl) rfl ?_
                            refine J_iload_n C (dA DX8_readsPond_0 77 rfl) rfl ?_
                            refine J_iload_n C (dA DX8_readsPond_0 78 rfl) rfl ?_
                            refine J_iload C (dA DX8_readsPond_0 79 rfl) rfl ?_
                            refine V_X8_lays1 C (c_X8_lays1 l E p 2 hp (by decide) _) wM_RX8_53 (by decide) (dA DX8_readsPond_0 80 rfl) rfl (Nat.le_of_ble_eq_true rfl) ?_
                            rw [hv _ _ hqC, rr_lay]
                            first | refine J_inc1_2_5 C (dA DX8_readsPond_0 81 rfl) rfl ?_ | refine J_iinc_2_5 C (dA DX8_readsPond_0 81 rfl) rfl ?_
                            refine J_goto (tgt := 16) C (dA DX8_readsPond_0 82 rfl) (by decide) ?_
                            exact hih _ _ (by omega) rfl (fun _ _ => rfl) (fun _ _ _ => ⟨rfl, rfl⟩)
                          · exfalso; omega
                        · rw [if_neg hb, if_neg hb]
                          have e3 : trY false g n p 2 q = (false, q.2.1 + 1, q.2.2) := by unfold trY; rw [if_neg (by decide), if_neg (fun z => hb (hcv.mp z))]; rfl
                          rw [e3] at hbad
                          refine J_ist_4_5 C (dA DX8_readsPond_0 71 rfl) (k4 _ _ _).1 ?_
                          refine J_iload C (dA DX8_readsPond_0 72 rfl) rfl ?_
                          refine J_if_ge (tgt := 137) C (dA DX8_readsPond_0 73 rfl) (by decide) (fun h132 => ?_) (fun h132 => ?_)
                          · exact absurd h132 (by decide)
                          · refine J_iconst (v := nI 0) C (dA DX8_readsPond_0 74 rfl) (by decide) ?_
                            exact J_zret C G rfl (dA DX8_readsPond_0 75 rfl) ⟨oi (by rw [hbad rfl]; rfl), by rw [hbad rfl]⟩
                    · exact absurd h96 (by decide)
                  · exact absurd h86 (by decide)
                · exact absurd rfl h76
              · exact absurd h68 (by decide)
            · exact absurd h39 (by decide)
          · refine J_iload_n C (dA DX8_readsPond_0 22 rfl) rfl ?_
            refine J_if_ne_n (tgt := 64) C (by decide) (dA DX8_readsPond_0 23 rfl) (by decide) (fun h39 => ?_) (fun h39 => ?_)
            · refine J_iconst (v := nI 0) C (dA DX8_readsPond_0 36 rfl) (by decide) ?_
              refine J_ist_3_5 C (dA DX8_readsPond_0 37 rfl) (k3 _ _) ?_
              refine J_iload_n C (dA DX8_readsPond_0 38 rfl) rfl ?_
              refine J_iconst (v := nI 3) C (dA DX8_readsPond_0 39 rfl) (by decide) ?_
              refine J_icmp_ne_n (tgt := 75) C (by decide) (by decide) (dA DX8_readsPond_0 40 rfl) (by decide) (fun h68 => ?_) (fun h68 => ?_)
              · exact absurd rfl h68
              · refine J_iconst (v := nI 1) C (dA DX8_readsPond_0 41 rfl) (by decide) ?_
                refine J_goto (tgt := 128) C (dA DX8_readsPond_0 42 rfl) (by decide) ?_
                have e3 : trY false g n p 3 q = (true, q.2.1 + 1, upd q.2.2 (4 + 6 * p + 3) (nI 1)) := by unfold trY; rw [if_pos rfl]
                rw [e3] at hih
                have hv1 : (1 : Nat) ≤ 1000 := by decide
                refine J_ist_4_5 C (dA DX8_readsPond_0 71 rfl) (k4 _ _ _).1 ?_
                refine J_iload C (dA DX8_readsPond_0 72 rfl) rfl ?_
                refine J_if_ge_n (tgt := 137) C (by decide) (dA DX8_readsPond_0 73 rfl) (by decide) (fun h132 => ?_) (fun h132 => ?_)
                · refine J_aload_n C (dA DX8_readsPond_0 76 rfl) rfl ?_
                  refine J_iload_n C (dA DX8_readsPond_0 77 rfl) rfl ?_
                  refine J_iload_n C (dA DX8_readsPond_0 78 rfl) rfl ?_
                  refine J_iload C (dA DX8_readsPond_0 79 rfl) rfl ?_
                  refine V_X8_lays1 C (c_X8_lays1 l E p 3 hp (by decide) _) wM_RX8_53 (by decide) (dA DX8_readsPond_0 80 rfl) rfl (Nat.le_of_ble_eq_true rfl) ?_
                  rw [hv _ _ hqC, rr_lay]
                  first | refine J_inc1_2_5 C (dA DX8_readsPond_0 81 rfl) rfl ?_ | refine J_iinc_2_5 C (dA DX8_readsPond_0 81 rfl) rfl ?_
                  refine J_goto (tgt := 16) C (dA DX8_readsPond_0 82 rfl) (by decide) ?_
                  exact hih _ _ (by omega) rfl (fun _ _ => rfl) (fun _ _ _ => ⟨rfl, rfl⟩)
                · exact h132.elim
            · exact absurd h39 (by decide)
          · refine J_iload_n C (dA DX8_readsPond_0 22 rfl) rfl ?_
            refine J_if_ne_n (tgt := 64) C (by decide) (dA DX8_readsPond_0 23 rfl) (by decide) (fun h39 => ?_) (fun h39 => ?_)
            · refine J_iconst (v := nI 0) C (dA DX8_readsPond_0 36 rfl) (by decide) ?_
              refine J_ist_3_5 C (dA DX8_readsPond_0 37 rfl) (k3 _ _) ?_
              refine J_iload_n C (dA DX8_readsPond_0 38 rfl) rfl ?_
              refine J_iconst (v := nI 3) C (dA DX8_readsPond_0 39 rfl) (by decide) ?_
              refine J_icmp_ne_n (tgt := 75) C (by decide) (by decide) (dA DX8_readsPond_0 40 rfl) (by decide) (fun h68 => ?_) (fun h68 => ?_)
              · refine J_iload_n C (dA DX8_readsPond_0 43 rfl) rfl ?_
                refine J_if_eq_n (tgt := 83) C (by decide) (dA DX8_readsPond_0 44 rfl) (by decide) (fun h76 => ?_) (fun h76 => ?_)
                · refine J_aload_n C (dA DX8_readsPond_0 47 rfl) rfl ?_
                  refine J_iload_n C (dA DX8_readsPond_0 48 rfl) rfl ?_
                  refine J_iconst (v := nI 1) C (dA DX8_readsPond_0 49 rfl) (by decide) ?_
                  refine J_icmp_ne_n (tgt := 93) C (by decide) (by decide) (dA DX8_readsPond_0 50 rfl) (by decide) (fun h86 => ?_) (fun h86 => ?_)
                  · refine J_iconst (v := nI 0) C (dA DX8_readsPond_0 53 rfl) (by decide) ?_
                    refine J_iload_n C (dA DX8_readsPond_0 54 rfl) rfl ?_
                    refine J_iconst (v := nI 1) C (dA DX8_readsPond_0 55 rfl) (by decide) ?_
                    refine J_icmp_ne_n (tgt := 104) C (by decide) (by decide) (dA DX8_readsPond_0 56 rfl) (by decide) (fun h96 => ?_) (fun h96 => ?_)
                    · refine J_iload_n C (dA DX8_readsPond_0 59 rfl) rfl ?_
                      refine J_iconst (v := nI 2) C (dA DX8_readsPond_0 60 rfl) (by decide) ?_
                      refine J_icmp_ne_n (tgt := 113) C (by decide) (by decide) (dA DX8_readsPond_0 61 rfl) (by decide) (fun h106 => ?_) (fun h106 => ?_)
                      · refine J_iload_n C (dA DX8_readsPond_0 64 rfl) rfl ?_
                        refine J_iconst (v := nI 5) C (dA DX8_readsPond_0 65 rfl) (by decide) ?_
                        refine J_icmp_ne_n (tgt := 123) C (by decide) (by decide) (dA DX8_readsPond_0 66 rfl) (by decide) (fun h115 => ?_) (fun h115 => ?_)
                        · refine J_bipush (v := nI 15) C (dA DX8_readsPond_0 69 rfl) (by decide) ?_
                          refine V_X8_takesNumber C (c_X8_takesNumber l E hB (q.2.1 + 1) 0 15 (by decide) (by decide)) wM_RX8_244 (by decide) (dA DX8_readsPond_0 70 rfl) rfl (Nat.le_of_ble_eq_true rfl) ?_
                          have hcv : numB g n (q.2.1 + 1) (lo6 4) (mx6 4) (trX 4 p) = true ↔ numB g n (q.2.1 + 1) 0 15 (-1) = true := Iff.rfl
                          by_cases hb : numB g n (q.2.1 + 1) 0 15 (-1) = true
                          · rw [if_pos hb, if_pos hb]
                            have e3 : trY false g n p 4 q = (true, q.2.1 + 2, upd q.2.2 (4 + 6 * p + 4) (nI (tV g n (q.2.1 + 1)))) := by unfold trY; rw [if_neg (by decide), if_pos (hcv.mpr hb)]
                            rw [e3] at hih
                            have hvl : tV g n (q.2.1 + 1) ≤ 1000 := oV_le _ _ _
                            refine J_ist_4_5 C (dA DX8_readsPond_0 71 rfl) (k4 _ _ _).1 ?_
                            refine J_iload C (dA DX8_readsPond_0 72 rfl) rfl ?_
                            refine J_if_ge_n (tgt := 137) C (by omega) (dA DX8_readsPond_0 73 rfl) (by decide) (fun h132 => ?_) (fun h132 => ?_)
                            · refine J_aload_n C (dA DX8_readsPond_0 76 rfl) rfl ?_
                              refine J_iload_n C (dA DX8_readsPond_0 77 rfl) rfl ?_
                              refine J_iload_n C (dA DX8_readsPond_0 78 rfl) rfl ?_
                              refine J_iload C (dA DX8_readsPond_0 79 rfl) rfl ?_
                              refine V_X8_lays1 C (c_X8_lays1 l E p 4 hp (by decide) _) wM_RX8_53 (by decide) (dA DX8_readsPond_0 80 rfl) rfl (Nat.le_of_ble_eq_true rfl) ?_
                              rw [hv _ _ hqC, rr_lay]
                              first | refine J_inc1_2_5 C (dA DX8_readsPond_0 81 rfl) rfl ?_ | refine J_iinc_2_5 C (dA DX8_readsPond_0 81 rfl) rfl ?_
                              refine J_goto (tgt := 16) C (dA DX8_readsPond_0 82 rfl) (by decide) ?_
                              exact hih _ _ (by omega) rfl (fun _ _ => rfl) (fun _ _ _ => ⟨rfl, rfl⟩)
                            · exfalso; omega
                          · rw [if_neg hb, if_neg hb]
                            have e3 : trY false g n p 4 q = (false, q.2.1 + 1, q.2.2) := by unfold trY; rw [if_neg (by decide), if_neg (fun z => hb (hcv.mp z))]; rfl
                            rw [e3] at hbad
                            refine J_ist_4_5 C (dA DX8_readsPond_0 71 rfl) (k4 _ _ _).1 ?_
                            refine J_iload C (dA DX8_readsPond_0 72 rfl) rfl ?_
                            refine J_if_ge (tgt := 137) C (dA DX8_readsPond_0 73 rfl) (by decide) (fun h132 => ?_) (fun h132 => ?_)
                            · exact absurd h132 (by decide)
                            · refine J_iconst (v := nI 0) C (dA DX8_readsPond_0 74 rfl) (by decide) ?_
                              exact J_zret C G rfl (dA DX8_readsPond_0 75 rfl) ⟨oi (by rw [hbad rfl]; rfl), by rw [hbad rfl]⟩
                        · exact absurd h115 (by decide)
                      · exact absurd h106 (by decide)
                    · exact absurd h96 (by decide)
                  · exact absurd h86 (by decide)
                · exact absurd rfl h76
              · exact absurd h68 (by decide)
            · exact absurd h39 (by decide)
          · refine J_iload_n C (dA DX8_readsPond_0 22 rfl) rfl ?_
            refine J_if_ne_n (tgt := 64) C (by decide) (dA DX8_readsPond_0 23 rfl) (by decide) (fun h39 => ?_) (fun h39 => ?_)
            · refine J_iconst (v := nI 0) C (dA DX8_readsPond_0 36 rfl) (by decide) ?_
              refine J_ist_3_5 C (dA DX8_readsPond_0 37 rfl) (k3 _ _) ?_
              refine J_iload_n C (dA DX8_readsPond_0 38 rfl) rfl ?_
              refine J_iconst (v := nI 3) C (dA DX8_readsPond_0 39 rfl) (by decide) ?_
              refine J_icmp_ne_n (tgt := 75) C (by decide) (by decide) (dA DX8_readsPond_0 40 rfl) (by decide) (fun h68 => ?_) (fun h68 => ?_)
              · refine J_iload_n C (dA DX8_readsPond_0 43 rfl) rfl ?_
                refine J_if_eq_n (tgt := 83) C (by decide) (dA DX8_readsPond_0 44 rfl) (by decide) (fun h76 => ?_) (fun h76 => ?_)
                · refine J_aload_n C (dA DX8_readsPond_0 47 rfl) rfl ?_
                  refine J_iload_n C (dA DX8_readsPond_0 48 rfl) rfl ?_
                  refine J_iconst (v := nI 1) C (dA DX8_readsPond_0 49 rfl) (by decide) ?_
                  refine J_icmp_ne_n (tgt := 93) C (by decide) (by decide) (dA DX8_readsPond_0 50 rfl) (by decide) (fun h86 => ?_) (fun h86 => ?_)
                  · refine J_iconst (v := nI 0) C (dA DX8_readsPond_0 53 rfl) (by decide) ?_
                    refine J_iload_n C (dA DX8_readsPond_0 54 rfl) rfl ?_
                    refine J_iconst (v := nI 1) C (dA DX8_readsPond_0 55 rfl) (by decide) ?_
                    refine J_icmp_ne_n (tgt := 104) C (by decide) (by decide) (dA DX8_readsPond_0 56 rfl) (by decide) (fun h96 => ?_) (fun h96 => ?_)
                    · refine J_iload_n C (dA DX8_readsPond_0 59 rfl) rfl ?_
                      refine J_iconst (v := nI 2) C (dA DX8_readsPond_0 60 rfl) (by decide) ?_
                      refine J_icmp_ne_n (tgt := 113) C (by decide) (by decide) (dA DX8_readsPond_0 61 rfl) (by decide) (fun h106 => ?_) (fun h106 => ?_)
                      · refine J_iload_n C (dA DX8_readsPond_0 64 rfl) rfl ?_
                        refine J_iconst (v := nI 5) C (dA DX8_readsPond_0 65 rfl) (by decide) ?_
                        refine J_icmp_ne_n (tgt := 123) C (by decide) (by decide) (dA DX8_readsPond_0 66 rfl) (by decide) (fun h115 => ?_) (fun h115 => ?_)
                        · exact absurd rfl h115
                        · refine J_bipush (v := nI 99) C (dA DX8_readsPond_0 67 rfl) (by decide) ?_
                          refine J_goto (tgt := 125) C (dA DX8_readsPond_0 68 rfl) (by decide) ?_
                          refine V_X8_takesNumber C (c_X8_takesNumber l E hB (q.2.1 + 1) 0 99 (by decide) (by decide)) wM_RX8_244 (by decide) (dA DX8_readsPond_0 70 rfl) rfl (Nat.le_of_ble_eq_true rfl) ?_
                          have hcv : numB g n (q.2.1 + 1) (lo6 5) (mx6 5) (trX 5 p) = true ↔ numB g n (q.2.1 + 1) 0 99 (-1) = true := Iff.rfl
                          by_cases hb : numB g n (q.2.1 + 1) 0 99 (-1) = true
                          · rw [if_pos hb, if_pos hb]
                            have e3 : trY false g n p 5 q = (true, q.2.1 + 2, upd q.2.2 (4 + 6 * p + 5) (nI (tV g n (q.2.1 + 1)))) := by unfold trY; rw [if_neg (by decide), if_pos (hcv.mpr hb)]
                            rw [e3] at hih
                            have hvl : tV g n (q.2.1 + 1) ≤ 1000 := oV_le _ _ _
                            refine J_ist_4_5 C (dA DX8_readsPond_0 71 rfl) (k4 _ _ _).1 ?_
                            refine J_iload C (dA DX8_readsPond_0 72 rfl) rfl ?_
                            refine J_if_ge_n (tgt := 137) C (by omega) (dA DX8_readsPond_0 73 rfl) (by decide) (fun h132 => ?_) (fun h132 => ?_)
                            · refine J_aload_n C (dA DX8_readsPond_0 76 rfl) rfl ?_
                              refine J_iload_n C (dA DX8_readsPond_0 77 rfl) rfl ?_
                              refine J_iload_n C (dA DX8_readsPond_0 78 rfl) rfl ?_
                              refine J_iload C (dA DX8_readsPond_0 79 rfl) rfl ?_
                              refine V_X8_lays1 C (c_X8_lays1 l E p 5 hp (by decide) _) wM_RX8_53 (by decide) (dA DX8_readsPond_0 80 rfl) rfl (Nat.le_of_ble_eq_true rfl) ?_
                              rw [hv _ _ hqC, rr_lay]
                              first | refine J_inc1_2_5 C (dA DX8_readsPond_0 81 rfl) rfl ?_ | refine J_iinc_2_5 C (dA DX8_readsPond_0 81 rfl) rfl ?_
                              refine J_goto (tgt := 16) C (dA DX8_readsPond_0 82 rfl) (by decide) ?_
                              exact hih _ _ (by omega) rfl (fun _ _ => rfl) (fun _ _ _ => ⟨rfl, rfl⟩)
                            · exfalso; omega
                          · rw [if_neg hb, if_neg hb]
                            have e3 : trY false g n p 5 q = (false, q.2.1 + 1, q.2.2) := by unfold trY; rw [if_neg (by decide), if_neg (fun z => hb (hcv.mp z))]; rfl
                            rw [e3] at hbad
                            refine J_ist_4_5 C (dA DX8_readsPond_0 71 rfl) (k4 _ _ _).1 ?_
                            refine J_iload C (dA DX8_readsPond_0 72 rfl) rfl ?_
                            refine J_if_ge (tgt := 137) C (dA DX8_readsPond_0 73 rfl) (by decide) (fun h132 => ?_) (fun h132 => ?_)
                            · exact absurd h132 (by decide)
                            · refine J_iconst (v := nI 0) C (dA DX8_readsPond_0 74 rfl) (by decide) ?_
                              exact J_zret C G rfl (dA DX8_readsPond_0 75 rfl) ⟨oi (by rw [hbad rfl]; rfl), by rw [hbad rfl]⟩
                      · exact absurd h106 (by decide)
                    · exact absurd h96 (by decide)
                  · exact absurd h86 (by decide)
                · exact absurd rfl h76
              · exact absurd h68 (by decide)
            · exact absurd h39 (by decide)
  refine J_aload_n C (dA DX8_readsPond_0 0 rfl) rfl ?_
  refine J_iconst (v := nI 0) C (dA DX8_readsPond_0 1 rfl) (by decide) ?_
  refine J_bipush (v := nI 15) C (dA DX8_readsPond_0 2 rfl) (by decide) ?_
  refine V_X8_takesNumber C (c_X8_takesNumber l E hB k 0 15 (by decide) (by decide)) wM_RX8_244 (by decide) (dA DX8_readsPond_0 3 rfl) rfl (Nat.le_of_ble_eq_true rfl) ?_
  by_cases hb : numB g n k 0 15 (-1) = true
  · rw [if_pos hb, if_pos hb]
    have hp := (of_decide_eq_true hb).2.2.1
    have hk1 := numB_s hn hk hb
    have hr : pPond false g n k S = trN false g n (tV g n k) (true, k + 1, S) 6 := by unfold pPond; rw [if_pos hb]
    have h := loop (tV g n k) (true, k + 1, S) (by omega) ⟨hk1, hS.1, fun _ => hS⟩ hr 6 0 none none (Nat.zero_add _) rfl (fun _ _ => rfl) (fun _ _ _ => ⟨rfl, rfl⟩)
    refine J_ist_1_5 C (dA DX8_readsPond_0 4 rfl) rfl ?_
    refine J_iload_n C (dA DX8_readsPond_0 5 rfl) rfl ?_
    refine J_if_ge_n (tgt := 14) C (by omega) (dA DX8_readsPond_0 6 rfl) (by decide) (fun h9 => ?_) (fun h9 => ?_)
    · refine J_iconst (v := nI 0) C (dA DX8_readsPond_0 9 rfl) (by decide) ?_
      refine J_ist_2_5 C (dA DX8_readsPond_0 10 rfl) rfl ?_
      exact h
    · exfalso; omega
  · rw [if_neg hb, if_neg hb]
    have hr : pPond false g n k S = (false, k, S) := by unfold pPond; rw [if_neg hb]
    refine J_ist_1_5 C (dA DX8_readsPond_0 4 rfl) rfl ?_
    refine J_iload_n C (dA DX8_readsPond_0 5 rfl) rfl ?_
    refine J_if_ge (tgt := 14) C (dA DX8_readsPond_0 6 rfl) (by decide) (fun h9 => ?_) (fun h9 => ?_)
    · exact absurd h9 (by decide)
    · refine J_iconst (v := nI 0) C (dA DX8_readsPond_0 7 rfl) (by decide) ?_
      exact J_zret C G rfl (dA DX8_readsPond_0 8 rfl) ⟨oi (by rw [hr]; rfl), by rw [hr]⟩
set_option maxRecDepth 4000 in
theorem c_X8_readsItem (l : Launch) (E : jE) (hB : RB g n m) (k : Nat) (hk : k ≤ tK g n) (hS : IS S)  : K_X8_readsItem l E [.ref (ja E 60)] (rr g n m k S) (jb (pItem false g n k S).1) (rr g n m (pItem false g n k S).2.1 (pItem false g n k S).2.2) := by
  refine CT_intro (own := RX8) (by decide +kernel) rfl (by simp [Value.category]) (Nat.le_of_ble_eq_true rfl) rfl (fun X C G => ?_)
  show J E X 0 [some (.ref (ja E 60)), none, none] [] (rr g n m k S)
  have hv : ∀ (k : Nat) (T : Nat → Int32), Can T → vb 1100 (rr g n m k T) = T := fun k T hT => rr_vb hT
  have hI : ∀ (k : Nat) (T : Nat → Int32), IS T → IS (vb 1100 (rr g n m k T)) := fun k T hT => by rw [hv k T hT.1]; exact hT
  have hn := hB.1
  by_cases hkd : tS g n k = 1 ∧ tV g n k < 7
  · have hP : pItem false g n k S = pThing false g n k S := by unfold pItem; rw [if_pos hkd]
    have hx : wIx g n k 0 7 = nI (tV g n k) := by unfold wIx; rw [if_pos ⟨hkd.1, Nat.zero_le _, by omega⟩, Nat.sub_zero]
    rw [hP] at G
    refine J_aload_n C (dA DX8_readsItem_0 0 rfl) rfl ?_
    refine J_aload_n C (dA DX8_readsItem_0 1 rfl) rfl ?_
    refine G_X8_letters C wF_RX8_28 (dA DX8_readsItem_0 2 rfl) ?_
    refine V_X8_wordOf C (c_wd71 l E hB k) wM_RX8_240 (by decide) (dA DX8_readsItem_0 3 rfl) rfl (Nat.le_of_ble_eq_true rfl) ?_
    rw [hx]
    refine J_ist_1_3 C (dA DX8_readsItem_0 4 rfl) rfl ?_
    refine J_iload_n C (dA DX8_readsItem_0 5 rfl) rfl ?_
    refine J_if_lt_n (tgt := 19) C (by omega) (dA DX8_readsItem_0 6 rfl) (by decide) (fun h10 => ?_) (fun h10 => ?_)
    · exfalso; omega
    · refine J_aload_n C (dA DX8_readsItem_0 7 rfl) rfl ?_
      refine J_iload_n C (dA DX8_readsItem_0 8 rfl) rfl ?_
      refine V_X8_readsThing C (c_X8_readsThing l E hB k hk hkd.1 hkd.2 hS) wM_RX8_247 (by decide) (dA DX8_readsItem_0 9 rfl) rfl (Nat.le_of_ble_eq_true rfl) ?_
      exact J_zret C G (jb_z _) (dA DX8_readsItem_0 10 rfl) ⟨rfl, rfl⟩
  · have hx : wIx g n k 0 7 = -1 := by unfold wIx; rw [if_neg (fun z => hkd ⟨z.1, by omega⟩)]
    have hw := fun w (h : w < 3) => wIx_w (g := g) (n := n) (k := k) (w0 := 15) (c := 3) (w := w) h (by decide)
    by_cases h15 : hW g n k 15 = true
    · have hP : pItem false g n k S = pPond false g n (k + 1) S := by unfold pItem; rw [if_neg hkd, if_pos h15]
      have hy := (hw 0 (by decide)).mpr h15
      have hk1 := hW_s hn hk h15
      rw [hP] at G
      refine J_aload_n C (dA DX8_readsItem_0 0 rfl) rfl ?_
      refine J_aload_n C (dA DX8_readsItem_0 1 rfl) rfl ?_
      refine G_X8_letters C wF_RX8_28 (dA DX8_readsItem_0 2 rfl) ?_
      refine V_X8_wordOf C (c_wd71 l E hB k) wM_RX8_240 (by decide) (dA DX8_readsItem_0 3 rfl) rfl (Nat.le_of_ble_eq_true rfl) ?_
      rw [hx]
      refine J_ist_1_3 C (dA DX8_readsItem_0 4 rfl) rfl ?_
      refine J_iload_n C (dA DX8_readsItem_0 5 rfl) rfl ?_
      refine J_if_lt (tgt := 19) C (dA DX8_readsItem_0 6 rfl) (by decide) (fun h10 => ?_) (fun h10 => ?_)
      · refine J_aload_n C (dA DX8_readsItem_0 11 rfl) rfl ?_
        refine J_aload_n C (dA DX8_readsItem_0 12 rfl) rfl ?_
        refine G_X8_others C wF_RX8_35 (dA DX8_readsItem_0 13 rfl) ?_
        refine V_X8_wordOf C (c_wd73 l E hB k) wM_RX8_240 (by decide) (dA DX8_readsItem_0 14 rfl) rfl (Nat.le_of_ble_eq_true rfl) ?_
        rw [hy]
        refine J_ist_2_3 C (dA DX8_readsItem_0 15 rfl) rfl ?_
        refine J_iload_n C (dA DX8_readsItem_0 16 rfl) rfl ?_
        refine J_if_ge_n (tgt := 34) C (by decide) (dA DX8_readsItem_0 17 rfl) (by decide) (fun h29 => ?_) (fun h29 => ?_)
        · refine J_aload_n C (dA DX8_readsItem_0 20 rfl) rfl ?_
          refine V_X8_nextToken C (c_nt l E hB k) wM_RX8_237 (by decide) (dA DX8_readsItem_0 21 rfl) rfl (Nat.le_of_ble_eq_true rfl) ?_
          refine J_iload_n C (dA DX8_readsItem_0 22 rfl) rfl ?_
          refine J_if_ne_n (tgt := 47) C (by decide) (dA DX8_readsItem_0 23 rfl) (by decide) (fun h39 => ?_) (fun h39 => ?_)
          · exact absurd rfl h39
          · refine J_aload_n C (dA DX8_readsItem_0 24 rfl) rfl ?_
            refine V_X8_readsPond C (c_X8_readsPond l E hB (k + 1) hk1 hS) wM_RX8_250 (by decide) (dA DX8_readsItem_0 25 rfl) rfl (Nat.le_of_ble_eq_true rfl) ?_
            exact J_zret C G (jb_z _) (dA DX8_readsItem_0 26 rfl) ⟨rfl, rfl⟩
        · exact h29.elim
      · exact absurd (by decide) h10
    · by_cases h16 : hW g n k 16 = true
      · have hP : pItem false g n k S = (true, k + 1, upd S 3 (nI 1)) := by unfold pItem; rw [if_neg hkd, if_neg h15, if_pos h16]
        have hy := (hw 1 (by decide)).mpr h16
        rw [hP] at G
        refine J_aload_n C (dA DX8_readsItem_0 0 rfl) rfl ?_
        refine J_aload_n C (dA DX8_readsItem_0 1 rfl) rfl ?_
        refine G_X8_letters C wF_RX8_28 (dA DX8_readsItem_0 2 rfl) ?_
        refine V_X8_wordOf C (c_wd71 l E hB k) wM_RX8_240 (by decide) (dA DX8_readsItem_0 3 rfl) rfl (Nat.le_of_ble_eq_true rfl) ?_
        rw [hx]
        refine J_ist_1_3 C (dA DX8_readsItem_0 4 rfl) rfl ?_
        refine J_iload_n C (dA DX8_readsItem_0 5 rfl) rfl ?_
        refine J_if_lt (tgt := 19) C (dA DX8_readsItem_0 6 rfl) (by decide) (fun h10 => ?_) (fun h10 => ?_)
        · refine J_aload_n C (dA DX8_readsItem_0 11 rfl) rfl ?_
          refine J_aload_n C (dA DX8_readsItem_0 12 rfl) rfl ?_
          refine G_X8_others C wF_RX8_35 (dA DX8_readsItem_0 13 rfl) ?_
          refine V_X8_wordOf C (c_wd73 l E hB k) wM_RX8_240 (by decide) (dA DX8_readsItem_0 14 rfl) rfl (Nat.le_of_ble_eq_true rfl) ?_
          rw [hy]
          refine J_ist_2_3 C (dA DX8_readsItem_0 15 rfl) rfl ?_
          refine J_iload_n C (dA DX8_readsItem_0 16 rfl) rfl ?_
          refine J_if_ge_n (tgt := 34) C (by decide) (dA DX8_readsItem_0 17 rfl) (by decide) (fun h29 => ?_) (fun h29 => ?_)
          · refine J_aload_n C (dA DX8_readsItem_0 20 rfl) rfl ?_
            refine V_X8_nextToken C (c_nt l E hB k) wM_RX8_237 (by decide) (dA DX8_readsItem_0 21 rfl) rfl (Nat.le_of_ble_eq_true rfl) ?_
            refine J_iload_n C (dA DX8_readsItem_0 22 rfl) rfl ?_
            refine J_if_ne_n (tgt := 47) C (by decide) (dA DX8_readsItem_0 23 rfl) (by decide) (fun h39 => ?_) (fun h39 => ?_)
            · refine J_aload_n C (dA DX8_readsItem_0 27 rfl) rfl ?_
              refine G_X8_s C wF_RX8_9 (dA DX8_readsItem_0 28 rfl) ?_
              refine J_iconst (v := nI 3) C (dA DX8_readsItem_0 29 rfl) (by decide) ?_
              refine J_iload_n C (dA DX8_readsItem_0 30 rfl) rfl ?_
              refine J_iconst (v := nI 1) C (dA DX8_readsItem_0 31 rfl) (by decide) ?_
              refine J_icmp_ne_n (tgt := 61) C (by decide) (by decide) (dA DX8_readsItem_0 32 rfl) (by decide) (fun h54 => ?_) (fun h54 => ?_)
              · exact absurd rfl h54
              · refine J_iconst (v := nI 1) C (dA DX8_readsItem_0 33 rfl) (by decide) ?_
                refine J_goto (tgt := 62) C (dA DX8_readsItem_0 34 rfl) (by decide) ?_
                refine S_1 C (hk := rfl) rfl (by omega) (dA DX8_readsItem_0 36 rfl) ?_
                refine J_iconst (v := nI 1) C (dA DX8_readsItem_0 37 rfl) (by decide) ?_
                rw [rr_S hS.1 (by decide)]
                exact J_zret C G rfl (dA DX8_readsItem_0 38 rfl) ⟨rfl, rfl⟩
            · exact absurd h39 (by decide)
          · exact h29.elim
        · exact absurd (by decide) h10
      · by_cases h17 : hW g n k 17 = true
        · have hP : pItem false g n k S = (true, k + 1, upd S 3 (nI 0)) := by unfold pItem; rw [if_neg hkd, if_neg h15, if_neg h16, if_pos h17]
          have hy := (hw 2 (by decide)).mpr h17
          rw [hP] at G
          refine J_aload_n C (dA DX8_readsItem_0 0 rfl) rfl ?_
          refine J_aload_n C (dA DX8_readsItem_0 1 rfl) rfl ?_
          refine G_X8_letters C wF_RX8_28 (dA DX8_readsItem_0 2 rfl) ?_
          refine V_X8_wordOf C (c_wd71 l E hB k) wM_RX8_240 (by decide) (dA DX8_readsItem_0 3 rfl) rfl (Nat.le_of_ble_eq_true rfl) ?_
          rw [hx]
          refine J_ist_1_3 C (dA DX8_readsItem_0 4 rfl) rfl ?_
          refine J_iload_n C (dA DX8_readsItem_0 5 rfl) rfl ?_
          refine J_if_lt (tgt := 19) C (dA DX8_readsItem_0 6 rfl) (by decide) (fun h10 => ?_) (fun h10 => ?_)
          · refine J_aload_n C (dA DX8_readsItem_0 11 rfl) rfl ?_
            refine J_aload_n C (dA DX8_readsItem_0 12 rfl) rfl ?_
            refine G_X8_others C wF_RX8_35 (dA DX8_readsItem_0 13 rfl) ?_
            refine V_X8_wordOf C (c_wd73 l E hB k) wM_RX8_240 (by decide) (dA DX8_readsItem_0 14 rfl) rfl (Nat.le_of_ble_eq_true rfl) ?_
            rw [hy]
            refine J_ist_2_3 C (dA DX8_readsItem_0 15 rfl) rfl ?_
            refine J_iload_n C (dA DX8_readsItem_0 16 rfl) rfl ?_
            refine J_if_ge_n (tgt := 34) C (by decide) (dA DX8_readsItem_0 17 rfl) (by decide) (fun h29 => ?_) (fun h29 => ?_)
            · refine J_aload_n C (dA DX8_readsItem_0 20 rfl) rfl ?_
              refine V_X8_nextToken C (c_nt l E hB k) wM_RX8_237 (by decide) (dA DX8_readsItem_0 21 rfl) rfl (Nat.le_of_ble_eq_true rfl) ?_
              refine J_iload_n C (dA DX8_readsItem_0 22 rfl) rfl ?_
              refine J_if_ne_n (tgt := 47) C (by decide) (dA DX8_readsItem_0 23 rfl) (by decide) (fun h39 => ?_) (fun h39 => ?_)
              · refine J_aload_n C (dA DX8_readsItem_0 27 rfl) rfl ?_
                refine G_X8_s C wF_RX8_9 (dA DX8_readsItem_0 28 rfl) ?_
                refine J_iconst (v := nI 3) C (dA DX8_readsItem_0 29 rfl) (by decide) ?_
                refine J_iload_n C (dA DX8_readsItem_0 30 rfl) rfl ?_
                refine J_iconst (v := nI 1) C (dA DX8_readsItem_0 31 rfl) (by decide) ?_
                refine J_icmp_ne_n (tgt := 61) C (by decide) (by decide) (dA DX8_readsItem_0 32 rfl) (by decide) (fun h54 => ?_) (fun h54 => ?_)
                · refine J_iconst (v := nI 0) C (dA DX8_readsItem_0 35 rfl) (by decide) ?_
                  refine S_1 C (hk := rfl) rfl (by omega) (dA DX8_readsItem_0 36 rfl) ?_
                  refine J_iconst (v := nI 1) C (dA DX8_readsItem_0 37 rfl) (by decide) ?_
                  rw [rr_S hS.1 (by decide)]
                  exact J_zret C G rfl (dA DX8_readsItem_0 38 rfl) ⟨rfl, rfl⟩
                · exact absurd h54 (by decide)
              · exact absurd h39 (by decide)
            · exact h29.elim
          · exact absurd (by decide) h10
        · have hP : pItem false g n k S = (false, k, S) := by unfold pItem; rw [if_neg hkd, if_neg h15, if_neg h16, if_neg h17]
          have hy : wIx g n k 15 3 = -1 := by
            unfold wIx
            rw [if_neg]
            rintro ⟨z1, z2, z3⟩
            rcases (show tV g n k = 15 ∨ tV g n k = 16 ∨ tV g n k = 17 by omega) with z | z | z
            · exact h15 (decide_eq_true ⟨z1, z⟩)
            · exact h16 (decide_eq_true ⟨z1, z⟩)
            · exact h17 (decide_eq_true ⟨z1, z⟩)
          rw [hP] at G
          refine J_aload_n C (dA DX8_readsItem_0 0 rfl) rfl ?_
          refine J_aload_n C (dA DX8_readsItem_0 1 rfl) rfl ?_
          refine G_X8_letters C wF_RX8_28 (dA DX8_readsItem_0 2 rfl) ?_
          refine V_X8_wordOf C (c_wd71 l E hB k) wM_RX8_240 (by decide) (dA DX8_readsItem_0 3 rfl) rfl (Nat.le_of_ble_eq_true rfl) ?_
          rw [hx]
          refine J_ist_1_3 C (dA DX8_readsItem_0 4 rfl) rfl ?_
          refine J_iload_n C (dA DX8_readsItem_0 5 rfl) rfl ?_
          refine J_if_lt (tgt := 19) C (dA DX8_readsItem_0 6 rfl) (by decide) (fun h10 => ?_) (fun h10 => ?_)
          · refine J_aload_n C (dA DX8_readsItem_0 11 rfl) rfl ?_
            refine J_aload_n C (dA DX8_readsItem_0 12 rfl) rfl ?_
            refine G_X8_others C wF_RX8_35 (dA DX8_readsItem_0 13 rfl) ?_
            refine V_X8_wordOf C (c_wd73 l E hB k) wM_RX8_240 (by decide) (dA DX8_readsItem_0 14 rfl) rfl (Nat.le_of_ble_eq_true rfl) ?_
            rw [hy]
            refine J_ist_2_3 C (dA DX8_readsItem_0 15 rfl) rfl ?_
            refine J_iload_n C (dA DX8_readsItem_0 16 rfl) rfl ?_
            refine J_if_ge (tgt := 34) C (dA DX8_readsItem_0 17 rfl) (by decide) (fun h29 => ?_) (fun h29 => ?_)
            · exact absurd h29 (by decide)
            · refine J_iconst (v := nI 0) C (dA DX8_readsItem_0 18 rfl) (by decide) ?_
              exact J_zret C G rfl (dA DX8_readsItem_0 19 rfl) ⟨rfl, rfl⟩
          · exact absurd (by decide) h10
end PA
