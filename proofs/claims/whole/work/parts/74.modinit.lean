theorem N_perm {D : va_G} {X : jX} {k n pc : Nat} {lv : List (Option Value)} {st : List Value} {ws ws' : va_W} (is : List Nat) (h : is.map (fun i => ws[i]?) = ws'.map some) (hnd : va_nd is = true) (kk : NJ D X k n pc lv st ws') : NJ D X k n pc lv st ws :=
  fun H locs ls hP hD hS hl => kk H locs ls (hP.sub is (fm_of h)) (hD.sub is hnd h) hS hl
def gl (o j : Nat) : Int32 := nI (ltr (o + j))
def sI (i x : Nat) : Int32 := if x = 2 then nI 1 else if 4 ≤ x ∧ x < 4 + 6 * i then (if (x - 4) % 6 = 0 then nI (((x - 4) / 6 + 1) % 16) else if (x - 4) % 6 = 1 then nI 3 else if (x - 4) % 6 = 4 then nI ((x - 4) / 6) else if (x - 4) % 6 = 5 then nI 10 else 0) else 0
def sJ (i x : Nat) : Int32 := if 124 ≤ x ∧ x < 124 + i then -1 else sI 16 x
theorem sI_0 : upd zz0 2 (nI 1) = sI 0 := by
  funext x
  unfold upd sI zz0
  by_cases h : x = 2
  · rw [if_pos h, if_pos h]
  · rw [if_neg h, if_neg h, if_neg (by omega)]
theorem sI_s (i : Nat) : upd (upd (upd (upd (sI i) (4 + 6 * i + 0) (nI ((i + 1) % 16))) (4 + 6 * i + 1) (nI 3)) (4 + 6 * i + 4) (nI i)) (4 + 6 * i + 5) (nI 10) = sI (i + 1) := by
  funext x
  unfold upd
  by_cases h5 : x = 4 + 6 * i + 5
  · rw [if_pos h5, h5]
    unfold sI
    rw [if_neg (by omega), if_pos (by omega), if_neg (by omega), if_neg (by omega), if_neg (by omega), if_pos (by omega)]
  · rw [if_neg h5]
    by_cases h4 : x = 4 + 6 * i + 4
    · rw [if_pos h4, h4]
      unfold sI
      rw [if_neg (by omega), if_pos (by omega), if_neg (by omega), if_neg (by omega), if_pos (by omega)]
      exact congrArg nI (by omega)
    · rw [if_neg h4]
      by_cases h1 : x = 4 + 6 * i + 1
      · rw [if_pos h1, h1]
        unfold sI
        rw [if_neg (by omega), if_pos (by omega), if_neg (by omega), if_pos (by omega)]
      · rw [if_neg h1]
        by_cases h0 : x = 4 + 6 * i + 0
        · rw [if_pos h0, h0]
          unfold sI
          rw [if_neg (by omega), if_pos (by omega), if_pos (by omega)]
          exact congrArg nI (by omega)
        · rw [if_neg h0]
          unfold sI
          by_cases h2 : x = 2
          · rw [if_pos h2, if_pos h2]
          · rw [if_neg h2, if_neg h2]
            by_cases h3 : 4 ≤ x ∧ x < 4 + 6 * i
            · rw [if_pos h3, if_pos (show 4 ≤ x ∧ x < 4 + 6 * (i + 1) by omega)]
            · rw [if_neg h3]
              by_cases h6 : 4 ≤ x ∧ x < 4 + 6 * (i + 1)
              · rw [if_pos h6, if_neg (by omega), if_neg (by omega), if_neg (by omega), if_neg (by omega)]
              · rw [if_neg h6]
theorem sJ_0 : sI 16 = sJ 0 := by funext x; unfold sJ; rw [if_neg (by omega)]
theorem sJ_s (i : Nat) : upd (sJ i) (124 + i) (-1) = sJ (i + 1) := by
  funext x
  unfold upd sJ
  by_cases h : x = 124 + i
  · rw [if_pos h, if_pos (by omega)]
  · rw [if_neg h]
    by_cases h2 : 124 ≤ x ∧ x < 124 + i
    · rw [if_pos h2, if_pos (by omega)]
    · rw [if_neg h2, if_neg (by omega)]
theorem ky8_lays1 : jy yX8_lays1 cX8_lays1 4 none 3 := ⟨wC_yX8_lays1, wN_RX8, ⟨by decide +kernel, by decide +kernel, by decide +kernel⟩, by decide⟩
set_option maxRecDepth 100000 in
theorem n_X8_lays1 (l : Launch) (D : va_G) (τ : Nat → ClassId) (a s : Nat) (fs : List Value) (f : Nat → Int32) (h0 : fs[0]? = some (.ref s)) (p w : Nat) (hp : p < 16) (hw : w < 6) (x : Int32) : CN l D τ 0 0 0 yX8_lays1 cX8_lays1 4 [.ref a, .int (nI p), .int (nI w), .int x] [(a, .inr (8, fs)), (s, .inl (τ 0, 134, .inl f))] (fun ws' => ws' = [(a, .inr (8, fs)), (s, .inl (τ 0, 134, .inl (upd f (4 + 6 * p + w) x)))]) := by
  refine CN_intro (own := RX8) (by decide +kernel) rfl (by simp [Value.category]) (Nat.le_of_ble_eq_true rfl) rfl (fun X C G hin => ?_)
  show NJ D X 0 0 0 [some (.ref a), some (.int (nI p)), some (.int (nI w)), some (.int x)] [] [(a, .inr (8, fs)), (s, .inl (τ 0, 134, .inl f))]
  refine N_aload_n C (dA DX8_lays1_0 0 rfl) rfl ?_
  refine N_get C (q0 := 0) (ci := 8) (T := TX8) (N := 24) (Cn := RX8) (j := 0) rfl inX8 rfl (by decide) h0 wF_RX8_9 (dA DX8_lays1_0 1 rfl) ?_
  refine N_iconst (v := nI 4) C (dA DX8_lays1_0 2 rfl) (by decide) ?_
  refine N_bipush (v := nI 6) C (dA DX8_lays1_0 3 rfl) (by decide) ?_
  refine N_iload_n C (dA DX8_lays1_0 4 rfl) rfl ?_
  refine N_imul C (dA DX8_lays1_0 5 rfl) ?_
  refine N_iadd C (dA DX8_lays1_0 6 rfl) ?_
  refine N_iload_n C (dA DX8_lays1_0 7 rfl) rfl ?_
  refine N_iadd C (dA DX8_lays1_0 8 rfl) ?_
  refine N_iload_n C (dA DX8_lays1_0 9 rfl) rfl ?_
  refine N_iast C (q0 := 1) (j := 4 + 6 * p + w) rfl (by omega) (by decide) (dA DX8_lays1_0 10 rfl) ?_
  exact N_vret C G (dA DX8_lays1_0 11 rfl) rfl rfl rfl
set_option maxRecDepth 100000 in
set_option maxHeartbeats 4000000 in
theorem n_X8_init (l : Launch) (D : va_G) (τ : Nat → ClassId) (a : Nat) : CN l D τ 1 14 897 yX8_init cX8_init 2 [.ref a] [(a, .inr (8, [.null, .null, .null, .int 0, .null, .int 0, .int 0, .int 0, .int 0, .null, .null, .int 0, .int 0, .int 0, .int 0, .long 0, .null, .null, .null, .null, .null, .null, .null, .null]))] (fun ws' => ∃ (b1 : Nat) (b2 : Nat) (b3 : Nat) (b4 : Nat) (b5 : Nat) (b6 : Nat) (b7 : Nat) (b8 : Nat) (b9 : Nat) (b10 : Nat) (b11 : Nat) (b12 : Nat) (b13 : Nat) (b14 : Nat), ws' = [(a, .inr (8, [.ref b1, .ref b2, .ref b3, .int 0, .ref b4, .int 0, .int 0, .int 0, .int 0, .ref b5, .ref b6, .int 0, .int 0, .int 0, .int 0, .long 0, .ref b7, .ref b8, .ref b9, .ref b10, .ref b11, .ref b12, .ref b13, .ref b14])), (b1, .inl (τ 0, 134, .inl (sJ 10))), (b2, .inl (τ 0, 134, .inl zz0)), (b3, .inl (τ 0, 134, .inl zz0)), (b4, .inl (τ 0, 7, .inl zz0)), (b5, .inl (τ 0, 16, .inl zz0)), (b6, .inl (τ 0, 120, .inl zz0)), (b7, .inl (τ 1, 56, .inl (pf (gl 0) 56))), (b8, .inl (τ 1, 16, .inl (pf (gl 56) 16))), (b9, .inl (τ 1, 24, .inl (pf (gl 72) 24))), (b10, .inl (τ 1, 48, .inl (pf (gl 96) 48))), (b11, .inl (τ 0, 4, .inl zz0)), (b12, .inl (τ 0, 4, .inl zz0)), (b13, .inl (τ 0, 160, .inl zz0)), (b14, .inl (τ 0, 40, .inl zz0))]) := by
  refine CN_intro (own := RX8) (by decide +kernel) rfl (by simp [Value.category]) (Nat.le_of_ble_eq_true rfl) rfl (fun X C G hin => ?_)
  show NJ D X 0 0 0 [some (.ref a), none] [] [(a, .inr (8, [.null, .null, .null, .int 0, .null, .int 0, .int 0, .int 0, .int 0, .null, .null, .int 0, .int 0, .int 0, .int 0, .long 0, .null, .null, .null, .null, .null, .null, .null, .null]))]
  refine N_aload_n C (dA DX8_init_0 0 rfl) rfl ?_
  refine N_objInit C wM_RX8_1 wI_java_lang_Object_init_V_MethodName wC_java_lang_Object_init_V_MethodName (dA DX8_init_0 1 rfl) rfl (by decide) ?_
  refine N_aload_n C (dA DX8_init_0 2 rfl) rfl ?_
  refine N_sipush (v := nI 134) C (dA DX8_init_0 3 rfl) (by decide) ?_
  refine N_newi C zz0 (fun _ _ => rfl) (by decide) wA_int (by decide) (by decide) (dA DX8_init_0 4 rfl) (fun b1 => ?_)
  show NJ D X _ _ _ _ _ [(a, .inr (8, [.null, .null, .null, .int 0, .null, .int 0, .int 0, .int 0, .int 0, .null, .null, .int 0, .int 0, .int 0, .int 0, .long 0, .null, .null, .null, .null, .null, .null, .null, .null])), (b1, .inl (τ 0, 134, .inl zz0))]
  refine N_putF C hin (q0 := 0) (ci := 8) (T := TX8) (N := 24) (Cn := RX8) (j := 0) rfl inX8 tyX8_ok nmX8 rfl (by decide) wF_RX8_9 rfl rfl (tyX8_ok 0 (by decide)) rfl rfl (Nat.le_of_ble_eq_true rfl) (dA DX8_init_0 5 rfl) ?_
  show NJ D X _ _ _ _ _ [(a, .inr (8, [.ref b1, .null, .null, .int 0, .null, .int 0, .int 0, .int 0, .int 0, .null, .null, .int 0, .int 0, .int 0, .int 0, .long 0, .null, .null, .null, .null, .null, .null, .null, .null])), (b1, .inl (τ 0, 134, .inl zz0))]
  refine N_aload_n C (dA DX8_init_0 6 rfl) rfl ?_
  refine N_sipush (v := nI 134) C (dA DX8_init_0 7 rfl) (by decide) ?_
  refine N_newi C zz0 (fun _ _ => rfl) (by decide) wA_int (by decide) (by decide) (dA DX8_init_0 8 rfl) (fun b2 => ?_)
  show NJ D X _ _ _ _ _ [(a, .inr (8, [.ref b1, .null, .null, .int 0, .null, .int 0, .int 0, .int 0, .int 0, .null, .null, .int 0, .int 0, .int 0, .int 0, .long 0, .null, .null, .null, .null, .null, .null, .null, .null])), (b1, .inl (τ 0, 134, .inl zz0)), (b2, .inl (τ 0, 134, .inl zz0))]
  refine N_putF C hin (q0 := 0) (ci := 8) (T := TX8) (N := 24) (Cn := RX8) (j := 1) rfl inX8 tyX8_ok nmX8 rfl (by decide) wF_RX8_13 rfl rfl (tyX8_ok 1 (by decide)) rfl rfl (Nat.le_of_ble_eq_true rfl) (dA DX8_init_0 9 rfl) ?_
  show NJ D X _ _ _ _ _ [(a, .inr (8, [.ref b1, .ref b2, .null, .int 0, .null, .int 0, .int 0, .int 0, .int 0, .null, .null, .int 0, .int 0, .int 0, .int 0, .long 0, .null, .null, .null, .null, .null, .null, .null, .null])), (b1, .inl (τ 0, 134, .inl zz0)), (b2, .inl (τ 0, 134, .inl zz0))]
  refine N_aload_n C (dA DX8_init_0 10 rfl) rfl ?_
  refine N_sipush (v := nI 134) C (dA DX8_init_0 11 rfl) (by decide) ?_
  refine N_newi C zz0 (fun _ _ => rfl) (by decide) wA_int (by decide) (by decide) (dA DX8_init_0 12 rfl) (fun b3 => ?_)
  show NJ D X _ _ _ _ _ [(a, .inr (8, [.ref b1, .ref b2, .null, .int 0, .null, .int 0, .int 0, .int 0, .int 0, .null, .null, .int 0, .int 0, .int 0, .int 0, .long 0, .null, .null, .null, .null, .null, .null, .null, .null])), (b1, .inl (τ 0, 134, .inl zz0)), (b2, .inl (τ 0, 134, .inl zz0)), (b3, .inl (τ 0, 134, .inl zz0))]
  refine N_putF C hin (q0 := 0) (ci := 8) (T := TX8) (N := 24) (Cn := RX8) (j := 2) rfl inX8 tyX8_ok nmX8 rfl (by decide) wF_RX8_16 rfl rfl (tyX8_ok 2 (by decide)) rfl rfl (Nat.le_of_ble_eq_true rfl) (dA DX8_init_0 13 rfl) ?_
  show NJ D X _ _ _ _ _ [(a, .inr (8, [.ref b1, .ref b2, .ref b3, .int 0, .null, .int 0, .int 0, .int 0, .int 0, .null, .null, .int 0, .int 0, .int 0, .int 0, .long 0, .null, .null, .null, .null, .null, .null, .null, .null])), (b1, .inl (τ 0, 134, .inl zz0)), (b2, .inl (τ 0, 134, .inl zz0)), (b3, .inl (τ 0, 134, .inl zz0))]
  refine N_aload_n C (dA DX8_init_0 14 rfl) rfl ?_
  refine N_bipush (v := nI 7) C (dA DX8_init_0 15 rfl) (by decide) ?_
  refine N_newi C zz0 (fun _ _ => rfl) (by decide) wA_int (by decide) (by decide) (dA DX8_init_0 16 rfl) (fun b4 => ?_)
  show NJ D X _ _ _ _ _ [(a, .inr (8, [.ref b1, .ref b2, .ref b3, .int 0, .null, .int 0, .int 0, .int 0, .int 0, .null, .null, .int 0, .int 0, .int 0, .int 0, .long 0, .null, .null, .null, .null, .null, .null, .null, .null])), (b1, .inl (τ 0, 134, .inl zz0)), (b2, .inl (τ 0, 134, .inl zz0)), (b3, .inl (τ 0, 134, .inl zz0)), (b4, .inl (τ 0, 7, .inl zz0))]
  refine N_putF C hin (q0 := 0) (ci := 8) (T := TX8) (N := 24) (Cn := RX8) (j := 4) rfl inX8 tyX8_ok nmX8 rfl (by decide) wF_RX8_19 rfl rfl (tyX8_ok 4 (by decide)) rfl rfl (Nat.le_of_ble_eq_true rfl) (dA DX8_init_0 17 rfl) ?_
  show NJ D X _ _ _ _ _ [(a, .inr (8, [.ref b1, .ref b2, .ref b3, .int 0, .ref b4, .int 0, .int 0, .int 0, .int 0, .null, .null, .int 0, .int 0, .int 0, .int 0, .long 0, .null, .null, .null, .null, .null, .null, .null, .null])), (b1, .inl (τ 0, 134, .inl zz0)), (b2, .inl (τ 0, 134, .inl zz0)), (b3, .inl (τ 0, 134, .inl zz0)), (b4, .inl (τ 0, 7, .inl zz0))]
  refine N_aload_n C (dA DX8_init_0 18 rfl) rfl ?_
  refine N_bipush (v := nI 16) C (dA DX8_init_0 19 rfl) (by decide) ?_
  refine N_newi C zz0 (fun _ _ => rfl) (by decide) wA_int (by decide) (by decide) (dA DX8_init_0 20 rfl) (fun b5 => ?_)
  show NJ D X _ _ _ _ _ [(a, .inr (8, [.ref b1, .ref b2, .ref b3, .int 0, .ref b4, .int 0, .int 0, .int 0, .int 0, .null, .null, .int 0, .int 0, .int 0, .int 0, .long 0, .null, .null, .null, .null, .null, .null, .null, .null])), (b1, .inl (τ 0, 134, .inl zz0)), (b2, .inl (τ 0, 134, .inl zz0)), (b3, .inl (τ 0, 134, .inl zz0)), (b4, .inl (τ 0, 7, .inl zz0)), (b5, .inl (τ 0, 16, .inl zz0))]
  refine N_putF C hin (q0 := 0) (ci := 8) (T := TX8) (N := 24) (Cn := RX8) (j := 9) rfl inX8 tyX8_ok nmX8 rfl (by decide) wF_RX8_22 rfl rfl (tyX8_ok 9 (by decide)) rfl rfl (Nat.le_of_ble_eq_true rfl) (dA DX8_init_0 21 rfl) ?_
  show NJ D X _ _ _ _ _ [(a, .inr (8, [.ref b1, .ref b2, .ref b3, .int 0, .ref b4, .int 0, .int 0, .int 0, .int 0, .ref b5, .null, .int 0, .int 0, .int 0, .int 0, .long 0, .null, .null, .null, .null, .null, .null, .null, .null])), (b1, .inl (τ 0, 134, .inl zz0)), (b2, .inl (τ 0, 134, .inl zz0)), (b3, .inl (τ 0, 134, .inl zz0)), (b4, .inl (τ 0, 7, .inl zz0)), (b5, .inl (τ 0, 16, .inl zz0))]
  refine N_aload_n C (dA DX8_init_0 22 rfl) rfl ?_
  refine N_bipush (v := nI 120) C (dA DX8_init_0 23 rfl) (by decide) ?_
  refine N_newi C zz0 (fun _ _ => rfl) (by decide) wA_int (by decide) (by decide) (dA DX8_init_0 24 rfl) (fun b6 => ?_)
  show NJ D X _ _ _ _ _ [(a, .inr (8, [.ref b1, .ref b2, .ref b3, .int 0, .ref b4, .int 0, .int 0, .int 0, .int 0, .ref b5, .null, .int 0, .int 0, .int 0, .int 0, .long 0, .null, .null, .null, .null, .null, .null, .null, .null])), (b1, .inl (τ 0, 134, .inl zz0)), (b2, .inl (τ 0, 134, .inl zz0)), (b3, .inl (τ 0, 134, .inl zz0)), (b4, .inl (τ 0, 7, .inl zz0)), (b5, .inl (τ 0, 16, .inl zz0)), (b6, .inl (τ 0, 120, .inl zz0))]
  refine N_putF C hin (q0 := 0) (ci := 8) (T := TX8) (N := 24) (Cn := RX8) (j := 10) rfl inX8 tyX8_ok nmX8 rfl (by decide) wF_RX8_25 rfl rfl (tyX8_ok 10 (by decide)) rfl rfl (Nat.le_of_ble_eq_true rfl) (dA DX8_init_0 25 rfl) ?_
  show NJ D X _ _ _ _ _ [(a, .inr (8, [.ref b1, .ref b2, .ref b3, .int 0, .ref b4, .int 0, .int 0, .int 0, .int 0, .ref b5, .ref b6, .int 0, .int 0, .int 0, .int 0, .long 0, .null, .null, .null, .null, .null, .null, .null, .null])), (b1, .inl (τ 0, 134, .inl zz0)), (b2, .inl (τ 0, 134, .inl zz0)), (b3, .inl (τ 0, 134, .inl zz0)), (b4, .inl (τ 0, 7, .inl zz0)), (b5, .inl (τ 0, 16, .inl zz0)), (b6, .inl (τ 0, 120, .inl zz0))]
  refine N_aload_n C (dA DX8_init_0 26 rfl) rfl ?_
  refine N_bipush (v := nI 56) C (dA DX8_init_0 27 rfl) (by decide) ?_
  refine N_newc C (pf (gl 0) 0) (fun i _ => if_neg (Nat.not_lt_zero i)) (by decide) wA_char (by decide) (by decide) (dA DX8_init_0 28 rfl) (fun b7 => ?_)
  show NJ D X _ _ _ _ _ [(a, .inr (8, [.ref b1, .ref b2, .ref b3, .int 0, .ref b4, .int 0, .int 0, .int 0, .int 0, .ref b5, .ref b6, .int 0, .int 0, .int 0, .int 0, .long 0, .null, .null, .null, .null, .null, .null, .null, .null])), (b1, .inl (τ 0, 134, .inl zz0)), (b2, .inl (τ 0, 134, .inl zz0)), (b3, .inl (τ 0, 134, .inl zz0)), (b4, .inl (τ 0, 7, .inl zz0)), (b5, .inl (τ 0, 16, .inl zz0)), (b6, .inl (τ 0, 120, .inl zz0)), (b7, .inl (τ 1, 56, .inl (pf (gl 0) 0)))]
  refine N_dup C (dA DX8_init_0 29 rfl) rfl ?_
  refine N_iconst (v := nI 0) C (dA DX8_init_0 30 rfl) (by decide) ?_
  refine N_bipush (v := nI 116) C (dA DX8_init_0 31 rfl) (by decide) ?_
  refine N_cast C (q0 := 7) (j := 0) (y := 116) rfl (by decide) (by decide) (by decide) (dA DX8_init_0 32 rfl) ?_
  rw [show upd (pf (gl 0) 0) 0 (nI 116) = pf (gl 0) 1 from pf_s (gl 0) 0]
  show NJ D X _ _ _ _ _ [(a, .inr (8, [.ref b1, .ref b2, .ref b3, .int 0, .ref b4, .int 0, .int 0, .int 0, .int 0, .ref b5, .ref b6, .int 0, .int 0, .int 0, .int 0, .long 0, .null, .null, .null, .null, .null, .null, .null, .null])), (b1, .inl (τ 0, 134, .inl zz0)), (b2, .inl (τ 0, 134, .inl zz0)), (b3, .inl (τ 0, 134, .inl zz0)), (b4, .inl (τ 0, 7, .inl zz0)), (b5, .inl (τ 0, 16, .inl zz0)), (b6, .inl (τ 0, 120, .inl zz0)), (b7, .inl (τ 1, 56, .inl (pf (gl 0) 1)))]
  refine N_dup C (dA DX8_init_0 33 rfl) rfl ?_
  refine N_iconst (v := nI 1) C (dA DX8_init_0 34 rfl) (by decide) ?_
  refine N_bipush (v := nI 104) C (dA DX8_init_0 35 rfl) (by decide) ?_
  refine N_cast C (q0 := 7) (j := 1) (y := 104) rfl (by decide) (by decide) (by decide) (dA DX8_init_0 36 rfl) ?_
  rw [show upd (pf (gl 0) 1) 1 (nI 104) = pf (gl 0) 2 from pf_s (gl 0) 1]
  show NJ D X _ _ _ _ _ [(a, .inr (8, [.ref b1, .ref b2, .ref b3, .int 0, .ref b4, .int 0, .int 0, .int 0, .int 0, .ref b5, .ref b6, .int 0, .int 0, .int 0, .int 0, .long 0, .null, .null, .null, .null, .null, .null, .null, .null])), (b1, .inl (τ 0, 134, .inl zz0)), (b2, .inl (τ 0, 134, .inl zz0)), (b3, .inl (τ 0, 134, .inl zz0)), (b4, .inl (τ 0, 7, .inl zz0)), (b5, .inl (τ 0, 16, .inl zz0)), (b6, .inl (τ 0, 120, .inl zz0)), (b7, .inl (τ 1, 56, .inl (pf (gl 0) 2)))]
  refine N_dup C (dA DX8_init_0 37 rfl) rfl ?_
  refine N_iconst (v := nI 2) C (dA DX8_init_0 38 rfl) (by decide) ?_
  refine N_bipush (v := nI 105) C (dA DX8_init_0 39 rfl) (by decide) ?_
  refine N_cast C (q0 := 7) (j := 2) (y := 105) rfl (by decide) (by decide) (by decide) (dA DX8_init_0 40 rfl) ?_
  rw [show upd (pf (gl 0) 2) 2 (nI 105) = pf (gl 0) 3 from pf_s (gl 0) 2]
  show NJ D X _ _ _ _ _ [(a, .inr (8, [.ref b1, .ref b2, .ref b3, .int 0, .ref b4, .int 0, .int 0, .int 0, .int 0, .ref b5, .ref b6, .int 0, .int 0, .int 0, .int 0, .long 0, .null, .null, .null, .null, .null, .null, .null, .null])), (b1, .inl (τ 0, 134, .inl zz0)), (b2, .inl (τ 0, 134, .inl zz0)), (b3, .inl (τ 0, 134, .inl zz0)), (b4, .inl (τ 0, 7, .inl zz0)), (b5, .inl (τ 0, 16, .inl zz0)), (b6, .inl (τ 0, 120, .inl zz0)), (b7, .inl (τ 1, 56, .inl (pf (gl 0) 3)))]
  refine N_dup C (dA DX8_init_0 41 rfl) rfl ?_
  refine N_iconst (v := nI 3) C (dA DX8_init_0 42 rfl) (by decide) ?_
  refine N_bipush (v := nI 110) C (dA DX8_init_0 43 rfl) (by decide) ?_
  refine N_cast C (q0 := 7) (j := 3) (y := 110) rfl (by decide) (by decide) (by decide) (dA DX8_init_0 44 rfl) ?_
  rw [show upd (pf (gl 0) 3) 3 (nI 110) = pf (gl 0) 4 from pf_s (gl 0) 3]
  show NJ D X _ _ _ _ _ [(a, .inr (8, [.ref b1, .ref b2, .ref b3, .int 0, .ref b4, .int 0, .int 0, .int 0, .int 0, .ref b5, .ref b6, .int 0, .int 0, .int 0, .int 0, .long 0, .null, .null, .null, .null, .null, .null, .null, .null])), (b1, .inl (τ 0, 134, .inl zz0)), (b2, .inl (τ 0, 134, .inl zz0)), (b3, .inl (τ 0, 134, .inl zz0)), (b4, .inl (τ 0, 7, .inl zz0)), (b5, .inl (τ 0, 16, .inl zz0)), (b6, .inl (τ 0, 120, .inl zz0)), (b7, .inl (τ 1, 56, .inl (pf (gl 0) 4)))]
  refine N_dup C (dA DX8_init_0 45 rfl) rfl ?_
  refine N_iconst (v := nI 4) C (dA DX8_init_0 46 rfl) (by decide) ?_
  refine N_bipush (v := nI 103) C (dA DX8_init_0 47 rfl) (by decide) ?_
  refine N_cast C (q0 := 7) (j := 4) (y := 103) rfl (by decide) (by decide) (by decide) (dA DX8_init_0 48 rfl) ?_
  rw [show upd (pf (gl 0) 4) 4 (nI 103) = pf (gl 0) 5 from pf_s (gl 0) 4]
  show NJ D X _ _ _ _ _ [(a, .inr (8, [.ref b1, .ref b2, .ref b3, .int 0, .ref b4, .int 0, .int 0, .int 0, .int 0, .ref b5, .ref b6, .int 0, .int 0, .int 0, .int 0, .long 0, .null, .null, .null, .null, .null, .null, .null, .null])), (b1, .inl (τ 0, 134, .inl zz0)), (b2, .inl (τ 0, 134, .inl zz0)), (b3, .inl (τ 0, 134, .inl zz0)), (b4, .inl (τ 0, 7, .inl zz0)), (b5, .inl (τ 0, 16, .inl zz0)), (b6, .inl (τ 0, 120, .inl zz0)), (b7, .inl (τ 1, 56, .inl (pf (gl 0) 5)))]
  refine N_dup C (dA DX8_init_0 49 rfl) rfl ?_
  refine N_iconst (v := nI 5) C (dA DX8_init_0 50 rfl) (by decide) ?_
  refine N_bipush (v := nI 32) C (dA DX8_init_0 51 rfl) (by decide) ?_
  refine N_cast C (q0 := 7) (j := 5) (y := 32) rfl (by decide) (by decide) (by decide) (dA DX8_init_0 52 rfl) ?_
  rw [show upd (pf (gl 0) 5) 5 (nI 32) = pf (gl 0) 6 from pf_s (gl 0) 5]
  show NJ D X _ _ _ _ _ [(a, .inr (8, [.ref b1, .ref b2, .ref b3, .int 0, .ref b4, .int 0, .int 0, .int 0, .int 0, .ref b5, .ref b6, .int 0, .int 0, .int 0, .int 0, .long 0, .null, .null, .null, .null, .null, .null, .null, .null])), (b1, .inl (τ 0, 134, .inl zz0)), (b2, .inl (τ 0, 134, .inl zz0)), (b3, .inl (τ 0, 134, .inl zz0)), (b4, .inl (τ 0, 7, .inl zz0)), (b5, .inl (τ 0, 16, .inl zz0)), (b6, .inl (τ 0, 120, .inl zz0)), (b7, .inl (τ 1, 56, .inl (pf (gl 0) 6)))]
  refine N_dup C (dA DX8_init_0 53 rfl) rfl ?_
  refine N_bipush (v := nI 6) C (dA DX8_init_0 54 rfl) (by decide) ?_
  refine N_bipush (v := nI 32) C (dA DX8_init_0 55 rfl) (by decide) ?_
  refine N_cast C (q0 := 7) (j := 6) (y := 32) rfl (by decide) (by decide) (by decide) (dA DX8_init_0 56 rfl) ?_
  rw [show upd (pf (gl 0) 6) 6 (nI 32) = pf (gl 0) 7 from pf_s (gl 0) 6]
  show NJ D X _ _ _ _ _ [(a, .inr (8, [.ref b1, .ref b2, .ref b3, .int 0, .ref b4, .int 0, .int 0, .int 0, .int 0, .ref b5, .ref b6, .int 0, .int 0, .int 0, .int 0, .long 0, .null, .null, .null, .null, .null, .null, .null, .null])), (b1, .inl (τ 0, 134, .inl zz0)), (b2, .inl (τ 0, 134, .inl zz0)), (b3, .inl (τ 0, 134, .inl zz0)), (b4, .inl (τ 0, 7, .inl zz0)), (b5, .inl (τ 0, 16, .inl zz0)), (b6, .inl (τ 0, 120, .inl zz0)), (b7, .inl (τ 1, 56, .inl (pf (gl 0) 7)))]
  refine N_dup C (dA DX8_init_0 57 rfl) rfl ?_
  refine N_bipush (v := nI 7) C (dA DX8_init_0 58 rfl) (by decide) ?_
  refine N_bipush (v := nI 32) C (dA DX8_init_0 59 rfl) (by decide) ?_
  refine N_cast C (q0 := 7) (j := 7) (y := 32) rfl (by decide) (by decide) (by decide) (dA DX8_init_0 60 rfl) ?_
  rw [show upd (pf (gl 0) 7) 7 (nI 32) = pf (gl 0) 8 from pf_s (gl 0) 7]
  show NJ D X _ _ _ _ _ [(a, .inr (8, [.ref b1, .ref b2, .ref b3, .int 0, .ref b4, .int 0, .int 0, .int 0, .int 0, .ref b5, .ref b6, .int 0, .int 0, .int 0, .int 0, .long 0, .null, .null, .null, .null, .null, .null, .null, .null])), (b1, .inl (τ 0, 134, .inl zz0)), (b2, .inl (τ 0, 134, .inl zz0)), (b3, .inl (τ 0, 134, .inl zz0)), (b4, .inl (τ 0, 7, .inl zz0)), (b5, .inl (τ 0, 16, .inl zz0)), (b6, .inl (τ 0, 120, .inl zz0)), (b7, .inl (τ 1, 56, .inl (pf (gl 0) 8)))]
  refine N_dup C (dA DX8_init_0 61 rfl) rfl ?_
  refine N_bipush (v := nI 8) C (dA DX8_init_0 62 rfl) (by decide) ?_
  refine N_bipush (v := nI 102) C (dA DX8_init_0 63 rfl) (by decide) ?_
  refine N_cast C (q0 := 7) (j := 8) (y := 102) rfl (by decide) (by decide) (by decide) (dA DX8_init_0 64 rfl) ?_
  rw [show upd (pf (gl 0) 8) 8 (nI 102) = pf (gl 0) 9 from pf_s (gl 0) 8]
  show NJ D X _ _ _ _ _ [(a, .inr (8, [.ref b1, .ref b2, .ref b3, .int 0, .ref b4, .int 0, .int 0, .int 0, .int 0, .ref b5, .ref b6, .int 0, .int 0, .int 0, .int 0, .long 0, .null, .null, .null, .null, .null, .null, .null, .null])), (b1, .inl (τ 0, 134, .inl zz0)), (b2, .inl (τ 0, 134, .inl zz0)), (b3, .inl (τ 0, 134, .inl zz0)), (b4, .inl (τ 0, 7, .inl zz0)), (b5, .inl (τ 0, 16, .inl zz0)), (b6, .inl (τ 0, 120, .inl zz0)), (b7, .inl (τ 1, 56, .inl (pf (gl 0) 9)))]
  refine N_dup C (dA DX8_init_0 65 rfl) rfl ?_
  refine N_bipush (v := nI 9) C (dA DX8_init_0 66 rfl) (by decide) ?_
  refine N_bipush (v := nI 105) C (dA DX8_init_0 67 rfl) (by decide) ?_
  refine N_cast C (q0 := 7) (j := 9) (y := 105) rfl (by decide) (by decide) (by decide) (dA DX8_init_0 68 rfl) ?_
  rw [show upd (pf (gl 0) 9) 9 (nI 105) = pf (gl 0) 10 from pf_s (gl 0) 9]
  show NJ D X _ _ _ _ _ [(a, .inr (8, [.ref b1, .ref b2, .ref b3, .int 0, .ref b4, .int 0, .int 0, .int 0, .int 0, .ref b5, .ref b6, .int 0, .int 0, .int 0, .int 0, .long 0, .null, .null, .null, .null, .null, .null, .null, .null])), (b1, .inl (τ 0, 134, .inl zz0)), (b2, .inl (τ 0, 134, .inl zz0)), (b3, .inl (τ 0, 134, .inl zz0)), (b4, .inl (τ 0, 7, .inl zz0)), (b5, .inl (τ 0, 16, .inl zz0)), (b6, .inl (τ 0, 120, .inl zz0)), (b7, .inl (τ 1, 56, .inl (pf (gl 0) 10)))]
  refine N_dup C (dA DX8_init_0 69 rfl) rfl ?_
  refine N_bipush (v := nI 10) C (dA DX8_init_0 70 rfl) (by decide) ?_
  refine N_bipush (v := nI 115) C (dA DX8_init_0 71 rfl) (by decide) ?_
  refine N_cast C (q0 := 7) (j := 10) (y := 115) rfl (by decide) (by decide) (by decide) (dA DX8_init_0 72 rfl) ?_
  rw [show upd (pf (gl 0) 10) 10 (nI 115) = pf (gl 0) 11 from pf_s (gl 0) 10]
  show NJ D X _ _ _ _ _ [(a, .inr (8, [.ref b1, .ref b2, .ref b3, .int 0, .ref b4, .int 0, .int 0, .int 0, .int 0, .ref b5, .ref b6, .int 0, .int 0, .int 0, .int 0, .long 0, .null, .null, .null, .null, .null, .null, .null, .null])), (b1, .inl (τ 0, 134, .inl zz0)), (b2, .inl (τ 0, 134, .inl zz0)), (b3, .inl (τ 0, 134, .inl zz0)), (b4, .inl (τ 0, 7, .inl zz0)), (b5, .inl (τ 0, 16, .inl zz0)), (b6, .inl (τ 0, 120, .inl zz0)), (b7, .inl (τ 1, 56, .inl (pf (gl 0) 11)))]
  refine N_dup C (dA DX8_init_0 73 rfl) rfl ?_
  refine N_bipush (v := nI 11) C (dA DX8_init_0 74 rfl) (by decide) ?_
  refine N_bipush (v := nI 104) C (dA DX8_init_0 75 rfl) (by decide) ?_
  refine N_cast C (q0 := 7) (j := 11) (y := 104) rfl (by decide) (by decide) (by decide) (dA DX8_init_0 76 rfl) ?_
  rw [show upd (pf (gl 0) 11) 11 (nI 104) = pf (gl 0) 12 from pf_s (gl 0) 11]
  show NJ D X _ _ _ _ _ [(a, .inr (8, [.ref b1, .ref b2, .ref b3, .int 0, .ref b4, .int 0, .int 0, .int 0, .int 0, .ref b5, .ref b6, .int 0, .int 0, .int 0, .int 0, .long 0, .null, .null, .null, .null, .null, .null, .null, .null])), (b1, .inl (τ 0, 134, .inl zz0)), (b2, .inl (τ 0, 134, .inl zz0)), (b3, .inl (τ 0, 134, .inl zz0)), (b4, .inl (τ 0, 7, .inl zz0)), (b5, .inl (τ 0, 16, .inl zz0)), (b6, .inl (τ 0, 120, .inl zz0)), (b7, .inl (τ 1, 56, .inl (pf (gl 0) 12)))]
  refine N_dup C (dA DX8_init_0 77 rfl) rfl ?_
  refine N_bipush (v := nI 12) C (dA DX8_init_0 78 rfl) (by decide) ?_
  refine N_bipush (v := nI 32) C (dA DX8_init_0 79 rfl) (by decide) ?_
  refine N_cast C (q0 := 7) (j := 12) (y := 32) rfl (by decide) (by decide) (by decide) (dA DX8_init_0 80 rfl) ?_
  rw [show upd (pf (gl 0) 12) 12 (nI 32) = pf (gl 0) 13 from pf_s (gl 0) 12]
  show NJ D X _ _ _ _ _ [(a, .inr (8, [.ref b1, .ref b2, .ref b3, .int 0, .ref b4, .int 0, .int 0, .int 0, .int 0, .ref b5, .ref b6, .int 0, .int 0, .int 0, .int 0, .long 0, .null, .null, .null, .null, .null, .null, .null, .null])), (b1, .inl (τ 0, 134, .inl zz0)), (b2, .inl (τ 0, 134, .inl zz0)), (b3, .inl (τ 0, 134, .inl zz0)), (b4, .inl (τ 0, 7, .inl zz0)), (b5, .inl (τ 0, 16, .inl zz0)), (b6, .inl (τ 0, 120, .inl zz0)), (b7, .inl (τ 1, 56, .inl (pf (gl 0) 13)))]
  refine N_dup C (dA DX8_init_0 81 rfl) rfl ?_
  refine N_bipush (v := nI 13) C (dA DX8_init_0 82 rfl) (by decide) ?_
  refine N_bipush (v := nI 32) C (dA DX8_init_0 83 rfl) (by decide) ?_
  refine N_cast C (q0 := 7) (j := 13) (y := 32) rfl (by decide) (by decide) (by decide) (dA DX8_init_0 84 rfl) ?_
  rw [show upd (pf (gl 0) 13) 13 (nI 32) = pf (gl 0) 14 from pf_s (gl 0) 13]
  show NJ D X _ _ _ _ _ [(a, .inr (8, [.ref b1, .ref b2, .ref b3, .int 0, .ref b4, .int 0, .int 0, .int 0, .int 0, .ref b5, .ref b6, .int 0, .int 0, .int 0, .int 0, .long 0, .null, .null, .null, .null, .null, .null, .null, .null])), (b1, .inl (τ 0, 134, .inl zz0)), (b2, .inl (τ 0, 134, .inl zz0)), (b3, .inl (τ 0, 134, .inl zz0)), (b4, .inl (τ 0, 7, .inl zz0)), (b5, .inl (τ 0, 16, .inl zz0)), (b6, .inl (τ 0, 120, .inl zz0)), (b7, .inl (τ 1, 56, .inl (pf (gl 0) 14)))]
  refine N_dup C (dA DX8_init_0 85 rfl) rfl ?_
  refine N_bipush (v := nI 14) C (dA DX8_init_0 86 rfl) (by decide) ?_
  refine N_bipush (v := nI 32) C (dA DX8_init_0 87 rfl) (by decide) ?_
  refine N_cast C (q0 := 7) (j := 14) (y := 32) rfl (by decide) (by decide) (by decide) (dA DX8_init_0 88 rfl) ?_
  rw [show upd (pf (gl 0) 14) 14 (nI 32) = pf (gl 0) 15 from pf_s (gl 0) 14]
  show NJ D X _ _ _ _ _ [(a, .inr (8, [.ref b1, .ref b2, .ref b3, .int 0, .ref b4, .int 0, .int 0, .int 0, .int 0, .ref b5, .ref b6, .int 0, .int 0, .int 0, .int 0, .long 0, .null, .null, .null, .null, .null, .null, .null, .null])), (b1, .inl (τ 0, 134, .inl zz0)), (b2, .inl (τ 0, 134, .inl zz0)), (b3, .inl (τ 0, 134, .inl zz0)), (b4, .inl (τ 0, 7, .inl zz0)), (b5, .inl (τ 0, 16, .inl zz0)), (b6, .inl (τ 0, 120, .inl zz0)), (b7, .inl (τ 1, 56, .inl (pf (gl 0) 15)))]
  refine N_dup C (dA DX8_init_0 89 rfl) rfl ?_
  refine N_bipush (v := nI 15) C (dA DX8_init_0 90 rfl) (by decide) ?_
  refine N_bipush (v := nI 32) C (dA DX8_init_0 91 rfl) (by decide) ?_
  refine N_cast C (q0 := 7) (j := 15) (y := 32) rfl (by decide) (by decide) (by decide) (dA DX8_init_0 92 rfl) ?_
  rw [show upd (pf (gl 0) 15) 15 (nI 32) = pf (gl 0) 16 from pf_s (gl 0) 15]
  show NJ D X _ _ _ _ _ [(a, .inr (8, [.ref b1, .ref b2, .ref b3, .int 0, .ref b4, .int 0, .int 0, .int 0, .int 0, .ref b5, .ref b6, .int 0, .int 0, .int 0, .int 0, .long 0, .null, .null, .null, .null, .null, .null, .null, .null])), (b1, .inl (τ 0, 134, .inl zz0)), (b2, .inl (τ 0, 134, .inl zz0)), (b3, .inl (τ 0, 134, .inl zz0)), (b4, .inl (τ 0, 7, .inl zz0)), (b5, .inl (τ 0, 16, .inl zz0)), (b6, .inl (τ 0, 120, .inl zz0)), (b7, .inl (τ 1, 56, .inl (pf (gl 0) 16)))]
  refine N_dup C (dA DX8_init_0 93 rfl) rfl ?_
  refine N_bipush (v := nI 16) C (dA DX8_init_0 94 rfl) (by decide) ?_
  refine N_bipush (v := nI 100) C (dA DX8_init_0 95 rfl) (by decide) ?_
  refine N_cast C (q0 := 7) (j := 16) (y := 100) rfl (by decide) (by decide) (by decide) (dA DX8_init_0 96 rfl) ?_
  rw [show upd (pf (gl 0) 16) 16 (nI 100) = pf (gl 0) 17 from pf_s (gl 0) 16]
  show NJ D X _ _ _ _ _ [(a, .inr (8, [.ref b1, .ref b2, .ref b3, .int 0, .ref b4, .int 0, .int 0, .int 0, .int 0, .ref b5, .ref b6, .int 0, .int 0, .int 0, .int 0, .long 0, .null, .null, .null, .null, .null, .null, .null, .null])), (b1, .inl (τ 0, 134, .inl zz0)), (b2, .inl (τ 0, 134, .inl zz0)), (b3, .inl (τ 0, 134, .inl zz0)), (b4, .inl (τ 0, 7, .inl zz0)), (b5, .inl (τ 0, 16, .inl zz0)), (b6, .inl (τ 0, 120, .inl zz0)), (b7, .inl (τ 1, 56, .inl (pf (gl 0) 17)))]
  refine N_dup C (dA DX8_init_0 97 rfl) rfl ?_
  refine N_bipush (v := nI 17) C (dA DX8_init_0 98 rfl) (by decide) ?_
  refine N_bipush (v := nI 117) C (dA DX8_init_0 99 rfl) (by decide) ?_
  refine N_cast C (q0 := 7) (j := 17) (y := 117) rfl (by decide) (by decide) (by decide) (dA DX8_init_0 100 rfl) ?_
  rw [show upd (pf (gl 0) 17) 17 (nI 117) = pf (gl 0) 18 from pf_s (gl 0) 17]
  show NJ D X _ _ _ _ _ [(a, .inr (8, [.ref b1, .ref b2, .ref b3, .int 0, .ref b4, .int 0, .int 0, .int 0, .int 0, .ref b5, .ref b6, .int 0, .int 0, .int 0, .int 0, .long 0, .null, .null, .null, .null, .null, .null, .null, .null])), (b1, .inl (τ 0, 134, .inl zz0)), (b2, .inl (τ 0, 134, .inl zz0)), (b3, .inl (τ 0, 134, .inl zz0)), (b4, .inl (τ 0, 7, .inl zz0)), (b5, .inl (τ 0, 16, .inl zz0)), (b6, .inl (τ 0, 120, .inl zz0)), (b7, .inl (τ 1, 56, .inl (pf (gl 0) 18)))]
  refine N_dup C (dA DX8_init_0 101 rfl) rfl ?_
  refine N_bipush (v := nI 18) C (dA DX8_init_0 102 rfl) (by decide) ?_
  refine N_bipush (v := nI 99) C (dA DX8_init_0 103 rfl) (by decide) ?_
  refine N_cast C (q0 := 7) (j := 18) (y := 99) rfl (by decide) (by decide) (by decide) (dA DX8_init_0 104 rfl) ?_
  rw [show upd (pf (gl 0) 18) 18 (nI 99) = pf (gl 0) 19 from pf_s (gl 0) 18]
  show NJ D X _ _ _ _ _ [(a, .inr (8, [.ref b1, .ref b2, .ref b3, .int 0, .ref b4, .int 0, .int 0, .int 0, .int 0, .ref b5, .ref b6, .int 0, .int 0, .int 0, .int 0, .long 0, .null, .null, .null, .null, .null, .null, .null, .null])), (b1, .inl (τ 0, 134, .inl zz0)), (b2, .inl (τ 0, 134, .inl zz0)), (b3, .inl (τ 0, 134, .inl zz0)), (b4, .inl (τ 0, 7, .inl zz0)), (b5, .inl (τ 0, 16, .inl zz0)), (b6, .inl (τ 0, 120, .inl zz0)), (b7, .inl (τ 1, 56, .inl (pf (gl 0) 19)))]
  refine N_dup C (dA DX8_init_0 105 rfl) rfl ?_
  refine N_bipush (v := nI 19) C (dA DX8_init_0 106 rfl) (by decide) ?_
  refine N_bipush (v := nI 107) C (dA DX8_init_0 107 rfl) (by decide) ?_
  refine N_cast C (q0 := 7) (j := 19) (y := 107) rfl (by decide) (by decide) (by decide) (dA DX8_init_0 108 rfl) ?_
  rw [show upd (pf (gl 0) 19) 19 (nI 107) = pf (gl 0) 20 from pf_s (gl 0) 19]
  show NJ D X _ _ _ _ _ [(a, .inr (8, [.ref b1, .ref b2, .ref b3, .int 0, .ref b4, .int 0, .int 0, .int 0, .int 0, .ref b5, .ref b6, .int 0, .int 0, .int 0, .int 0, .long 0, .null, .null, .null, .null, .null, .null, .null, .null])), (b1, .inl (τ 0, 134, .inl zz0)), (b2, .inl (τ 0, 134, .inl zz0)), (b3, .inl (τ 0, 134, .inl zz0)), (b4, .inl (τ 0, 7, .inl zz0)), (b5, .inl (τ 0, 16, .inl zz0)), (b6, .inl (τ 0, 120, .inl zz0)), (b7, .inl (τ 1, 56, .inl (pf (gl 0) 20)))]
  refine N_dup C (dA DX8_init_0 109 rfl) rfl ?_
  refine N_bipush (v := nI 20) C (dA DX8_init_0 110 rfl) (by decide) ?_
  refine N_bipush (v := nI 32) C (dA DX8_init_0 111 rfl) (by decide) ?_
  refine N_cast C (q0 := 7) (j := 20) (y := 32) rfl (by decide) (by decide) (by decide) (dA DX8_init_0 112 rfl) ?_
  rw [show upd (pf (gl 0) 20) 20 (nI 32) = pf (gl 0) 21 from pf_s (gl 0) 20]
  show NJ D X _ _ _ _ _ [(a, .inr (8, [.ref b1, .ref b2, .ref b3, .int 0, .ref b4, .int 0, .int 0, .int 0, .int 0, .ref b5, .ref b6, .int 0, .int 0, .int 0, .int 0, .long 0, .null, .null, .null, .null, .null, .null, .null, .null])), (b1, .inl (τ 0, 134, .inl zz0)), (b2, .inl (τ 0, 134, .inl zz0)), (b3, .inl (τ 0, 134, .inl zz0)), (b4, .inl (τ 0, 7, .inl zz0)), (b5, .inl (τ 0, 16, .inl zz0)), (b6, .inl (τ 0, 120, .inl zz0)), (b7, .inl (τ 1, 56, .inl (pf (gl 0) 21)))]
  refine N_dup C (dA DX8_init_0 113 rfl) rfl ?_
  refine N_bipush (v := nI 21) C (dA DX8_init_0 114 rfl) (by decide) ?_
  refine N_bipush (v := nI 32) C (dA DX8_init_0 115 rfl) (by decide) ?_
  refine N_cast C (q0 := 7) (j := 21) (y := 32) rfl (by decide) (by decide) (by decide) (dA DX8_init_0 116 rfl) ?_
  rw [show upd (pf (gl 0) 21) 21 (nI 32) = pf (gl 0) 22 from pf_s (gl 0) 21]
  show NJ D X _ _ _ _ _ [(a, .inr (8, [.ref b1, .ref b2, .ref b3, .int 0, .ref b4, .int 0, .int 0, .int 0, .int 0, .ref b5, .ref b6, .int 0, .int 0, .int 0, .int 0, .long 0, .null, .null, .null, .null, .null, .null, .null, .null])), (b1, .inl (τ 0, 134, .inl zz0)), (b2, .inl (τ 0, 134, .inl zz0)), (b3, .inl (τ 0, 134, .inl zz0)), (b4, .inl (τ 0, 7, .inl zz0)), (b5, .inl (τ 0, 16, .inl zz0)), (b6, .inl (τ 0, 120, .inl zz0)), (b7, .inl (τ 1, 56, .inl (pf (gl 0) 22)))]
  refine N_dup C (dA DX8_init_0 117 rfl) rfl ?_
  refine N_bipush (v := nI 22) C (dA DX8_init_0 118 rfl) (by decide) ?_
  refine N_bipush (v := nI 32) C (dA DX8_init_0 119 rfl) (by decide) ?_
  refine N_cast C (q0 := 7) (j := 22) (y := 32) rfl (by decide) (by decide) (by decide) (dA DX8_init_1 0 rfl) ?_
  rw [show upd (pf (gl 0) 22) 22 (nI 32) = pf (gl 0) 23 from pf_s (gl 0) 22]
  show NJ D X _ _ _ _ _ [(a, .inr (8, [.ref b1, .ref b2, .ref b3, .int 0, .ref b4, .int 0, .int 0, .int 0, .int 0, .ref b5, .ref b6, .int 0, .int 0, .int 0, .int 0, .long 0, .null, .null, .null, .null, .null, .null, .null, .null])), (b1, .inl (τ 0, 134, .inl zz0)), (b2, .inl (τ 0, 134, .inl zz0)), (b3, .inl (τ 0, 134, .inl zz0)), (b4, .inl (τ 0, 7, .inl zz0)), (b5, .inl (τ 0, 16, .inl zz0)), (b6, .inl (τ 0, 120, .inl zz0)), (b7, .inl (τ 1, 56, .inl (pf (gl 0) 23)))]
  refine N_dup C (dA DX8_init_1 1 rfl) rfl ?_
  refine N_bipush (v := nI 23) C (dA DX8_init_1 2 rfl) (by decide) ?_
  refine N_bipush (v := nI 32) C (dA DX8_init_1 3 rfl) (by decide) ?_
  refine N_cast C (q0 := 7) (j := 23) (y := 32) rfl (by decide) (by decide) (by decide) (dA DX8_init_1 4 rfl) ?_
  rw [show upd (pf (gl 0) 23) 23 (nI 32) = pf (gl 0) 24 from pf_s (gl 0) 23]
  show NJ D X _ _ _ _ _ [(a, .inr (8, [.ref b1, .ref b2, .ref b3, .int 0, .ref b4, .int 0, .int 0, .int 0, .int 0, .ref b5, .ref b6, .int 0, .int 0, .int 0, .int 0, .long 0, .null, .null, .null, .null, .null, .null, .null, .null])), (b1, .inl (τ 0, 134, .inl zz0)), (b2, .inl (τ 0, 134, .inl zz0)), (b3, .inl (τ 0, 134, .inl zz0)), (b4, .inl (τ 0, 7, .inl zz0)), (b5, .inl (τ 0, 16, .inl zz0)), (b6, .inl (τ 0, 120, .inl zz0)), (b7, .inl (τ 1, 56, .inl (pf (gl 0) 24)))]
  refine N_dup C (dA DX8_init_1 5 rfl) rfl ?_
  refine N_bipush (v := nI 24) C (dA DX8_init_1 6 rfl) (by decide) ?_
  refine N_bipush (v := nI 102) C (dA DX8_init_1 7 rfl) (by decide) ?_
  refine N_cast C (q0 := 7) (j := 24) (y := 102) rfl (by decide) (by decide) (by decide) (dA DX8_init_1 8 rfl) ?_
  rw [show upd (pf (gl 0) 24) 24 (nI 102) = pf (gl 0) 25 from pf_s (gl 0) 24]
  show NJ D X _ _ _ _ _ [(a, .inr (8, [.ref b1, .ref b2, .ref b3, .int 0, .ref b4, .int 0, .int 0, .int 0, .int 0, .ref b5, .ref b6, .int 0, .int 0, .int 0, .int 0, .long 0, .null, .null, .null, .null, .null, .null, .null, .null])), (b1, .inl (τ 0, 134, .inl zz0)), (b2, .inl (τ 0, 134, .inl zz0)), (b3, .inl (τ 0, 134, .inl zz0)), (b4, .inl (τ 0, 7, .inl zz0)), (b5, .inl (τ 0, 16, .inl zz0)), (b6, .inl (τ 0, 120, .inl zz0)), (b7, .inl (τ 1, 56, .inl (pf (gl 0) 25)))]
  refine N_dup C (dA DX8_init_1 9 rfl) rfl ?_
  refine N_bipush (v := nI 25) C (dA DX8_init_1 10 rfl) (by decide) ?_
  refine N_bipush (v := nI 114) C (dA DX8_init_1 11 rfl) (by decide) ?_
  refine N_cast C (q0 := 7) (j := 25) (y := 114) rfl (by decide) (by decide) (by decide) (dA DX8_init_1 12 rfl) ?_
  rw [show upd (pf (gl 0) 25) 25 (nI 114) = pf (gl 0) 26 from pf_s (gl 0) 25]
  show NJ D X _ _ _ _ _ [(a, .inr (8, [.ref b1, .ref b2, .ref b3, .int 0, .ref b4, .int 0, .int 0, .int 0, .int 0, .ref b5, .ref b6, .int 0, .int 0, .int 0, .int 0, .long 0, .null, .null, .null, .null, .null, .null, .null, .null])), (b1, .inl (τ 0, 134, .inl zz0)), (b2, .inl (τ 0, 134, .inl zz0)), (b3, .inl (τ 0, 134, .inl zz0)), (b4, .inl (τ 0, 7, .inl zz0)), (b5, .inl (τ 0, 16, .inl zz0)), (b6, .inl (τ 0, 120, .inl zz0)), (b7, .inl (τ 1, 56, .inl (pf (gl 0) 26)))]
  refine N_dup C (dA DX8_init_1 13 rfl) rfl ?_
  refine N_bipush (v := nI 26) C (dA DX8_init_1 14 rfl) (by decide) ?_
  refine N_bipush (v := nI 111) C (dA DX8_init_1 15 rfl) (by decide) ?_
  refine N_cast C (q0 := 7) (j := 26) (y := 111) rfl (by decide) (by decide) (by decide) (dA DX8_init_1 16 rfl) ?_
  rw [show upd (pf (gl 0) 26) 26 (nI 111) = pf (gl 0) 27 from pf_s (gl 0) 26]
  show NJ D X _ _ _ _ _ [(a, .inr (8, [.ref b1, .ref b2, .ref b3, .int 0, .ref b4, .int 0, .int 0, .int 0, .int 0, .ref b5, .ref b6, .int 0, .int 0, .int 0, .int 0, .long 0, .null, .null, .null, .null, .null, .null, .null, .null])), (b1, .inl (τ 0, 134, .inl zz0)), (b2, .inl (τ 0, 134, .inl zz0)), (b3, .inl (τ 0, 134, .inl zz0)), (b4, .inl (τ 0, 7, .inl zz0)), (b5, .inl (τ 0, 16, .inl zz0)), (b6, .inl (τ 0, 120, .inl zz0)), (b7, .inl (τ 1, 56, .inl (pf (gl 0) 27)))]
  refine N_dup C (dA DX8_init_1 17 rfl) rfl ?_
  refine N_bipush (v := nI 27) C (dA DX8_init_1 18 rfl) (by decide) ?_
  refine N_bipush (v := nI 103) C (dA DX8_init_1 19 rfl) (by decide) ?_
  refine N_cast C (q0 := 7) (j := 27) (y := 103) rfl (by decide) (by decide) (by decide) (dA DX8_init_1 20 rfl) ?_
  rw [show upd (pf (gl 0) 27) 27 (nI 103) = pf (gl 0) 28 from pf_s (gl 0) 27]
  show NJ D X _ _ _ _ _ [(a, .inr (8, [.ref b1, .ref b2, .ref b3, .int 0, .ref b4, .int 0, .int 0, .int 0, .int 0, .ref b5, .ref b6, .int 0, .int 0, .int 0, .int 0, .long 0, .null, .null, .null, .null, .null, .null, .null, .null])), (b1, .inl (τ 0, 134, .inl zz0)), (b2, .inl (τ 0, 134, .inl zz0)), (b3, .inl (τ 0, 134, .inl zz0)), (b4, .inl (τ 0, 7, .inl zz0)), (b5, .inl (τ 0, 16, .inl zz0)), (b6, .inl (τ 0, 120, .inl zz0)), (b7, .inl (τ 1, 56, .inl (pf (gl 0) 28)))]
  refine N_dup C (dA DX8_init_1 21 rfl) rfl ?_
  refine N_bipush (v := nI 28) C (dA DX8_init_1 22 rfl) (by decide) ?_
  refine N_bipush (v := nI 32) C (dA DX8_init_1 23 rfl) (by decide) ?_
  refine N_cast C (q0 := 7) (j := 28) (y := 32) rfl (by decide) (by decide) (by decide) (dA DX8_init_1 24 rfl) ?_
  rw [show upd (pf (gl 0) 28) 28 (nI 32) = pf (gl 0) 29 from pf_s (gl 0) 28]
  show NJ D X _ _ _ _ _ [(a, .inr (8, [.ref b1, .ref b2, .ref b3, .int 0, .ref b4, .int 0, .int 0, .int 0, .int 0, .ref b5, .ref b6, .int 0, .int 0, .int 0, .int 0, .long 0, .null, .null, .null, .null, .null, .null, .null, .null])), (b1, .inl (τ 0, 134, .inl zz0)), (b2, .inl (τ 0, 134, .inl zz0)), (b3, .inl (τ 0, 134, .inl zz0)), (b4, .inl (τ 0, 7, .inl zz0)), (b5, .inl (τ 0, 16, .inl zz0)), (b6, .inl (τ 0, 120, .inl zz0)), (b7, .inl (τ 1, 56, .inl (pf (gl 0) 29)))]
  refine N_dup C (dA DX8_init_1 25 rfl) rfl ?_
  refine N_bipush (v := nI 29) C (dA DX8_init_1 26 rfl) (by decide) ?_
  refine N_bipush (v := nI 32) C (dA DX8_init_1 27 rfl) (by decide) ?_
  refine N_cast C (q0 := 7) (j := 29) (y := 32) rfl (by decide) (by decide) (by decide) (dA DX8_init_1 28 rfl) ?_
  rw [show upd (pf (gl 0) 29) 29 (nI 32) = pf (gl 0) 30 from pf_s (gl 0) 29]
  show NJ D X _ _ _ _ _ [(a, .inr (8, [.ref b1, .ref b2, .ref b3, .int 0, .ref b4, .int 0, .int 0, .int 0, .int 0, .ref b5, .ref b6, .int 0, .int 0, .int 0, .int 0, .long 0, .null, .null, .null, .null, .null, .null, .null, .null])), (b1, .inl (τ 0, 134, .inl zz0)), (b2, .inl (τ 0, 134, .inl zz0)), (b3, .inl (τ 0, 134, .inl zz0)), (b4, .inl (τ 0, 7, .inl zz0)), (b5, .inl (τ 0, 16, .inl zz0)), (b6, .inl (τ 0, 120, .inl zz0)), (b7, .inl (τ 1, 56, .inl (pf (gl 0) 30)))]
  refine N_dup C (dA DX8_init_1 29 rfl) rfl ?_
  refine N_bipush (v := nI 30) C (dA DX8_init_1 30 rfl) (by decide) ?_
  refine N_bipush (v := nI 32) C (dA DX8_init_1 31 rfl) (by decide) ?_
  refine N_cast C (q0 := 7) (j := 30) (y := 32) rfl (by decide) (by decide) (by decide) (dA DX8_init_1 32 rfl) ?_
  rw [show upd (pf (gl 0) 30) 30 (nI 32) = pf (gl 0) 31 from pf_s (gl 0) 30]
  show NJ D X _ _ _ _ _ [(a, .inr (8, [.ref b1, .ref b2, .ref b3, .int 0, .ref b4, .int 0, .int 0, .int 0, .int 0, .ref b5, .ref b6, .int 0, .int 0, .int 0, .int 0, .long 0, .null, .null, .null, .null, .null, .null, .null, .null])), (b1, .inl (τ 0, 134, .inl zz0)), (b2, .inl (τ 0, 134, .inl zz0)), (b3, .inl (τ 0, 134, .inl zz0)), (b4, .inl (τ 0, 7, .inl zz0)), (b5, .inl (τ 0, 16, .inl zz0)), (b6, .inl (τ 0, 120, .inl zz0)), (b7, .inl (τ 1, 56, .inl (pf (gl 0) 31)))]
  refine N_dup C (dA DX8_init_1 33 rfl) rfl ?_
  refine N_bipush (v := nI 31) C (dA DX8_init_1 34 rfl) (by decide) ?_
  refine N_bipush (v := nI 32) C (dA DX8_init_1 35 rfl) (by decide) ?_
  refine N_cast C (q0 := 7) (j := 31) (y := 32) rfl (by decide) (by decide) (by decide) (dA DX8_init_1 36 rfl) ?_
  rw [show upd (pf (gl 0) 31) 31 (nI 32) = pf (gl 0) 32 from pf_s (gl 0) 31]
  show NJ D X _ _ _ _ _ [(a, .inr (8, [.ref b1, .ref b2, .ref b3, .int 0, .ref b4, .int 0, .int 0, .int 0, .int 0, .ref b5, .ref b6, .int 0, .int 0, .int 0, .int 0, .long 0, .null, .null, .null, .null, .null, .null, .null, .null])), (b1, .inl (τ 0, 134, .inl zz0)), (b2, .inl (τ 0, 134, .inl zz0)), (b3, .inl (τ 0, 134, .inl zz0)), (b4, .inl (τ 0, 7, .inl zz0)), (b5, .inl (τ 0, 16, .inl zz0)), (b6, .inl (τ 0, 120, .inl zz0)), (b7, .inl (τ 1, 56, .inl (pf (gl 0) 32)))]
  refine N_dup C (dA DX8_init_1 37 rfl) rfl ?_
  refine N_bipush (v := nI 32) C (dA DX8_init_1 38 rfl) (by decide) ?_
  refine N_bipush (v := nI 104) C (dA DX8_init_1 39 rfl) (by decide) ?_
  refine N_cast C (q0 := 7) (j := 32) (y := 104) rfl (by decide) (by decide) (by decide) (dA DX8_init_1 40 rfl) ?_
  rw [show upd (pf (gl 0) 32) 32 (nI 104) = pf (gl 0) 33 from pf_s (gl 0) 32]
  show NJ D X _ _ _ _ _ [(a, .inr (8, [.ref b1, .ref b2, .ref b3, .int 0, .ref b4, .int 0, .int 0, .int 0, .int 0, .ref b5, .ref b6, .int 0, .int 0, .int 0, .int 0, .long 0, .null, .null, .null, .null, .null, .null, .null, .null])), (b1, .inl (τ 0, 134, .inl zz0)), (b2, .inl (τ 0, 134, .inl zz0)), (b3, .inl (τ 0, 134, .inl zz0)), (b4, .inl (τ 0, 7, .inl zz0)), (b5, .inl (τ 0, 16, .inl zz0)), (b6, .inl (τ 0, 120, .inl zz0)), (b7, .inl (τ 1, 56, .inl (pf (gl 0) 33)))]
  refine N_dup C (dA DX8_init_1 41 rfl) rfl ?_
  refine N_bipush (v := nI 33) C (dA DX8_init_1 42 rfl) (by decide) ?_
  refine N_bipush (v := nI 101) C (dA DX8_init_1 43 rfl) (by decide) ?_
  refine N_cast C (q0 := 7) (j := 33) (y := 101) rfl (by decide) (by decide) (by decide) (dA DX8_init_1 44 rfl) ?_
  rw [show upd (pf (gl 0) 33) 33 (nI 101) = pf (gl 0) 34 from pf_s (gl 0) 33]
  show NJ D X _ _ _ _ _ [(a, .inr (8, [.ref b1, .ref b2, .ref b3, .int 0, .ref b4, .int 0, .int 0, .int 0, .int 0, .ref b5, .ref b6, .int 0, .int 0, .int 0, .int 0, .long 0, .null, .null, .null, .null, .null, .null, .null, .null])), (b1, .inl (τ 0, 134, .inl zz0)), (b2, .inl (τ 0, 134, .inl zz0)), (b3, .inl (τ 0, 134, .inl zz0)), (b4, .inl (τ 0, 7, .inl zz0)), (b5, .inl (τ 0, 16, .inl zz0)), (b6, .inl (τ 0, 120, .inl zz0)), (b7, .inl (τ 1, 56, .inl (pf (gl 0) 34)))]
  refine N_dup C (dA DX8_init_1 45 rfl) rfl ?_
  refine N_bipush (v := nI 34) C (dA DX8_init_1 46 rfl) (by decide) ?_
  refine N_bipush (v := nI 114) C (dA DX8_init_1 47 rfl) (by decide) ?_
  refine N_cast C (q0 := 7) (j := 34) (y := 114) rfl (by decide) (by decide) (by decide) (dA DX8_init_1 48 rfl) ?_
  rw [show upd (pf (gl 0) 34) 34 (nI 114) = pf (gl 0) 35 from pf_s (gl 0) 34]
  show NJ D X _ _ _ _ _ [(a, .inr (8, [.ref b1, .ref b2, .ref b3, .int 0, .ref b4, .int 0, .int 0, .int 0, .int 0, .ref b5, .ref b6, .int 0, .int 0, .int 0, .int 0, .long 0, .null, .null, .null, .null, .null, .null, .null, .null])), (b1, .inl (τ 0, 134, .inl zz0)), (b2, .inl (τ 0, 134, .inl zz0)), (b3, .inl (τ 0, 134, .inl zz0)), (b4, .inl (τ 0, 7, .inl zz0)), (b5, .inl (τ 0, 16, .inl zz0)), (b6, .inl (τ 0, 120, .inl zz0)), (b7, .inl (τ 1, 56, .inl (pf (gl 0) 35)))]
  refine N_dup C (dA DX8_init_1 49 rfl) rfl ?_
  refine N_bipush (v := nI 35) C (dA DX8_init_1 50 rfl) (by decide) ?_
  refine N_bipush (v := nI 111) C (dA DX8_init_1 51 rfl) (by decide) ?_
  refine N_cast C (q0 := 7) (j := 35) (y := 111) rfl (by decide) (by decide) (by decide) (dA DX8_init_1 52 rfl) ?_
  rw [show upd (pf (gl 0) 35) 35 (nI 111) = pf (gl 0) 36 from pf_s (gl 0) 35]
  show NJ D X _ _ _ _ _ [(a, .inr (8, [.ref b1, .ref b2, .ref b3, .int 0, .ref b4, .int 0, .int 0, .int 0, .int 0, .ref b5, .ref b6, .int 0, .int 0, .int 0, .int 0, .long 0, .null, .null, .null, .null, .null, .null, .null, .null])), (b1, .inl (τ 0, 134, .inl zz0)), (b2, .inl (τ 0, 134, .inl zz0)), (b3, .inl (τ 0, 134, .inl zz0)), (b4, .inl (τ 0, 7, .inl zz0)), (b5, .inl (τ 0, 16, .inl zz0)), (b6, .inl (τ 0, 120, .inl zz0)), (b7, .inl (τ 1, 56, .inl (pf (gl 0) 36)))]
  refine N_dup C (dA DX8_init_1 53 rfl) rfl ?_
  refine N_bipush (v := nI 36) C (dA DX8_init_1 54 rfl) (by decide) ?_
  refine N_bipush (v := nI 110) C (dA DX8_init_1 55 rfl) (by decide) ?_
  refine N_cast C (q0 := 7) (j := 36) (y := 110) rfl (by decide) (by decide) (by decide) (dA DX8_init_1 56 rfl) ?_
  rw [show upd (pf (gl 0) 36) 36 (nI 110) = pf (gl 0) 37 from pf_s (gl 0) 36]
  show NJ D X _ _ _ _ _ [(a, .inr (8, [.ref b1, .ref b2, .ref b3, .int 0, .ref b4, .int 0, .int 0, .int 0, .int 0, .ref b5, .ref b6, .int 0, .int 0, .int 0, .int 0, .long 0, .null, .null, .null, .null, .null, .null, .null, .null])), (b1, .inl (τ 0, 134, .inl zz0)), (b2, .inl (τ 0, 134, .inl zz0)), (b3, .inl (τ 0, 134, .inl zz0)), (b4, .inl (τ 0, 7, .inl zz0)), (b5, .inl (τ 0, 16, .inl zz0)), (b6, .inl (τ 0, 120, .inl zz0)), (b7, .inl (τ 1, 56, .inl (pf (gl 0) 37)))]
  refine N_dup C (dA DX8_init_1 57 rfl) rfl ?_
  refine N_bipush (v := nI 37) C (dA DX8_init_1 58 rfl) (by decide) ?_
  refine N_bipush (v := nI 32) C (dA DX8_init_1 59 rfl) (by decide) ?_
  refine N_cast C (q0 := 7) (j := 37) (y := 32) rfl (by decide) (by decide) (by decide) (dA DX8_init_1 60 rfl) ?_
  rw [show upd (pf (gl 0) 37) 37 (nI 32) = pf (gl 0) 38 from pf_s (gl 0) 37]
  show NJ D X _ _ _ _ _ [(a, .inr (8, [.ref b1, .ref b2, .ref b3, .int 0, .ref b4, .int 0, .int 0, .int 0, .int 0, .ref b5, .ref b6, .int 0, .int 0, .int 0, .int 0, .long 0, .null, .null, .null, .null, .null, .null, .null, .null])), (b1, .inl (τ 0, 134, .inl zz0)), (b2, .inl (τ 0, 134, .inl zz0)), (b3, .inl (τ 0, 134, .inl zz0)), (b4, .inl (τ 0, 7, .inl zz0)), (b5, .inl (τ 0, 16, .inl zz0)), (b6, .inl (τ 0, 120, .inl zz0)), (b7, .inl (τ 1, 56, .inl (pf (gl 0) 38)))]
  refine N_dup C (dA DX8_init_1 61 rfl) rfl ?_
  refine N_bipush (v := nI 38) C (dA DX8_init_1 62 rfl) (by decide) ?_
  refine N_bipush (v := nI 32) C (dA DX8_init_1 63 rfl) (by decide) ?_
  refine N_cast C (q0 := 7) (j := 38) (y := 32) rfl (by decide) (by decide) (by decide) (dA DX8_init_1 64 rfl) ?_
  rw [show upd (pf (gl 0) 38) 38 (nI 32) = pf (gl 0) 39 from pf_s (gl 0) 38]
  show NJ D X _ _ _ _ _ [(a, .inr (8, [.ref b1, .ref b2, .ref b3, .int 0, .ref b4, .int 0, .int 0, .int 0, .int 0, .ref b5, .ref b6, .int 0, .int 0, .int 0, .int 0, .long 0, .null, .null, .null, .null, .null, .null, .null, .null])), (b1, .inl (τ 0, 134, .inl zz0)), (b2, .inl (τ 0, 134, .inl zz0)), (b3, .inl (τ 0, 134, .inl zz0)), (b4, .inl (τ 0, 7, .inl zz0)), (b5, .inl (τ 0, 16, .inl zz0)), (b6, .inl (τ 0, 120, .inl zz0)), (b7, .inl (τ 1, 56, .inl (pf (gl 0) 39)))]
  refine N_dup C (dA DX8_init_1 65 rfl) rfl ?_
  refine N_bipush (v := nI 39) C (dA DX8_init_1 66 rfl) (by decide) ?_
  refine N_bipush (v := nI 32) C (dA DX8_init_1 67 rfl) (by decide) ?_
  refine N_cast C (q0 := 7) (j := 39) (y := 32) rfl (by decide) (by decide) (by decide) (dA DX8_init_1 68 rfl) ?_
  rw [show upd (pf (gl 0) 39) 39 (nI 32) = pf (gl 0) 40 from pf_s (gl 0) 39]
  show NJ D X _ _ _ _ _ [(a, .inr (8, [.ref b1, .ref b2, .ref b3, .int 0, .ref b4, .int 0, .int 0, .int 0, .int 0, .ref b5, .ref b6, .int 0, .int 0, .int 0, .int 0, .long 0, .null, .null, .null, .null, .null, .null, .null, .null])), (b1, .inl (τ 0, 134, .inl zz0)), (b2, .inl (τ 0, 134, .inl zz0)), (b3, .inl (τ 0, 134, .inl zz0)), (b4, .inl (τ 0, 7, .inl zz0)), (b5, .inl (τ 0, 16, .inl zz0)), (b6, .inl (τ 0, 120, .inl zz0)), (b7, .inl (τ 1, 56, .inl (pf (gl 0) 40)))]
  refine N_dup C (dA DX8_init_1 69 rfl) rfl ?_
  refine N_bipush (v := nI 40) C (dA DX8_init_1 70 rfl) (by decide) ?_
  refine N_bipush (v := nI 99) C (dA DX8_init_1 71 rfl) (by decide) ?_
  refine N_cast C (q0 := 7) (j := 40) (y := 99) rfl (by decide) (by decide) (by decide) (dA DX8_init_1 72 rfl) ?_
  rw [show upd (pf (gl 0) 40) 40 (nI 99) = pf (gl 0) 41 from pf_s (gl 0) 40]
  show NJ D X _ _ _ _ _ [(a, .inr (8, [.ref b1, .ref b2, .ref b3, .int 0, .ref b4, .int 0, .int 0, .int 0, .int 0, .ref b5, .ref b6, .int 0, .int 0, .int 0, .int 0, .long 0, .null, .null, .null, .null, .null, .null, .null, .null])), (b1, .inl (τ 0, 134, .inl zz0)), (b2, .inl (τ 0, 134, .inl zz0)), (b3, .inl (τ 0, 134, .inl zz0)), (b4, .inl (τ 0, 7, .inl zz0)), (b5, .inl (τ 0, 16, .inl zz0)), (b6, .inl (τ 0, 120, .inl zz0)), (b7, .inl (τ 1, 56, .inl (pf (gl 0) 41)))]
  refine N_dup C (dA DX8_init_1 73 rfl) rfl ?_
  refine N_bipush (v := nI 41) C (dA DX8_init_1 74 rfl) (by decide) ?_
  refine N_bipush (v := nI 111) C (dA DX8_init_1 75 rfl) (by decide) ?_
  refine N_cast C (q0 := 7) (j := 41) (y := 111) rfl (by decide) (by decide) (by decide) (dA DX8_init_1 76 rfl) ?_
  rw [show upd (pf (gl 0) 41) 41 (nI 111) = pf (gl 0) 42 from pf_s (gl 0) 41]
  show NJ D X _ _ _ _ _ [(a, .inr (8, [.ref b1, .ref b2, .ref b3, .int 0, .ref b4, .int 0, .int 0, .int 0, .int 0, .ref b5, .ref b6, .int 0, .int 0, .int 0, .int 0, .long 0, .null, .null, .null, .null, .null, .null, .null, .null])), (b1, .inl (τ 0, 134, .inl zz0)), (b2, .inl (τ 0, 134, .inl zz0)), (b3, .inl (τ 0, 134, .inl zz0)), (b4, .inl (τ 0, 7, .inl zz0)), (b5, .inl (τ 0, 16, .inl zz0)), (b6, .inl (τ 0, 120, .inl zz0)), (b7, .inl (τ 1, 56, .inl (pf (gl 0) 42)))]
  refine N_dup C (dA DX8_init_1 77 rfl) rfl ?_
  refine N_bipush (v := nI 42) C (dA DX8_init_1 78 rfl) (by decide) ?_
  refine N_bipush (v := nI 114) C (dA DX8_init_1 79 rfl) (by decide) ?_
  refine N_cast C (q0 := 7) (j := 42) (y := 114) rfl (by decide) (by decide) (by decide) (dA DX8_init_1 80 rfl) ?_
  rw [show upd (pf (gl 0) 42) 42 (nI 114) = pf (gl 0) 43 from pf_s (gl 0) 42]
  show NJ D X _ _ _ _ _ [(a, .inr (8, [.ref b1, .ref b2, .ref b3, .int 0, .ref b4, .int 0, .int 0, .int 0, .int 0, .ref b5, .ref b6, .int 0, .int 0, .int 0, .int 0, .long 0, .null, .null, .null, .null, .null, .null, .null, .null])), (b1, .inl (τ 0, 134, .inl zz0)), (b2, .inl (τ 0, 134, .inl zz0)), (b3, .inl (τ 0, 134, .inl zz0)), (b4, .inl (τ 0, 7, .inl zz0)), (b5, .inl (τ 0, 16, .inl zz0)), (b6, .inl (τ 0, 120, .inl zz0)), (b7, .inl (τ 1, 56, .inl (pf (gl 0) 43)))]
  refine N_dup C (dA DX8_init_1 81 rfl) rfl ?_
  refine N_bipush (v := nI 43) C (dA DX8_init_1 82 rfl) (by decide) ?_
  refine N_bipush (v := nI 107) C (dA DX8_init_1 83 rfl) (by decide) ?_
  refine N_cast C (q0 := 7) (j := 43) (y := 107) rfl (by decide) (by decide) (by decide) (dA DX8_init_1 84 rfl) ?_
  rw [show upd (pf (gl 0) 43) 43 (nI 107) = pf (gl 0) 44 from pf_s (gl 0) 43]
  show NJ D X _ _ _ _ _ [(a, .inr (8, [.ref b1, .ref b2, .ref b3, .int 0, .ref b4, .int 0, .int 0, .int 0, .int 0, .ref b5, .ref b6, .int 0, .int 0, .int 0, .int 0, .long 0, .null, .null, .null, .null, .null, .null, .null, .null])), (b1, .inl (τ 0, 134, .inl zz0)), (b2, .inl (τ 0, 134, .inl zz0)), (b3, .inl (τ 0, 134, .inl zz0)), (b4, .inl (τ 0, 7, .inl zz0)), (b5, .inl (τ 0, 16, .inl zz0)), (b6, .inl (τ 0, 120, .inl zz0)), (b7, .inl (τ 1, 56, .inl (pf (gl 0) 44)))]
  refine N_dup C (dA DX8_init_1 85 rfl) rfl ?_
  refine N_bipush (v := nI 44) C (dA DX8_init_1 86 rfl) (by decide) ?_
  refine N_bipush (v := nI 32) C (dA DX8_init_1 87 rfl) (by decide) ?_
  refine N_cast C (q0 := 7) (j := 44) (y := 32) rfl (by decide) (by decide) (by decide) (dA DX8_init_1 88 rfl) ?_
  rw [show upd (pf (gl 0) 44) 44 (nI 32) = pf (gl 0) 45 from pf_s (gl 0) 44]
  show NJ D X _ _ _ _ _ [(a, .inr (8, [.ref b1, .ref b2, .ref b3, .int 0, .ref b4, .int 0, .int 0, .int 0, .int 0, .ref b5, .ref b6, .int 0, .int 0, .int 0, .int 0, .long 0, .null, .null, .null, .null, .null, .null, .null, .null])), (b1, .inl (τ 0, 134, .inl zz0)), (b2, .inl (τ 0, 134, .inl zz0)), (b3, .inl (τ 0, 134, .inl zz0)), (b4, .inl (τ 0, 7, .inl zz0)), (b5, .inl (τ 0, 16, .inl zz0)), (b6, .inl (τ 0, 120, .inl zz0)), (b7, .inl (τ 1, 56, .inl (pf (gl 0) 45)))]
  refine N_dup C (dA DX8_init_1 89 rfl) rfl ?_
  refine N_bipush (v := nI 45) C (dA DX8_init_1 90 rfl) (by decide) ?_
  refine N_bipush (v := nI 32) C (dA DX8_init_1 91 rfl) (by decide) ?_
  refine N_cast C (q0 := 7) (j := 45) (y := 32) rfl (by decide) (by decide) (by decide) (dA DX8_init_1 92 rfl) ?_
  rw [show upd (pf (gl 0) 45) 45 (nI 32) = pf (gl 0) 46 from pf_s (gl 0) 45]
  show NJ D X _ _ _ _ _ [(a, .inr (8, [.ref b1, .ref b2, .ref b3, .int 0, .ref b4, .int 0, .int 0, .int 0, .int 0, .ref b5, .ref b6, .int 0, .int 0, .int 0, .int 0, .long 0, .null, .null, .null, .null, .null, .null, .null, .null])), (b1, .inl (τ 0, 134, .inl zz0)), (b2, .inl (τ 0, 134, .inl zz0)), (b3, .inl (τ 0, 134, .inl zz0)), (b4, .inl (τ 0, 7, .inl zz0)), (b5, .inl (τ 0, 16, .inl zz0)), (b6, .inl (τ 0, 120, .inl zz0)), (b7, .inl (τ 1, 56, .inl (pf (gl 0) 46)))]
  refine N_dup C (dA DX8_init_1 93 rfl) rfl ?_
  refine N_bipush (v := nI 46) C (dA DX8_init_1 94 rfl) (by decide) ?_
  refine N_bipush (v := nI 32) C (dA DX8_init_1 95 rfl) (by decide) ?_
  refine N_cast C (q0 := 7) (j := 46) (y := 32) rfl (by decide) (by decide) (by decide) (dA DX8_init_1 96 rfl) ?_
  rw [show upd (pf (gl 0) 46) 46 (nI 32) = pf (gl 0) 47 from pf_s (gl 0) 46]
  show NJ D X _ _ _ _ _ [(a, .inr (8, [.ref b1, .ref b2, .ref b3, .int 0, .ref b4, .int 0, .int 0, .int 0, .int 0, .ref b5, .ref b6, .int 0, .int 0, .int 0, .int 0, .long 0, .null, .null, .null, .null, .null, .null, .null, .null])), (b1, .inl (τ 0, 134, .inl zz0)), (b2, .inl (τ 0, 134, .inl zz0)), (b3, .inl (τ 0, 134, .inl zz0)), (b4, .inl (τ 0, 7, .inl zz0)), (b5, .inl (τ 0, 16, .inl zz0)), (b6, .inl (τ 0, 120, .inl zz0)), (b7, .inl (τ 1, 56, .inl (pf (gl 0) 47)))]
  refine N_dup C (dA DX8_init_1 97 rfl) rfl ?_
  refine N_bipush (v := nI 47) C (dA DX8_init_1 98 rfl) (by decide) ?_
  refine N_bipush (v := nI 32) C (dA DX8_init_1 99 rfl) (by decide) ?_
  refine N_cast C (q0 := 7) (j := 47) (y := 32) rfl (by decide) (by decide) (by decide) (dA DX8_init_1 100 rfl) ?_
  rw [show upd (pf (gl 0) 47) 47 (nI 32) = pf (gl 0) 48 from pf_s (gl 0) 47]
  show NJ D X _ _ _ _ _ [(a, .inr (8, [.ref b1, .ref b2, .ref b3, .int 0, .ref b4, .int 0, .int 0, .int 0, .int 0, .ref b5, .ref b6, .int 0, .int 0, .int 0, .int 0, .long 0, .null, .null, .null, .null, .null, .null, .null, .null])), (b1, .inl (τ 0, 134, .inl zz0)), (b2, .inl (τ 0, 134, .inl zz0)), (b3, .inl (τ 0, 134, .inl zz0)), (b4, .inl (τ 0, 7, .inl zz0)), (b5, .inl (τ 0, 16, .inl zz0)), (b6, .inl (τ 0, 120, .inl zz0)), (b7, .inl (τ 1, 56, .inl (pf (gl 0) 48)))]
  refine N_dup C (dA DX8_init_1 101 rfl) rfl ?_
  refine N_bipush (v := nI 48) C (dA DX8_init_1 102 rfl) (by decide) ?_
  refine N_bipush (v := nI 112) C (dA DX8_init_1 103 rfl) (by decide) ?_
  refine N_cast C (q0 := 7) (j := 48) (y := 112) rfl (by decide) (by decide) (by decide) (dA DX8_init_1 104 rfl) ?_
  rw [show upd (pf (gl 0) 48) 48 (nI 112) = pf (gl 0) 49 from pf_s (gl 0) 48]
  show NJ D X _ _ _ _ _ [(a, .inr (8, [.ref b1, .ref b2, .ref b3, .int 0, .ref b4, .int 0, .int 0, .int 0, .int 0, .ref b5, .ref b6, .int 0, .int 0, .int 0, .int 0, .long 0, .null, .null, .null, .null, .null, .null, .null, .null])), (b1, .inl (τ 0, 134, .inl zz0)), (b2, .inl (τ 0, 134, .inl zz0)), (b3, .inl (τ 0, 134, .inl zz0)), (b4, .inl (τ 0, 7, .inl zz0)), (b5, .inl (τ 0, 16, .inl zz0)), (b6, .inl (τ 0, 120, .inl zz0)), (b7, .inl (τ 1, 56, .inl (pf (gl 0) 49)))]
  refine N_dup C (dA DX8_init_1 105 rfl) rfl ?_
  refine N_bipush (v := nI 49) C (dA DX8_init_1 106 rfl) (by decide) ?_
  refine N_bipush (v := nI 105) C (dA DX8_init_1 107 rfl) (by decide) ?_
  refine N_cast C (q0 := 7) (j := 49) (y := 105) rfl (by decide) (by decide) (by decide) (dA DX8_init_1 108 rfl) ?_
  rw [show upd (pf (gl 0) 49) 49 (nI 105) = pf (gl 0) 50 from pf_s (gl 0) 49]
  show NJ D X _ _ _ _ _ [(a, .inr (8, [.ref b1, .ref b2, .ref b3, .int 0, .ref b4, .int 0, .int 0, .int 0, .int 0, .ref b5, .ref b6, .int 0, .int 0, .int 0, .int 0, .long 0, .null, .null, .null, .null, .null, .null, .null, .null])), (b1, .inl (τ 0, 134, .inl zz0)), (b2, .inl (τ 0, 134, .inl zz0)), (b3, .inl (τ 0, 134, .inl zz0)), (b4, .inl (τ 0, 7, .inl zz0)), (b5, .inl (τ 0, 16, .inl zz0)), (b6, .inl (τ 0, 120, .inl zz0)), (b7, .inl (τ 1, 56, .inl (pf (gl 0) 50)))]
  refine N_dup C (dA DX8_init_1 109 rfl) rfl ?_
  refine N_bipush (v := nI 50) C (dA DX8_init_1 110 rfl) (by decide) ?_
  refine N_bipush (v := nI 107) C (dA DX8_init_1 111 rfl) (by decide) ?_
  refine N_cast C (q0 := 7) (j := 50) (y := 107) rfl (by decide) (by decide) (by decide) (dA DX8_init_1 112 rfl) ?_
  rw [show upd (pf (gl 0) 50) 50 (nI 107) = pf (gl 0) 51 from pf_s (gl 0) 50]
  show NJ D X _ _ _ _ _ [(a, .inr (8, [.ref b1, .ref b2, .ref b3, .int 0, .ref b4, .int 0, .int 0, .int 0, .int 0, .ref b5, .ref b6, .int 0, .int 0, .int 0, .int 0, .long 0, .null, .null, .null, .null, .null, .null, .null, .null])), (b1, .inl (τ 0, 134, .inl zz0)), (b2, .inl (τ 0, 134, .inl zz0)), (b3, .inl (τ 0, 134, .inl zz0)), (b4, .inl (τ 0, 7, .inl zz0)), (b5, .inl (τ 0, 16, .inl zz0)), (b6, .inl (τ 0, 120, .inl zz0)), (b7, .inl (τ 1, 56, .inl (pf (gl 0) 51)))]
  refine N_dup C (dA DX8_init_1 113 rfl) rfl ?_
  refine N_bipush (v := nI 51) C (dA DX8_init_1 114 rfl) (by decide) ?_
  refine N_bipush (v := nI 101) C (dA DX8_init_1 115 rfl) (by decide) ?_
  refine N_cast C (q0 := 7) (j := 51) (y := 101) rfl (by decide) (by decide) (by decide) (dA DX8_init_1 116 rfl) ?_
  rw [show upd (pf (gl 0) 51) 51 (nI 101) = pf (gl 0) 52 from pf_s (gl 0) 51]
  show NJ D X _ _ _ _ _ [(a, .inr (8, [.ref b1, .ref b2, .ref b3, .int 0, .ref b4, .int 0, .int 0, .int 0, .int 0, .ref b5, .ref b6, .int 0, .int 0, .int 0, .int 0, .long 0, .null, .null, .null, .null, .null, .null, .null, .null])), (b1, .inl (τ 0, 134, .inl zz0)), (b2, .inl (τ 0, 134, .inl zz0)), (b3, .inl (τ 0, 134, .inl zz0)), (b4, .inl (τ 0, 7, .inl zz0)), (b5, .inl (τ 0, 16, .inl zz0)), (b6, .inl (τ 0, 120, .inl zz0)), (b7, .inl (τ 1, 56, .inl (pf (gl 0) 52)))]
  refine N_dup C (dA DX8_init_1 117 rfl) rfl ?_
  refine N_bipush (v := nI 52) C (dA DX8_init_1 118 rfl) (by decide) ?_
  refine N_bipush (v := nI 32) C (dA DX8_init_1 119 rfl) (by decide) ?_
  refine N_cast C (q0 := 7) (j := 52) (y := 32) rfl (by decide) (by decide) (by decide) (dA DX8_init_2 0 rfl) ?_
  rw [show upd (pf (gl 0) 52) 52 (nI 32) = pf (gl 0) 53 from pf_s (gl 0) 52]
  show NJ D X _ _ _ _ _ [(a, .inr (8, [.ref b1, .ref b2, .ref b3, .int 0, .ref b4, .int 0, .int 0, .int 0, .int 0, .ref b5, .ref b6, .int 0, .int 0, .int 0, .int 0, .long 0, .null, .null, .null, .null, .null, .null, .null, .null])), (b1, .inl (τ 0, 134, .inl zz0)), (b2, .inl (τ 0, 134, .inl zz0)), (b3, .inl (τ 0, 134, .inl zz0)), (b4, .inl (τ 0, 7, .inl zz0)), (b5, .inl (τ 0, 16, .inl zz0)), (b6, .inl (τ 0, 120, .inl zz0)), (b7, .inl (τ 1, 56, .inl (pf (gl 0) 53)))]
  refine N_dup C (dA DX8_init_2 1 rfl) rfl ?_
  refine N_bipush (v := nI 53) C (dA DX8_init_2 2 rfl) (by decide) ?_
  refine N_bipush (v := nI 32) C (dA DX8_init_2 3 rfl) (by decide) ?_
  refine N_cast C (q0 := 7) (j := 53) (y := 32) rfl (by decide) (by decide) (by decide) (dA DX8_init_2 4 rfl) ?_
  rw [show upd (pf (gl 0) 53) 53 (nI 32) = pf (gl 0) 54 from pf_s (gl 0) 53]
  show NJ D X _ _ _ _ _ [(a, .inr (8, [.ref b1, .ref b2, .ref b3, .int 0, .ref b4, .int 0, .int 0, .int 0, .int 0, .ref b5, .ref b6, .int 0, .int 0, .int 0, .int 0, .long 0, .null, .null, .null, .null, .null, .null, .null, .null])), (b1, .inl (τ 0, 134, .inl zz0)), (b2, .inl (τ 0, 134, .inl zz0)), (b3, .inl (τ 0, 134, .inl zz0)), (b4, .inl (τ 0, 7, .inl zz0)), (b5, .inl (τ 0, 16, .inl zz0)), (b6, .inl (τ 0, 120, .inl zz0)), (b7, .inl (τ 1, 56, .inl (pf (gl 0) 54)))]
  refine N_dup C (dA DX8_init_2 5 rfl) rfl ?_
  refine N_bipush (v := nI 54) C (dA DX8_init_2 6 rfl) (by decide) ?_
  refine N_bipush (v := nI 32) C (dA DX8_init_2 7 rfl) (by decide) ?_
  refine N_cast C (q0 := 7) (j := 54) (y := 32) rfl (by decide) (by decide) (by decide) (dA DX8_init_2 8 rfl) ?_
  rw [show upd (pf (gl 0) 54) 54 (nI 32) = pf (gl 0) 55 from pf_s (gl 0) 54]
  show NJ D X _ _ _ _ _ [(a, .inr (8, [.ref b1, .ref b2, .ref b3, .int 0, .ref b4, .int 0, .int 0, .int 0, .int 0, .ref b5, .ref b6, .int 0, .int 0, .int 0, .int 0, .long 0, .null, .null, .null, .null, .null, .null, .null, .null])), (b1, .inl (τ 0, 134, .inl zz0)), (b2, .inl (τ 0, 134, .inl zz0)), (b3, .inl (τ 0, 134, .inl zz0)), (b4, .inl (τ 0, 7, .inl zz0)), (b5, .inl (τ 0, 16, .inl zz0)), (b6, .inl (τ 0, 120, .inl zz0)), (b7, .inl (τ 1, 56, .inl (pf (gl 0) 55)))]
  refine N_dup C (dA DX8_init_2 9 rfl) rfl ?_
  refine N_bipush (v := nI 55) C (dA DX8_init_2 10 rfl) (by decide) ?_
  refine N_bipush (v := nI 32) C (dA DX8_init_2 11 rfl) (by decide) ?_
  refine N_cast C (q0 := 7) (j := 55) (y := 32) rfl (by decide) (by decide) (by decide) (dA DX8_init_2 12 rfl) ?_
  rw [show upd (pf (gl 0) 55) 55 (nI 32) = pf (gl 0) 56 from pf_s (gl 0) 55]
  show NJ D X _ _ _ _ _ [(a, .inr (8, [.ref b1, .ref b2, .ref b3, .int 0, .ref b4, .int 0, .int 0, .int 0, .int 0, .ref b5, .ref b6, .int 0, .int 0, .int 0, .int 0, .long 0, .null, .null, .null, .null, .null, .null, .null, .null])), (b1, .inl (τ 0, 134, .inl zz0)), (b2, .inl (τ 0, 134, .inl zz0)), (b3, .inl (τ 0, 134, .inl zz0)), (b4, .inl (τ 0, 7, .inl zz0)), (b5, .inl (τ 0, 16, .inl zz0)), (b6, .inl (τ 0, 120, .inl zz0)), (b7, .inl (τ 1, 56, .inl (pf (gl 0) 56)))]
  refine N_putF C hin (q0 := 0) (ci := 8) (T := TX8) (N := 24) (Cn := RX8) (j := 16) rfl inX8 tyX8_ok nmX8 rfl (by decide) wF_RX8_28 rfl rfl (tyX8_ok 16 (by decide)) rfl rfl (Nat.le_of_ble_eq_true rfl) (dA DX8_init_2 13 rfl) ?_
  show NJ D X _ _ _ _ _ [(a, .inr (8, [.ref b1, .ref b2, .ref b3, .int 0, .ref b4, .int 0, .int 0, .int 0, .int 0, .ref b5, .ref b6, .int 0, .int 0, .int 0, .int 0, .long 0, .ref b7, .null, .null, .null, .null, .null, .null, .null])), (b1, .inl (τ 0, 134, .inl zz0)), (b2, .inl (τ 0, 134, .inl zz0)), (b3, .inl (τ 0, 134, .inl zz0)), (b4, .inl (τ 0, 7, .inl zz0)), (b5, .inl (τ 0, 16, .inl zz0)), (b6, .inl (τ 0, 120, .inl zz0)), (b7, .inl (τ 1, 56, .inl (pf (gl 0) 56)))]
  refine N_aload_n C (dA DX8_init_2 14 rfl) rfl ?_
  refine N_bipush (v := nI 16) C (dA DX8_init_2 15 rfl) (by decide) ?_
  refine N_newc C (pf (gl 56) 0) (fun i _ => if_neg (Nat.not_lt_zero i)) (by decide) wA_char (by decide) (by decide) (dA DX8_init_2 16 rfl) (fun b8 => ?_)
  show NJ D X _ _ _ _ _ [(a, .inr (8, [.ref b1, .ref b2, .ref b3, .int 0, .ref b4, .int 0, .int 0, .int 0, .int 0, .ref b5, .ref b6, .int 0, .int 0, .int 0, .int 0, .long 0, .ref b7, .null, .null, .null, .null, .null, .null, .null])), (b1, .inl (τ 0, 134, .inl zz0)), (b2, .inl (τ 0, 134, .inl zz0)), (b3, .inl (τ 0, 134, .inl zz0)), (b4, .inl (τ 0, 7, .inl zz0)), (b5, .inl (τ 0, 16, .inl zz0)), (b6, .inl (τ 0, 120, .inl zz0)), (b7, .inl (τ 1, 56, .inl (pf (gl 0) 56))), (b8, .inl (τ 1, 16, .inl (pf (gl 56) 0)))]
  refine N_dup C (dA DX8_init_2 17 rfl) rfl ?_
  refine N_iconst (v := nI 0) C (dA DX8_init_2 18 rfl) (by decide) ?_
  refine N_bipush (v := nI 105) C (dA DX8_init_2 19 rfl) (by decide) ?_
  refine N_cast C (q0 := 8) (j := 0) (y := 105) rfl (by decide) (by decide) (by decide) (dA DX8_init_2 20 rfl) ?_
  rw [show upd (pf (gl 56) 0) 0 (nI 105) = pf (gl 56) 1 from pf_s (gl 56) 0]
  show NJ D X _ _ _ _ _ [(a, .inr (8, [.ref b1, .ref b2, .ref b3, .int 0, .ref b4, .int 0, .int 0, .int 0, .int 0, .ref b5, .ref b6, .int 0, .int 0, .int 0, .int 0, .long 0, .ref b7, .null, .null, .null, .null, .null, .null, .null])), (b1, .inl (τ 0, 134, .inl zz0)), (b2, .inl (τ 0, 134, .inl zz0)), (b3, .inl (τ 0, 134, .inl zz0)), (b4, .inl (τ 0, 7, .inl zz0)), (b5, .inl (τ 0, 16, .inl zz0)), (b6, .inl (τ 0, 120, .inl zz0)), (b7, .inl (τ 1, 56, .inl (pf (gl 0) 56))), (b8, .inl (τ 1, 16, .inl (pf (gl 56) 1)))]
  refine N_dup C (dA DX8_init_2 21 rfl) rfl ?_
  refine N_iconst (v := nI 1) C (dA DX8_init_2 22 rfl) (by decide) ?_
  refine N_bipush (v := nI 110) C (dA DX8_init_2 23 rfl) (by decide) ?_
  refine N_cast C (q0 := 8) (j := 1) (y := 110) rfl (by decide) (by decide) (by decide) (dA DX8_init_2 24 rfl) ?_
  rw [show upd (pf (gl 56) 1) 1 (nI 110) = pf (gl 56) 2 from pf_s (gl 56) 1]
  show NJ D X _ _ _ _ _ [(a, .inr (8, [.ref b1, .ref b2, .ref b3, .int 0, .ref b4, .int 0, .int 0, .int 0, .int 0, .ref b5, .ref b6, .int 0, .int 0, .int 0, .int 0, .long 0, .ref b7, .null, .null, .null, .null, .null, .null, .null])), (b1, .inl (τ 0, 134, .inl zz0)), (b2, .inl (τ 0, 134, .inl zz0)), (b3, .inl (τ 0, 134, .inl zz0)), (b4, .inl (τ 0, 7, .inl zz0)), (b5, .inl (τ 0, 16, .inl zz0)), (b6, .inl (τ 0, 120, .inl zz0)), (b7, .inl (τ 1, 56, .inl (pf (gl 0) 56))), (b8, .inl (τ 1, 16, .inl (pf (gl 56) 2)))]
  refine N_dup C (dA DX8_init_2 25 rfl) rfl ?_
  refine N_iconst (v := nI 2) C (dA DX8_init_2 26 rfl) (by decide) ?_
  refine N_bipush (v := nI 32) C (dA DX8_init_2 27 rfl) (by decide) ?_
  refine N_cast C (q0 := 8) (j := 2) (y := 32) rfl (by decide) (by decide) (by decide) (dA DX8_init_2 28 rfl) ?_
  rw [show upd (pf (gl 56) 2) 2 (nI 32) = pf (gl 56) 3 from pf_s (gl 56) 2]
  show NJ D X _ _ _ _ _ [(a, .inr (8, [.ref b1, .ref b2, .ref b3, .int 0, .ref b4, .int 0, .int 0, .int 0, .int 0, .ref b5, .ref b6, .int 0, .int 0, .int 0, .int 0, .long 0, .ref b7, .null, .null, .null, .null, .null, .null, .null])), (b1, .inl (τ 0, 134, .inl zz0)), (b2, .inl (τ 0, 134, .inl zz0)), (b3, .inl (τ 0, 134, .inl zz0)), (b4, .inl (τ 0, 7, .inl zz0)), (b5, .inl (τ 0, 16, .inl zz0)), (b6, .inl (τ 0, 120, .inl zz0)), (b7, .inl (τ 1, 56, .inl (pf (gl 0) 56))), (b8, .inl (τ 1, 16, .inl (pf (gl 56) 3)))]
  refine N_dup C (dA DX8_init_2 29 rfl) rfl ?_
  refine N_iconst (v := nI 3) C (dA DX8_init_2 30 rfl) (by decide) ?_
  refine N_bipush (v := nI 32) C (dA DX8_init_2 31 rfl) (by decide) ?_
  refine N_cast C (q0 := 8) (j := 3) (y := 32) rfl (by decide) (by decide) (by decide) (dA DX8_init_2 32 rfl) ?_
  rw [show upd (pf (gl 56) 3) 3 (nI 32) = pf (gl 56) 4 from pf_s (gl 56) 3]
  show NJ D X _ _ _ _ _ [(a, .inr (8, [.ref b1, .ref b2, .ref b3, .int 0, .ref b4, .int 0, .int 0, .int 0, .int 0, .ref b5, .ref b6, .int 0, .int 0, .int 0, .int 0, .long 0, .ref b7, .null, .null, .null, .null, .null, .null, .null])), (b1, .inl (τ 0, 134, .inl zz0)), (b2, .inl (τ 0, 134, .inl zz0)), (b3, .inl (τ 0, 134, .inl zz0)), (b4, .inl (τ 0, 7, .inl zz0)), (b5, .inl (τ 0, 16, .inl zz0)), (b6, .inl (τ 0, 120, .inl zz0)), (b7, .inl (τ 1, 56, .inl (pf (gl 0) 56))), (b8, .inl (τ 1, 16, .inl (pf (gl 56) 4)))]
  refine N_dup C (dA DX8_init_2 33 rfl) rfl ?_
  refine N_iconst (v := nI 4) C (dA DX8_init_2 34 rfl) (by decide) ?_
  refine N_bipush (v := nI 32) C (dA DX8_init_2 35 rfl) (by decide) ?_
  refine N_cast C (q0 := 8) (j := 4) (y := 32) rfl (by decide) (by decide) (by decide) (dA DX8_init_2 36 rfl) ?_
  rw [show upd (pf (gl 56) 4) 4 (nI 32) = pf (gl 56) 5 from pf_s (gl 56) 4]
  show NJ D X _ _ _ _ _ [(a, .inr (8, [.ref b1, .ref b2, .ref b3, .int 0, .ref b4, .int 0, .int 0, .int 0, .int 0, .ref b5, .ref b6, .int 0, .int 0, .int 0, .int 0, .long 0, .ref b7, .null, .null, .null, .null, .null, .null, .null])), (b1, .inl (τ 0, 134, .inl zz0)), (b2, .inl (τ 0, 134, .inl zz0)), (b3, .inl (τ 0, 134, .inl zz0)), (b4, .inl (τ 0, 7, .inl zz0)), (b5, .inl (τ 0, 16, .inl zz0)), (b6, .inl (τ 0, 120, .inl zz0)), (b7, .inl (τ 1, 56, .inl (pf (gl 0) 56))), (b8, .inl (τ 1, 16, .inl (pf (gl 56) 5)))]
  refine N_dup C (dA DX8_init_2 37 rfl) rfl ?_
  refine N_iconst (v := nI 5) C (dA DX8_init_2 38 rfl) (by decide) ?_
  refine N_bipush (v := nI 32) C (dA DX8_init_2 39 rfl) (by decide) ?_
  refine N_cast C (q0 := 8) (j := 5) (y := 32) rfl (by decide) (by decide) (by decide) (dA DX8_init_2 40 rfl) ?_
  rw [show upd (pf (gl 56) 5) 5 (nI 32) = pf (gl 56) 6 from pf_s (gl 56) 5]
  show NJ D X _ _ _ _ _ [(a, .inr (8, [.ref b1, .ref b2, .ref b3, .int 0, .ref b4, .int 0, .int 0, .int 0, .int 0, .ref b5, .ref b6, .int 0, .int 0, .int 0, .int 0, .long 0, .ref b7, .null, .null, .null, .null, .null, .null, .null])), (b1, .inl (τ 0, 134, .inl zz0)), (b2, .inl (τ 0, 134, .inl zz0)), (b3, .inl (τ 0, 134, .inl zz0)), (b4, .inl (τ 0, 7, .inl zz0)), (b5, .inl (τ 0, 16, .inl zz0)), (b6, .inl (τ 0, 120, .inl zz0)), (b7, .inl (τ 1, 56, .inl (pf (gl 0) 56))), (b8, .inl (τ 1, 16, .inl (pf (gl 56) 6)))]
  refine N_dup C (dA DX8_init_2 41 rfl) rfl ?_
  refine N_bipush (v := nI 6) C (dA DX8_init_2 42 rfl) (by decide) ?_
  refine N_bipush (v := nI 32) C (dA DX8_init_2 43 rfl) (by decide) ?_
  refine N_cast C (q0 := 8) (j := 6) (y := 32) rfl (by decide) (by decide) (by decide) (dA DX8_init_2 44 rfl) ?_
  rw [show upd (pf (gl 56) 6) 6 (nI 32) = pf (gl 56) 7 from pf_s (gl 56) 6]
  show NJ D X _ _ _ _ _ [(a, .inr (8, [.ref b1, .ref b2, .ref b3, .int 0, .ref b4, .int 0, .int 0, .int 0, .int 0, .ref b5, .ref b6, .int 0, .int 0, .int 0, .int 0, .long 0, .ref b7, .null, .null, .null, .null, .null, .null, .null])), (b1, .inl (τ 0, 134, .inl zz0)), (b2, .inl (τ 0, 134, .inl zz0)), (b3, .inl (τ 0, 134, .inl zz0)), (b4, .inl (τ 0, 7, .inl zz0)), (b5, .inl (τ 0, 16, .inl zz0)), (b6, .inl (τ 0, 120, .inl zz0)), (b7, .inl (τ 1, 56, .inl (pf (gl 0) 56))), (b8, .inl (τ 1, 16, .inl (pf (gl 56) 7)))]
  refine N_dup C (dA DX8_init_2 45 rfl) rfl ?_
  refine N_bipush (v := nI 7) C (dA DX8_init_2 46 rfl) (by decide) ?_
  refine N_bipush (v := nI 32) C (dA DX8_init_2 47 rfl) (by decide) ?_
  refine N_cast C (q0 := 8) (j := 7) (y := 32) rfl (by decide) (by decide) (by decide) (dA DX8_init_2 48 rfl) ?_
  rw [show upd (pf (gl 56) 7) 7 (nI 32) = pf (gl 56) 8 from pf_s (gl 56) 7]
  show NJ D X _ _ _ _ _ [(a, .inr (8, [.ref b1, .ref b2, .ref b3, .int 0, .ref b4, .int 0, .int 0, .int 0, .int 0, .ref b5, .ref b6, .int 0, .int 0, .int 0, .int 0, .long 0, .ref b7, .null, .null, .null, .null, .null, .null, .null])), (b1, .inl (τ 0, 134, .inl zz0)), (b2, .inl (τ 0, 134, .inl zz0)), (b3, .inl (τ 0, 134, .inl zz0)), (b4, .inl (τ 0, 7, .inl zz0)), (b5, .inl (τ 0, 16, .inl zz0)), (b6, .inl (τ 0, 120, .inl zz0)), (b7, .inl (τ 1, 56, .inl (pf (gl 0) 56))), (b8, .inl (τ 1, 16, .inl (pf (gl 56) 8)))]
  refine N_dup C (dA DX8_init_2 49 rfl) rfl ?_
  refine N_bipush (v := nI 8) C (dA DX8_init_2 50 rfl) (by decide) ?_
  refine N_bipush (v := nI 108) C (dA DX8_init_2 51 rfl) (by decide) ?_
  refine N_cast C (q0 := 8) (j := 8) (y := 108) rfl (by decide) (by decide) (by decide) (dA DX8_init_2 52 rfl) ?_
  rw [show upd (pf (gl 56) 8) 8 (nI 108) = pf (gl 56) 9 from pf_s (gl 56) 8]
  show NJ D X _ _ _ _ _ [(a, .inr (8, [.ref b1, .ref b2, .ref b3, .int 0, .ref b4, .int 0, .int 0, .int 0, .int 0, .ref b5, .ref b6, .int 0, .int 0, .int 0, .int 0, .long 0, .ref b7, .null, .null, .null, .null, .null, .null, .null])), (b1, .inl (τ 0, 134, .inl zz0)), (b2, .inl (τ 0, 134, .inl zz0)), (b3, .inl (τ 0, 134, .inl zz0)), (b4, .inl (τ 0, 7, .inl zz0)), (b5, .inl (τ 0, 16, .inl zz0)), (b6, .inl (τ 0, 120, .inl zz0)), (b7, .inl (τ 1, 56, .inl (pf (gl 0) 56))), (b8, .inl (τ 1, 16, .inl (pf (gl 56) 9)))]
  refine N_dup C (dA DX8_init_2 53 rfl) rfl ?_
  refine N_bipush (v := nI 9) C (dA DX8_init_2 54 rfl) (by decide) ?_
  refine N_bipush (v := nI 111) C (dA DX8_init_2 55 rfl) (by decide) ?_
  refine N_cast C (q0 := 8) (j := 9) (y := 111) rfl (by decide) (by decide) (by decide) (dA DX8_init_2 56 rfl) ?_
  rw [show upd (pf (gl 56) 9) 9 (nI 111) = pf (gl 56) 10 from pf_s (gl 56) 9]
  show NJ D X _ _ _ _ _ [(a, .inr (8, [.ref b1, .ref b2, .ref b3, .int 0, .ref b4, .int 0, .int 0, .int 0, .int 0, .ref b5, .ref b6, .int 0, .int 0, .int 0, .int 0, .long 0, .ref b7, .null, .null, .null, .null, .null, .null, .null])), (b1, .inl (τ 0, 134, .inl zz0)), (b2, .inl (τ 0, 134, .inl zz0)), (b3, .inl (τ 0, 134, .inl zz0)), (b4, .inl (τ 0, 7, .inl zz0)), (b5, .inl (τ 0, 16, .inl zz0)), (b6, .inl (τ 0, 120, .inl zz0)), (b7, .inl (τ 1, 56, .inl (pf (gl 0) 56))), (b8, .inl (τ 1, 16, .inl (pf (gl 56) 10)))]
  refine N_dup C (dA DX8_init_2 57 rfl) rfl ?_
  refine N_bipush (v := nI 10) C (dA DX8_init_2 58 rfl) (by decide) ?_
  refine N_bipush (v := nI 110) C (dA DX8_init_2 59 rfl) (by decide) ?_
  refine N_cast C (q0 := 8) (j := 10) (y := 110) rfl (by decide) (by decide) (by decide) (dA DX8_init_2 60 rfl) ?_
  rw [show upd (pf (gl 56) 10) 10 (nI 110) = pf (gl 56) 11 from pf_s (gl 56) 10]
  show NJ D X _ _ _ _ _ [(a, .inr (8, [.ref b1, .ref b2, .ref b3, .int 0, .ref b4, .int 0, .int 0, .int 0, .int 0, .ref b5, .ref b6, .int 0, .int 0, .int 0, .int 0, .long 0, .ref b7, .null, .null, .null, .null, .null, .null, .null])), (b1, .inl (τ 0, 134, .inl zz0)), (b2, .inl (τ 0, 134, .inl zz0)), (b3, .inl (τ 0, 134, .inl zz0)), (b4, .inl (τ 0, 7, .inl zz0)), (b5, .inl (τ 0, 16, .inl zz0)), (b6, .inl (τ 0, 120, .inl zz0)), (b7, .inl (τ 1, 56, .inl (pf (gl 0) 56))), (b8, .inl (τ 1, 16, .inl (pf (gl 56) 11)))]
  refine N_dup C (dA DX8_init_2 61 rfl) rfl ?_
  refine N_bipush (v := nI 11) C (dA DX8_init_2 62 rfl) (by decide) ?_
  refine N_bipush (v := nI 103) C (dA DX8_init_2 63 rfl) (by decide) ?_
  refine N_cast C (q0 := 8) (j := 11) (y := 103) rfl (by decide) (by decide) (by decide) (dA DX8_init_2 64 rfl) ?_
  rw [show upd (pf (gl 56) 11) 11 (nI 103) = pf (gl 56) 12 from pf_s (gl 56) 11]
  show NJ D X _ _ _ _ _ [(a, .inr (8, [.ref b1, .ref b2, .ref b3, .int 0, .ref b4, .int 0, .int 0, .int 0, .int 0, .ref b5, .ref b6, .int 0, .int 0, .int 0, .int 0, .long 0, .ref b7, .null, .null, .null, .null, .null, .null, .null])), (b1, .inl (τ 0, 134, .inl zz0)), (b2, .inl (τ 0, 134, .inl zz0)), (b3, .inl (τ 0, 134, .inl zz0)), (b4, .inl (τ 0, 7, .inl zz0)), (b5, .inl (τ 0, 16, .inl zz0)), (b6, .inl (τ 0, 120, .inl zz0)), (b7, .inl (τ 1, 56, .inl (pf (gl 0) 56))), (b8, .inl (τ 1, 16, .inl (pf (gl 56) 12)))]
  refine N_dup C (dA DX8_init_2 65 rfl) rfl ?_
  refine N_bipush (v := nI 12) C (dA DX8_init_2 66 rfl) (by decide) ?_
  refine N_bipush (v := nI 32) C (dA DX8_init_2 67 rfl) (by decide) ?_
  refine N_cast C (q0 := 8) (j := 12) (y := 32) rfl (by decide) (by decide) (by decide) (dA DX8_init_2 68 rfl) ?_
  rw [show upd (pf (gl 56) 12) 12 (nI 32) = pf (gl 56) 13 from pf_s (gl 56) 12]
  show NJ D X _ _ _ _ _ [(a, .inr (8, [.ref b1, .ref b2, .ref b3, .int 0, .ref b4, .int 0, .int 0, .int 0, .int 0, .ref b5, .ref b6, .int 0, .int 0, .int 0, .int 0, .long 0, .ref b7, .null, .null, .null, .null, .null, .null, .null])), (b1, .inl (τ 0, 134, .inl zz0)), (b2, .inl (τ 0, 134, .inl zz0)), (b3, .inl (τ 0, 134, .inl zz0)), (b4, .inl (τ 0, 7, .inl zz0)), (b5, .inl (τ 0, 16, .inl zz0)), (b6, .inl (τ 0, 120, .inl zz0)), (b7, .inl (τ 1, 56, .inl (pf (gl 0) 56))), (b8, .inl (τ 1, 16, .inl (pf (gl 56) 13)))]
  refine N_dup C (dA DX8_init_2 69 rfl) rfl ?_
  refine N_bipush (v := nI 13) C (dA DX8_init_2 70 rfl) (by decide) ?_
  refine N_bipush (v := nI 32) C (dA DX8_init_2 71 rfl) (by decide) ?_
  refine N_cast C (q0 := 8) (j := 13) (y := 32) rfl (by decide) (by decide) (by decide) (dA DX8_init_2 72 rfl) ?_
  rw [show upd (pf (gl 56) 13) 13 (nI 32) = pf (gl 56) 14 from pf_s (gl 56) 13]
  show NJ D X _ _ _ _ _ [(a, .inr (8, [.ref b1, .ref b2, .ref b3, .int 0, .ref b4, .int 0, .int 0, .int 0, .int 0, .ref b5, .ref b6, .int 0, .int 0, .int 0, .int 0, .long 0, .ref b7, .null, .null, .null, .null, .null, .null, .null])), (b1, .inl (τ 0, 134, .inl zz0)), (b2, .inl (τ 0, 134, .inl zz0)), (b3, .inl (τ 0, 134, .inl zz0)), (b4, .inl (τ 0, 7, .inl zz0)), (b5, .inl (τ 0, 16, .inl zz0)), (b6, .inl (τ 0, 120, .inl zz0)), (b7, .inl (τ 1, 56, .inl (pf (gl 0) 56))), (b8, .inl (τ 1, 16, .inl (pf (gl 56) 14)))]
  refine N_dup C (dA DX8_init_2 73 rfl) rfl ?_
  refine N_bipush (v := nI 14) C (dA DX8_init_2 74 rfl) (by decide) ?_
  refine N_bipush (v := nI 32) C (dA DX8_init_2 75 rfl) (by decide) ?_
  refine N_cast C (q0 := 8) (j := 14) (y := 32) rfl (by decide) (by decide) (by decide) (dA DX8_init_2 76 rfl) ?_
  rw [show upd (pf (gl 56) 14) 14 (nI 32) = pf (gl 56) 15 from pf_s (gl 56) 14]
  show NJ D X _ _ _ _ _ [(a, .inr (8, [.ref b1, .ref b2, .ref b3, .int 0, .ref b4, .int 0, .int 0, .int 0, .int 0, .ref b5, .ref b6, .int 0, .int 0, .int 0, .int 0, .long 0, .ref b7, .null, .null, .null, .null, .null, .null, .null])), (b1, .inl (τ 0, 134, .inl zz0)), (b2, .inl (τ 0, 134, .inl zz0)), (b3, .inl (τ 0, 134, .inl zz0)), (b4, .inl (τ 0, 7, .inl zz0)), (b5, .inl (τ 0, 16, .inl zz0)), (b6, .inl (τ 0, 120, .inl zz0)), (b7, .inl (τ 1, 56, .inl (pf (gl 0) 56))), (b8, .inl (τ 1, 16, .inl (pf (gl 56) 15)))]
  refine N_dup C (dA DX8_init_2 77 rfl) rfl ?_
  refine N_bipush (v := nI 15) C (dA DX8_init_2 78 rfl) (by decide) ?_
  refine N_bipush (v := nI 32) C (dA DX8_init_2 79 rfl) (by decide) ?_
  refine N_cast C (q0 := 8) (j := 15) (y := 32) rfl (by decide) (by decide) (by decide) (dA DX8_init_2 80 rfl) ?_
  rw [show upd (pf (gl 56) 15) 15 (nI 32) = pf (gl 56) 16 from pf_s (gl 56) 15]
  show NJ D X _ _ _ _ _ [(a, .inr (8, [.ref b1, .ref b2, .ref b3, .int 0, .ref b4, .int 0, .int 0, .int 0, .int 0, .ref b5, .ref b6, .int 0, .int 0, .int 0, .int 0, .long 0, .ref b7, .null, .null, .null, .null, .null, .null, .null])), (b1, .inl (τ 0, 134, .inl zz0)), (b2, .inl (τ 0, 134, .inl zz0)), (b3, .inl (τ 0, 134, .inl zz0)), (b4, .inl (τ 0, 7, .inl zz0)), (b5, .inl (τ 0, 16, .inl zz0)), (b6, .inl (τ 0, 120, .inl zz0)), (b7, .inl (τ 1, 56, .inl (pf (gl 0) 56))), (b8, .inl (τ 1, 16, .inl (pf (gl 56) 16)))]
  refine N_putF C hin (q0 := 0) (ci := 8) (T := TX8) (N := 24) (Cn := RX8) (j := 17) rfl inX8 tyX8_ok nmX8 rfl (by decide) wF_RX8_32 rfl rfl (tyX8_ok 17 (by decide)) rfl rfl (Nat.le_of_ble_eq_true rfl) (dA DX8_init_2 81 rfl) ?_
  show NJ D X _ _ _ _ _ [(a, .inr (8, [.ref b1, .ref b2, .ref b3, .int 0, .ref b4, .int 0, .int 0, .int 0, .int 0, .ref b5, .ref b6, .int 0, .int 0, .int 0, .int 0, .long 0, .ref b7, .ref b8, .null, .null, .null, .null, .null, .null])), (b1, .inl (τ 0, 134, .inl zz0)), (b2, .inl (τ 0, 134, .inl zz0)), (b3, .inl (τ 0, 134, .inl zz0)), (b4, .inl (τ 0, 7, .inl zz0)), (b5, .inl (τ 0, 16, .inl zz0)), (b6, .inl (τ 0, 120, .inl zz0)), (b7, .inl (τ 1, 56, .inl (pf (gl 0) 56))), (b8, .inl (τ 1, 16, .inl (pf (gl 56) 16)))]
  refine N_aload_n C (dA DX8_init_2 82 rfl) rfl ?_
  refine N_bipush (v := nI 24) C (dA DX8_init_2 83 rfl) (by decide) ?_
  refine N_newc C (pf (gl 72) 0) (fun i _ => if_neg (Nat.not_lt_zero i)) (by decide) wA_char (by decide) (by decide) (dA DX8_init_2 84 rfl) (fun b9 => ?_)
  show NJ D X _ _ _ _ _ [(a, .inr (8, [.ref b1, .ref b2, .ref b3, .int 0, .ref b4, .int 0, .int 0, .int 0, .int 0, .ref b5, .ref b6, .int 0, .int 0, .int 0, .int 0, .long 0, .ref b7, .ref b8, .null, .null, .null, .null, .null, .null])), (b1, .inl (τ 0, 134, .inl zz0)), (b2, .inl (τ 0, 134, .inl zz0)), (b3, .inl (τ 0, 134, .inl zz0)), (b4, .inl (τ 0, 7, .inl zz0)), (b5, .inl (τ 0, 16, .inl zz0)), (b6, .inl (τ 0, 120, .inl zz0)), (b7, .inl (τ 1, 56, .inl (pf (gl 0) 56))), (b8, .inl (τ 1, 16, .inl (pf (gl 56) 16))), (b9, .inl (τ 1, 24, .inl (pf (gl 72) 0)))]
  refine N_dup C (dA DX8_init_2 85 rfl) rfl ?_
  refine N_iconst (v := nI 0) C (dA DX8_init_2 86 rfl) (by decide) ?_
  refine N_bipush (v := nI 112) C (dA DX8_init_2 87 rfl) (by decide) ?_
  refine N_cast C (q0 := 9) (j := 0) (y := 112) rfl (by decide) (by decide) (by decide) (dA DX8_init_2 88 rfl) ?_
  rw [show upd (pf (gl 72) 0) 0 (nI 112) = pf (gl 72) 1 from pf_s (gl 72) 0]
  show NJ D X _ _ _ _ _ [(a, .inr (8, [.ref b1, .ref b2, .ref b3, .int 0, .ref b4, .int 0, .int 0, .int 0, .int 0, .ref b5, .ref b6, .int 0, .int 0, .int 0, .int 0, .long 0, .ref b7, .ref b8, .null, .null, .null, .null, .null, .null])), (b1, .inl (τ 0, 134, .inl zz0)), (b2, .inl (τ 0, 134, .inl zz0)), (b3, .inl (τ 0, 134, .inl zz0)), (b4, .inl (τ 0, 7, .inl zz0)), (b5, .inl (τ 0, 16, .inl zz0)), (b6, .inl (τ 0, 120, .inl zz0)), (b7, .inl (τ 1, 56, .inl (pf (gl 0) 56))), (b8, .inl (τ 1, 16, .inl (pf (gl 56) 16))), (b9, .inl (τ 1, 24, .inl (pf (gl 72) 1)))]
  refine N_dup C (dA DX8_init_2 89 rfl) rfl ?_
  refine N_iconst (v := nI 1) C (dA DX8_init_2 90 rfl) (by decide) ?_
  refine N_bipush (v := nI 111) C (dA DX8_init_2 91 rfl) (by decide) ?_
  refine N_cast C (q0 := 9) (j := 1) (y := 111) rfl (by decide) (by decide) (by decide) (dA DX8_init_2 92 rfl) ?_
  rw [show upd (pf (gl 72) 1) 1 (nI 111) = pf (gl 72) 2 from pf_s (gl 72) 1]
  show NJ D X _ _ _ _ _ [(a, .inr (8, [.ref b1, .ref b2, .ref b3, .int 0, .ref b4, .int 0, .int 0, .int 0, .int 0, .ref b5, .ref b6, .int 0, .int 0, .int 0, .int 0, .long 0, .ref b7, .ref b8, .null, .null, .null, .null, .null, .null])), (b1, .inl (τ 0, 134, .inl zz0)), (b2, .inl (τ 0, 134, .inl zz0)), (b3, .inl (τ 0, 134, .inl zz0)), (b4, .inl (τ 0, 7, .inl zz0)), (b5, .inl (τ 0, 16, .inl zz0)), (b6, .inl (τ 0, 120, .inl zz0)), (b7, .inl (τ 1, 56, .inl (pf (gl 0) 56))), (b8, .inl (τ 1, 16, .inl (pf (gl 56) 16))), (b9, .inl (τ 1, 24, .inl (pf (gl 72) 2)))]
  refine N_dup C (dA DX8_init_2 93 rfl) rfl ?_
  refine N_iconst (v := nI 2) C (dA DX8_init_2 94 rfl) (by decide) ?_
  refine N_bipush (v := nI 110) C (dA DX8_init_2 95 rfl) (by decide) ?_
  refine N_cast C (q0 := 9) (j := 2) (y := 110) rfl (by decide) (by decide) (by decide) (dA DX8_init_2 96 rfl) ?_
  rw [show upd (pf (gl 72) 2) 2 (nI 110) = pf (gl 72) 3 from pf_s (gl 72) 2]
  show NJ D X _ _ _ _ _ [(a, .inr (8, [.ref b1, .ref b2, .ref b3, .int 0, .ref b4, .int 0, .int 0, .int 0, .int 0, .ref b5, .ref b6, .int 0, .int 0, .int 0, .int 0, .long 0, .ref b7, .ref b8, .null, .null, .null, .null, .null, .null])), (b1, .inl (τ 0, 134, .inl zz0)), (b2, .inl (τ 0, 134, .inl zz0)), (b3, .inl (τ 0, 134, .inl zz0)), (b4, .inl (τ 0, 7, .inl zz0)), (b5, .inl (τ 0, 16, .inl zz0)), (b6, .inl (τ 0, 120, .inl zz0)), (b7, .inl (τ 1, 56, .inl (pf (gl 0) 56))), (b8, .inl (τ 1, 16, .inl (pf (gl 56) 16))), (b9, .inl (τ 1, 24, .inl (pf (gl 72) 3)))]
  refine N_dup C (dA DX8_init_2 97 rfl) rfl ?_
  refine N_iconst (v := nI 3) C (dA DX8_init_2 98 rfl) (by decide) ?_
  refine N_bipush (v := nI 100) C (dA DX8_init_2 99 rfl) (by decide) ?_
  refine N_cast C (q0 := 9) (j := 3) (y := 100) rfl (by decide) (by decide) (by decide) (dA DX8_init_2 100 rfl) ?_
  rw [show upd (pf (gl 72) 3) 3 (nI 100) = pf (gl 72) 4 from pf_s (gl 72) 3]
  show NJ D X _ _ _ _ _ [(a, .inr (8, [.ref b1, .ref b2, .ref b3, .int 0, .ref b4, .int 0, .int 0, .int 0, .int 0, .ref b5, .ref b6, .int 0, .int 0, .int 0, .int 0, .long 0, .ref b7, .ref b8, .null, .null, .null, .null, .null, .null])), (b1, .inl (τ 0, 134, .inl zz0)), (b2, .inl (τ 0, 134, .inl zz0)), (b3, .inl (τ 0, 134, .inl zz0)), (b4, .inl (τ 0, 7, .inl zz0)), (b5, .inl (τ 0, 16, .inl zz0)), (b6, .inl (τ 0, 120, .inl zz0)), (b7, .inl (τ 1, 56, .inl (pf (gl 0) 56))), (b8, .inl (τ 1, 16, .inl (pf (gl 56) 16))), (b9, .inl (τ 1, 24, .inl (pf (gl 72) 4)))]
  refine N_dup C (dA DX8_init_2 101 rfl) rfl ?_
  refine N_iconst (v := nI 4) C (dA DX8_init_2 102 rfl) (by decide) ?_
  refine N_bipush (v := nI 32) C (dA DX8_init_2 103 rfl) (by decide) ?_
  refine N_cast C (q0 := 9) (j := 4) (y := 32) rfl (by decide) (by decide) (by decide) (dA DX8_init_2 104 rfl) ?_
  rw [show upd (pf (gl 72) 4) 4 (nI 32) = pf (gl 72) 5 from pf_s (gl 72) 4]
  show NJ D X _ _ _ _ _ [(a, .inr (8, [.ref b1, .ref b2, .ref b3, .int 0, .ref b4, .int 0, .int 0, .int 0, .int 0, .ref b5, .ref b6, .int 0, .int 0, .int 0, .int 0, .long 0, .ref b7, .ref b8, .null, .null, .null, .null, .null, .null])), (b1, .inl (τ 0, 134, .inl zz0)), (b2, .inl (τ 0, 134, .inl zz0)), (b3, .inl (τ 0, 134, .inl zz0)), (b4, .inl (τ 0, 7, .inl zz0)), (b5, .inl (τ 0, 16, .inl zz0)), (b6, .inl (τ 0, 120, .inl zz0)), (b7, .inl (τ 1, 56, .inl (pf (gl 0) 56))), (b8, .inl (τ 1, 16, .inl (pf (gl 56) 16))), (b9, .inl (τ 1, 24, .inl (pf (gl 72) 5)))]
  refine N_dup C (dA DX8_init_2 105 rfl) rfl ?_
  refine N_iconst (v := nI 5) C (dA DX8_init_2 106 rfl) (by decide) ?_
  refine N_bipush (v := nI 32) C (dA DX8_init_2 107 rfl) (by decide) ?_
  refine N_cast C (q0 := 9) (j := 5) (y := 32) rfl (by decide) (by decide) (by decide) (dA DX8_init_2 108 rfl) ?_
  rw [show upd (pf (gl 72) 5) 5 (nI 32) = pf (gl 72) 6 from pf_s (gl 72) 5]
  show NJ D X _ _ _ _ _ [(a, .inr (8, [.ref b1, .ref b2, .ref b3, .int 0, .ref b4, .int 0, .int 0, .int 0, .int 0, .ref b5, .ref b6, .int 0, .int 0, .int 0, .int 0, .long 0, .ref b7, .ref b8, .null, .null, .null, .null, .null, .null])), (b1, .inl (τ 0, 134, .inl zz0)), (b2, .inl (τ 0, 134, .inl zz0)), (b3, .inl (τ 0, 134, .inl zz0)), (b4, .inl (τ 0, 7, .inl zz0)), (b5, .inl (τ 0, 16, .inl zz0)), (b6, .inl (τ 0, 120, .inl zz0)), (b7, .inl (τ 1, 56, .inl (pf (gl 0) 56))), (b8, .inl (τ 1, 16, .inl (pf (gl 56) 16))), (b9, .inl (τ 1, 24, .inl (pf (gl 72) 6)))]
  refine N_dup C (dA DX8_init_2 109 rfl) rfl ?_
  refine N_bipush (v := nI 6) C (dA DX8_init_2 110 rfl) (by decide) ?_
  refine N_bipush (v := nI 32) C (dA DX8_init_2 111 rfl) (by decide) ?_
  refine N_cast C (q0 := 9) (j := 6) (y := 32) rfl (by decide) (by decide) (by decide) (dA DX8_init_2 112 rfl) ?_
  rw [show upd (pf (gl 72) 6) 6 (nI 32) = pf (gl 72) 7 from pf_s (gl 72) 6]
  show NJ D X _ _ _ _ _ [(a, .inr (8, [.ref b1, .ref b2, .ref b3, .int 0, .ref b4, .int 0, .int 0, .int 0, .int 0, .ref b5, .ref b6, .int 0, .int 0, .int 0, .int 0, .long 0, .ref b7, .ref b8, .null, .null, .null, .null, .null, .null])), (b1, .inl (τ 0, 134, .inl zz0)), (b2, .inl (τ 0, 134, .inl zz0)), (b3, .inl (τ 0, 134, .inl zz0)), (b4, .inl (τ 0, 7, .inl zz0)), (b5, .inl (τ 0, 16, .inl zz0)), (b6, .inl (τ 0, 120, .inl zz0)), (b7, .inl (τ 1, 56, .inl (pf (gl 0) 56))), (b8, .inl (τ 1, 16, .inl (pf (gl 56) 16))), (b9, .inl (τ 1, 24, .inl (pf (gl 72) 7)))]
  refine N_dup C (dA DX8_init_2 113 rfl) rfl ?_
  refine N_bipush (v := nI 7) C (dA DX8_init_2 114 rfl) (by decide) ?_
  refine N_bipush (v := nI 32) C (dA DX8_init_2 115 rfl) (by decide) ?_
  refine N_cast C (q0 := 9) (j := 7) (y := 32) rfl (by decide) (by decide) (by decide) (dA DX8_init_2 116 rfl) ?_
  rw [show upd (pf (gl 72) 7) 7 (nI 32) = pf (gl 72) 8 from pf_s (gl 72) 7]
  show NJ D X _ _ _ _ _ [(a, .inr (8, [.ref b1, .ref b2, .ref b3, .int 0, .ref b4, .int 0, .int 0, .int 0, .int 0, .ref b5, .ref b6, .int 0, .int 0, .int 0, .int 0, .long 0, .ref b7, .ref b8, .null, .null, .null, .null, .null, .null])), (b1, .inl (τ 0, 134, .inl zz0)), (b2, .inl (τ 0, 134, .inl zz0)), (b3, .inl (τ 0, 134, .inl zz0)), (b4, .inl (τ 0, 7, .inl zz0)), (b5, .inl (τ 0, 16, .inl zz0)), (b6, .inl (τ 0, 120, .inl zz0)), (b7, .inl (τ 1, 56, .inl (pf (gl 0) 56))), (b8, .inl (τ 1, 16, .inl (pf (gl 56) 16))), (b9, .inl (τ 1, 24, .inl (pf (gl 72) 8)))]
  refine N_dup C (dA DX8_init_2 117 rfl) rfl ?_
  refine N_bipush (v := nI 8) C (dA DX8_init_2 118 rfl) (by decide) ?_
  refine N_bipush (v := nI 114) C (dA DX8_init_2 119 rfl) (by decide) ?_
  refine N_cast C (q0 := 9) (j := 8) (y := 114) rfl (by decide) (by decide) (by decide) (dA DX8_init_3 0 rfl) ?_
  rw [show upd (pf (gl 72) 8) 8 (nI 114) = pf (gl 72) 9 from pf_s (gl 72) 8]
  show NJ D X _ _ _ _ _ [(a, .inr (8, [.ref b1, .ref b2, .ref b3, .int 0, .ref b4, .int 0, .int 0, .int 0, .int 0, .ref b5, .ref b6, .int 0, .int 0, .int 0, .int 0, .long 0, .ref b7, .ref b8, .null, .null, .null, .null, .null, .null])), (b1, .inl (τ 0, 134, .inl zz0)), (b2, .inl (τ 0, 134, .inl zz0)), (b3, .inl (τ 0, 134, .inl zz0)), (b4, .inl (τ 0, 7, .inl zz0)), (b5, .inl (τ 0, 16, .inl zz0)), (b6, .inl (τ 0, 120, .inl zz0)), (b7, .inl (τ 1, 56, .inl (pf (gl 0) 56))), (b8, .inl (τ 1, 16, .inl (pf (gl 56) 16))), (b9, .inl (τ 1, 24, .inl (pf (gl 72) 9)))]
  refine N_dup C (dA DX8_init_3 1 rfl) rfl ?_
  refine N_bipush (v := nI 9) C (dA DX8_init_3 2 rfl) (by decide) ?_
  refine N_bipush (v := nI 97) C (dA DX8_init_3 3 rfl) (by decide) ?_
  refine N_cast C (q0 := 9) (j := 9) (y := 97) rfl (by decide) (by decide) (by decide) (dA DX8_init_3 4 rfl) ?_
  rw [show upd (pf (gl 72) 9) 9 (nI 97) = pf (gl 72) 10 from pf_s (gl 72) 9]
  show NJ D X _ _ _ _ _ [(a, .inr (8, [.ref b1, .ref b2, .ref b3, .int 0, .ref b4, .int 0, .int 0, .int 0, .int 0, .ref b5, .ref b6, .int 0, .int 0, .int 0, .int 0, .long 0, .ref b7, .ref b8, .null, .null, .null, .null, .null, .null])), (b1, .inl (τ 0, 134, .inl zz0)), (b2, .inl (τ 0, 134, .inl zz0)), (b3, .inl (τ 0, 134, .inl zz0)), (b4, .inl (τ 0, 7, .inl zz0)), (b5, .inl (τ 0, 16, .inl zz0)), (b6, .inl (τ 0, 120, .inl zz0)), (b7, .inl (τ 1, 56, .inl (pf (gl 0) 56))), (b8, .inl (τ 1, 16, .inl (pf (gl 56) 16))), (b9, .inl (τ 1, 24, .inl (pf (gl 72) 10)))]
  refine N_dup C (dA DX8_init_3 5 rfl) rfl ?_
  refine N_bipush (v := nI 10) C (dA DX8_init_3 6 rfl) (by decide) ?_
  refine N_bipush (v := nI 105) C (dA DX8_init_3 7 rfl) (by decide) ?_
  refine N_cast C (q0 := 9) (j := 10) (y := 105) rfl (by decide) (by decide) (by decide) (dA DX8_init_3 8 rfl) ?_
  rw [show upd (pf (gl 72) 10) 10 (nI 105) = pf (gl 72) 11 from pf_s (gl 72) 10]
  show NJ D X _ _ _ _ _ [(a, .inr (8, [.ref b1, .ref b2, .ref b3, .int 0, .ref b4, .int 0, .int 0, .int 0, .int 0, .ref b5, .ref b6, .int 0, .int 0, .int 0, .int 0, .long 0, .ref b7, .ref b8, .null, .null, .null, .null, .null, .null])), (b1, .inl (τ 0, 134, .inl zz0)), (b2, .inl (τ 0, 134, .inl zz0)), (b3, .inl (τ 0, 134, .inl zz0)), (b4, .inl (τ 0, 7, .inl zz0)), (b5, .inl (τ 0, 16, .inl zz0)), (b6, .inl (τ 0, 120, .inl zz0)), (b7, .inl (τ 1, 56, .inl (pf (gl 0) 56))), (b8, .inl (τ 1, 16, .inl (pf (gl 56) 16))), (b9, .inl (τ 1, 24, .inl (pf (gl 72) 11)))]
  refine N_dup C (dA DX8_init_3 9 rfl) rfl ?_
  refine N_bipush (v := nI 11) C (dA DX8_init_3 10 rfl) (by decide) ?_
  refine N_bipush (v := nI 110) C (dA DX8_init_3 11 rfl) (by decide) ?_
  refine N_cast C (q0 := 9) (j := 11) (y := 110) rfl (by decide) (by decide) (by decide) (dA DX8_init_3 12 rfl) ?_
  rw [show upd (pf (gl 72) 11) 11 (nI 110) = pf (gl 72) 12 from pf_s (gl 72) 11]
  show NJ D X _ _ _ _ _ [(a, .inr (8, [.ref b1, .ref b2, .ref b3, .int 0, .ref b4, .int 0, .int 0, .int 0, .int 0, .ref b5, .ref b6, .int 0, .int 0, .int 0, .int 0, .long 0, .ref b7, .ref b8, .null, .null, .null, .null, .null, .null])), (b1, .inl (τ 0, 134, .inl zz0)), (b2, .inl (τ 0, 134, .inl zz0)), (b3, .inl (τ 0, 134, .inl zz0)), (b4, .inl (τ 0, 7, .inl zz0)), (b5, .inl (τ 0, 16, .inl zz0)), (b6, .inl (τ 0, 120, .inl zz0)), (b7, .inl (τ 1, 56, .inl (pf (gl 0) 56))), (b8, .inl (τ 1, 16, .inl (pf (gl 56) 16))), (b9, .inl (τ 1, 24, .inl (pf (gl 72) 12)))]
  refine N_dup C (dA DX8_init_3 13 rfl) rfl ?_
  refine N_bipush (v := nI 12) C (dA DX8_init_3 14 rfl) (by decide) ?_
  refine N_bipush (v := nI 32) C (dA DX8_init_3 15 rfl) (by decide) ?_
  refine N_cast C (q0 := 9) (j := 12) (y := 32) rfl (by decide) (by decide) (by decide) (dA DX8_init_3 16 rfl) ?_
  rw [show upd (pf (gl 72) 12) 12 (nI 32) = pf (gl 72) 13 from pf_s (gl 72) 12]
  show NJ D X _ _ _ _ _ [(a, .inr (8, [.ref b1, .ref b2, .ref b3, .int 0, .ref b4, .int 0, .int 0, .int 0, .int 0, .ref b5, .ref b6, .int 0, .int 0, .int 0, .int 0, .long 0, .ref b7, .ref b8, .null, .null, .null, .null, .null, .null])), (b1, .inl (τ 0, 134, .inl zz0)), (b2, .inl (τ 0, 134, .inl zz0)), (b3, .inl (τ 0, 134, .inl zz0)), (b4, .inl (τ 0, 7, .inl zz0)), (b5, .inl (τ 0, 16, .inl zz0)), (b6, .inl (τ 0, 120, .inl zz0)), (b7, .inl (τ 1, 56, .inl (pf (gl 0) 56))), (b8, .inl (τ 1, 16, .inl (pf (gl 56) 16))), (b9, .inl (τ 1, 24, .inl (pf (gl 72) 13)))]
  refine N_dup C (dA DX8_init_3 17 rfl) rfl ?_
  refine N_bipush (v := nI 13) C (dA DX8_init_3 18 rfl) (by decide) ?_
  refine N_bipush (v := nI 32) C (dA DX8_init_3 19 rfl) (by decide) ?_
  refine N_cast C (q0 := 9) (j := 13) (y := 32) rfl (by decide) (by decide) (by decide) (dA DX8_init_3 20 rfl) ?_
  rw [show upd (pf (gl 72) 13) 13 (nI 32) = pf (gl 72) 14 from pf_s (gl 72) 13]
  show NJ D X _ _ _ _ _ [(a, .inr (8, [.ref b1, .ref b2, .ref b3, .int 0, .ref b4, .int 0, .int 0, .int 0, .int 0, .ref b5, .ref b6, .int 0, .int 0, .int 0, .int 0, .long 0, .ref b7, .ref b8, .null, .null, .null, .null, .null, .null])), (b1, .inl (τ 0, 134, .inl zz0)), (b2, .inl (τ 0, 134, .inl zz0)), (b3, .inl (τ 0, 134, .inl zz0)), (b4, .inl (τ 0, 7, .inl zz0)), (b5, .inl (τ 0, 16, .inl zz0)), (b6, .inl (τ 0, 120, .inl zz0)), (b7, .inl (τ 1, 56, .inl (pf (gl 0) 56))), (b8, .inl (τ 1, 16, .inl (pf (gl 56) 16))), (b9, .inl (τ 1, 24, .inl (pf (gl 72) 14)))]
  refine N_dup C (dA DX8_init_3 21 rfl) rfl ?_
  refine N_bipush (v := nI 14) C (dA DX8_init_3 22 rfl) (by decide) ?_
  refine N_bipush (v := nI 32) C (dA DX8_init_3 23 rfl) (by decide) ?_
  refine N_cast C (q0 := 9) (j := 14) (y := 32) rfl (by decide) (by decide) (by decide) (dA DX8_init_3 24 rfl) ?_
  rw [show upd (pf (gl 72) 14) 14 (nI 32) = pf (gl 72) 15 from pf_s (gl 72) 14]
  show NJ D X _ _ _ _ _ [(a, .inr (8, [.ref b1, .ref b2, .ref b3, .int 0, .ref b4, .int 0, .int 0, .int 0, .int 0, .ref b5, .ref b6, .int 0, .int 0, .int 0, .int 0, .long 0, .ref b7, .ref b8, .null, .null, .null, .null, .null, .null])), (b1, .inl (τ 0, 134, .inl zz0)), (b2, .inl (τ 0, 134, .inl zz0)), (b3, .inl (τ 0, 134, .inl zz0)), (b4, .inl (τ 0, 7, .inl zz0)), (b5, .inl (τ 0, 16, .inl zz0)), (b6, .inl (τ 0, 120, .inl zz0)), (b7, .inl (τ 1, 56, .inl (pf (gl 0) 56))), (b8, .inl (τ 1, 16, .inl (pf (gl 56) 16))), (b9, .inl (τ 1, 24, .inl (pf (gl 72) 15)))]
  refine N_dup C (dA DX8_init_3 25 rfl) rfl ?_
  refine N_bipush (v := nI 15) C (dA DX8_init_3 26 rfl) (by decide) ?_
  refine N_bipush (v := nI 32) C (dA DX8_init_3 27 rfl) (by decide) ?_
  refine N_cast C (q0 := 9) (j := 15) (y := 32) rfl (by decide) (by decide) (by decide) (dA DX8_init_3 28 rfl) ?_
  rw [show upd (pf (gl 72) 15) 15 (nI 32) = pf (gl 72) 16 from pf_s (gl 72) 15]
  show NJ D X _ _ _ _ _ [(a, .inr (8, [.ref b1, .ref b2, .ref b3, .int 0, .ref b4, .int 0, .int 0, .int 0, .int 0, .ref b5, .ref b6, .int 0, .int 0, .int 0, .int 0, .long 0, .ref b7, .ref b8, .null, .null, .null, .null, .null, .null])), (b1, .inl (τ 0, 134, .inl zz0)), (b2, .inl (τ 0, 134, .inl zz0)), (b3, .inl (τ 0, 134, .inl zz0)), (b4, .inl (τ 0, 7, .inl zz0)), (b5, .inl (τ 0, 16, .inl zz0)), (b6, .inl (τ 0, 120, .inl zz0)), (b7, .inl (τ 1, 56, .inl (pf (gl 0) 56))), (b8, .inl (τ 1, 16, .inl (pf (gl 56) 16))), (b9, .inl (τ 1, 24, .inl (pf (gl 72) 16)))]
  refine N_dup C (dA DX8_init_3 29 rfl) rfl ?_
  refine N_bipush (v := nI 16) C (dA DX8_init_3 30 rfl) (by decide) ?_
  refine N_bipush (v := nI 100) C (dA DX8_init_3 31 rfl) (by decide) ?_
  refine N_cast C (q0 := 9) (j := 16) (y := 100) rfl (by decide) (by decide) (by decide) (dA DX8_init_3 32 rfl) ?_
  rw [show upd (pf (gl 72) 16) 16 (nI 100) = pf (gl 72) 17 from pf_s (gl 72) 16]
  show NJ D X _ _ _ _ _ [(a, .inr (8, [.ref b1, .ref b2, .ref b3, .int 0, .ref b4, .int 0, .int 0, .int 0, .int 0, .ref b5, .ref b6, .int 0, .int 0, .int 0, .int 0, .long 0, .ref b7, .ref b8, .null, .null, .null, .null, .null, .null])), (b1, .inl (τ 0, 134, .inl zz0)), (b2, .inl (τ 0, 134, .inl zz0)), (b3, .inl (τ 0, 134, .inl zz0)), (b4, .inl (τ 0, 7, .inl zz0)), (b5, .inl (τ 0, 16, .inl zz0)), (b6, .inl (τ 0, 120, .inl zz0)), (b7, .inl (τ 1, 56, .inl (pf (gl 0) 56))), (b8, .inl (τ 1, 16, .inl (pf (gl 56) 16))), (b9, .inl (τ 1, 24, .inl (pf (gl 72) 17)))]
  refine N_dup C (dA DX8_init_3 33 rfl) rfl ?_
  refine N_bipush (v := nI 17) C (dA DX8_init_3 34 rfl) (by decide) ?_
  refine N_bipush (v := nI 114) C (dA DX8_init_3 35 rfl) (by decide) ?_
  refine N_cast C (q0 := 9) (j := 17) (y := 114) rfl (by decide) (by decide) (by decide) (dA DX8_init_3 36 rfl) ?_
  rw [show upd (pf (gl 72) 17) 17 (nI 114) = pf (gl 72) 18 from pf_s (gl 72) 17]
  show NJ D X _ _ _ _ _ [(a, .inr (8, [.ref b1, .ref b2, .ref b3, .int 0, .ref b4, .int 0, .int 0, .int 0, .int 0, .ref b5, .ref b6, .int 0, .int 0, .int 0, .int 0, .long 0, .ref b7, .ref b8, .null, .null, .null, .null, .null, .null])), (b1, .inl (τ 0, 134, .inl zz0)), (b2, .inl (τ 0, 134, .inl zz0)), (b3, .inl (τ 0, 134, .inl zz0)), (b4, .inl (τ 0, 7, .inl zz0)), (b5, .inl (τ 0, 16, .inl zz0)), (b6, .inl (τ 0, 120, .inl zz0)), (b7, .inl (τ 1, 56, .inl (pf (gl 0) 56))), (b8, .inl (τ 1, 16, .inl (pf (gl 56) 16))), (b9, .inl (τ 1, 24, .inl (pf (gl 72) 18)))]
  refine N_dup C (dA DX8_init_3 37 rfl) rfl ?_
  refine N_bipush (v := nI 18) C (dA DX8_init_3 38 rfl) (by decide) ?_
  refine N_bipush (v := nI 121) C (dA DX8_init_3 39 rfl) (by decide) ?_
  refine N_cast C (q0 := 9) (j := 18) (y := 121) rfl (by decide) (by decide) (by decide) (dA DX8_init_3 40 rfl) ?_
  rw [show upd (pf (gl 72) 18) 18 (nI 121) = pf (gl 72) 19 from pf_s (gl 72) 18]
  show NJ D X _ _ _ _ _ [(a, .inr (8, [.ref b1, .ref b2, .ref b3, .int 0, .ref b4, .int 0, .int 0, .int 0, .int 0, .ref b5, .ref b6, .int 0, .int 0, .int 0, .int 0, .long 0, .ref b7, .ref b8, .null, .null, .null, .null, .null, .null])), (b1, .inl (τ 0, 134, .inl zz0)), (b2, .inl (τ 0, 134, .inl zz0)), (b3, .inl (τ 0, 134, .inl zz0)), (b4, .inl (τ 0, 7, .inl zz0)), (b5, .inl (τ 0, 16, .inl zz0)), (b6, .inl (τ 0, 120, .inl zz0)), (b7, .inl (τ 1, 56, .inl (pf (gl 0) 56))), (b8, .inl (τ 1, 16, .inl (pf (gl 56) 16))), (b9, .inl (τ 1, 24, .inl (pf (gl 72) 19)))]
  refine N_dup C (dA DX8_init_3 41 rfl) rfl ?_
  refine N_bipush (v := nI 19) C (dA DX8_init_3 42 rfl) (by decide) ?_
  refine N_bipush (v := nI 32) C (dA DX8_init_3 43 rfl) (by decide) ?_
  refine N_cast C (q0 := 9) (j := 19) (y := 32) rfl (by decide) (by decide) (by decide) (dA DX8_init_3 44 rfl) ?_
  rw [show upd (pf (gl 72) 19) 19 (nI 32) = pf (gl 72) 20 from pf_s (gl 72) 19]
  show NJ D X _ _ _ _ _ [(a, .inr (8, [.ref b1, .ref b2, .ref b3, .int 0, .ref b4, .int 0, .int 0, .int 0, .int 0, .ref b5, .ref b6, .int 0, .int 0, .int 0, .int 0, .long 0, .ref b7, .ref b8, .null, .null, .null, .null, .null, .null])), (b1, .inl (τ 0, 134, .inl zz0)), (b2, .inl (τ 0, 134, .inl zz0)), (b3, .inl (τ 0, 134, .inl zz0)), (b4, .inl (τ 0, 7, .inl zz0)), (b5, .inl (τ 0, 16, .inl zz0)), (b6, .inl (τ 0, 120, .inl zz0)), (b7, .inl (τ 1, 56, .inl (pf (gl 0) 56))), (b8, .inl (τ 1, 16, .inl (pf (gl 56) 16))), (b9, .inl (τ 1, 24, .inl (pf (gl 72) 20)))]
  refine N_dup C (dA DX8_init_3 45 rfl) rfl ?_
  refine N_bipush (v := nI 20) C (dA DX8_init_3 46 rfl) (by decide) ?_
  refine N_bipush (v := nI 32) C (dA DX8_init_3 47 rfl) (by decide) ?_
  refine N_cast C (q0 := 9) (j := 20) (y := 32) rfl (by decide) (by decide) (by decide) (dA DX8_init_3 48 rfl) ?_
  rw [show upd (pf (gl 72) 20) 20 (nI 32) = pf (gl 72) 21 from pf_s (gl 72) 20]
  show NJ D X _ _ _ _ _ [(a, .inr (8, [.ref b1, .ref b2, .ref b3, .int 0, .ref b4, .int 0, .int 0, .int 0, .int 0, .ref b5, .ref b6, .int 0, .int 0, .int 0, .int 0, .long 0, .ref b7, .ref b8, .null, .null, .null, .null, .null, .null])), (b1, .inl (τ 0, 134, .inl zz0)), (b2, .inl (τ 0, 134, .inl zz0)), (b3, .inl (τ 0, 134, .inl zz0)), (b4, .inl (τ 0, 7, .inl zz0)), (b5, .inl (τ 0, 16, .inl zz0)), (b6, .inl (τ 0, 120, .inl zz0)), (b7, .inl (τ 1, 56, .inl (pf (gl 0) 56))), (b8, .inl (τ 1, 16, .inl (pf (gl 56) 16))), (b9, .inl (τ 1, 24, .inl (pf (gl 72) 21)))]
  refine N_dup C (dA DX8_init_3 49 rfl) rfl ?_
  refine N_bipush (v := nI 21) C (dA DX8_init_3 50 rfl) (by decide) ?_
  refine N_bipush (v := nI 32) C (dA DX8_init_3 51 rfl) (by decide) ?_
  refine N_cast C (q0 := 9) (j := 21) (y := 32) rfl (by decide) (by decide) (by decide) (dA DX8_init_3 52 rfl) ?_
  rw [show upd (pf (gl 72) 21) 21 (nI 32) = pf (gl 72) 22 from pf_s (gl 72) 21]
  show NJ D X _ _ _ _ _ [(a, .inr (8, [.ref b1, .ref b2, .ref b3, .int 0, .ref b4, .int 0, .int 0, .int 0, .int 0, .ref b5, .ref b6, .int 0, .int 0, .int 0, .int 0, .long 0, .ref b7, .ref b8, .null, .null, .null, .null, .null, .null])), (b1, .inl (τ 0, 134, .inl zz0)), (b2, .inl (τ 0, 134, .inl zz0)), (b3, .inl (τ 0, 134, .inl zz0)), (b4, .inl (τ 0, 7, .inl zz0)), (b5, .inl (τ 0, 16, .inl zz0)), (b6, .inl (τ 0, 120, .inl zz0)), (b7, .inl (τ 1, 56, .inl (pf (gl 0) 56))), (b8, .inl (τ 1, 16, .inl (pf (gl 56) 16))), (b9, .inl (τ 1, 24, .inl (pf (gl 72) 22)))]
  refine N_dup C (dA DX8_init_3 53 rfl) rfl ?_
  refine N_bipush (v := nI 22) C (dA DX8_init_3 54 rfl) (by decide) ?_
  refine N_bipush (v := nI 32) C (dA DX8_init_3 55 rfl) (by decide) ?_
  refine N_cast C (q0 := 9) (j := 22) (y := 32) rfl (by decide) (by decide) (by decide) (dA DX8_init_3 56 rfl) ?_
  rw [show upd (pf (gl 72) 22) 22 (nI 32) = pf (gl 72) 23 from pf_s (gl 72) 22]
  show NJ D X _ _ _ _ _ [(a, .inr (8, [.ref b1, .ref b2, .ref b3, .int 0, .ref b4, .int 0, .int 0, .int 0, .int 0, .ref b5, .ref b6, .int 0, .int 0, .int 0, .int 0, .long 0, .ref b7, .ref b8, .null, .null, .null, .null, .null, .null])), (b1, .inl (τ 0, 134, .inl zz0)), (b2, .inl (τ 0, 134, .inl zz0)), (b3, .inl (τ 0, 134, .inl zz0)), (b4, .inl (τ 0, 7, .inl zz0)), (b5, .inl (τ 0, 16, .inl zz0)), (b6, .inl (τ 0, 120, .inl zz0)), (b7, .inl (τ 1, 56, .inl (pf (gl 0) 56))), (b8, .inl (τ 1, 16, .inl (pf (gl 56) 16))), (b9, .inl (τ 1, 24, .inl (pf (gl 72) 23)))]
  refine N_dup C (dA DX8_init_3 57 rfl) rfl ?_
  refine N_bipush (v := nI 23) C (dA DX8_init_3 58 rfl) (by decide) ?_
  refine N_bipush (v := nI 32) C (dA DX8_init_3 59 rfl) (by decide) ?_
  refine N_cast C (q0 := 9) (j := 23) (y := 32) rfl (by decide) (by decide) (by decide) (dA DX8_init_3 60 rfl) ?_
  rw [show upd (pf (gl 72) 23) 23 (nI 32) = pf (gl 72) 24 from pf_s (gl 72) 23]
  show NJ D X _ _ _ _ _ [(a, .inr (8, [.ref b1, .ref b2, .ref b3, .int 0, .ref b4, .int 0, .int 0, .int 0, .int 0, .ref b5, .ref b6, .int 0, .int 0, .int 0, .int 0, .long 0, .ref b7, .ref b8, .null, .null, .null, .null, .null, .null])), (b1, .inl (τ 0, 134, .inl zz0)), (b2, .inl (τ 0, 134, .inl zz0)), (b3, .inl (τ 0, 134, .inl zz0)), (b4, .inl (τ 0, 7, .inl zz0)), (b5, .inl (τ 0, 16, .inl zz0)), (b6, .inl (τ 0, 120, .inl zz0)), (b7, .inl (τ 1, 56, .inl (pf (gl 0) 56))), (b8, .inl (τ 1, 16, .inl (pf (gl 56) 16))), (b9, .inl (τ 1, 24, .inl (pf (gl 72) 24)))]
  refine N_putF C hin (q0 := 0) (ci := 8) (T := TX8) (N := 24) (Cn := RX8) (j := 18) rfl inX8 tyX8_ok nmX8 rfl (by decide) wF_RX8_35 rfl rfl (tyX8_ok 18 (by decide)) rfl rfl (Nat.le_of_ble_eq_true rfl) (dA DX8_init_3 61 rfl) ?_
  show NJ D X _ _ _ _ _ [(a, .inr (8, [.ref b1, .ref b2, .ref b3, .int 0, .ref b4, .int 0, .int 0, .int 0, .int 0, .ref b5, .ref b6, .int 0, .int 0, .int 0, .int 0, .long 0, .ref b7, .ref b8, .ref b9, .null, .null, .null, .null, .null])), (b1, .inl (τ 0, 134, .inl zz0)), (b2, .inl (τ 0, 134, .inl zz0)), (b3, .inl (τ 0, 134, .inl zz0)), (b4, .inl (τ 0, 7, .inl zz0)), (b5, .inl (τ 0, 16, .inl zz0)), (b6, .inl (τ 0, 120, .inl zz0)), (b7, .inl (τ 1, 56, .inl (pf (gl 0) 56))), (b8, .inl (τ 1, 16, .inl (pf (gl 56) 16))), (b9, .inl (τ 1, 24, .inl (pf (gl 72) 24)))]
  refine N_aload_n C (dA DX8_init_3 62 rfl) rfl ?_
  refine N_bipush (v := nI 48) C (dA DX8_init_3 63 rfl) (by decide) ?_
  refine N_newc C (pf (gl 96) 0) (fun i _ => if_neg (Nat.not_lt_zero i)) (by decide) wA_char (by decide) (by decide) (dA DX8_init_3 64 rfl) (fun b10 => ?_)
  show NJ D X _ _ _ _ _ [(a, .inr (8, [.ref b1, .ref b2, .ref b3, .int 0, .ref b4, .int 0, .int 0, .int 0, .int 0, .ref b5, .ref b6, .int 0, .int 0, .int 0, .int 0, .long 0, .ref b7, .ref b8, .ref b9, .null, .null, .null, .null, .null])), (b1, .inl (τ 0, 134, .inl zz0)), (b2, .inl (τ 0, 134, .inl zz0)), (b3, .inl (τ 0, 134, .inl zz0)), (b4, .inl (τ 0, 7, .inl zz0)), (b5, .inl (τ 0, 16, .inl zz0)), (b6, .inl (τ 0, 120, .inl zz0)), (b7, .inl (τ 1, 56, .inl (pf (gl 0) 56))), (b8, .inl (τ 1, 16, .inl (pf (gl 56) 16))), (b9, .inl (τ 1, 24, .inl (pf (gl 72) 24))), (b10, .inl (τ 1, 48, .inl (pf (gl 96) 0)))]
  refine N_dup C (dA DX8_init_3 65 rfl) rfl ?_
  refine N_iconst (v := nI 0) C (dA DX8_init_3 66 rfl) (by decide) ?_
  refine N_bipush (v := nI 115) C (dA DX8_init_3 67 rfl) (by decide) ?_
  refine N_cast C (q0 := 10) (j := 0) (y := 115) rfl (by decide) (by decide) (by decide) (dA DX8_init_3 68 rfl) ?_
  rw [show upd (pf (gl 96) 0) 0 (nI 115) = pf (gl 96) 1 from pf_s (gl 96) 0]
  show NJ D X _ _ _ _ _ [(a, .inr (8, [.ref b1, .ref b2, .ref b3, .int 0, .ref b4, .int 0, .int 0, .int 0, .int 0, .ref b5, .ref b6, .int 0, .int 0, .int 0, .int 0, .long 0, .ref b7, .ref b8, .ref b9, .null, .null, .null, .null, .null])), (b1, .inl (τ 0, 134, .inl zz0)), (b2, .inl (τ 0, 134, .inl zz0)), (b3, .inl (τ 0, 134, .inl zz0)), (b4, .inl (τ 0, 7, .inl zz0)), (b5, .inl (τ 0, 16, .inl zz0)), (b6, .inl (τ 0, 120, .inl zz0)), (b7, .inl (τ 1, 56, .inl (pf (gl 0) 56))), (b8, .inl (τ 1, 16, .inl (pf (gl 56) 16))), (b9, .inl (τ 1, 24, .inl (pf (gl 72) 24))), (b10, .inl (τ 1, 48, .inl (pf (gl 96) 1)))]
  refine N_dup C (dA DX8_init_3 69 rfl) rfl ?_
  refine N_iconst (v := nI 1) C (dA DX8_init_3 70 rfl) (by decide) ?_
  refine N_bipush (v := nI 104) C (dA DX8_init_3 71 rfl) (by decide) ?_
  refine N_cast C (q0 := 10) (j := 1) (y := 104) rfl (by decide) (by decide) (by decide) (dA DX8_init_3 72 rfl) ?_
  rw [show upd (pf (gl 96) 1) 1 (nI 104) = pf (gl 96) 2 from pf_s (gl 96) 1]
  show NJ D X _ _ _ _ _ [(a, .inr (8, [.ref b1, .ref b2, .ref b3, .int 0, .ref b4, .int 0, .int 0, .int 0, .int 0, .ref b5, .ref b6, .int 0, .int 0, .int 0, .int 0, .long 0, .ref b7, .ref b8, .ref b9, .null, .null, .null, .null, .null])), (b1, .inl (τ 0, 134, .inl zz0)), (b2, .inl (τ 0, 134, .inl zz0)), (b3, .inl (τ 0, 134, .inl zz0)), (b4, .inl (τ 0, 7, .inl zz0)), (b5, .inl (τ 0, 16, .inl zz0)), (b6, .inl (τ 0, 120, .inl zz0)), (b7, .inl (τ 1, 56, .inl (pf (gl 0) 56))), (b8, .inl (τ 1, 16, .inl (pf (gl 56) 16))), (b9, .inl (τ 1, 24, .inl (pf (gl 72) 24))), (b10, .inl (τ 1, 48, .inl (pf (gl 96) 2)))]
  refine N_dup C (dA DX8_init_3 73 rfl) rfl ?_
  refine N_iconst (v := nI 2) C (dA DX8_init_3 74 rfl) (by decide) ?_
  refine N_bipush (v := nI 111) C (dA DX8_init_3 75 rfl) (by decide) ?_
  refine N_cast C (q0 := 10) (j := 2) (y := 111) rfl (by decide) (by decide) (by decide) (dA DX8_init_3 76 rfl) ?_
  rw [show upd (pf (gl 96) 2) 2 (nI 111) = pf (gl 96) 3 from pf_s (gl 96) 2]
  show NJ D X _ _ _ _ _ [(a, .inr (8, [.ref b1, .ref b2, .ref b3, .int 0, .ref b4, .int 0, .int 0, .int 0, .int 0, .ref b5, .ref b6, .int 0, .int 0, .int 0, .int 0, .long 0, .ref b7, .ref b8, .ref b9, .null, .null, .null, .null, .null])), (b1, .inl (τ 0, 134, .inl zz0)), (b2, .inl (τ 0, 134, .inl zz0)), (b3, .inl (τ 0, 134, .inl zz0)), (b4, .inl (τ 0, 7, .inl zz0)), (b5, .inl (τ 0, 16, .inl zz0)), (b6, .inl (τ 0, 120, .inl zz0)), (b7, .inl (τ 1, 56, .inl (pf (gl 0) 56))), (b8, .inl (τ 1, 16, .inl (pf (gl 56) 16))), (b9, .inl (τ 1, 24, .inl (pf (gl 72) 24))), (b10, .inl (τ 1, 48, .inl (pf (gl 96) 3)))]
  refine N_dup C (dA DX8_init_3 77 rfl) rfl ?_
  refine N_iconst (v := nI 3) C (dA DX8_init_3 78 rfl) (by decide) ?_
  refine N_bipush (v := nI 119) C (dA DX8_init_3 79 rfl) (by decide) ?_
  refine N_cast C (q0 := 10) (j := 3) (y := 119) rfl (by decide) (by decide) (by decide) (dA DX8_init_3 80 rfl) ?_
  rw [show upd (pf (gl 96) 3) 3 (nI 119) = pf (gl 96) 4 from pf_s (gl 96) 3]
  show NJ D X _ _ _ _ _ [(a, .inr (8, [.ref b1, .ref b2, .ref b3, .int 0, .ref b4, .int 0, .int 0, .int 0, .int 0, .ref b5, .ref b6, .int 0, .int 0, .int 0, .int 0, .long 0, .ref b7, .ref b8, .ref b9, .null, .null, .null, .null, .null])), (b1, .inl (τ 0, 134, .inl zz0)), (b2, .inl (τ 0, 134, .inl zz0)), (b3, .inl (τ 0, 134, .inl zz0)), (b4, .inl (τ 0, 7, .inl zz0)), (b5, .inl (τ 0, 16, .inl zz0)), (b6, .inl (τ 0, 120, .inl zz0)), (b7, .inl (τ 1, 56, .inl (pf (gl 0) 56))), (b8, .inl (τ 1, 16, .inl (pf (gl 56) 16))), (b9, .inl (τ 1, 24, .inl (pf (gl 72) 24))), (b10, .inl (τ 1, 48, .inl (pf (gl 96) 4)))]
  refine N_dup C (dA DX8_init_3 81 rfl) rfl ?_
  refine N_iconst (v := nI 4) C (dA DX8_init_3 82 rfl) (by decide) ?_
  refine N_bipush (v := nI 115) C (dA DX8_init_3 83 rfl) (by decide) ?_
  refine N_cast C (q0 := 10) (j := 4) (y := 115) rfl (by decide) (by decide) (by decide) (dA DX8_init_3 84 rfl) ?_
  rw [show upd (pf (gl 96) 4) 4 (nI 115) = pf (gl 96) 5 from pf_s (gl 96) 4]
  show NJ D X _ _ _ _ _ [(a, .inr (8, [.ref b1, .ref b2, .ref b3, .int 0, .ref b4, .int 0, .int 0, .int 0, .int 0, .ref b5, .ref b6, .int 0, .int 0, .int 0, .int 0, .long 0, .ref b7, .ref b8, .ref b9, .null, .null, .null, .null, .null])), (b1, .inl (τ 0, 134, .inl zz0)), (b2, .inl (τ 0, 134, .inl zz0)), (b3, .inl (τ 0, 134, .inl zz0)), (b4, .inl (τ 0, 7, .inl zz0)), (b5, .inl (τ 0, 16, .inl zz0)), (b6, .inl (τ 0, 120, .inl zz0)), (b7, .inl (τ 1, 56, .inl (pf (gl 0) 56))), (b8, .inl (τ 1, 16, .inl (pf (gl 56) 16))), (b9, .inl (τ 1, 24, .inl (pf (gl 72) 24))), (b10, .inl (τ 1, 48, .inl (pf (gl 96) 5)))]
  refine N_dup C (dA DX8_init_3 85 rfl) rfl ?_
  refine N_iconst (v := nI 5) C (dA DX8_init_3 86 rfl) (by decide) ?_
  refine N_bipush (v := nI 32) C (dA DX8_init_3 87 rfl) (by decide) ?_
  refine N_cast C (q0 := 10) (j := 5) (y := 32) rfl (by decide) (by decide) (by decide) (dA DX8_init_3 88 rfl) ?_
  rw [show upd (pf (gl 96) 5) 5 (nI 32) = pf (gl 96) 6 from pf_s (gl 96) 5]
  show NJ D X _ _ _ _ _ [(a, .inr (8, [.ref b1, .ref b2, .ref b3, .int 0, .ref b4, .int 0, .int 0, .int 0, .int 0, .ref b5, .ref b6, .int 0, .int 0, .int 0, .int 0, .long 0, .ref b7, .ref b8, .ref b9, .null, .null, .null, .null, .null])), (b1, .inl (τ 0, 134, .inl zz0)), (b2, .inl (τ 0, 134, .inl zz0)), (b3, .inl (τ 0, 134, .inl zz0)), (b4, .inl (τ 0, 7, .inl zz0)), (b5, .inl (τ 0, 16, .inl zz0)), (b6, .inl (τ 0, 120, .inl zz0)), (b7, .inl (τ 1, 56, .inl (pf (gl 0) 56))), (b8, .inl (τ 1, 16, .inl (pf (gl 56) 16))), (b9, .inl (τ 1, 24, .inl (pf (gl 72) 24))), (b10, .inl (τ 1, 48, .inl (pf (gl 96) 6)))]
  refine N_dup C (dA DX8_init_3 89 rfl) rfl ?_
  refine N_bipush (v := nI 6) C (dA DX8_init_3 90 rfl) (by decide) ?_
  refine N_bipush (v := nI 32) C (dA DX8_init_3 91 rfl) (by decide) ?_
  refine N_cast C (q0 := 10) (j := 6) (y := 32) rfl (by decide) (by decide) (by decide) (dA DX8_init_3 92 rfl) ?_
  rw [show upd (pf (gl 96) 6) 6 (nI 32) = pf (gl 96) 7 from pf_s (gl 96) 6]
  show NJ D X _ _ _ _ _ [(a, .inr (8, [.ref b1, .ref b2, .ref b3, .int 0, .ref b4, .int 0, .int 0, .int 0, .int 0, .ref b5, .ref b6, .int 0, .int 0, .int 0, .int 0, .long 0, .ref b7, .ref b8, .ref b9, .null, .null, .null, .null, .null])), (b1, .inl (τ 0, 134, .inl zz0)), (b2, .inl (τ 0, 134, .inl zz0)), (b3, .inl (τ 0, 134, .inl zz0)), (b4, .inl (τ 0, 7, .inl zz0)), (b5, .inl (τ 0, 16, .inl zz0)), (b6, .inl (τ 0, 120, .inl zz0)), (b7, .inl (τ 1, 56, .inl (pf (gl 0) 56))), (b8, .inl (τ 1, 16, .inl (pf (gl 56) 16))), (b9, .inl (τ 1, 24, .inl (pf (gl 72) 24))), (b10, .inl (τ 1, 48, .inl (pf (gl 96) 7)))]
  refine N_dup C (dA DX8_init_3 93 rfl) rfl ?_
  refine N_bipush (v := nI 7) C (dA DX8_init_3 94 rfl) (by decide) ?_
  refine N_bipush (v := nI 32) C (dA DX8_init_3 95 rfl) (by decide) ?_
  refine N_cast C (q0 := 10) (j := 7) (y := 32) rfl (by decide) (by decide) (by decide) (dA DX8_init_3 96 rfl) ?_
  rw [show upd (pf (gl 96) 7) 7 (nI 32) = pf (gl 96) 8 from pf_s (gl 96) 7]
  show NJ D X _ _ _ _ _ [(a, .inr (8, [.ref b1, .ref b2, .ref b3, .int 0, .ref b4, .int 0, .int 0, .int 0, .int 0, .ref b5, .ref b6, .int 0, .int 0, .int 0, .int 0, .long 0, .ref b7, .ref b8, .ref b9, .null, .null, .null, .null, .null])), (b1, .inl (τ 0, 134, .inl zz0)), (b2, .inl (τ 0, 134, .inl zz0)), (b3, .inl (τ 0, 134, .inl zz0)), (b4, .inl (τ 0, 7, .inl zz0)), (b5, .inl (τ 0, 16, .inl zz0)), (b6, .inl (τ 0, 120, .inl zz0)), (b7, .inl (τ 1, 56, .inl (pf (gl 0) 56))), (b8, .inl (τ 1, 16, .inl (pf (gl 56) 16))), (b9, .inl (τ 1, 24, .inl (pf (gl 72) 24))), (b10, .inl (τ 1, 48, .inl (pf (gl 96) 8)))]
  refine N_dup C (dA DX8_init_3 97 rfl) rfl ?_
  refine N_bipush (v := nI 8) C (dA DX8_init_3 98 rfl) (by decide) ?_
  refine N_bipush (v := nI 115) C (dA DX8_init_3 99 rfl) (by decide) ?_
  refine N_cast C (q0 := 10) (j := 8) (y := 115) rfl (by decide) (by decide) (by decide) (dA DX8_init_3 100 rfl) ?_
  rw [show upd (pf (gl 96) 8) 8 (nI 115) = pf (gl 96) 9 from pf_s (gl 96) 8]
  show NJ D X _ _ _ _ _ [(a, .inr (8, [.ref b1, .ref b2, .ref b3, .int 0, .ref b4, .int 0, .int 0, .int 0, .int 0, .ref b5, .ref b6, .int 0, .int 0, .int 0, .int 0, .long 0, .ref b7, .ref b8, .ref b9, .null, .null, .null, .null, .null])), (b1, .inl (τ 0, 134, .inl zz0)), (b2, .inl (τ 0, 134, .inl zz0)), (b3, .inl (τ 0, 134, .inl zz0)), (b4, .inl (τ 0, 7, .inl zz0)), (b5, .inl (τ 0, 16, .inl zz0)), (b6, .inl (τ 0, 120, .inl zz0)), (b7, .inl (τ 1, 56, .inl (pf (gl 0) 56))), (b8, .inl (τ 1, 16, .inl (pf (gl 56) 16))), (b9, .inl (τ 1, 24, .inl (pf (gl 72) 24))), (b10, .inl (τ 1, 48, .inl (pf (gl 96) 9)))]
  refine N_dup C (dA DX8_init_3 101 rfl) rfl ?_
  refine N_bipush (v := nI 9) C (dA DX8_init_3 102 rfl) (by decide) ?_
  refine N_bipush (v := nI 105) C (dA DX8_init_3 103 rfl) (by decide) ?_
  refine N_cast C (q0 := 10) (j := 9) (y := 105) rfl (by decide) (by decide) (by decide) (dA DX8_init_3 104 rfl) ?_
  rw [show upd (pf (gl 96) 9) 9 (nI 105) = pf (gl 96) 10 from pf_s (gl 96) 9]
  show NJ D X _ _ _ _ _ [(a, .inr (8, [.ref b1, .ref b2, .ref b3, .int 0, .ref b4, .int 0, .int 0, .int 0, .int 0, .ref b5, .ref b6, .int 0, .int 0, .int 0, .int 0, .long 0, .ref b7, .ref b8, .ref b9, .null, .null, .null, .null, .null])), (b1, .inl (τ 0, 134, .inl zz0)), (b2, .inl (τ 0, 134, .inl zz0)), (b3, .inl (τ 0, 134, .inl zz0)), (b4, .inl (τ 0, 7, .inl zz0)), (b5, .inl (τ 0, 16, .inl zz0)), (b6, .inl (τ 0, 120, .inl zz0)), (b7, .inl (τ 1, 56, .inl (pf (gl 0) 56))), (b8, .inl (τ 1, 16, .inl (pf (gl 56) 16))), (b9, .inl (τ 1, 24, .inl (pf (gl 72) 24))), (b10, .inl (τ 1, 48, .inl (pf (gl 96) 10)))]
  refine N_dup C (dA DX8_init_3 105 rfl) rfl ?_
  refine N_bipush (v := nI 10) C (dA DX8_init_3 106 rfl) (by decide) ?_
  refine N_bipush (v := nI 122) C (dA DX8_init_3 107 rfl) (by decide) ?_
  refine N_cast C (q0 := 10) (j := 10) (y := 122) rfl (by decide) (by decide) (by decide) (dA DX8_init_3 108 rfl) ?_
  rw [show upd (pf (gl 96) 10) 10 (nI 122) = pf (gl 96) 11 from pf_s (gl 96) 10]
  show NJ D X _ _ _ _ _ [(a, .inr (8, [.ref b1, .ref b2, .ref b3, .int 0, .ref b4, .int 0, .int 0, .int 0, .int 0, .ref b5, .ref b6, .int 0, .int 0, .int 0, .int 0, .long 0, .ref b7, .ref b8, .ref b9, .null, .null, .null, .null, .null])), (b1, .inl (τ 0, 134, .inl zz0)), (b2, .inl (τ 0, 134, .inl zz0)), (b3, .inl (τ 0, 134, .inl zz0)), (b4, .inl (τ 0, 7, .inl zz0)), (b5, .inl (τ 0, 16, .inl zz0)), (b6, .inl (τ 0, 120, .inl zz0)), (b7, .inl (τ 1, 56, .inl (pf (gl 0) 56))), (b8, .inl (τ 1, 16, .inl (pf (gl 56) 16))), (b9, .inl (τ 1, 24, .inl (pf (gl 72) 24))), (b10, .inl (τ 1, 48, .inl (pf (gl 96) 11)))]
  refine N_dup C (dA DX8_init_3 109 rfl) rfl ?_
  refine N_bipush (v := nI 11) C (dA DX8_init_3 110 rfl) (by decide) ?_
  refine N_bipush (v := nI 101) C (dA DX8_init_3 111 rfl) (by decide) ?_
  refine N_cast C (q0 := 10) (j := 11) (y := 101) rfl (by decide) (by decide) (by decide) (dA DX8_init_3 112 rfl) ?_
  rw [show upd (pf (gl 96) 11) 11 (nI 101) = pf (gl 96) 12 from pf_s (gl 96) 11]
  show NJ D X _ _ _ _ _ [(a, .inr (8, [.ref b1, .ref b2, .ref b3, .int 0, .ref b4, .int 0, .int 0, .int 0, .int 0, .ref b5, .ref b6, .int 0, .int 0, .int 0, .int 0, .long 0, .ref b7, .ref b8, .ref b9, .null, .null, .null, .null, .null])), (b1, .inl (τ 0, 134, .inl zz0)), (b2, .inl (τ 0, 134, .inl zz0)), (b3, .inl (τ 0, 134, .inl zz0)), (b4, .inl (τ 0, 7, .inl zz0)), (b5, .inl (τ 0, 16, .inl zz0)), (b6, .inl (τ 0, 120, .inl zz0)), (b7, .inl (τ 1, 56, .inl (pf (gl 0) 56))), (b8, .inl (τ 1, 16, .inl (pf (gl 56) 16))), (b9, .inl (τ 1, 24, .inl (pf (gl 72) 24))), (b10, .inl (τ 1, 48, .inl (pf (gl 96) 12)))]
  refine N_dup C (dA DX8_init_3 113 rfl) rfl ?_
  refine N_bipush (v := nI 12) C (dA DX8_init_3 114 rfl) (by decide) ?_
  refine N_bipush (v := nI 32) C (dA DX8_init_3 115 rfl) (by decide) ?_
  refine N_cast C (q0 := 10) (j := 12) (y := 32) rfl (by decide) (by decide) (by decide) (dA DX8_init_3 116 rfl) ?_
  rw [show upd (pf (gl 96) 12) 12 (nI 32) = pf (gl 96) 13 from pf_s (gl 96) 12]
  show NJ D X _ _ _ _ _ [(a, .inr (8, [.ref b1, .ref b2, .ref b3, .int 0, .ref b4, .int 0, .int 0, .int 0, .int 0, .ref b5, .ref b6, .int 0, .int 0, .int 0, .int 0, .long 0, .ref b7, .ref b8, .ref b9, .null, .null, .null, .null, .null])), (b1, .inl (τ 0, 134, .inl zz0)), (b2, .inl (τ 0, 134, .inl zz0)), (b3, .inl (τ 0, 134, .inl zz0)), (b4, .inl (τ 0, 7, .inl zz0)), (b5, .inl (τ 0, 16, .inl zz0)), (b6, .inl (τ 0, 120, .inl zz0)), (b7, .inl (τ 1, 56, .inl (pf (gl 0) 56))), (b8, .inl (τ 1, 16, .inl (pf (gl 56) 16))), (b9, .inl (τ 1, 24, .inl (pf (gl 72) 24))), (b10, .inl (τ 1, 48, .inl (pf (gl 96) 13)))]
  refine N_dup C (dA DX8_init_3 117 rfl) rfl ?_
  refine N_bipush (v := nI 13) C (dA DX8_init_3 118 rfl) (by decide) ?_
  refine N_bipush (v := nI 32) C (dA DX8_init_3 119 rfl) (by decide) ?_
  refine N_cast C (q0 := 10) (j := 13) (y := 32) rfl (by decide) (by decide) (by decide) (dA DX8_init_4 0 rfl) ?_
  rw [show upd (pf (gl 96) 13) 13 (nI 32) = pf (gl 96) 14 from pf_s (gl 96) 13]
  show NJ D X _ _ _ _ _ [(a, .inr (8, [.ref b1, .ref b2, .ref b3, .int 0, .ref b4, .int 0, .int 0, .int 0, .int 0, .ref b5, .ref b6, .int 0, .int 0, .int 0, .int 0, .long 0, .ref b7, .ref b8, .ref b9, .null, .null, .null, .null, .null])), (b1, .inl (τ 0, 134, .inl zz0)), (b2, .inl (τ 0, 134, .inl zz0)), (b3, .inl (τ 0, 134, .inl zz0)), (b4, .inl (τ 0, 7, .inl zz0)), (b5, .inl (τ 0, 16, .inl zz0)), (b6, .inl (τ 0, 120, .inl zz0)), (b7, .inl (τ 1, 56, .inl (pf (gl 0) 56))), (b8, .inl (τ 1, 16, .inl (pf (gl 56) 16))), (b9, .inl (τ 1, 24, .inl (pf (gl 72) 24))), (b10, .inl (τ 1, 48, .inl (pf (gl 96) 14)))]
  refine N_dup C (dA DX8_init_4 1 rfl) rfl ?_
  refine N_bipush (v := nI 14) C (dA DX8_init_4 2 rfl) (by decide) ?_
  refine N_bipush (v := nI 32) C (dA DX8_init_4 3 rfl) (by decide) ?_
  refine N_cast C (q0 := 10) (j := 14) (y := 32) rfl (by decide) (by decide) (by decide) (dA DX8_init_4 4 rfl) ?_
  rw [show upd (pf (gl 96) 14) 14 (nI 32) = pf (gl 96) 15 from pf_s (gl 96) 14]
  show NJ D X _ _ _ _ _ [(a, .inr (8, [.ref b1, .ref b2, .ref b3, .int 0, .ref b4, .int 0, .int 0, .int 0, .int 0, .ref b5, .ref b6, .int 0, .int 0, .int 0, .int 0, .long 0, .ref b7, .ref b8, .ref b9, .null, .null, .null, .null, .null])), (b1, .inl (τ 0, 134, .inl zz0)), (b2, .inl (τ 0, 134, .inl zz0)), (b3, .inl (τ 0, 134, .inl zz0)), (b4, .inl (τ 0, 7, .inl zz0)), (b5, .inl (τ 0, 16, .inl zz0)), (b6, .inl (τ 0, 120, .inl zz0)), (b7, .inl (τ 1, 56, .inl (pf (gl 0) 56))), (b8, .inl (τ 1, 16, .inl (pf (gl 56) 16))), (b9, .inl (τ 1, 24, .inl (pf (gl 72) 24))), (b10, .inl (τ 1, 48, .inl (pf (gl 96) 15)))]
  refine N_dup C (dA DX8_init_4 5 rfl) rfl ?_
  refine N_bipush (v := nI 15) C (dA DX8_init_4 6 rfl) (by decide) ?_
  refine N_bipush (v := nI 32) C (dA DX8_init_4 7 rfl) (by decide) ?_
  refine N_cast C (q0 := 10) (j := 15) (y := 32) rfl (by decide) (by decide) (by decide) (dA DX8_init_4 8 rfl) ?_
  rw [show upd (pf (gl 96) 15) 15 (nI 32) = pf (gl 96) 16 from pf_s (gl 96) 15]
  show NJ D X _ _ _ _ _ [(a, .inr (8, [.ref b1, .ref b2, .ref b3, .int 0, .ref b4, .int 0, .int 0, .int 0, .int 0, .ref b5, .ref b6, .int 0, .int 0, .int 0, .int 0, .long 0, .ref b7, .ref b8, .ref b9, .null, .null, .null, .null, .null])), (b1, .inl (τ 0, 134, .inl zz0)), (b2, .inl (τ 0, 134, .inl zz0)), (b3, .inl (τ 0, 134, .inl zz0)), (b4, .inl (τ 0, 7, .inl zz0)), (b5, .inl (τ 0, 16, .inl zz0)), (b6, .inl (τ 0, 120, .inl zz0)), (b7, .inl (τ 1, 56, .inl (pf (gl 0) 56))), (b8, .inl (τ 1, 16, .inl (pf (gl 56) 16))), (b9, .inl (τ 1, 24, .inl (pf (gl 72) 24))), (b10, .inl (τ 1, 48, .inl (pf (gl 96) 16)))]
  refine N_dup C (dA DX8_init_4 9 rfl) rfl ?_
  refine N_bipush (v := nI 16) C (dA DX8_init_4 10 rfl) (by decide) ?_
  refine N_bipush (v := nI 116) C (dA DX8_init_4 11 rfl) (by decide) ?_
  refine N_cast C (q0 := 10) (j := 16) (y := 116) rfl (by decide) (by decide) (by decide) (dA DX8_init_4 12 rfl) ?_
  rw [show upd (pf (gl 96) 16) 16 (nI 116) = pf (gl 96) 17 from pf_s (gl 96) 16]
  show NJ D X _ _ _ _ _ [(a, .inr (8, [.ref b1, .ref b2, .ref b3, .int 0, .ref b4, .int 0, .int 0, .int 0, .int 0, .ref b5, .ref b6, .int 0, .int 0, .int 0, .int 0, .long 0, .ref b7, .ref b8, .ref b9, .null, .null, .null, .null, .null])), (b1, .inl (τ 0, 134, .inl zz0)), (b2, .inl (τ 0, 134, .inl zz0)), (b3, .inl (τ 0, 134, .inl zz0)), (b4, .inl (τ 0, 7, .inl zz0)), (b5, .inl (τ 0, 16, .inl zz0)), (b6, .inl (τ 0, 120, .inl zz0)), (b7, .inl (τ 1, 56, .inl (pf (gl 0) 56))), (b8, .inl (τ 1, 16, .inl (pf (gl 56) 16))), (b9, .inl (τ 1, 24, .inl (pf (gl 72) 24))), (b10, .inl (τ 1, 48, .inl (pf (gl 96) 17)))]
  refine N_dup C (dA DX8_init_4 13 rfl) rfl ?_
  refine N_bipush (v := nI 17) C (dA DX8_init_4 14 rfl) (by decide) ?_
  refine N_bipush (v := nI 117) C (dA DX8_init_4 15 rfl) (by decide) ?_
  refine N_cast C (q0 := 10) (j := 17) (y := 117) rfl (by decide) (by decide) (by decide) (dA DX8_init_4 16 rfl) ?_
  rw [show upd (pf (gl 96) 17) 17 (nI 117) = pf (gl 96) 18 from pf_s (gl 96) 17]
  show NJ D X _ _ _ _ _ [(a, .inr (8, [.ref b1, .ref b2, .ref b3, .int 0, .ref b4, .int 0, .int 0, .int 0, .int 0, .ref b5, .ref b6, .int 0, .int 0, .int 0, .int 0, .long 0, .ref b7, .ref b8, .ref b9, .null, .null, .null, .null, .null])), (b1, .inl (τ 0, 134, .inl zz0)), (b2, .inl (τ 0, 134, .inl zz0)), (b3, .inl (τ 0, 134, .inl zz0)), (b4, .inl (τ 0, 7, .inl zz0)), (b5, .inl (τ 0, 16, .inl zz0)), (b6, .inl (τ 0, 120, .inl zz0)), (b7, .inl (τ 1, 56, .inl (pf (gl 0) 56))), (b8, .inl (τ 1, 16, .inl (pf (gl 56) 16))), (b9, .inl (τ 1, 24, .inl (pf (gl 72) 24))), (b10, .inl (τ 1, 48, .inl (pf (gl 96) 18)))]
  refine N_dup C (dA DX8_init_4 17 rfl) rfl ?_
  refine N_bipush (v := nI 18) C (dA DX8_init_4 18 rfl) (by decide) ?_
  refine N_bipush (v := nI 114) C (dA DX8_init_4 19 rfl) (by decide) ?_
  refine N_cast C (q0 := 10) (j := 18) (y := 114) rfl (by decide) (by decide) (by decide) (dA DX8_init_4 20 rfl) ?_
  rw [show upd (pf (gl 96) 18) 18 (nI 114) = pf (gl 96) 19 from pf_s (gl 96) 18]
  show NJ D X _ _ _ _ _ [(a, .inr (8, [.ref b1, .ref b2, .ref b3, .int 0, .ref b4, .int 0, .int 0, .int 0, .int 0, .ref b5, .ref b6, .int 0, .int 0, .int 0, .int 0, .long 0, .ref b7, .ref b8, .ref b9, .null, .null, .null, .null, .null])), (b1, .inl (τ 0, 134, .inl zz0)), (b2, .inl (τ 0, 134, .inl zz0)), (b3, .inl (τ 0, 134, .inl zz0)), (b4, .inl (τ 0, 7, .inl zz0)), (b5, .inl (τ 0, 16, .inl zz0)), (b6, .inl (τ 0, 120, .inl zz0)), (b7, .inl (τ 1, 56, .inl (pf (gl 0) 56))), (b8, .inl (τ 1, 16, .inl (pf (gl 56) 16))), (b9, .inl (τ 1, 24, .inl (pf (gl 72) 24))), (b10, .inl (τ 1, 48, .inl (pf (gl 96) 19)))]
  refine N_dup C (dA DX8_init_4 21 rfl) rfl ?_
  refine N_bipush (v := nI 19) C (dA DX8_init_4 22 rfl) (by decide) ?_
  refine N_bipush (v := nI 110) C (dA DX8_init_4 23 rfl) (by decide) ?_
  refine N_cast C (q0 := 10) (j := 19) (y := 110) rfl (by decide) (by decide) (by decide) (dA DX8_init_4 24 rfl) ?_
  rw [show upd (pf (gl 96) 19) 19 (nI 110) = pf (gl 96) 20 from pf_s (gl 96) 19]
  show NJ D X _ _ _ _ _ [(a, .inr (8, [.ref b1, .ref b2, .ref b3, .int 0, .ref b4, .int 0, .int 0, .int 0, .int 0, .ref b5, .ref b6, .int 0, .int 0, .int 0, .int 0, .long 0, .ref b7, .ref b8, .ref b9, .null, .null, .null, .null, .null])), (b1, .inl (τ 0, 134, .inl zz0)), (b2, .inl (τ 0, 134, .inl zz0)), (b3, .inl (τ 0, 134, .inl zz0)), (b4, .inl (τ 0, 7, .inl zz0)), (b5, .inl (τ 0, 16, .inl zz0)), (b6, .inl (τ 0, 120, .inl zz0)), (b7, .inl (τ 1, 56, .inl (pf (gl 0) 56))), (b8, .inl (τ 1, 16, .inl (pf (gl 56) 16))), (b9, .inl (τ 1, 24, .inl (pf (gl 72) 24))), (b10, .inl (τ 1, 48, .inl (pf (gl 96) 20)))]
  refine N_dup C (dA DX8_init_4 25 rfl) rfl ?_
  refine N_bipush (v := nI 20) C (dA DX8_init_4 26 rfl) (by decide) ?_
  refine N_bipush (v := nI 101) C (dA DX8_init_4 27 rfl) (by decide) ?_
  refine N_cast C (q0 := 10) (j := 20) (y := 101) rfl (by decide) (by decide) (by decide) (dA DX8_init_4 28 rfl) ?_
  rw [show upd (pf (gl 96) 20) 20 (nI 101) = pf (gl 96) 21 from pf_s (gl 96) 20]
  show NJ D X _ _ _ _ _ [(a, .inr (8, [.ref b1, .ref b2, .ref b3, .int 0, .ref b4, .int 0, .int 0, .int 0, .int 0, .ref b5, .ref b6, .int 0, .int 0, .int 0, .int 0, .long 0, .ref b7, .ref b8, .ref b9, .null, .null, .null, .null, .null])), (b1, .inl (τ 0, 134, .inl zz0)), (b2, .inl (τ 0, 134, .inl zz0)), (b3, .inl (τ 0, 134, .inl zz0)), (b4, .inl (τ 0, 7, .inl zz0)), (b5, .inl (τ 0, 16, .inl zz0)), (b6, .inl (τ 0, 120, .inl zz0)), (b7, .inl (τ 1, 56, .inl (pf (gl 0) 56))), (b8, .inl (τ 1, 16, .inl (pf (gl 56) 16))), (b9, .inl (τ 1, 24, .inl (pf (gl 72) 24))), (b10, .inl (τ 1, 48, .inl (pf (gl 96) 21)))]
  refine N_dup C (dA DX8_init_4 29 rfl) rfl ?_
  refine N_bipush (v := nI 21) C (dA DX8_init_4 30 rfl) (by decide) ?_
  refine N_bipush (v := nI 100) C (dA DX8_init_4 31 rfl) (by decide) ?_
  refine N_cast C (q0 := 10) (j := 21) (y := 100) rfl (by decide) (by decide) (by decide) (dA DX8_init_4 32 rfl) ?_
  rw [show upd (pf (gl 96) 21) 21 (nI 100) = pf (gl 96) 22 from pf_s (gl 96) 21]
  show NJ D X _ _ _ _ _ [(a, .inr (8, [.ref b1, .ref b2, .ref b3, .int 0, .ref b4, .int 0, .int 0, .int 0, .int 0, .ref b5, .ref b6, .int 0, .int 0, .int 0, .int 0, .long 0, .ref b7, .ref b8, .ref b9, .null, .null, .null, .null, .null])), (b1, .inl (τ 0, 134, .inl zz0)), (b2, .inl (τ 0, 134, .inl zz0)), (b3, .inl (τ 0, 134, .inl zz0)), (b4, .inl (τ 0, 7, .inl zz0)), (b5, .inl (τ 0, 16, .inl zz0)), (b6, .inl (τ 0, 120, .inl zz0)), (b7, .inl (τ 1, 56, .inl (pf (gl 0) 56))), (b8, .inl (τ 1, 16, .inl (pf (gl 56) 16))), (b9, .inl (τ 1, 24, .inl (pf (gl 72) 24))), (b10, .inl (τ 1, 48, .inl (pf (gl 96) 22)))]
  refine N_dup C (dA DX8_init_4 33 rfl) rfl ?_
  refine N_bipush (v := nI 22) C (dA DX8_init_4 34 rfl) (by decide) ?_
  refine N_bipush (v := nI 32) C (dA DX8_init_4 35 rfl) (by decide) ?_
  refine N_cast C (q0 := 10) (j := 22) (y := 32) rfl (by decide) (by decide) (by decide) (dA DX8_init_4 36 rfl) ?_
  rw [show upd (pf (gl 96) 22) 22 (nI 32) = pf (gl 96) 23 from pf_s (gl 96) 22]
  show NJ D X _ _ _ _ _ [(a, .inr (8, [.ref b1, .ref b2, .ref b3, .int 0, .ref b4, .int 0, .int 0, .int 0, .int 0, .ref b5, .ref b6, .int 0, .int 0, .int 0, .int 0, .long 0, .ref b7, .ref b8, .ref b9, .null, .null, .null, .null, .null])), (b1, .inl (τ 0, 134, .inl zz0)), (b2, .inl (τ 0, 134, .inl zz0)), (b3, .inl (τ 0, 134, .inl zz0)), (b4, .inl (τ 0, 7, .inl zz0)), (b5, .inl (τ 0, 16, .inl zz0)), (b6, .inl (τ 0, 120, .inl zz0)), (b7, .inl (τ 1, 56, .inl (pf (gl 0) 56))), (b8, .inl (τ 1, 16, .inl (pf (gl 56) 16))), (b9, .inl (τ 1, 24, .inl (pf (gl 72) 24))), (b10, .inl (τ 1, 48, .inl (pf (gl 96) 23)))]
  refine N_dup C (dA DX8_init_4 37 rfl) rfl ?_
  refine N_bipush (v := nI 23) C (dA DX8_init_4 38 rfl) (by decide) ?_
  refine N_bipush (v := nI 32) C (dA DX8_init_4 39 rfl) (by decide) ?_
  refine N_cast C (q0 := 10) (j := 23) (y := 32) rfl (by decide) (by decide) (by decide) (dA DX8_init_4 40 rfl) ?_
  rw [show upd (pf (gl 96) 23) 23 (nI 32) = pf (gl 96) 24 from pf_s (gl 96) 23]
  show NJ D X _ _ _ _ _ [(a, .inr (8, [.ref b1, .ref b2, .ref b3, .int 0, .ref b4, .int 0, .int 0, .int 0, .int 0, .ref b5, .ref b6, .int 0, .int 0, .int 0, .int 0, .long 0, .ref b7, .ref b8, .ref b9, .null, .null, .null, .null, .null])), (b1, .inl (τ 0, 134, .inl zz0)), (b2, .inl (τ 0, 134, .inl zz0)), (b3, .inl (τ 0, 134, .inl zz0)), (b4, .inl (τ 0, 7, .inl zz0)), (b5, .inl (τ 0, 16, .inl zz0)), (b6, .inl (τ 0, 120, .inl zz0)), (b7, .inl (τ 1, 56, .inl (pf (gl 0) 56))), (b8, .inl (τ 1, 16, .inl (pf (gl 56) 16))), (b9, .inl (τ 1, 24, .inl (pf (gl 72) 24))), (b10, .inl (τ 1, 48, .inl (pf (gl 96) 24)))]
  refine N_dup C (dA DX8_init_4 41 rfl) rfl ?_
  refine N_bipush (v := nI 24) C (dA DX8_init_4 42 rfl) (by decide) ?_
  refine N_bipush (v := nI 102) C (dA DX8_init_4 43 rfl) (by decide) ?_
  refine N_cast C (q0 := 10) (j := 24) (y := 102) rfl (by decide) (by decide) (by decide) (dA DX8_init_4 44 rfl) ?_
  rw [show upd (pf (gl 96) 24) 24 (nI 102) = pf (gl 96) 25 from pf_s (gl 96) 24]
  show NJ D X _ _ _ _ _ [(a, .inr (8, [.ref b1, .ref b2, .ref b3, .int 0, .ref b4, .int 0, .int 0, .int 0, .int 0, .ref b5, .ref b6, .int 0, .int 0, .int 0, .int 0, .long 0, .ref b7, .ref b8, .ref b9, .null, .null, .null, .null, .null])), (b1, .inl (τ 0, 134, .inl zz0)), (b2, .inl (τ 0, 134, .inl zz0)), (b3, .inl (τ 0, 134, .inl zz0)), (b4, .inl (τ 0, 7, .inl zz0)), (b5, .inl (τ 0, 16, .inl zz0)), (b6, .inl (τ 0, 120, .inl zz0)), (b7, .inl (τ 1, 56, .inl (pf (gl 0) 56))), (b8, .inl (τ 1, 16, .inl (pf (gl 56) 16))), (b9, .inl (τ 1, 24, .inl (pf (gl 72) 24))), (b10, .inl (τ 1, 48, .inl (pf (gl 96) 25)))]
  refine N_dup C (dA DX8_init_4 45 rfl) rfl ?_
  refine N_bipush (v := nI 25) C (dA DX8_init_4 46 rfl) (by decide) ?_
  refine N_bipush (v := nI 108) C (dA DX8_init_4 47 rfl) (by decide) ?_
  refine N_cast C (q0 := 10) (j := 25) (y := 108) rfl (by decide) (by decide) (by decide) (dA DX8_init_4 48 rfl) ?_
  rw [show upd (pf (gl 96) 25) 25 (nI 108) = pf (gl 96) 26 from pf_s (gl 96) 25]
  show NJ D X _ _ _ _ _ [(a, .inr (8, [.ref b1, .ref b2, .ref b3, .int 0, .ref b4, .int 0, .int 0, .int 0, .int 0, .ref b5, .ref b6, .int 0, .int 0, .int 0, .int 0, .long 0, .ref b7, .ref b8, .ref b9, .null, .null, .null, .null, .null])), (b1, .inl (τ 0, 134, .inl zz0)), (b2, .inl (τ 0, 134, .inl zz0)), (b3, .inl (τ 0, 134, .inl zz0)), (b4, .inl (τ 0, 7, .inl zz0)), (b5, .inl (τ 0, 16, .inl zz0)), (b6, .inl (τ 0, 120, .inl zz0)), (b7, .inl (τ 1, 56, .inl (pf (gl 0) 56))), (b8, .inl (τ 1, 16, .inl (pf (gl 56) 16))), (b9, .inl (τ 1, 24, .inl (pf (gl 72) 24))), (b10, .inl (τ 1, 48, .inl (pf (gl 96) 26)))]
  refine N_dup C (dA DX8_init_4 49 rfl) rfl ?_
  refine N_bipush (v := nI 26) C (dA DX8_init_4 50 rfl) (by decide) ?_
  refine N_bipush (v := nI 105) C (dA DX8_init_4 51 rfl) (by decide) ?_
  refine N_cast C (q0 := 10) (j := 26) (y := 105) rfl (by decide) (by decide) (by decide) (dA DX8_init_4 52 rfl) ?_
  rw [show upd (pf (gl 96) 26) 26 (nI 105) = pf (gl 96) 27 from pf_s (gl 96) 26]
  show NJ D X _ _ _ _ _ [(a, .inr (8, [.ref b1, .ref b2, .ref b3, .int 0, .ref b4, .int 0, .int 0, .int 0, .int 0, .ref b5, .ref b6, .int 0, .int 0, .int 0, .int 0, .long 0, .ref b7, .ref b8, .ref b9, .null, .null, .null, .null, .null])), (b1, .inl (τ 0, 134, .inl zz0)), (b2, .inl (τ 0, 134, .inl zz0)), (b3, .inl (τ 0, 134, .inl zz0)), (b4, .inl (τ 0, 7, .inl zz0)), (b5, .inl (τ 0, 16, .inl zz0)), (b6, .inl (τ 0, 120, .inl zz0)), (b7, .inl (τ 1, 56, .inl (pf (gl 0) 56))), (b8, .inl (τ 1, 16, .inl (pf (gl 56) 16))), (b9, .inl (τ 1, 24, .inl (pf (gl 72) 24))), (b10, .inl (τ 1, 48, .inl (pf (gl 96) 27)))]
  refine N_dup C (dA DX8_init_4 53 rfl) rfl ?_
  refine N_bipush (v := nI 27) C (dA DX8_init_4 54 rfl) (by decide) ?_
  refine N_bipush (v := nI 112) C (dA DX8_init_4 55 rfl) (by decide) ?_
  refine N_cast C (q0 := 10) (j := 27) (y := 112) rfl (by decide) (by decide) (by decide) (dA DX8_init_4 56 rfl) ?_
  rw [show upd (pf (gl 96) 27) 27 (nI 112) = pf (gl 96) 28 from pf_s (gl 96) 27]
  show NJ D X _ _ _ _ _ [(a, .inr (8, [.ref b1, .ref b2, .ref b3, .int 0, .ref b4, .int 0, .int 0, .int 0, .int 0, .ref b5, .ref b6, .int 0, .int 0, .int 0, .int 0, .long 0, .ref b7, .ref b8, .ref b9, .null, .null, .null, .null, .null])), (b1, .inl (τ 0, 134, .inl zz0)), (b2, .inl (τ 0, 134, .inl zz0)), (b3, .inl (τ 0, 134, .inl zz0)), (b4, .inl (τ 0, 7, .inl zz0)), (b5, .inl (τ 0, 16, .inl zz0)), (b6, .inl (τ 0, 120, .inl zz0)), (b7, .inl (τ 1, 56, .inl (pf (gl 0) 56))), (b8, .inl (τ 1, 16, .inl (pf (gl 56) 16))), (b9, .inl (τ 1, 24, .inl (pf (gl 72) 24))), (b10, .inl (τ 1, 48, .inl (pf (gl 96) 28)))]
  refine N_dup C (dA DX8_init_4 57 rfl) rfl ?_
  refine N_bipush (v := nI 28) C (dA DX8_init_4 58 rfl) (by decide) ?_
  refine N_bipush (v := nI 112) C (dA DX8_init_4 59 rfl) (by decide) ?_
  refine N_cast C (q0 := 10) (j := 28) (y := 112) rfl (by decide) (by decide) (by decide) (dA DX8_init_4 60 rfl) ?_
  rw [show upd (pf (gl 96) 28) 28 (nI 112) = pf (gl 96) 29 from pf_s (gl 96) 28]
  show NJ D X _ _ _ _ _ [(a, .inr (8, [.ref b1, .ref b2, .ref b3, .int 0, .ref b4, .int 0, .int 0, .int 0, .int 0, .ref b5, .ref b6, .int 0, .int 0, .int 0, .int 0, .long 0, .ref b7, .ref b8, .ref b9, .null, .null, .null, .null, .null])), (b1, .inl (τ 0, 134, .inl zz0)), (b2, .inl (τ 0, 134, .inl zz0)), (b3, .inl (τ 0, 134, .inl zz0)), (b4, .inl (τ 0, 7, .inl zz0)), (b5, .inl (τ 0, 16, .inl zz0)), (b6, .inl (τ 0, 120, .inl zz0)), (b7, .inl (τ 1, 56, .inl (pf (gl 0) 56))), (b8, .inl (τ 1, 16, .inl (pf (gl 56) 16))), (b9, .inl (τ 1, 24, .inl (pf (gl 72) 24))), (b10, .inl (τ 1, 48, .inl (pf (gl 96) 29)))]
  refine N_dup C (dA DX8_init_4 61 rfl) rfl ?_
  refine N_bipush (v := nI 29) C (dA DX8_init_4 62 rfl) (by decide) ?_
  refine N_bipush (v := nI 101) C (dA DX8_init_4 63 rfl) (by decide) ?_
  refine N_cast C (q0 := 10) (j := 29) (y := 101) rfl (by decide) (by decide) (by decide) (dA DX8_init_4 64 rfl) ?_
  rw [show upd (pf (gl 96) 29) 29 (nI 101) = pf (gl 96) 30 from pf_s (gl 96) 29]
  show NJ D X _ _ _ _ _ [(a, .inr (8, [.ref b1, .ref b2, .ref b3, .int 0, .ref b4, .int 0, .int 0, .int 0, .int 0, .ref b5, .ref b6, .int 0, .int 0, .int 0, .int 0, .long 0, .ref b7, .ref b8, .ref b9, .null, .null, .null, .null, .null])), (b1, .inl (τ 0, 134, .inl zz0)), (b2, .inl (τ 0, 134, .inl zz0)), (b3, .inl (τ 0, 134, .inl zz0)), (b4, .inl (τ 0, 7, .inl zz0)), (b5, .inl (τ 0, 16, .inl zz0)), (b6, .inl (τ 0, 120, .inl zz0)), (b7, .inl (τ 1, 56, .inl (pf (gl 0) 56))), (b8, .inl (τ 1, 16, .inl (pf (gl 56) 16))), (b9, .inl (τ 1, 24, .inl (pf (gl 72) 24))), (b10, .inl (τ 1, 48, .inl (pf (gl 96) 30)))]
  refine N_dup C (dA DX8_init_4 65 rfl) rfl ?_
  refine N_bipush (v := nI 30) C (dA DX8_init_4 66 rfl) (by decide) ?_
  refine N_bipush (v := nI 100) C (dA DX8_init_4 67 rfl) (by decide) ?_
  refine N_cast C (q0 := 10) (j := 30) (y := 100) rfl (by decide) (by decide) (by decide) (dA DX8_init_4 68 rfl) ?_
  rw [show upd (pf (gl 96) 30) 30 (nI 100) = pf (gl 96) 31 from pf_s (gl 96) 30]
  show NJ D X _ _ _ _ _ [(a, .inr (8, [.ref b1, .ref b2, .ref b3, .int 0, .ref b4, .int 0, .int 0, .int 0, .int 0, .ref b5, .ref b6, .int 0, .int 0, .int 0, .int 0, .long 0, .ref b7, .ref b8, .ref b9, .null, .null, .null, .null, .null])), (b1, .inl (τ 0, 134, .inl zz0)), (b2, .inl (τ 0, 134, .inl zz0)), (b3, .inl (τ 0, 134, .inl zz0)), (b4, .inl (τ 0, 7, .inl zz0)), (b5, .inl (τ 0, 16, .inl zz0)), (b6, .inl (τ 0, 120, .inl zz0)), (b7, .inl (τ 1, 56, .inl (pf (gl 0) 56))), (b8, .inl (τ 1, 16, .inl (pf (gl 56) 16))), (b9, .inl (τ 1, 24, .inl (pf (gl 72) 24))), (b10, .inl (τ 1, 48, .inl (pf (gl 96) 31)))]
  refine N_dup C (dA DX8_init_4 69 rfl) rfl ?_
  refine N_bipush (v := nI 31) C (dA DX8_init_4 70 rfl) (by decide) ?_
  refine N_bipush (v := nI 32) C (dA DX8_init_4 71 rfl) (by decide) ?_
  refine N_cast C (q0 := 10) (j := 31) (y := 32) rfl (by decide) (by decide) (by decide) (dA DX8_init_4 72 rfl) ?_
  rw [show upd (pf (gl 96) 31) 31 (nI 32) = pf (gl 96) 32 from pf_s (gl 96) 31]
  show NJ D X _ _ _ _ _ [(a, .inr (8, [.ref b1, .ref b2, .ref b3, .int 0, .ref b4, .int 0, .int 0, .int 0, .int 0, .ref b5, .ref b6, .int 0, .int 0, .int 0, .int 0, .long 0, .ref b7, .ref b8, .ref b9, .null, .null, .null, .null, .null])), (b1, .inl (τ 0, 134, .inl zz0)), (b2, .inl (τ 0, 134, .inl zz0)), (b3, .inl (τ 0, 134, .inl zz0)), (b4, .inl (τ 0, 7, .inl zz0)), (b5, .inl (τ 0, 16, .inl zz0)), (b6, .inl (τ 0, 120, .inl zz0)), (b7, .inl (τ 1, 56, .inl (pf (gl 0) 56))), (b8, .inl (τ 1, 16, .inl (pf (gl 56) 16))), (b9, .inl (τ 1, 24, .inl (pf (gl 72) 24))), (b10, .inl (τ 1, 48, .inl (pf (gl 96) 32)))]
  refine N_dup C (dA DX8_init_4 73 rfl) rfl ?_
  refine N_bipush (v := nI 32) C (dA DX8_init_4 74 rfl) (by decide) ?_
  refine N_bipush (v := nI 100) C (dA DX8_init_4 75 rfl) (by decide) ?_
  refine N_cast C (q0 := 10) (j := 32) (y := 100) rfl (by decide) (by decide) (by decide) (dA DX8_init_4 76 rfl) ?_
  rw [show upd (pf (gl 96) 32) 32 (nI 100) = pf (gl 96) 33 from pf_s (gl 96) 32]
  show NJ D X _ _ _ _ _ [(a, .inr (8, [.ref b1, .ref b2, .ref b3, .int 0, .ref b4, .int 0, .int 0, .int 0, .int 0, .ref b5, .ref b6, .int 0, .int 0, .int 0, .int 0, .long 0, .ref b7, .ref b8, .ref b9, .null, .null, .null, .null, .null])), (b1, .inl (τ 0, 134, .inl zz0)), (b2, .inl (τ 0, 134, .inl zz0)), (b3, .inl (τ 0, 134, .inl zz0)), (b4, .inl (τ 0, 7, .inl zz0)), (b5, .inl (τ 0, 16, .inl zz0)), (b6, .inl (τ 0, 120, .inl zz0)), (b7, .inl (τ 1, 56, .inl (pf (gl 0) 56))), (b8, .inl (τ 1, 16, .inl (pf (gl 56) 16))), (b9, .inl (τ 1, 24, .inl (pf (gl 72) 24))), (b10, .inl (τ 1, 48, .inl (pf (gl 96) 33)))]
  refine N_dup C (dA DX8_init_4 77 rfl) rfl ?_
  refine N_bipush (v := nI 33) C (dA DX8_init_4 78 rfl) (by decide) ?_
  refine N_bipush (v := nI 105) C (dA DX8_init_4 79 rfl) (by decide) ?_
  refine N_cast C (q0 := 10) (j := 33) (y := 105) rfl (by decide) (by decide) (by decide) (dA DX8_init_4 80 rfl) ?_
  rw [show upd (pf (gl 96) 33) 33 (nI 105) = pf (gl 96) 34 from pf_s (gl 96) 33]
  show NJ D X _ _ _ _ _ [(a, .inr (8, [.ref b1, .ref b2, .ref b3, .int 0, .ref b4, .int 0, .int 0, .int 0, .int 0, .ref b5, .ref b6, .int 0, .int 0, .int 0, .int 0, .long 0, .ref b7, .ref b8, .ref b9, .null, .null, .null, .null, .null])), (b1, .inl (τ 0, 134, .inl zz0)), (b2, .inl (τ 0, 134, .inl zz0)), (b3, .inl (τ 0, 134, .inl zz0)), (b4, .inl (τ 0, 7, .inl zz0)), (b5, .inl (τ 0, 16, .inl zz0)), (b6, .inl (τ 0, 120, .inl zz0)), (b7, .inl (τ 1, 56, .inl (pf (gl 0) 56))), (b8, .inl (τ 1, 16, .inl (pf (gl 56) 16))), (b9, .inl (τ 1, 24, .inl (pf (gl 72) 24))), (b10, .inl (τ 1, 48, .inl (pf (gl 96) 34)))]
  refine N_dup C (dA DX8_init_4 81 rfl) rfl ?_
  refine N_bipush (v := nI 34) C (dA DX8_init_4 82 rfl) (by decide) ?_
  refine N_bipush (v := nI 116) C (dA DX8_init_4 83 rfl) (by decide) ?_
  refine N_cast C (q0 := 10) (j := 34) (y := 116) rfl (by decide) (by decide) (by decide) (dA DX8_init_4 84 rfl) ?_
  rw [show upd (pf (gl 96) 34) 34 (nI 116) = pf (gl 96) 35 from pf_s (gl 96) 34]
  show NJ D X _ _ _ _ _ [(a, .inr (8, [.ref b1, .ref b2, .ref b3, .int 0, .ref b4, .int 0, .int 0, .int 0, .int 0, .ref b5, .ref b6, .int 0, .int 0, .int 0, .int 0, .long 0, .ref b7, .ref b8, .ref b9, .null, .null, .null, .null, .null])), (b1, .inl (τ 0, 134, .inl zz0)), (b2, .inl (τ 0, 134, .inl zz0)), (b3, .inl (τ 0, 134, .inl zz0)), (b4, .inl (τ 0, 7, .inl zz0)), (b5, .inl (τ 0, 16, .inl zz0)), (b6, .inl (τ 0, 120, .inl zz0)), (b7, .inl (τ 1, 56, .inl (pf (gl 0) 56))), (b8, .inl (τ 1, 16, .inl (pf (gl 56) 16))), (b9, .inl (τ 1, 24, .inl (pf (gl 72) 24))), (b10, .inl (τ 1, 48, .inl (pf (gl 96) 35)))]
  refine N_dup C (dA DX8_init_4 85 rfl) rfl ?_
  refine N_bipush (v := nI 35) C (dA DX8_init_4 86 rfl) (by decide) ?_
  refine N_bipush (v := nI 99) C (dA DX8_init_4 87 rfl) (by decide) ?_
  refine N_cast C (q0 := 10) (j := 35) (y := 99) rfl (by decide) (by decide) (by decide) (dA DX8_init_4 88 rfl) ?_
  rw [show upd (pf (gl 96) 35) 35 (nI 99) = pf (gl 96) 36 from pf_s (gl 96) 35]
  show NJ D X _ _ _ _ _ [(a, .inr (8, [.ref b1, .ref b2, .ref b3, .int 0, .ref b4, .int 0, .int 0, .int 0, .int 0, .ref b5, .ref b6, .int 0, .int 0, .int 0, .int 0, .long 0, .ref b7, .ref b8, .ref b9, .null, .null, .null, .null, .null])), (b1, .inl (τ 0, 134, .inl zz0)), (b2, .inl (τ 0, 134, .inl zz0)), (b3, .inl (τ 0, 134, .inl zz0)), (b4, .inl (τ 0, 7, .inl zz0)), (b5, .inl (τ 0, 16, .inl zz0)), (b6, .inl (τ 0, 120, .inl zz0)), (b7, .inl (τ 1, 56, .inl (pf (gl 0) 56))), (b8, .inl (τ 1, 16, .inl (pf (gl 56) 16))), (b9, .inl (τ 1, 24, .inl (pf (gl 72) 24))), (b10, .inl (τ 1, 48, .inl (pf (gl 96) 36)))]
  refine N_dup C (dA DX8_init_4 89 rfl) rfl ?_
  refine N_bipush (v := nI 36) C (dA DX8_init_4 90 rfl) (by decide) ?_
  refine N_bipush (v := nI 104) C (dA DX8_init_4 91 rfl) (by decide) ?_
  refine N_cast C (q0 := 10) (j := 36) (y := 104) rfl (by decide) (by decide) (by decide) (dA DX8_init_4 92 rfl) ?_
  rw [show upd (pf (gl 96) 36) 36 (nI 104) = pf (gl 96) 37 from pf_s (gl 96) 36]
  show NJ D X _ _ _ _ _ [(a, .inr (8, [.ref b1, .ref b2, .ref b3, .int 0, .ref b4, .int 0, .int 0, .int 0, .int 0, .ref b5, .ref b6, .int 0, .int 0, .int 0, .int 0, .long 0, .ref b7, .ref b8, .ref b9, .null, .null, .null, .null, .null])), (b1, .inl (τ 0, 134, .inl zz0)), (b2, .inl (τ 0, 134, .inl zz0)), (b3, .inl (τ 0, 134, .inl zz0)), (b4, .inl (τ 0, 7, .inl zz0)), (b5, .inl (τ 0, 16, .inl zz0)), (b6, .inl (τ 0, 120, .inl zz0)), (b7, .inl (τ 1, 56, .inl (pf (gl 0) 56))), (b8, .inl (τ 1, 16, .inl (pf (gl 56) 16))), (b9, .inl (τ 1, 24, .inl (pf (gl 72) 24))), (b10, .inl (τ 1, 48, .inl (pf (gl 96) 37)))]
  refine N_dup C (dA DX8_init_4 93 rfl) rfl ?_
  refine N_bipush (v := nI 37) C (dA DX8_init_4 94 rfl) (by decide) ?_
  refine N_bipush (v := nI 32) C (dA DX8_init_4 95 rfl) (by decide) ?_
  refine N_cast C (q0 := 10) (j := 37) (y := 32) rfl (by decide) (by decide) (by decide) (dA DX8_init_4 96 rfl) ?_
  rw [show upd (pf (gl 96) 37) 37 (nI 32) = pf (gl 96) 38 from pf_s (gl 96) 37]
  show NJ D X _ _ _ _ _ [(a, .inr (8, [.ref b1, .ref b2, .ref b3, .int 0, .ref b4, .int 0, .int 0, .int 0, .int 0, .ref b5, .ref b6, .int 0, .int 0, .int 0, .int 0, .long 0, .ref b7, .ref b8, .ref b9, .null, .null, .null, .null, .null])), (b1, .inl (τ 0, 134, .inl zz0)), (b2, .inl (τ 0, 134, .inl zz0)), (b3, .inl (τ 0, 134, .inl zz0)), (b4, .inl (τ 0, 7, .inl zz0)), (b5, .inl (τ 0, 16, .inl zz0)), (b6, .inl (τ 0, 120, .inl zz0)), (b7, .inl (τ 1, 56, .inl (pf (gl 0) 56))), (b8, .inl (τ 1, 16, .inl (pf (gl 56) 16))), (b9, .inl (τ 1, 24, .inl (pf (gl 72) 24))), (b10, .inl (τ 1, 48, .inl (pf (gl 96) 38)))]
  refine N_dup C (dA DX8_init_4 97 rfl) rfl ?_
  refine N_bipush (v := nI 38) C (dA DX8_init_4 98 rfl) (by decide) ?_
  refine N_bipush (v := nI 32) C (dA DX8_init_4 99 rfl) (by decide) ?_
  refine N_cast C (q0 := 10) (j := 38) (y := 32) rfl (by decide) (by decide) (by decide) (dA DX8_init_4 100 rfl) ?_
  rw [show upd (pf (gl 96) 38) 38 (nI 32) = pf (gl 96) 39 from pf_s (gl 96) 38]
  show NJ D X _ _ _ _ _ [(a, .inr (8, [.ref b1, .ref b2, .ref b3, .int 0, .ref b4, .int 0, .int 0, .int 0, .int 0, .ref b5, .ref b6, .int 0, .int 0, .int 0, .int 0, .long 0, .ref b7, .ref b8, .ref b9, .null, .null, .null, .null, .null])), (b1, .inl (τ 0, 134, .inl zz0)), (b2, .inl (τ 0, 134, .inl zz0)), (b3, .inl (τ 0, 134, .inl zz0)), (b4, .inl (τ 0, 7, .inl zz0)), (b5, .inl (τ 0, 16, .inl zz0)), (b6, .inl (τ 0, 120, .inl zz0)), (b7, .inl (τ 1, 56, .inl (pf (gl 0) 56))), (b8, .inl (τ 1, 16, .inl (pf (gl 56) 16))), (b9, .inl (τ 1, 24, .inl (pf (gl 72) 24))), (b10, .inl (τ 1, 48, .inl (pf (gl 96) 39)))]
  refine N_dup C (dA DX8_init_4 101 rfl) rfl ?_
  refine N_bipush (v := nI 39) C (dA DX8_init_4 102 rfl) (by decide) ?_
  refine N_bipush (v := nI 32) C (dA DX8_init_4 103 rfl) (by decide) ?_
  refine N_cast C (q0 := 10) (j := 39) (y := 32) rfl (by decide) (by decide) (by decide) (dA DX8_init_4 104 rfl) ?_
  rw [show upd (pf (gl 96) 39) 39 (nI 32) = pf (gl 96) 40 from pf_s (gl 96) 39]
  show NJ D X _ _ _ _ _ [(a, .inr (8, [.ref b1, .ref b2, .ref b3, .int 0, .ref b4, .int 0, .int 0, .int 0, .int 0, .ref b5, .ref b6, .int 0, .int 0, .int 0, .int 0, .long 0, .ref b7, .ref b8, .ref b9, .null, .null, .null, .null, .null])), (b1, .inl (τ 0, 134, .inl zz0)), (b2, .inl (τ 0, 134, .inl zz0)), (b3, .inl (τ 0, 134, .inl zz0)), (b4, .inl (τ 0, 7, .inl zz0)), (b5, .inl (τ 0, 16, .inl zz0)), (b6, .inl (τ 0, 120, .inl zz0)), (b7, .inl (τ 1, 56, .inl (pf (gl 0) 56))), (b8, .inl (τ 1, 16, .inl (pf (gl 56) 16))), (b9, .inl (τ 1, 24, .inl (pf (gl 72) 24))), (b10, .inl (τ 1, 48, .inl (pf (gl 96) 40)))]
  refine N_dup C (dA DX8_init_4 105 rfl) rfl ?_
  refine N_bipush (v := nI 40) C (dA DX8_init_4 106 rfl) (by decide) ?_
  refine N_bipush (v := nI 100) C (dA DX8_init_4 107 rfl) (by decide) ?_
  refine N_cast C (q0 := 10) (j := 40) (y := 100) rfl (by decide) (by decide) (by decide) (dA DX8_init_4 108 rfl) ?_
  rw [show upd (pf (gl 96) 40) 40 (nI 100) = pf (gl 96) 41 from pf_s (gl 96) 40]
  show NJ D X _ _ _ _ _ [(a, .inr (8, [.ref b1, .ref b2, .ref b3, .int 0, .ref b4, .int 0, .int 0, .int 0, .int 0, .ref b5, .ref b6, .int 0, .int 0, .int 0, .int 0, .long 0, .ref b7, .ref b8, .ref b9, .null, .null, .null, .null, .null])), (b1, .inl (τ 0, 134, .inl zz0)), (b2, .inl (τ 0, 134, .inl zz0)), (b3, .inl (τ 0, 134, .inl zz0)), (b4, .inl (τ 0, 7, .inl zz0)), (b5, .inl (τ 0, 16, .inl zz0)), (b6, .inl (τ 0, 120, .inl zz0)), (b7, .inl (τ 1, 56, .inl (pf (gl 0) 56))), (b8, .inl (τ 1, 16, .inl (pf (gl 56) 16))), (b9, .inl (τ 1, 24, .inl (pf (gl 72) 24))), (b10, .inl (τ 1, 48, .inl (pf (gl 96) 41)))]
  refine N_dup C (dA DX8_init_4 109 rfl) rfl ?_
  refine N_bipush (v := nI 41) C (dA DX8_init_4 110 rfl) (by decide) ?_
  refine N_bipush (v := nI 101) C (dA DX8_init_4 111 rfl) (by decide) ?_
  refine N_cast C (q0 := 10) (j := 41) (y := 101) rfl (by decide) (by decide) (by decide) (dA DX8_init_4 112 rfl) ?_
  rw [show upd (pf (gl 96) 41) 41 (nI 101) = pf (gl 96) 42 from pf_s (gl 96) 41]
  show NJ D X _ _ _ _ _ [(a, .inr (8, [.ref b1, .ref b2, .ref b3, .int 0, .ref b4, .int 0, .int 0, .int 0, .int 0, .ref b5, .ref b6, .int 0, .int 0, .int 0, .int 0, .long 0, .ref b7, .ref b8, .ref b9, .null, .null, .null, .null, .null])), (b1, .inl (τ 0, 134, .inl zz0)), (b2, .inl (τ 0, 134, .inl zz0)), (b3, .inl (τ 0, 134, .inl zz0)), (b4, .inl (τ 0, 7, .inl zz0)), (b5, .inl (τ 0, 16, .inl zz0)), (b6, .inl (τ 0, 120, .inl zz0)), (b7, .inl (τ 1, 56, .inl (pf (gl 0) 56))), (b8, .inl (τ 1, 16, .inl (pf (gl 56) 16))), (b9, .inl (τ 1, 24, .inl (pf (gl 72) 24))), (b10, .inl (τ 1, 48, .inl (pf (gl 96) 42)))]
  refine N_dup C (dA DX8_init_4 113 rfl) rfl ?_
  refine N_bipush (v := nI 42) C (dA DX8_init_4 114 rfl) (by decide) ?_
  refine N_bipush (v := nI 112) C (dA DX8_init_4 115 rfl) (by decide) ?_
  refine N_cast C (q0 := 10) (j := 42) (y := 112) rfl (by decide) (by decide) (by decide) (dA DX8_init_4 116 rfl) ?_
  rw [show upd (pf (gl 96) 42) 42 (nI 112) = pf (gl 96) 43 from pf_s (gl 96) 42]
  show NJ D X _ _ _ _ _ [(a, .inr (8, [.ref b1, .ref b2, .ref b3, .int 0, .ref b4, .int 0, .int 0, .int 0, .int 0, .ref b5, .ref b6, .int 0, .int 0, .int 0, .int 0, .long 0, .ref b7, .ref b8, .ref b9, .null, .null, .null, .null, .null])), (b1, .inl (τ 0, 134, .inl zz0)), (b2, .inl (τ 0, 134, .inl zz0)), (b3, .inl (τ 0, 134, .inl zz0)), (b4, .inl (τ 0, 7, .inl zz0)), (b5, .inl (τ 0, 16, .inl zz0)), (b6, .inl (τ 0, 120, .inl zz0)), (b7, .inl (τ 1, 56, .inl (pf (gl 0) 56))), (b8, .inl (τ 1, 16, .inl (pf (gl 56) 16))), (b9, .inl (τ 1, 24, .inl (pf (gl 72) 24))), (b10, .inl (τ 1, 48, .inl (pf (gl 96) 43)))]
  refine N_dup C (dA DX8_init_4 117 rfl) rfl ?_
  refine N_bipush (v := nI 43) C (dA DX8_init_4 118 rfl) (by decide) ?_
  refine N_bipush (v := nI 116) C (dA DX8_init_4 119 rfl) (by decide) ?_
  refine N_cast C (q0 := 10) (j := 43) (y := 116) rfl (by decide) (by decide) (by decide) (dA DX8_init_5 0 rfl) ?_
  rw [show upd (pf (gl 96) 43) 43 (nI 116) = pf (gl 96) 44 from pf_s (gl 96) 43]
  show NJ D X _ _ _ _ _ [(a, .inr (8, [.ref b1, .ref b2, .ref b3, .int 0, .ref b4, .int 0, .int 0, .int 0, .int 0, .ref b5, .ref b6, .int 0, .int 0, .int 0, .int 0, .long 0, .ref b7, .ref b8, .ref b9, .null, .null, .null, .null, .null])), (b1, .inl (τ 0, 134, .inl zz0)), (b2, .inl (τ 0, 134, .inl zz0)), (b3, .inl (τ 0, 134, .inl zz0)), (b4, .inl (τ 0, 7, .inl zz0)), (b5, .inl (τ 0, 16, .inl zz0)), (b6, .inl (τ 0, 120, .inl zz0)), (b7, .inl (τ 1, 56, .inl (pf (gl 0) 56))), (b8, .inl (τ 1, 16, .inl (pf (gl 56) 16))), (b9, .inl (τ 1, 24, .inl (pf (gl 72) 24))), (b10, .inl (τ 1, 48, .inl (pf (gl 96) 44)))]
  refine N_dup C (dA DX8_init_5 1 rfl) rfl ?_
  refine N_bipush (v := nI 44) C (dA DX8_init_5 2 rfl) (by decide) ?_
  refine N_bipush (v := nI 104) C (dA DX8_init_5 3 rfl) (by decide) ?_
  refine N_cast C (q0 := 10) (j := 44) (y := 104) rfl (by decide) (by decide) (by decide) (dA DX8_init_5 4 rfl) ?_
  rw [show upd (pf (gl 96) 44) 44 (nI 104) = pf (gl 96) 45 from pf_s (gl 96) 44]
  show NJ D X _ _ _ _ _ [(a, .inr (8, [.ref b1, .ref b2, .ref b3, .int 0, .ref b4, .int 0, .int 0, .int 0, .int 0, .ref b5, .ref b6, .int 0, .int 0, .int 0, .int 0, .long 0, .ref b7, .ref b8, .ref b9, .null, .null, .null, .null, .null])), (b1, .inl (τ 0, 134, .inl zz0)), (b2, .inl (τ 0, 134, .inl zz0)), (b3, .inl (τ 0, 134, .inl zz0)), (b4, .inl (τ 0, 7, .inl zz0)), (b5, .inl (τ 0, 16, .inl zz0)), (b6, .inl (τ 0, 120, .inl zz0)), (b7, .inl (τ 1, 56, .inl (pf (gl 0) 56))), (b8, .inl (τ 1, 16, .inl (pf (gl 56) 16))), (b9, .inl (τ 1, 24, .inl (pf (gl 72) 24))), (b10, .inl (τ 1, 48, .inl (pf (gl 96) 45)))]
  refine N_dup C (dA DX8_init_5 5 rfl) rfl ?_
  refine N_bipush (v := nI 45) C (dA DX8_init_5 6 rfl) (by decide) ?_
  refine N_bipush (v := nI 32) C (dA DX8_init_5 7 rfl) (by decide) ?_
  refine N_cast C (q0 := 10) (j := 45) (y := 32) rfl (by decide) (by decide) (by decide) (dA DX8_init_5 8 rfl) ?_
  rw [show upd (pf (gl 96) 45) 45 (nI 32) = pf (gl 96) 46 from pf_s (gl 96) 45]
  show NJ D X _ _ _ _ _ [(a, .inr (8, [.ref b1, .ref b2, .ref b3, .int 0, .ref b4, .int 0, .int 0, .int 0, .int 0, .ref b5, .ref b6, .int 0, .int 0, .int 0, .int 0, .long 0, .ref b7, .ref b8, .ref b9, .null, .null, .null, .null, .null])), (b1, .inl (τ 0, 134, .inl zz0)), (b2, .inl (τ 0, 134, .inl zz0)), (b3, .inl (τ 0, 134, .inl zz0)), (b4, .inl (τ 0, 7, .inl zz0)), (b5, .inl (τ 0, 16, .inl zz0)), (b6, .inl (τ 0, 120, .inl zz0)), (b7, .inl (τ 1, 56, .inl (pf (gl 0) 56))), (b8, .inl (τ 1, 16, .inl (pf (gl 56) 16))), (b9, .inl (τ 1, 24, .inl (pf (gl 72) 24))), (b10, .inl (τ 1, 48, .inl (pf (gl 96) 46)))]
  refine N_dup C (dA DX8_init_5 9 rfl) rfl ?_
  refine N_bipush (v := nI 46) C (dA DX8_init_5 10 rfl) (by decide) ?_
  refine N_bipush (v := nI 32) C (dA DX8_init_5 11 rfl) (by decide) ?_
  refine N_cast C (q0 := 10) (j := 46) (y := 32) rfl (by decide) (by decide) (by decide) (dA DX8_init_5 12 rfl) ?_
  rw [show upd (pf (gl 96) 46) 46 (nI 32) = pf (gl 96) 47 from pf_s (gl 96) 46]
  show NJ D X _ _ _ _ _ [(a, .inr (8, [.ref b1, .ref b2, .ref b3, .int 0, .ref b4, .int 0, .int 0, .int 0, .int 0, .ref b5, .ref b6, .int 0, .int 0, .int 0, .int 0, .long 0, .ref b7, .ref b8, .ref b9, .null, .null, .null, .null, .null])), (b1, .inl (τ 0, 134, .inl zz0)), (b2, .inl (τ 0, 134, .inl zz0)), (b3, .inl (τ 0, 134, .inl zz0)), (b4, .inl (τ 0, 7, .inl zz0)), (b5, .inl (τ 0, 16, .inl zz0)), (b6, .inl (τ 0, 120, .inl zz0)), (b7, .inl (τ 1, 56, .inl (pf (gl 0) 56))), (b8, .inl (τ 1, 16, .inl (pf (gl 56) 16))), (b9, .inl (τ 1, 24, .inl (pf (gl 72) 24))), (b10, .inl (τ 1, 48, .inl (pf (gl 96) 47)))]
  refine N_dup C (dA DX8_init_5 13 rfl) rfl ?_
  refine N_bipush (v := nI 47) C (dA DX8_init_5 14 rfl) (by decide) ?_
  refine N_bipush (v := nI 32) C (dA DX8_init_5 15 rfl) (by decide) ?_
  refine N_cast C (q0 := 10) (j := 47) (y := 32) rfl (by decide) (by decide) (by decide) (dA DX8_init_5 16 rfl) ?_
  rw [show upd (pf (gl 96) 47) 47 (nI 32) = pf (gl 96) 48 from pf_s (gl 96) 47]
  show NJ D X _ _ _ _ _ [(a, .inr (8, [.ref b1, .ref b2, .ref b3, .int 0, .ref b4, .int 0, .int 0, .int 0, .int 0, .ref b5, .ref b6, .int 0, .int 0, .int 0, .int 0, .long 0, .ref b7, .ref b8, .ref b9, .null, .null, .null, .null, .null])), (b1, .inl (τ 0, 134, .inl zz0)), (b2, .inl (τ 0, 134, .inl zz0)), (b3, .inl (τ 0, 134, .inl zz0)), (b4, .inl (τ 0, 7, .inl zz0)), (b5, .inl (τ 0, 16, .inl zz0)), (b6, .inl (τ 0, 120, .inl zz0)), (b7, .inl (τ 1, 56, .inl (pf (gl 0) 56))), (b8, .inl (τ 1, 16, .inl (pf (gl 56) 16))), (b9, .inl (τ 1, 24, .inl (pf (gl 72) 24))), (b10, .inl (τ 1, 48, .inl (pf (gl 96) 48)))]
  refine N_putF C hin (q0 := 0) (ci := 8) (T := TX8) (N := 24) (Cn := RX8) (j := 19) rfl inX8 tyX8_ok nmX8 rfl (by decide) wF_RX8_38 rfl rfl (tyX8_ok 19 (by decide)) rfl rfl (Nat.le_of_ble_eq_true rfl) (dA DX8_init_5 17 rfl) ?_
  show NJ D X _ _ _ _ _ [(a, .inr (8, [.ref b1, .ref b2, .ref b3, .int 0, .ref b4, .int 0, .int 0, .int 0, .int 0, .ref b5, .ref b6, .int 0, .int 0, .int 0, .int 0, .long 0, .ref b7, .ref b8, .ref b9, .ref b10, .null, .null, .null, .null])), (b1, .inl (τ 0, 134, .inl zz0)), (b2, .inl (τ 0, 134, .inl zz0)), (b3, .inl (τ 0, 134, .inl zz0)), (b4, .inl (τ 0, 7, .inl zz0)), (b5, .inl (τ 0, 16, .inl zz0)), (b6, .inl (τ 0, 120, .inl zz0)), (b7, .inl (τ 1, 56, .inl (pf (gl 0) 56))), (b8, .inl (τ 1, 16, .inl (pf (gl 56) 16))), (b9, .inl (τ 1, 24, .inl (pf (gl 72) 24))), (b10, .inl (τ 1, 48, .inl (pf (gl 96) 48)))]
  refine N_aload_n C (dA DX8_init_5 18 rfl) rfl ?_
  refine N_iconst (v := nI 4) C (dA DX8_init_5 19 rfl) (by decide) ?_
  refine N_newi C zz0 (fun _ _ => rfl) (by decide) wA_int (by decide) (by decide) (dA DX8_init_5 20 rfl) (fun b11 => ?_)
  show NJ D X _ _ _ _ _ [(a, .inr (8, [.ref b1, .ref b2, .ref b3, .int 0, .ref b4, .int 0, .int 0, .int 0, .int 0, .ref b5, .ref b6, .int 0, .int 0, .int 0, .int 0, .long 0, .ref b7, .ref b8, .ref b9, .ref b10, .null, .null, .null, .null])), (b1, .inl (τ 0, 134, .inl zz0)), (b2, .inl (τ 0, 134, .inl zz0)), (b3, .inl (τ 0, 134, .inl zz0)), (b4, .inl (τ 0, 7, .inl zz0)), (b5, .inl (τ 0, 16, .inl zz0)), (b6, .inl (τ 0, 120, .inl zz0)), (b7, .inl (τ 1, 56, .inl (pf (gl 0) 56))), (b8, .inl (τ 1, 16, .inl (pf (gl 56) 16))), (b9, .inl (τ 1, 24, .inl (pf (gl 72) 24))), (b10, .inl (τ 1, 48, .inl (pf (gl 96) 48))), (b11, .inl (τ 0, 4, .inl zz0))]
  refine N_putF C hin (q0 := 0) (ci := 8) (T := TX8) (N := 24) (Cn := RX8) (j := 20) rfl inX8 tyX8_ok nmX8 rfl (by decide) wF_RX8_41 rfl rfl (tyX8_ok 20 (by decide)) rfl rfl (Nat.le_of_ble_eq_true rfl) (dA DX8_init_5 21 rfl) ?_
  show NJ D X _ _ _ _ _ [(a, .inr (8, [.ref b1, .ref b2, .ref b3, .int 0, .ref b4, .int 0, .int 0, .int 0, .int 0, .ref b5, .ref b6, .int 0, .int 0, .int 0, .int 0, .long 0, .ref b7, .ref b8, .ref b9, .ref b10, .ref b11, .null, .null, .null])), (b1, .inl (τ 0, 134, .inl zz0)), (b2, .inl (τ 0, 134, .inl zz0)), (b3, .inl (τ 0, 134, .inl zz0)), (b4, .inl (τ 0, 7, .inl zz0)), (b5, .inl (τ 0, 16, .inl zz0)), (b6, .inl (τ 0, 120, .inl zz0)), (b7, .inl (τ 1, 56, .inl (pf (gl 0) 56))), (b8, .inl (τ 1, 16, .inl (pf (gl 56) 16))), (b9, .inl (τ 1, 24, .inl (pf (gl 72) 24))), (b10, .inl (τ 1, 48, .inl (pf (gl 96) 48))), (b11, .inl (τ 0, 4, .inl zz0))]
  refine N_aload_n C (dA DX8_init_5 22 rfl) rfl ?_
  refine N_iconst (v := nI 4) C (dA DX8_init_5 23 rfl) (by decide) ?_
  refine N_newi C zz0 (fun _ _ => rfl) (by decide) wA_int (by decide) (by decide) (dA DX8_init_5 24 rfl) (fun b12 => ?_)
  show NJ D X _ _ _ _ _ [(a, .inr (8, [.ref b1, .ref b2, .ref b3, .int 0, .ref b4, .int 0, .int 0, .int 0, .int 0, .ref b5, .ref b6, .int 0, .int 0, .int 0, .int 0, .long 0, .ref b7, .ref b8, .ref b9, .ref b10, .ref b11, .null, .null, .null])), (b1, .inl (τ 0, 134, .inl zz0)), (b2, .inl (τ 0, 134, .inl zz0)), (b3, .inl (τ 0, 134, .inl zz0)), (b4, .inl (τ 0, 7, .inl zz0)), (b5, .inl (τ 0, 16, .inl zz0)), (b6, .inl (τ 0, 120, .inl zz0)), (b7, .inl (τ 1, 56, .inl (pf (gl 0) 56))), (b8, .inl (τ 1, 16, .inl (pf (gl 56) 16))), (b9, .inl (τ 1, 24, .inl (pf (gl 72) 24))), (b10, .inl (τ 1, 48, .inl (pf (gl 96) 48))), (b11, .inl (τ 0, 4, .inl zz0)), (b12, .inl (τ 0, 4, .inl zz0))]
  refine N_putF C hin (q0 := 0) (ci := 8) (T := TX8) (N := 24) (Cn := RX8) (j := 21) rfl inX8 tyX8_ok nmX8 rfl (by decide) wF_RX8_44 rfl rfl (tyX8_ok 21 (by decide)) rfl rfl (Nat.le_of_ble_eq_true rfl) (dA DX8_init_5 25 rfl) ?_
  show NJ D X _ _ _ _ _ [(a, .inr (8, [.ref b1, .ref b2, .ref b3, .int 0, .ref b4, .int 0, .int 0, .int 0, .int 0, .ref b5, .ref b6, .int 0, .int 0, .int 0, .int 0, .long 0, .ref b7, .ref b8, .ref b9, .ref b10, .ref b11, .ref b12, .null, .null])), (b1, .inl (τ 0, 134, .inl zz0)), (b2, .inl (τ 0, 134, .inl zz0)), (b3, .inl (τ 0, 134, .inl zz0)), (b4, .inl (τ 0, 7, .inl zz0)), (b5, .inl (τ 0, 16, .inl zz0)), (b6, .inl (τ 0, 120, .inl zz0)), (b7, .inl (τ 1, 56, .inl (pf (gl 0) 56))), (b8, .inl (τ 1, 16, .inl (pf (gl 56) 16))), (b9, .inl (τ 1, 24, .inl (pf (gl 72) 24))), (b10, .inl (τ 1, 48, .inl (pf (gl 96) 48))), (b11, .inl (τ 0, 4, .inl zz0)), (b12, .inl (τ 0, 4, .inl zz0))]
  refine N_aload_n C (dA DX8_init_5 26 rfl) rfl ?_
  refine N_sipush (v := nI 160) C (dA DX8_init_5 27 rfl) (by decide) ?_
  refine N_newi C zz0 (fun _ _ => rfl) (by decide) wA_int (by decide) (by decide) (dA DX8_init_5 28 rfl) (fun b13 => ?_)
  show NJ D X _ _ _ _ _ [(a, .inr (8, [.ref b1, .ref b2, .ref b3, .int 0, .ref b4, .int 0, .int 0, .int 0, .int 0, .ref b5, .ref b6, .int 0, .int 0, .int 0, .int 0, .long 0, .ref b7, .ref b8, .ref b9, .ref b10, .ref b11, .ref b12, .null, .null])), (b1, .inl (τ 0, 134, .inl zz0)), (b2, .inl (τ 0, 134, .inl zz0)), (b3, .inl (τ 0, 134, .inl zz0)), (b4, .inl (τ 0, 7, .inl zz0)), (b5, .inl (τ 0, 16, .inl zz0)), (b6, .inl (τ 0, 120, .inl zz0)), (b7, .inl (τ 1, 56, .inl (pf (gl 0) 56))), (b8, .inl (τ 1, 16, .inl (pf (gl 56) 16))), (b9, .inl (τ 1, 24, .inl (pf (gl 72) 24))), (b10, .inl (τ 1, 48, .inl (pf (gl 96) 48))), (b11, .inl (τ 0, 4, .inl zz0)), (b12, .inl (τ 0, 4, .inl zz0)), (b13, .inl (τ 0, 160, .inl zz0))]
  refine N_putF C hin (q0 := 0) (ci := 8) (T := TX8) (N := 24) (Cn := RX8) (j := 22) rfl inX8 tyX8_ok nmX8 rfl (by decide) wF_RX8_47 rfl rfl (tyX8_ok 22 (by decide)) rfl rfl (Nat.le_of_ble_eq_true rfl) (dA DX8_init_5 29 rfl) ?_
  show NJ D X _ _ _ _ _ [(a, .inr (8, [.ref b1, .ref b2, .ref b3, .int 0, .ref b4, .int 0, .int 0, .int 0, .int 0, .ref b5, .ref b6, .int 0, .int 0, .int 0, .int 0, .long 0, .ref b7, .ref b8, .ref b9, .ref b10, .ref b11, .ref b12, .ref b13, .null])), (b1, .inl (τ 0, 134, .inl zz0)), (b2, .inl (τ 0, 134, .inl zz0)), (b3, .inl (τ 0, 134, .inl zz0)), (b4, .inl (τ 0, 7, .inl zz0)), (b5, .inl (τ 0, 16, .inl zz0)), (b6, .inl (τ 0, 120, .inl zz0)), (b7, .inl (τ 1, 56, .inl (pf (gl 0) 56))), (b8, .inl (τ 1, 16, .inl (pf (gl 56) 16))), (b9, .inl (τ 1, 24, .inl (pf (gl 72) 24))), (b10, .inl (τ 1, 48, .inl (pf (gl 96) 48))), (b11, .inl (τ 0, 4, .inl zz0)), (b12, .inl (τ 0, 4, .inl zz0)), (b13, .inl (τ 0, 160, .inl zz0))]
  refine N_aload_n C (dA DX8_init_5 30 rfl) rfl ?_
  refine N_bipush (v := nI 40) C (dA DX8_init_5 31 rfl) (by decide) ?_
  refine N_newi C zz0 (fun _ _ => rfl) (by decide) wA_int (by decide) (by decide) (dA DX8_init_5 32 rfl) (fun b14 => ?_)
  show NJ D X _ _ _ _ _ [(a, .inr (8, [.ref b1, .ref b2, .ref b3, .int 0, .ref b4, .int 0, .int 0, .int 0, .int 0, .ref b5, .ref b6, .int 0, .int 0, .int 0, .int 0, .long 0, .ref b7, .ref b8, .ref b9, .ref b10, .ref b11, .ref b12, .ref b13, .null])), (b1, .inl (τ 0, 134, .inl zz0)), (b2, .inl (τ 0, 134, .inl zz0)), (b3, .inl (τ 0, 134, .inl zz0)), (b4, .inl (τ 0, 7, .inl zz0)), (b5, .inl (τ 0, 16, .inl zz0)), (b6, .inl (τ 0, 120, .inl zz0)), (b7, .inl (τ 1, 56, .inl (pf (gl 0) 56))), (b8, .inl (τ 1, 16, .inl (pf (gl 56) 16))), (b9, .inl (τ 1, 24, .inl (pf (gl 72) 24))), (b10, .inl (τ 1, 48, .inl (pf (gl 96) 48))), (b11, .inl (τ 0, 4, .inl zz0)), (b12, .inl (τ 0, 4, .inl zz0)), (b13, .inl (τ 0, 160, .inl zz0)), (b14, .inl (τ 0, 40, .inl zz0))]
  refine N_putF C hin (q0 := 0) (ci := 8) (T := TX8) (N := 24) (Cn := RX8) (j := 23) rfl inX8 tyX8_ok nmX8 rfl (by decide) wF_RX8_50 rfl rfl (tyX8_ok 23 (by decide)) rfl rfl (Nat.le_of_ble_eq_true rfl) (dA DX8_init_5 33 rfl) ?_
  show NJ D X _ _ _ _ _ [(a, .inr (8, [.ref b1, .ref b2, .ref b3, .int 0, .ref b4, .int 0, .int 0, .int 0, .int 0, .ref b5, .ref b6, .int 0, .int 0, .int 0, .int 0, .long 0, .ref b7, .ref b8, .ref b9, .ref b10, .ref b11, .ref b12, .ref b13, .ref b14])), (b1, .inl (τ 0, 134, .inl zz0)), (b2, .inl (τ 0, 134, .inl zz0)), (b3, .inl (τ 0, 134, .inl zz0)), (b4, .inl (τ 0, 7, .inl zz0)), (b5, .inl (τ 0, 16, .inl zz0)), (b6, .inl (τ 0, 120, .inl zz0)), (b7, .inl (τ 1, 56, .inl (pf (gl 0) 56))), (b8, .inl (τ 1, 16, .inl (pf (gl 56) 16))), (b9, .inl (τ 1, 24, .inl (pf (gl 72) 24))), (b10, .inl (τ 1, 48, .inl (pf (gl 96) 48))), (b11, .inl (τ 0, 4, .inl zz0)), (b12, .inl (τ 0, 4, .inl zz0)), (b13, .inl (τ 0, 160, .inl zz0)), (b14, .inl (τ 0, 40, .inl zz0))]
  refine N_aload_n C (dA DX8_init_5 34 rfl) rfl ?_
  refine N_get C (q0 := 0) (ci := 8) (T := TX8) (N := 24) (Cn := RX8) (j := 0) rfl inX8 rfl (by decide) rfl wF_RX8_9 (dA DX8_init_5 35 rfl) ?_
  refine N_iconst (v := nI 2) C (dA DX8_init_5 36 rfl) (by decide) ?_
  refine N_iconst (v := nI 1) C (dA DX8_init_5 37 rfl) (by decide) ?_
  refine N_iast C (q0 := 1) (j := 2) rfl (by decide) (by decide) (dA DX8_init_5 38 rfl) ?_
  rw [sI_0]
  show NJ D X _ _ _ _ _ [(a, .inr (8, [.ref b1, .ref b2, .ref b3, .int 0, .ref b4, .int 0, .int 0, .int 0, .int 0, .ref b5, .ref b6, .int 0, .int 0, .int 0, .int 0, .long 0, .ref b7, .ref b8, .ref b9, .ref b10, .ref b11, .ref b12, .ref b13, .ref b14])), (b1, .inl (τ 0, 134, .inl (sI 0))), (b2, .inl (τ 0, 134, .inl zz0)), (b3, .inl (τ 0, 134, .inl zz0)), (b4, .inl (τ 0, 7, .inl zz0)), (b5, .inl (τ 0, 16, .inl zz0)), (b6, .inl (τ 0, 120, .inl zz0)), (b7, .inl (τ 1, 56, .inl (pf (gl 0) 56))), (b8, .inl (τ 1, 16, .inl (pf (gl 56) 16))), (b9, .inl (τ 1, 24, .inl (pf (gl 72) 24))), (b10, .inl (τ 1, 48, .inl (pf (gl 96) 48))), (b11, .inl (τ 0, 4, .inl zz0)), (b12, .inl (τ 0, 4, .inl zz0)), (b13, .inl (τ 0, 160, .inl zz0)), (b14, .inl (τ 0, 40, .inl zz0))]
  refine N_iconst (v := nI 0) C (dA DX8_init_5 39 rfl) (by decide) ?_
  refine N_istore_n C (dA DX8_init_5 40 rfl) rfl (Nat.le_of_ble_eq_true rfl) ?_
  have loop2 : ∀ m i, i + m = 10 → NJ D X 14 897 1015 [some (.ref a), some (.int (nI i))] [] [(a, .inr (8, [.ref b1, .ref b2, .ref b3, .int 0, .ref b4, .int 0, .int 0, .int 0, .int 0, .ref b5, .ref b6, .int 0, .int 0, .int 0, .int 0, .long 0, .ref b7, .ref b8, .ref b9, .ref b10, .ref b11, .ref b12, .ref b13, .ref b14])), (b1, .inl (τ 0, 134, .inl (sJ i))), (b2, .inl (τ 0, 134, .inl zz0)), (b3, .inl (τ 0, 134, .inl zz0)), (b4, .inl (τ 0, 7, .inl zz0)), (b5, .inl (τ 0, 16, .inl zz0)), (b6, .inl (τ 0, 120, .inl zz0)), (b7, .inl (τ 1, 56, .inl (pf (gl 0) 56))), (b8, .inl (τ 1, 16, .inl (pf (gl 56) 16))), (b9, .inl (τ 1, 24, .inl (pf (gl 72) 24))), (b10, .inl (τ 1, 48, .inl (pf (gl 96) 48))), (b11, .inl (τ 0, 4, .inl zz0)), (b12, .inl (τ 0, 4, .inl zz0)), (b13, .inl (τ 0, 160, .inl zz0)), (b14, .inl (τ 0, 40, .inl zz0))] := by
    intro m
    induction m with
    | zero =>
      intro i hi
      obtain rfl : 10 = i := by omega
      refine N_iload_n C (dA DX8_init_5 72 rfl) rfl ?_
      refine N_bipush (v := nI 10) C (dA DX8_init_5 73 rfl) (by decide) ?_
      refine N_icmp_ge (tgt := 1037) C (by decide) (by decide) (dA DX8_init_5 74 rfl) (by decide) (fun h => ?_) (fun h => absurd h (by decide))
      exact N_vret C G (dA DX8_init_5 84 rfl) rfl rfl ⟨b1, b2, b3, b4, b5, b6, b7, b8, b9, b10, b11, b12, b13, b14, rfl⟩
    | succ m ih =>
      intro i hi
      refine N_iload_n C (dA DX8_init_5 72 rfl) rfl ?_
      refine N_bipush (v := nI 10) C (dA DX8_init_5 73 rfl) (by decide) ?_
      refine N_icmp_ge (tgt := 1037) C (by omega) (by decide) (dA DX8_init_5 74 rfl) (by decide) (fun h => absurd h (by omega)) (fun h => ?_)
      refine N_aload_n C (dA DX8_init_5 75 rfl) rfl ?_
      refine N_get C (q0 := 0) (ci := 8) (T := TX8) (N := 24) (Cn := RX8) (j := 0) rfl inX8 rfl (by decide) rfl wF_RX8_9 (dA DX8_init_5 76 rfl) ?_
      refine N_bipush (v := nI 124) C (dA DX8_init_5 77 rfl) (by decide) ?_
      refine N_iload_n C (dA DX8_init_5 78 rfl) rfl ?_
      refine N_iadd C (dA DX8_init_5 79 rfl) ?_
      refine N_iconst (v := (-1)) C (dA DX8_init_5 80 rfl) (by decide) ?_
      refine N_iast C (q0 := 1) (j := 124 + i) rfl (by omega) (by decide) (dA DX8_init_5 81 rfl) ?_
      rw [sJ_s]
      show NJ D X _ _ _ _ _ [(a, .inr (8, [.ref b1, .ref b2, .ref b3, .int 0, .ref b4, .int 0, .int 0, .int 0, .int 0, .ref b5, .ref b6, .int 0, .int 0, .int 0, .int 0, .long 0, .ref b7, .ref b8, .ref b9, .ref b10, .ref b11, .ref b12, .ref b13, .ref b14])), (b1, .inl (τ 0, 134, .inl (sJ (i + 1)))), (b2, .inl (τ 0, 134, .inl zz0)), (b3, .inl (τ 0, 134, .inl zz0)), (b4, .inl (τ 0, 7, .inl zz0)), (b5, .inl (τ 0, 16, .inl zz0)), (b6, .inl (τ 0, 120, .inl zz0)), (b7, .inl (τ 1, 56, .inl (pf (gl 0) 56))), (b8, .inl (τ 1, 16, .inl (pf (gl 56) 16))), (b9, .inl (τ 1, 24, .inl (pf (gl 72) 24))), (b10, .inl (τ 1, 48, .inl (pf (gl 96) 48))), (b11, .inl (τ 0, 4, .inl zz0)), (b12, .inl (τ 0, 4, .inl zz0)), (b13, .inl (τ 0, 160, .inl zz0)), (b14, .inl (τ 0, 40, .inl zz0))]
      refine N_iinc (v := nI (i + 1)) C (dA DX8_init_5 82 rfl) rfl (nI_1 i) rfl ?_
      refine N_goto (tgt := 1015) C (dA DX8_init_5 83 rfl) (by decide) ?_
      exact ih (i + 1) (by omega)
  have loop : ∀ m i, i + m = 16 → NJ D X 14 897 967 [some (.ref a), some (.int (nI i))] [] [(a, .inr (8, [.ref b1, .ref b2, .ref b3, .int 0, .ref b4, .int 0, .int 0, .int 0, .int 0, .ref b5, .ref b6, .int 0, .int 0, .int 0, .int 0, .long 0, .ref b7, .ref b8, .ref b9, .ref b10, .ref b11, .ref b12, .ref b13, .ref b14])), (b1, .inl (τ 0, 134, .inl (sI i))), (b2, .inl (τ 0, 134, .inl zz0)), (b3, .inl (τ 0, 134, .inl zz0)), (b4, .inl (τ 0, 7, .inl zz0)), (b5, .inl (τ 0, 16, .inl zz0)), (b6, .inl (τ 0, 120, .inl zz0)), (b7, .inl (τ 1, 56, .inl (pf (gl 0) 56))), (b8, .inl (τ 1, 16, .inl (pf (gl 56) 16))), (b9, .inl (τ 1, 24, .inl (pf (gl 72) 24))), (b10, .inl (τ 1, 48, .inl (pf (gl 96) 48))), (b11, .inl (τ 0, 4, .inl zz0)), (b12, .inl (τ 0, 4, .inl zz0)), (b13, .inl (τ 0, 160, .inl zz0)), (b14, .inl (τ 0, 40, .inl zz0))] := by
    intro m
    induction m with
    | zero =>
      intro i hi
      obtain rfl : 16 = i := by omega
      refine N_iload_n C (dA DX8_init_5 41 rfl) rfl ?_
      refine N_bipush (v := nI 16) C (dA DX8_init_5 42 rfl) (by decide) ?_
      refine N_icmp_ge (tgt := 1013) C (by decide) (by decide) (dA DX8_init_5 43 rfl) (by decide) (fun h => ?_) (fun h => absurd h (by decide))
      refine N_iconst (v := nI 0) C (dA DX8_init_5 70 rfl) (by decide) ?_
      refine N_istore_n C (dA DX8_init_5 71 rfl) rfl (Nat.le_of_ble_eq_true rfl) ?_
      rw [sJ_0]
      exact loop2 10 0 (Nat.zero_add _)
    | succ m ih =>
      intro i hi
      refine N_iload_n C (dA DX8_init_5 41 rfl) rfl ?_
      refine N_bipush (v := nI 16) C (dA DX8_init_5 42 rfl) (by decide) ?_
      refine N_icmp_ge (tgt := 1013) C (by omega) (by decide) (dA DX8_init_5 43 rfl) (by decide) (fun h => absurd h (by omega)) (fun h => ?_)
      refine N_aload_n C (dA DX8_init_5 44 rfl) rfl ?_
      refine N_iload_n C (dA DX8_init_5 45 rfl) rfl ?_
      refine N_iconst (v := nI 0) C (dA DX8_init_5 46 rfl) (by decide) ?_
      refine N_iload_n C (dA DX8_init_5 47 rfl) rfl ?_
      refine N_iconst (v := nI 1) C (dA DX8_init_5 48 rfl) (by decide) ?_
      refine N_iadd C (dA DX8_init_5 49 rfl) ?_
      refine N_bipush (v := nI 16) C (dA DX8_init_5 50 rfl) (by decide) ?_
      refine N_irem C (by omega) (by decide) (by decide) (dA DX8_init_5 51 rfl) ?_
      refine N_callV C [0, 1] [2, 3, 4, 5, 6, 7, 8, 9, 10, 11, 12, 13, 14] (q0 := 0) (ci := 8) (T := TX8) (N := 24) (Cn := RX8) (wc := [(a, .inr (8, [.ref b1, .ref b2, .ref b3, .int 0, .ref b4, .int 0, .int 0, .int 0, .int 0, .ref b5, .ref b6, .int 0, .int 0, .int 0, .int 0, .long 0, .ref b7, .ref b8, .ref b9, .ref b10, .ref b11, .ref b12, .ref b13, .ref b14])), (b1, .inl (τ 0, 134, .inl (sI i)))]) (wr := [(b2, .inl (τ 0, 134, .inl zz0)), (b3, .inl (τ 0, 134, .inl zz0)), (b4, .inl (τ 0, 7, .inl zz0)), (b5, .inl (τ 0, 16, .inl zz0)), (b6, .inl (τ 0, 120, .inl zz0)), (b7, .inl (τ 1, 56, .inl (pf (gl 0) 56))), (b8, .inl (τ 1, 16, .inl (pf (gl 56) 16))), (b9, .inl (τ 1, 24, .inl (pf (gl 72) 24))), (b10, .inl (τ 1, 48, .inl (pf (gl 96) 48))), (b11, .inl (τ 0, 4, .inl zz0)), (b12, .inl (τ 0, 4, .inl zz0)), (b13, .inl (τ 0, 160, .inl zz0)), (b14, .inl (τ 0, 40, .inl zz0))]) (As := [.int (nI i), .int (nI 0), .int (nI ((i + 1) % 16))]) rfl (by decide) rfl (by decide) (by decide) (n_X8_lays1 l D τ a b1 [.ref b1, .ref b2, .ref b3, .int 0, .ref b4, .int 0, .int 0, .int 0, .int 0, .ref b5, .ref b6, .int 0, .int 0, .int 0, .int 0, .long 0, .ref b7, .ref b8, .ref b9, .ref b10, .ref b11, .ref b12, .ref b13, .ref b14] (sI i) rfl i 0 (by omega) (by decide) (nI ((i + 1) % 16))) ky8_lays1 wI_yX8_lays1 wE_yX8_lays1 rfl wM_RX8_53 rfl rfl (by decide) (dA DX8_init_5 52 rfl) rfl rfl (Nat.le_of_ble_eq_true rfl) (by decide) (by decide) (fun ws1 hp => ?_)
      subst hp
      refine N_perm (ws' := [(a, .inr (8, [.ref b1, .ref b2, .ref b3, .int 0, .ref b4, .int 0, .int 0, .int 0, .int 0, .ref b5, .ref b6, .int 0, .int 0, .int 0, .int 0, .long 0, .ref b7, .ref b8, .ref b9, .ref b10, .ref b11, .ref b12, .ref b13, .ref b14])), (b1, .inl (τ 0, 134, .inl (upd (sI i) (4 + 6 * i + 0) (nI ((i + 1) % 16))))), (b2, .inl (τ 0, 134, .inl zz0)), (b3, .inl (τ 0, 134, .inl zz0)), (b4, .inl (τ 0, 7, .inl zz0)), (b5, .inl (τ 0, 16, .inl zz0)), (b6, .inl (τ 0, 120, .inl zz0)), (b7, .inl (τ 1, 56, .inl (pf (gl 0) 56))), (b8, .inl (τ 1, 16, .inl (pf (gl 56) 16))), (b9, .inl (τ 1, 24, .inl (pf (gl 72) 24))), (b10, .inl (τ 1, 48, .inl (pf (gl 96) 48))), (b11, .inl (τ 0, 4, .inl zz0)), (b12, .inl (τ 0, 4, .inl zz0)), (b13, .inl (τ 0, 160, .inl zz0)), (b14, .inl (τ 0, 40, .inl zz0))]) [13, 14, 0, 1, 2, 3, 4, 5, 6, 7, 8, 9, 10, 11, 12] rfl (by decide) ?_
      show NJ D X _ _ _ _ _ [(a, .inr (8, [.ref b1, .ref b2, .ref b3, .int 0, .ref b4, .int 0, .int 0, .int 0, .int 0, .ref b5, .ref b6, .int 0, .int 0, .int 0, .int 0, .long 0, .ref b7, .ref b8, .ref b9, .ref b10, .ref b11, .ref b12, .ref b13, .ref b14])), (b1, .inl (τ 0, 134, .inl (upd (sI i) (4 + 6 * i + 0) (nI ((i + 1) % 16))))), (b2, .inl (τ 0, 134, .inl zz0)), (b3, .inl (τ 0, 134, .inl zz0)), (b4, .inl (τ 0, 7, .inl zz0)), (b5, .inl (τ 0, 16, .inl zz0)), (b6, .inl (τ 0, 120, .inl zz0)), (b7, .inl (τ 1, 56, .inl (pf (gl 0) 56))), (b8, .inl (τ 1, 16, .inl (pf (gl 56) 16))), (b9, .inl (τ 1, 24, .inl (pf (gl 72) 24))), (b10, .inl (τ 1, 48, .inl (pf (gl 96) 48))), (b11, .inl (τ 0, 4, .inl zz0)), (b12, .inl (τ 0, 4, .inl zz0)), (b13, .inl (τ 0, 160, .inl zz0)), (b14, .inl (τ 0, 40, .inl zz0))]
      refine N_aload_n C (dA DX8_init_5 53 rfl) rfl ?_
      refine N_iload_n C (dA DX8_init_5 54 rfl) rfl ?_
      refine N_iconst (v := nI 1) C (dA DX8_init_5 55 rfl) (by decide) ?_
      refine N_iconst (v := nI 3) C (dA DX8_init_5 56 rfl) (by decide) ?_
      refine N_callV C [0, 1] [2, 3, 4, 5, 6, 7, 8, 9, 10, 11, 12, 13, 14] (q0 := 0) (ci := 8) (T := TX8) (N := 24) (Cn := RX8) (wc := [(a, .inr (8, [.ref b1, .ref b2, .ref b3, .int 0, .ref b4, .int 0, .int 0, .int 0, .int 0, .ref b5, .ref b6, .int 0, .int 0, .int 0, .int 0, .long 0, .ref b7, .ref b8, .ref b9, .ref b10, .ref b11, .ref b12, .ref b13, .ref b14])), (b1, .inl (τ 0, 134, .inl (upd (sI i) (4 + 6 * i + 0) (nI ((i + 1) % 16)))))]) (wr := [(b2, .inl (τ 0, 134, .inl zz0)), (b3, .inl (τ 0, 134, .inl zz0)), (b4, .inl (τ 0, 7, .inl zz0)), (b5, .inl (τ 0, 16, .inl zz0)), (b6, .inl (τ 0, 120, .inl zz0)), (b7, .inl (τ 1, 56, .inl (pf (gl 0) 56))), (b8, .inl (τ 1, 16, .inl (pf (gl 56) 16))), (b9, .inl (τ 1, 24, .inl (pf (gl 72) 24))), (b10, .inl (τ 1, 48, .inl (pf (gl 96) 48))), (b11, .inl (τ 0, 4, .inl zz0)), (b12, .inl (τ 0, 4, .inl zz0)), (b13, .inl (τ 0, 160, .inl zz0)), (b14, .inl (τ 0, 40, .inl zz0))]) (As := [.int (nI i), .int (nI 1), .int (nI 3)]) rfl (by decide) rfl (by decide) (by decide) (n_X8_lays1 l D τ a b1 [.ref b1, .ref b2, .ref b3, .int 0, .ref b4, .int 0, .int 0, .int 0, .int 0, .ref b5, .ref b6, .int 0, .int 0, .int 0, .int 0, .long 0, .ref b7, .ref b8, .ref b9, .ref b10, .ref b11, .ref b12, .ref b13, .ref b14] (upd (sI i) (4 + 6 * i + 0) (nI ((i + 1) % 16))) rfl i 1 (by omega) (by decide) (nI 3)) ky8_lays1 wI_yX8_lays1 wE_yX8_lays1 rfl wM_RX8_53 rfl rfl (by decide) (dA DX8_init_5 57 rfl) rfl rfl (Nat.le_of_ble_eq_true rfl) (by decide) (by decide) (fun ws1 hp => ?_)
      subst hp
      refine N_perm (ws' := [(a, .inr (8, [.ref b1, .ref b2, .ref b3, .int 0, .ref b4, .int 0, .int 0, .int 0, .int 0, .ref b5, .ref b6, .int 0, .int 0, .int 0, .int 0, .long 0, .ref b7, .ref b8, .ref b9, .ref b10, .ref b11, .ref b12, .ref b13, .ref b14])), (b1, .inl (τ 0, 134, .inl (upd (upd (sI i) (4 + 6 * i + 0) (nI ((i + 1) % 16))) (4 + 6 * i + 1) (nI 3)))), (b2, .inl (τ 0, 134, .inl zz0)), (b3, .inl (τ 0, 134, .inl zz0)), (b4, .inl (τ 0, 7, .inl zz0)), (b5, .inl (τ 0, 16, .inl zz0)), (b6, .inl (τ 0, 120, .inl zz0)), (b7, .inl (τ 1, 56, .inl (pf (gl 0) 56))), (b8, .inl (τ 1, 16, .inl (pf (gl 56) 16))), (b9, .inl (τ 1, 24, .inl (pf (gl 72) 24))), (b10, .inl (τ 1, 48, .inl (pf (gl 96) 48))), (b11, .inl (τ 0, 4, .inl zz0)), (b12, .inl (τ 0, 4, .inl zz0)), (b13, .inl (τ 0, 160, .inl zz0)), (b14, .inl (τ 0, 40, .inl zz0))]) [13, 14, 0, 1, 2, 3, 4, 5, 6, 7, 8, 9, 10, 11, 12] rfl (by decide) ?_
      show NJ D X _ _ _ _ _ [(a, .inr (8, [.ref b1, .ref b2, .ref b3, .int 0, .ref b4, .int 0, .int 0, .int 0, .int 0, .ref b5, .ref b6, .int 0, .int 0, .int 0, .int 0, .long 0, .ref b7, .ref b8, .ref b9, .ref b10, .ref b11, .ref b12, .ref b13, .ref b14])), (b1, .inl (τ 0, 134, .inl (upd (upd (sI i) (4 + 6 * i + 0) (nI ((i + 1) % 16))) (4 + 6 * i + 1) (nI 3)))), (b2, .inl (τ 0, 134, .inl zz0)), (b3, .inl (τ 0, 134, .inl zz0)), (b4, .inl (τ 0, 7, .inl zz0)), (b5, .inl (τ 0, 16, .inl zz0)), (b6, .inl (τ 0, 120, .inl zz0)), (b7, .inl (τ 1, 56, .inl (pf (gl 0) 56))), (b8, .inl (τ 1, 16, .inl (pf (gl 56) 16))), (b9, .inl (τ 1, 24, .inl (pf (gl 72) 24))), (b10, .inl (τ 1, 48, .inl (pf (gl 96) 48))), (b11, .inl (τ 0, 4, .inl zz0)), (b12, .inl (τ 0, 4, .inl zz0)), (b13, .inl (τ 0, 160, .inl zz0)), (b14, .inl (τ 0, 40, .inl zz0))]
      refine N_aload_n C (dA DX8_init_5 58 rfl) rfl ?_
      refine N_iload_n C (dA DX8_init_5 59 rfl) rfl ?_
      refine N_iconst (v := nI 4) C (dA DX8_init_5 60 rfl) (by decide) ?_
      refine N_iload_n C (dA DX8_init_5 61 rfl) rfl ?_
      refine N_callV C [0, 1] [2, 3, 4, 5, 6, 7, 8, 9, 10, 11, 12, 13, 14] (q0 := 0) (ci := 8) (T := TX8) (N := 24) (Cn := RX8) (wc := [(a, .inr (8, [.ref b1, .ref b2, .ref b3, .int 0, .ref b4, .int 0, .int 0, .int 0, .int 0, .ref b5, .ref b6, .int 0, .int 0, .int 0, .int 0, .long 0, .ref b7, .ref b8, .ref b9, .ref b10, .ref b11, .ref b12, .ref b13, .ref b14])), (b1, .inl (τ 0, 134, .inl (upd (upd (sI i) (4 + 6 * i + 0) (nI ((i + 1) % 16))) (4 + 6 * i + 1) (nI 3))))]) (wr := [(b2, .inl (τ 0, 134, .inl zz0)), (b3, .inl (τ 0, 134, .inl zz0)), (b4, .inl (τ 0, 7, .inl zz0)), (b5, .inl (τ 0, 16, .inl zz0)), (b6, .inl (τ 0, 120, .inl zz0)), (b7, .inl (τ 1, 56, .inl (pf (gl 0) 56))), (b8, .inl (τ 1, 16, .inl (pf (gl 56) 16))), (b9, .inl (τ 1, 24, .inl (pf (gl 72) 24))), (b10, .inl (τ 1, 48, .inl (pf (gl 96) 48))), (b11, .inl (τ 0, 4, .inl zz0)), (b12, .inl (τ 0, 4, .inl zz0)), (b13, .inl (τ 0, 160, .inl zz0)), (b14, .inl (τ 0, 40, .inl zz0))]) (As := [.int (nI i), .int (nI 4), .int (nI i)]) rfl (by decide) rfl (by decide) (by decide) (n_X8_lays1 l D τ a b1 [.ref b1, .ref b2, .ref b3, .int 0, .ref b4, .int 0, .int 0, .int 0, .int 0, .ref b5, .ref b6, .int 0, .int 0, .int 0, .int 0, .long 0, .ref b7, .ref b8, .ref b9, .ref b10, .ref b11, .ref b12, .ref b13, .ref b14] (upd (upd (sI i) (4 + 6 * i + 0) (nI ((i + 1) % 16))) (4 + 6 * i + 1) (nI 3)) rfl i 4 (by omega) (by decide) (nI i)) ky8_lays1 wI_yX8_lays1 wE_yX8_lays1 rfl wM_RX8_53 rfl rfl (by decide) (dA DX8_init_5 62 rfl) rfl rfl (Nat.le_of_ble_eq_true rfl) (by decide) (by decide) (fun ws1 hp => ?_)
      subst hp
      refine N_perm (ws' := [(a, .inr (8, [.ref b1, .ref b2, .ref b3, .int 0, .ref b4, .int 0, .int 0, .int 0, .int 0, .ref b5, .ref b6, .int 0, .int 0, .int 0, .int 0, .long 0, .ref b7, .ref b8, .ref b9, .ref b10, .ref b11, .ref b12, .ref b13, .ref b14])), (b1, .inl (τ 0, 134, .inl (upd (upd (upd (sI i) (4 + 6 * i + 0) (nI ((i + 1) % 16))) (4 + 6 * i + 1) (nI 3)) (4 + 6 * i + 4) (nI i)))), (b2, .inl (τ 0, 134, .inl zz0)), (b3, .inl (τ 0, 134, .inl zz0)), (b4, .inl (τ 0, 7, .inl zz0)), (b5, .inl (τ 0, 16, .inl zz0)), (b6, .inl (τ 0, 120, .inl zz0)), (b7, .inl (τ 1, 56, .inl (pf (gl 0) 56))), (b8, .inl (τ 1, 16, .inl (pf (gl 56) 16))), (b9, .inl (τ 1, 24, .inl (pf (gl 72) 24))), (b10, .inl (τ 1, 48, .inl (pf (gl 96) 48))), (b11, .inl (τ 0, 4, .inl zz0)), (b12, .inl (τ 0, 4, .inl zz0)), (b13, .inl (τ 0, 160, .inl zz0)), (b14, .inl (τ 0, 40, .inl zz0))]) [13, 14, 0, 1, 2, 3, 4, 5, 6, 7, 8, 9, 10, 11, 12] rfl (by decide) ?_
      show NJ D X _ _ _ _ _ [(a, .inr (8, [.ref b1, .ref b2, .ref b3, .int 0, .ref b4, .int 0, .int 0, .int 0, .int 0, .ref b5, .ref b6, .int 0, .int 0, .int 0, .int 0, .long 0, .ref b7, .ref b8, .ref b9, .ref b10, .ref b11, .ref b12, .ref b13, .ref b14])), (b1, .inl (τ 0, 134, .inl (upd (upd (upd (sI i) (4 + 6 * i + 0) (nI ((i + 1) % 16))) (4 + 6 * i + 1) (nI 3)) (4 + 6 * i + 4) (nI i)))), (b2, .inl (τ 0, 134, .inl zz0)), (b3, .inl (τ 0, 134, .inl zz0)), (b4, .inl (τ 0, 7, .inl zz0)), (b5, .inl (τ 0, 16, .inl zz0)), (b6, .inl (τ 0, 120, .inl zz0)), (b7, .inl (τ 1, 56, .inl (pf (gl 0) 56))), (b8, .inl (τ 1, 16, .inl (pf (gl 56) 16))), (b9, .inl (τ 1, 24, .inl (pf (gl 72) 24))), (b10, .inl (τ 1, 48, .inl (pf (gl 96) 48))), (b11, .inl (τ 0, 4, .inl zz0)), (b12, .inl (τ 0, 4, .inl zz0)), (b13, .inl (τ 0, 160, .inl zz0)), (b14, .inl (τ 0, 40, .inl zz0))]
      refine N_aload_n C (dA DX8_init_5 63 rfl) rfl ?_
      refine N_iload_n C (dA DX8_init_5 64 rfl) rfl ?_
      refine N_iconst (v := nI 5) C (dA DX8_init_5 65 rfl) (by decide) ?_
      refine N_bipush (v := nI 10) C (dA DX8_init_5 66 rfl) (by decide) ?_
      refine N_callV C [0, 1] [2, 3, 4, 5, 6, 7, 8, 9, 10, 11, 12, 13, 14] (q0 := 0) (ci := 8) (T := TX8) (N := 24) (Cn := RX8) (wc := [(a, .inr (8, [.ref b1, .ref b2, .ref b3, .int 0, .ref b4, .int 0, .int 0, .int 0, .int 0, .ref b5, .ref b6, .int 0, .int 0, .int 0, .int 0, .long 0, .ref b7, .ref b8, .ref b9, .ref b10, .ref b11, .ref b12, .ref b13, .ref b14])), (b1, .inl (τ 0, 134, .inl (upd (upd (upd (sI i) (4 + 6 * i + 0) (nI ((i + 1) % 16))) (4 + 6 * i + 1) (nI 3)) (4 + 6 * i + 4) (nI i))))]) (wr := [(b2, .inl (τ 0, 134, .inl zz0)), (b3, .inl (τ 0, 134, .inl zz0)), (b4, .inl (τ 0, 7, .inl zz0)), (b5, .inl (τ 0, 16, .inl zz0)), (b6, .inl (τ 0, 120, .inl zz0)), (b7, .inl (τ 1, 56, .inl (pf (gl 0) 56))), (b8, .inl (τ 1, 16, .inl (pf (gl 56) 16))), (b9, .inl (τ 1, 24, .inl (pf (gl 72) 24))), (b10, .inl (τ 1, 48, .inl (pf (gl 96) 48))), (b11, .inl (τ 0, 4, .inl zz0)), (b12, .inl (τ 0, 4, .inl zz0)), (b13, .inl (τ 0, 160, .inl zz0)), (b14, .inl (τ 0, 40, .inl zz0))]) (As := [.int (nI i), .int (nI 5), .int (nI 10)]) rfl (by decide) rfl (by decide) (by decide) (n_X8_lays1 l D τ a b1 [.ref b1, .ref b2, .ref b3, .int 0, .ref b4, .int 0, .int 0, .int 0, .int 0, .ref b5, .ref b6, .int 0, .int 0, .int 0, .int 0, .long 0, .ref b7, .ref b8, .ref b9, .ref b10, .ref b11, .ref b12, .ref b13, .ref b14] (upd (upd (upd (sI i) (4 + 6 * i + 0) (nI ((i + 1) % 16))) (4 + 6 * i + 1) (nI 3)) (4 + 6 * i + 4) (nI i)) rfl i 5 (by omega) (by decide) (nI 10)) ky8_lays1 wI_yX8_lays1 wE_yX8_lays1 rfl wM_RX8_53 rfl rfl (by decide) (dA DX8_init_5 67 rfl) rfl rfl (Nat.le_of_ble_eq_true rfl) (by decide) (by decide) (fun ws1 hp => ?_)
      subst hp
      refine N_perm (ws' := [(a, .inr (8, [.ref b1, .ref b2, .ref b3, .int 0, .ref b4, .int 0, .int 0, .int 0, .int 0, .ref b5, .ref b6, .int 0, .int 0, .int 0, .int 0, .long 0, .ref b7, .ref b8, .ref b9, .ref b10, .ref b11, .ref b12, .ref b13, .ref b14])), (b1, .inl (τ 0, 134, .inl (upd (upd (upd (upd (sI i) (4 + 6 * i + 0) (nI ((i + 1) % 16))) (4 + 6 * i + 1) (nI 3)) (4 + 6 * i + 4) (nI i)) (4 + 6 * i + 5) (nI 10)))), (b2, .inl (τ 0, 134, .inl zz0)), (b3, .inl (τ 0, 134, .inl zz0)), (b4, .inl (τ 0, 7, .inl zz0)), (b5, .inl (τ 0, 16, .inl zz0)), (b6, .inl (τ 0, 120, .inl zz0)), (b7, .inl (τ 1, 56, .inl (pf (gl 0) 56))), (b8, .inl (τ 1, 16, .inl (pf (gl 56) 16))), (b9, .inl (τ 1, 24, .inl (pf (gl 72) 24))), (b10, .inl (τ 1, 48, .inl (pf (gl 96) 48))), (b11, .inl (τ 0, 4, .inl zz0)), (b12, .inl (τ 0, 4, .inl zz0)), (b13, .inl (τ 0, 160, .inl zz0)), (b14, .inl (τ 0, 40, .inl zz0))]) [13, 14, 0, 1, 2, 3, 4, 5, 6, 7, 8, 9, 10, 11, 12] rfl (by decide) ?_
      show NJ D X _ _ _ _ _ [(a, .inr (8, [.ref b1, .ref b2, .ref b3, .int 0, .ref b4, .int 0, .int 0, .int 0, .int 0, .ref b5, .ref b6, .int 0, .int 0, .int 0, .int 0, .long 0, .ref b7, .ref b8, .ref b9, .ref b10, .ref b11, .ref b12, .ref b13, .ref b14])), (b1, .inl (τ 0, 134, .inl (upd (upd (upd (upd (sI i) (4 + 6 * i + 0) (nI ((i + 1) % 16))) (4 + 6 * i + 1) (nI 3)) (4 + 6 * i + 4) (nI i)) (4 + 6 * i + 5) (nI 10)))), (b2, .inl (τ 0, 134, .inl zz0)), (b3, .inl (τ 0, 134, .inl zz0)), (b4, .inl (τ 0, 7, .inl zz0)), (b5, .inl (τ 0, 16, .inl zz0)), (b6, .inl (τ 0, 120, .inl zz0)), (b7, .inl (τ 1, 56, .inl (pf (gl 0) 56))), (b8, .inl (τ 1, 16, .inl (pf (gl 56) 16))), (b9, .inl (τ 1, 24, .inl (pf (gl 72) 24))), (b10, .inl (τ 1, 48, .inl (pf (gl 96) 48))), (b11, .inl (τ 0, 4, .inl zz0)), (b12, .inl (τ 0, 4, .inl zz0)), (b13, .inl (τ 0, 160, .inl zz0)), (b14, .inl (τ 0, 40, .inl zz0))]
      rw [sI_s]
      refine N_iinc (v := nI (i + 1)) C (dA DX8_init_5 68 rfl) rfl (nI_1 i) rfl ?_
      refine N_goto (tgt := 967) C (dA DX8_init_5 69 rfl) (by decide) ?_
      exact ih (i + 1) (by omega)
  exact loop 16 0 (Nat.zero_add _)
