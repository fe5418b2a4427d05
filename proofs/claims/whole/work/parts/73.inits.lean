def zz0 : Nat → Int32 := fun _ => 0
theorem ky_X0_init : jy yX0_init cX0_init 1 none 0 := ⟨wC_yX0_init, wN_RX0, ⟨by decide +kernel, by decide +kernel, by decide +kernel⟩, by decide⟩
theorem ky_X1_init : jy yX1_init cX1_init 2 none 0 := ⟨wC_yX1_init, wN_RX1, ⟨by decide +kernel, by decide +kernel, by decide +kernel⟩, by decide⟩
theorem ky_X2_init : jy yX2_init cX2_init 1 none 0 := ⟨wC_yX2_init, wN_RX2, ⟨by decide +kernel, by decide +kernel, by decide +kernel⟩, by decide⟩
theorem ky_X3_init : jy yX3_init cX3_init 1 none 0 := ⟨wC_yX3_init, wN_RX3, ⟨by decide +kernel, by decide +kernel, by decide +kernel⟩, by decide⟩
theorem ky_X4_init : jy yX4_init cX4_init 1 none 0 := ⟨wC_yX4_init, wN_RX4, ⟨by decide +kernel, by decide +kernel, by decide +kernel⟩, by decide⟩
theorem ky_X5_init : jy yX5_init cX5_init 1 none 0 := ⟨wC_yX5_init, wN_RX5, ⟨by decide +kernel, by decide +kernel, by decide +kernel⟩, by decide⟩
theorem ky_X6_init : jy yX6_init cX6_init 1 none 0 := ⟨wC_yX6_init, wN_RX6, ⟨by decide +kernel, by decide +kernel, by decide +kernel⟩, by decide⟩
theorem ky_X7_init : jy yX7_init cX7_init 1 none 0 := ⟨wC_yX7_init, wN_RX7, ⟨by decide +kernel, by decide +kernel, by decide +kernel⟩, by decide⟩
theorem ky_X8_init : jy yX8_init cX8_init 2 none 0 := ⟨wC_yX8_init, wN_RX8, ⟨by decide +kernel, by decide +kernel, by decide +kernel⟩, by decide⟩
set_option maxRecDepth 100000 in
set_option maxHeartbeats 4000000 in
theorem n_X0_init (l : Launch) (D : va_G) (τ : Nat → ClassId) (a : Nat) : CN l D τ 1 0 0 yX0_init cX0_init 1 [.ref a] [(a, .inr (0, [.int 0, .int 0, .int 0, .int 0]))] (fun ws' => ws' = [(a, .inr (0, [.int (nI 0), .int (nI 81), .int (nI 0), .int (nI 0)]))]) := by
  refine CN_intro (own := RX0) (by decide +kernel) rfl (by simp [Value.category]) (Nat.le_of_ble_eq_true rfl) rfl (fun X C G hin => ?_)
  show NJ D X 0 0 0 [some (.ref a)] [] [(a, .inr (0, [.int 0, .int 0, .int 0, .int 0]))]
  refine N_aload_n C (dA DX0_init_0 0 rfl) rfl ?_
  refine N_objInit C wM_RX0_3 wI_java_lang_Object_init_V_MethodName wC_java_lang_Object_init_V_MethodName (dA DX0_init_0 1 rfl) rfl (by decide) ?_
  refine N_aload_n C (dA DX0_init_0 2 rfl) rfl ?_
  refine N_iconst (v := nI 0) C (dA DX0_init_0 3 rfl) (by decide) ?_
  refine N_put C (q0 := 0) (ci := 0) (T := TX0) (N := 4) (Cn := RX0) (j := 0) rfl inX0 tyX0_ok nmX0 rfl (by decide) wF_RX0_9 rfl (tyX0_ok 0 (by decide)) rfl rfl (Nat.le_of_ble_eq_true rfl) (dA DX0_init_0 4 rfl) ?_
  show NJ D X _ _ _ _ _ [(a, .inr (0, [.int (nI 0), .int 0, .int 0, .int 0]))]
  refine N_aload_n C (dA DX0_init_0 5 rfl) rfl ?_
  refine N_bipush (v := nI 81) C (dA DX0_init_0 6 rfl) (by decide) ?_
  refine N_put C (q0 := 0) (ci := 0) (T := TX0) (N := 4) (Cn := RX0) (j := 1) rfl inX0 tyX0_ok nmX0 rfl (by decide) wF_RX0_15 rfl (tyX0_ok 1 (by decide)) rfl rfl (Nat.le_of_ble_eq_true rfl) (dA DX0_init_0 7 rfl) ?_
  show NJ D X _ _ _ _ _ [(a, .inr (0, [.int (nI 0), .int (nI 81), .int 0, .int 0]))]
  refine N_aload_n C (dA DX0_init_0 8 rfl) rfl ?_
  refine N_iconst (v := nI 0) C (dA DX0_init_0 9 rfl) (by decide) ?_
  refine N_put C (q0 := 0) (ci := 0) (T := TX0) (N := 4) (Cn := RX0) (j := 2) rfl inX0 tyX0_ok nmX0 rfl (by decide) wF_RX0_18 rfl (tyX0_ok 2 (by decide)) rfl rfl (Nat.le_of_ble_eq_true rfl) (dA DX0_init_0 10 rfl) ?_
  show NJ D X _ _ _ _ _ [(a, .inr (0, [.int (nI 0), .int (nI 81), .int (nI 0), .int 0]))]
  refine N_aload_n C (dA DX0_init_0 11 rfl) rfl ?_
  refine N_iconst (v := nI 0) C (dA DX0_init_0 12 rfl) (by decide) ?_
  refine N_put C (q0 := 0) (ci := 0) (T := TX0) (N := 4) (Cn := RX0) (j := 3) rfl inX0 tyX0_ok nmX0 rfl (by decide) wF_RX0_21 rfl (tyX0_ok 3 (by decide)) rfl rfl (Nat.le_of_ble_eq_true rfl) (dA DX0_init_0 13 rfl) ?_
  show NJ D X _ _ _ _ _ [(a, .inr (0, [.int (nI 0), .int (nI 81), .int (nI 0), .int (nI 0)]))]
  exact N_vret C G (dA DX0_init_0 14 rfl) rfl rfl rfl
set_option maxRecDepth 100000 in
set_option maxHeartbeats 4000000 in
theorem n_X2_init (l : Launch) (D : va_G) (τ : Nat → ClassId) (a : Nat) : CN l D τ 1 1 16 yX2_init cX2_init 1 [.ref a] [(a, .inr (2, [.null]))] (fun ws' => ∃ (a1 : Nat), ws' = [(a, .inr (2, [.ref a1])), (a1, .inl (τ 0, 16, .inl zz0))]) := by
  refine CN_intro (own := RX2) (by decide +kernel) rfl (by simp [Value.category]) (Nat.le_of_ble_eq_true rfl) rfl (fun X C G hin => ?_)
  show NJ D X 0 0 0 [some (.ref a)] [] [(a, .inr (2, [.null]))]
  refine N_aload_n C (dA DX2_init_0 0 rfl) rfl ?_
  refine N_objInit C wM_RX2_3 wI_java_lang_Object_init_V_MethodName wC_java_lang_Object_init_V_MethodName (dA DX2_init_0 1 rfl) rfl (by decide) ?_
  refine N_aload_n C (dA DX2_init_0 2 rfl) rfl ?_
  refine N_bipush (v := nI 16) C (dA DX2_init_0 3 rfl) (by decide) ?_
  refine N_newi C zz0 (fun _ _ => rfl) (by decide) wA_int (by decide) (by decide) (dA DX2_init_0 4 rfl) (fun a1 => ?_)
  show NJ D X _ _ _ _ _ [(a, .inr (2, [.null])), (a1, .inl (τ 0, 16, .inl zz0))]
  refine N_putF C hin (q0 := 0) (ci := 2) (T := TX2) (N := 1) (Cn := RX2) (j := 0) rfl inX2 tyX2_ok nmX2 rfl (by decide) wF_RX2_9 rfl rfl (tyX2_ok 0 (by decide)) rfl rfl (Nat.le_of_ble_eq_true rfl) (dA DX2_init_0 5 rfl) ?_
  show NJ D X _ _ _ _ _ [(a, .inr (2, [.ref a1])), (a1, .inl (τ 0, 16, .inl zz0))]
  exact N_vret C G (dA DX2_init_0 6 rfl) rfl rfl ⟨a1, rfl⟩
set_option maxRecDepth 100000 in
set_option maxHeartbeats 4000000 in
theorem n_X3_init (l : Launch) (D : va_G) (τ : Nat → ClassId) (a : Nat) : CN l D τ 1 1 40 yX3_init cX3_init 1 [.ref a] [(a, .inr (3, [.null, .int 0, .int 0]))] (fun ws' => ∃ (a1 : Nat), ws' = [(a, .inr (3, [.ref a1, .int (nI 0), .int (nI 0)])), (a1, .inl (τ 0, 40, .inl zz0))]) := by
  refine CN_intro (own := RX3) (by decide +kernel) rfl (by simp [Value.category]) (Nat.le_of_ble_eq_true rfl) rfl (fun X C G hin => ?_)
  show NJ D X 0 0 0 [some (.ref a)] [] [(a, .inr (3, [.null, .int 0, .int 0]))]
  refine N_aload_n C (dA DX3_init_0 0 rfl) rfl ?_
  refine N_objInit C wM_RX3_3 wI_java_lang_Object_init_V_MethodName wC_java_lang_Object_init_V_MethodName (dA DX3_init_0 1 rfl) rfl (by decide) ?_
  refine N_aload_n C (dA DX3_init_0 2 rfl) rfl ?_
  refine N_bipush (v := nI 40) C (dA DX3_init_0 3 rfl) (by decide) ?_
  refine N_newi C zz0 (fun _ _ => rfl) (by decide) wA_int (by decide) (by decide) (dA DX3_init_0 4 rfl) (fun a1 => ?_)
  show NJ D X _ _ _ _ _ [(a, .inr (3, [.null, .int 0, .int 0])), (a1, .inl (τ 0, 40, .inl zz0))]
  refine N_putF C hin (q0 := 0) (ci := 3) (T := TX3) (N := 3) (Cn := RX3) (j := 0) rfl inX3 tyX3_ok nmX3 rfl (by decide) wF_RX3_9 rfl rfl (tyX3_ok 0 (by decide)) rfl rfl (Nat.le_of_ble_eq_true rfl) (dA DX3_init_0 5 rfl) ?_
  show NJ D X _ _ _ _ _ [(a, .inr (3, [.ref a1, .int 0, .int 0])), (a1, .inl (τ 0, 40, .inl zz0))]
  refine N_aload_n C (dA DX3_init_0 6 rfl) rfl ?_
  refine N_iconst (v := nI 0) C (dA DX3_init_0 7 rfl) (by decide) ?_
  refine N_put C (q0 := 0) (ci := 3) (T := TX3) (N := 3) (Cn := RX3) (j := 1) rfl inX3 tyX3_ok nmX3 rfl (by decide) wF_RX3_15 rfl (tyX3_ok 1 (by decide)) rfl rfl (Nat.le_of_ble_eq_true rfl) (dA DX3_init_0 8 rfl) ?_
  show NJ D X _ _ _ _ _ [(a, .inr (3, [.ref a1, .int (nI 0), .int 0])), (a1, .inl (τ 0, 40, .inl zz0))]
  refine N_aload_n C (dA DX3_init_0 9 rfl) rfl ?_
  refine N_iconst (v := nI 0) C (dA DX3_init_0 10 rfl) (by decide) ?_
  refine N_put C (q0 := 0) (ci := 3) (T := TX3) (N := 3) (Cn := RX3) (j := 2) rfl inX3 tyX3_ok nmX3 rfl (by decide) wF_RX3_19 rfl (tyX3_ok 2 (by decide)) rfl rfl (Nat.le_of_ble_eq_true rfl) (dA DX3_init_0 11 rfl) ?_
  show NJ D X _ _ _ _ _ [(a, .inr (3, [.ref a1, .int (nI 0), .int (nI 0)])), (a1, .inl (τ 0, 40, .inl zz0))]
  exact N_vret C G (dA DX3_init_0 12 rfl) rfl rfl ⟨a1, rfl⟩
set_option maxRecDepth 100000 in
set_option maxHeartbeats 4000000 in
theorem n_X4_init (l : Launch) (D : va_G) (τ : Nat → ClassId) (a : Nat) : CN l D τ 1 1 120 yX4_init cX4_init 1 [.ref a] [(a, .inr (4, [.null, .int 0]))] (fun ws' => ∃ (a1 : Nat), ws' = [(a, .inr (4, [.ref a1, .int (nI 0)])), (a1, .inl (τ 0, 120, .inl zz0))]) := by
  refine CN_intro (own := RX4) (by decide +kernel) rfl (by simp [Value.category]) (Nat.le_of_ble_eq_true rfl) rfl (fun X C G hin => ?_)
  show NJ D X 0 0 0 [some (.ref a)] [] [(a, .inr (4, [.null, .int 0]))]
  refine N_aload_n C (dA DX4_init_0 0 rfl) rfl ?_
  refine N_objInit C wM_RX4_3 wI_java_lang_Object_init_V_MethodName wC_java_lang_Object_init_V_MethodName (dA DX4_init_0 1 rfl) rfl (by decide) ?_
  refine N_aload_n C (dA DX4_init_0 2 rfl) rfl ?_
  refine N_bipush (v := nI 120) C (dA DX4_init_0 3 rfl) (by decide) ?_
  refine N_newi C zz0 (fun _ _ => rfl) (by decide) wA_int (by decide) (by decide) (dA DX4_init_0 4 rfl) (fun a1 => ?_)
  show NJ D X _ _ _ _ _ [(a, .inr (4, [.null, .int 0])), (a1, .inl (τ 0, 120, .inl zz0))]
  refine N_putF C hin (q0 := 0) (ci := 4) (T := TX4) (N := 2) (Cn := RX4) (j := 0) rfl inX4 tyX4_ok nmX4 rfl (by decide) wF_RX4_9 rfl rfl (tyX4_ok 0 (by decide)) rfl rfl (Nat.le_of_ble_eq_true rfl) (dA DX4_init_0 5 rfl) ?_
  show NJ D X _ _ _ _ _ [(a, .inr (4, [.ref a1, .int 0])), (a1, .inl (τ 0, 120, .inl zz0))]
  refine N_aload_n C (dA DX4_init_0 6 rfl) rfl ?_
  refine N_iconst (v := nI 0) C (dA DX4_init_0 7 rfl) (by decide) ?_
  refine N_put C (q0 := 0) (ci := 4) (T := TX4) (N := 2) (Cn := RX4) (j := 1) rfl inX4 tyX4_ok nmX4 rfl (by decide) wF_RX4_15 rfl (tyX4_ok 1 (by decide)) rfl rfl (Nat.le_of_ble_eq_true rfl) (dA DX4_init_0 8 rfl) ?_
  show NJ D X _ _ _ _ _ [(a, .inr (4, [.ref a1, .int (nI 0)])), (a1, .inl (τ 0, 120, .inl zz0))]
  exact N_vret C G (dA DX4_init_0 9 rfl) rfl rfl ⟨a1, rfl⟩
set_option maxRecDepth 100000 in
set_option maxHeartbeats 4000000 in
theorem n_X6_init (l : Launch) (D : va_G) (τ : Nat → ClassId) (a : Nat) : CN l D τ 1 3 363 yX6_init cX6_init 1 [.ref a] [(a, .inr (6, [.null, .null, .null, .int 0]))] (fun ws' => ∃ (a1 : Nat) (a2 : Nat) (a3 : Nat), ws' = [(a, .inr (6, [.ref a1, .ref a2, .ref a3, .int (nI 0)])), (a1, .inl (τ 0, 121, .inl zz0)), (a2, .inl (τ 0, 121, .inl zz0)), (a3, .inl (τ 0, 121, .inl zz0))]) := by
  refine CN_intro (own := RX6) (by decide +kernel) rfl (by simp [Value.category]) (Nat.le_of_ble_eq_true rfl) rfl (fun X C G hin => ?_)
  show NJ D X 0 0 0 [some (.ref a)] [] [(a, .inr (6, [.null, .null, .null, .int 0]))]
  refine N_aload_n C (dA DX6_init_0 0 rfl) rfl ?_
  refine N_objInit C wM_RX6_5 wI_java_lang_Object_init_V_MethodName wC_java_lang_Object_init_V_MethodName (dA DX6_init_0 1 rfl) rfl (by decide) ?_
  refine N_aload_n C (dA DX6_init_0 2 rfl) rfl ?_
  refine N_bipush (v := nI 121) C (dA DX6_init_0 3 rfl) (by decide) ?_
  refine N_newi C zz0 (fun _ _ => rfl) (by decide) wA_int (by decide) (by decide) (dA DX6_init_0 4 rfl) (fun a1 => ?_)
  show NJ D X _ _ _ _ _ [(a, .inr (6, [.null, .null, .null, .int 0])), (a1, .inl (τ 0, 121, .inl zz0))]
  refine N_putF C hin (q0 := 0) (ci := 6) (T := TX6) (N := 4) (Cn := RX6) (j := 0) rfl inX6 tyX6_ok nmX6 rfl (by decide) wF_RX6_11 rfl rfl (tyX6_ok 0 (by decide)) rfl rfl (Nat.le_of_ble_eq_true rfl) (dA DX6_init_0 5 rfl) ?_
  show NJ D X _ _ _ _ _ [(a, .inr (6, [.ref a1, .null, .null, .int 0])), (a1, .inl (τ 0, 121, .inl zz0))]
  refine N_aload_n C (dA DX6_init_0 6 rfl) rfl ?_
  refine N_bipush (v := nI 121) C (dA DX6_init_0 7 rfl) (by decide) ?_
  refine N_newi C zz0 (fun _ _ => rfl) (by decide) wA_int (by decide) (by decide) (dA DX6_init_0 8 rfl) (fun a2 => ?_)
  show NJ D X _ _ _ _ _ [(a, .inr (6, [.ref a1, .null, .null, .int 0])), (a1, .inl (τ 0, 121, .inl zz0)), (a2, .inl (τ 0, 121, .inl zz0))]
  refine N_putF C hin (q0 := 0) (ci := 6) (T := TX6) (N := 4) (Cn := RX6) (j := 1) rfl inX6 tyX6_ok nmX6 rfl (by decide) wF_RX6_15 rfl rfl (tyX6_ok 1 (by decide)) rfl rfl (Nat.le_of_ble_eq_true rfl) (dA DX6_init_0 9 rfl) ?_
  show NJ D X _ _ _ _ _ [(a, .inr (6, [.ref a1, .ref a2, .null, .int 0])), (a1, .inl (τ 0, 121, .inl zz0)), (a2, .inl (τ 0, 121, .inl zz0))]
  refine N_aload_n C (dA DX6_init_0 10 rfl) rfl ?_
  refine N_bipush (v := nI 121) C (dA DX6_init_0 11 rfl) (by decide) ?_
  refine N_newi C zz0 (fun _ _ => rfl) (by decide) wA_int (by decide) (by decide) (dA DX6_init_0 12 rfl) (fun a3 => ?_)
  show NJ D X _ _ _ _ _ [(a, .inr (6, [.ref a1, .ref a2, .null, .int 0])), (a1, .inl (τ 0, 121, .inl zz0)), (a2, .inl (τ 0, 121, .inl zz0)), (a3, .inl (τ 0, 121, .inl zz0))]
  refine N_putF C hin (q0 := 0) (ci := 6) (T := TX6) (N := 4) (Cn := RX6) (j := 2) rfl inX6 tyX6_ok nmX6 rfl (by decide) wF_RX6_18 rfl rfl (tyX6_ok 2 (by decide)) rfl rfl (Nat.le_of_ble_eq_true rfl) (dA DX6_init_0 13 rfl) ?_
  show NJ D X _ _ _ _ _ [(a, .inr (6, [.ref a1, .ref a2, .ref a3, .int 0])), (a1, .inl (τ 0, 121, .inl zz0)), (a2, .inl (τ 0, 121, .inl zz0)), (a3, .inl (τ 0, 121, .inl zz0))]
  refine N_aload_n C (dA DX6_init_0 14 rfl) rfl ?_
  refine N_iconst (v := nI 0) C (dA DX6_init_0 15 rfl) (by decide) ?_
  refine N_put C (q0 := 0) (ci := 6) (T := TX6) (N := 4) (Cn := RX6) (j := 3) rfl inX6 tyX6_ok nmX6 rfl (by decide) wF_RX6_21 rfl (tyX6_ok 3 (by decide)) rfl rfl (Nat.le_of_ble_eq_true rfl) (dA DX6_init_0 16 rfl) ?_
  show NJ D X _ _ _ _ _ [(a, .inr (6, [.ref a1, .ref a2, .ref a3, .int (nI 0)])), (a1, .inl (τ 0, 121, .inl zz0)), (a2, .inl (τ 0, 121, .inl zz0)), (a3, .inl (τ 0, 121, .inl zz0))]
  exact N_vret C G (dA DX6_init_0 17 rfl) rfl rfl ⟨a1, a2, a3, rfl⟩
set_option maxRecDepth 100000 in
set_option maxHeartbeats 4000000 in
theorem n_X5_init (l : Launch) (D : va_G) (τ : Nat → ClassId) (a : Nat) : CN l D τ 2 4 367 yX5_init cX5_init 1 [.ref a] [(a, .inr (5, [.null, .int 0]))] (fun ws' => ∃ (a1 : Nat) (a2 : Nat) (a3 : Nat) (a4 : Nat), ws' = [(a, .inr (5, [.ref a1, .int ((-1))])), (a1, .inr (6, [.ref a2, .ref a3, .ref a4, .int (nI 0)])), (a2, .inl (τ 0, 121, .inl zz0)), (a3, .inl (τ 0, 121, .inl zz0)), (a4, .inl (τ 0, 121, .inl zz0))]) := by
  refine CN_intro (own := RX5) (by decide +kernel) rfl (by simp [Value.category]) (Nat.le_of_ble_eq_true rfl) rfl (fun X C G hin => ?_)
  show NJ D X 0 0 0 [some (.ref a)] [] [(a, .inr (5, [.null, .int 0]))]
  refine N_aload_n C (dA DX5_init_0 0 rfl) rfl ?_
  refine N_objInit C wM_RX5_3 wI_java_lang_Object_init_V_MethodName wC_java_lang_Object_init_V_MethodName (dA DX5_init_0 1 rfl) rfl (by decide) ?_
  refine N_aload_n C (dA DX5_init_0 2 rfl) rfl ?_
  refine N_new C (ci := 6) (T := TX6) (N := 4) (Cn := RX6) (fs := [.null, .null, .null, .int 0]) inX6 tyX6_ok rfl wL_RX5_9 wT_RX6 wN_RX6 (fun j hj => by rcases (show j = 0 ∨ j = 1 ∨ j = 2 ∨ j = 3 by omega) with rfl | rfl | rfl | rfl <;> rfl) (by decide) (by decide) (dA DX5_init_0 3 rfl) (fun a1 => ?_)
  show NJ D X _ _ _ _ _ [(a, .inr (5, [.null, .int 0])), (a1, .inr (6, [.null, .null, .null, .int 0]))]
  refine N_dup C (dA DX5_init_0 4 rfl) rfl ?_
  refine N_callN C [1] [0] (wc := [(a1, .inr (6, [.null, .null, .null, .int 0]))]) (wr := [(a, .inr (5, [.null, .int 0]))]) rfl (by decide) rfl (by decide) (by decide) (n_X6_init l D τ a1) ky_X6_init wI_yX6_init rfl (by decide) (by decide) (dA DX5_init_0 5 rfl) rfl (Nat.le_of_ble_eq_true rfl) (by decide) (by decide) (fun ws1 hp => ?_)
  obtain ⟨a2, a3, a4, rfl⟩ := hp
  show NJ D X _ _ _ _ _ [(a, .inr (5, [.null, .int 0])), (a1, .inr (6, [.ref a2, .ref a3, .ref a4, .int (nI 0)])), (a2, .inl (τ 0, 121, .inl zz0)), (a3, .inl (τ 0, 121, .inl zz0)), (a4, .inl (τ 0, 121, .inl zz0))]
  refine N_putF C hin (q0 := 0) (ci := 5) (T := TX5) (N := 2) (Cn := RX5) (j := 0) rfl inX5 tyX5_ok nmX5 rfl (by decide) wF_RX5_12 rfl rfl (tyX5_ok 0 (by decide)) rfl rfl (Nat.le_of_ble_eq_true rfl) (dA DX5_init_0 6 rfl) ?_
  show NJ D X _ _ _ _ _ [(a, .inr (5, [.ref a1, .int 0])), (a1, .inr (6, [.ref a2, .ref a3, .ref a4, .int (nI 0)])), (a2, .inl (τ 0, 121, .inl zz0)), (a3, .inl (τ 0, 121, .inl zz0)), (a4, .inl (τ 0, 121, .inl zz0))]
  refine N_aload_n C (dA DX5_init_0 7 rfl) rfl ?_
  refine N_iconst (v := (-1)) C (dA DX5_init_0 8 rfl) (by decide) ?_
  refine N_put C (q0 := 0) (ci := 5) (T := TX5) (N := 2) (Cn := RX5) (j := 1) rfl inX5 tyX5_ok nmX5 rfl (by decide) wF_RX5_18 rfl (tyX5_ok 1 (by decide)) rfl rfl (Nat.le_of_ble_eq_true rfl) (dA DX5_init_0 9 rfl) ?_
  show NJ D X _ _ _ _ _ [(a, .inr (5, [.ref a1, .int ((-1))])), (a1, .inr (6, [.ref a2, .ref a3, .ref a4, .int (nI 0)])), (a2, .inl (τ 0, 121, .inl zz0)), (a3, .inl (τ 0, 121, .inl zz0)), (a4, .inl (τ 0, 121, .inl zz0))]
  exact N_vret C G (dA DX5_init_0 10 rfl) rfl rfl ⟨a1, a2, a3, a4, rfl⟩
def pf (g : Nat → Int32) (i : Nat) : Nat → Int32 := fun j => if j < i then g j else 0
theorem pf_0 (g : Nat → Int32) : pf g 0 = zz0 := by funext j; unfold pf zz0; rw [if_neg (Nat.not_lt_zero j)]
theorem pf_s (g : Nat → Int32) (i : Nat) : upd (pf g i) i (g i) = pf g (i + 1) := by
  funext j
  unfold upd pf
  by_cases h : j = i
  · subst h; simp
  · rw [if_neg h]
    by_cases h2 : j < i
    · rw [if_pos h2, if_pos (by omega)]
    · rw [if_neg h2, if_neg (by omega)]
def gN (j : Nat) : Int32 := nI ((j + 1) % 16)
def g3 (_ : Nat) : Int32 := nI 3
def gI (j : Nat) : Int32 := nI j
def g10 (_ : Nat) : Int32 := nI 10
def gm (_ : Nat) : Int32 := -1
set_option maxRecDepth 100000 in
set_option maxHeartbeats 4000000 in
theorem n_X1_init (l : Launch) (D : va_G) (τ : Nat → ClassId) (a : Nat) : CN l D τ 1 12 139 yX1_init cX1_init 2 [.ref a] [(a, .inr (1, [.null, .null, .null, .int 0, .int 0, .int 0, .int 0]))] (fun ws' => ∃ (p : Nat) (r : Nat → Nat) (t : Nat) (u : Nat → Nat) (q1 : Nat), ws' = [(a, .inr (1, [.ref p, .ref t, .ref q1, .int (nI 0), .int (nI 0), .int (nI 0), .int (nI 1)])), (p, .inl (τ 2, 6, .inr (.inr (.inr (.inr (rfs 6 r)))))), ((r 0), .inl (τ 0, 16, .inl (pf gN 16))), ((r 1), .inl (τ 0, 16, .inl (pf g3 16))), ((r 2), .inl (τ 0, 16, .inl zz0)), ((r 3), .inl (τ 0, 16, .inl zz0)), ((r 4), .inl (τ 0, 16, .inl (pf gI 16))), ((r 5), .inl (τ 0, 16, .inl (pf g10 16))), (t, .inl (τ 2, 3, .inr (.inr (.inr (.inr (rfs 3 u)))))), ((u 0), .inl (τ 0, 8, .inl zz0)), ((u 1), .inl (τ 0, 8, .inl zz0)), ((u 2), .inl (τ 0, 8, .inl zz0)), (q1, .inl (τ 0, 10, .inl (pf gm 10)))]) := by
  refine CN_intro (own := RX1) (by decide +kernel) rfl (by simp [Value.category]) (Nat.le_of_ble_eq_true rfl) rfl (fun X C G hin => ?_)
  show NJ D X 0 0 0 [some (.ref a), none] [] [(a, .inr (1, [.null, .null, .null, .int 0, .int 0, .int 0, .int 0]))]
  refine N_aload_n C (dA DX1_init_0 0 rfl) rfl ?_
  refine N_objInit C wM_RX1_3 wI_java_lang_Object_init_V_MethodName wC_java_lang_Object_init_V_MethodName (dA DX1_init_0 1 rfl) rfl (by decide) ?_
  refine N_aload_n C (dA DX1_init_0 2 rfl) rfl ?_
  refine N_bipush (v := nI 6) C (dA DX1_init_0 3 rfl) (by decide) ?_
  refine N_bipush (v := nI 16) C (dA DX1_init_0 4 rfl) (by decide) ?_
  refine N_mna C zz0 (fun _ _ => rfl) (by decide) (by decide) wL_RX1_9 wA_int (by decide) (by decide) (dA DX1_init_0 5 rfl) (fun p r => ?_)
  show NJ D X _ _ _ _ _ [(a, .inr (1, [.null, .null, .null, .int 0, .int 0, .int 0, .int 0])), (p, .inl (τ 2, 6, .inr (.inr (.inr (.inr (rfs 6 r)))))), ((r 0), .inl (τ 0, 16, .inl zz0)), ((r 1), .inl (τ 0, 16, .inl zz0)), ((r 2), .inl (τ 0, 16, .inl zz0)), ((r 3), .inl (τ 0, 16, .inl zz0)), ((r 4), .inl (τ 0, 16, .inl zz0)), ((r 5), .inl (τ 0, 16, .inl zz0))]
  refine N_putF C hin (q0 := 0) (ci := 1) (T := TX1) (N := 7) (Cn := RX1) (j := 0) rfl inX1 tyX1_ok nmX1 rfl (by decide) wF_RX1_11 rfl rfl (tyX1_ok 0 (by decide)) rfl rfl (Nat.le_of_ble_eq_true rfl) (dA DX1_init_0 6 rfl) ?_
  show NJ D X _ _ _ _ _ [(a, .inr (1, [.ref p, .null, .null, .int 0, .int 0, .int 0, .int 0])), (p, .inl (τ 2, 6, .inr (.inr (.inr (.inr (rfs 6 r)))))), ((r 0), .inl (τ 0, 16, .inl zz0)), ((r 1), .inl (τ 0, 16, .inl zz0)), ((r 2), .inl (τ 0, 16, .inl zz0)), ((r 3), .inl (τ 0, 16, .inl zz0)), ((r 4), .inl (τ 0, 16, .inl zz0)), ((r 5), .inl (τ 0, 16, .inl zz0))]
  refine N_aload_n C (dA DX1_init_0 7 rfl) rfl ?_
  refine N_iconst (v := nI 3) C (dA DX1_init_0 8 rfl) (by decide) ?_
  refine N_bipush (v := nI 8) C (dA DX1_init_0 9 rfl) (by decide) ?_
  refine N_mna C zz0 (fun _ _ => rfl) (by decide) (by decide) wL_RX1_9 wA_int (by decide) (by decide) (dA DX1_init_0 10 rfl) (fun t u => ?_)
  show NJ D X _ _ _ _ _ [(a, .inr (1, [.ref p, .null, .null, .int 0, .int 0, .int 0, .int 0])), (p, .inl (τ 2, 6, .inr (.inr (.inr (.inr (rfs 6 r)))))), ((r 0), .inl (τ 0, 16, .inl zz0)), ((r 1), .inl (τ 0, 16, .inl zz0)), ((r 2), .inl (τ 0, 16, .inl zz0)), ((r 3), .inl (τ 0, 16, .inl zz0)), ((r 4), .inl (τ 0, 16, .inl zz0)), ((r 5), .inl (τ 0, 16, .inl zz0)), (t, .inl (τ 2, 3, .inr (.inr (.inr (.inr (rfs 3 u)))))), ((u 0), .inl (τ 0, 8, .inl zz0)), ((u 1), .inl (τ 0, 8, .inl zz0)), ((u 2), .inl (τ 0, 8, .inl zz0))]
  refine N_putF C hin (q0 := 0) (ci := 1) (T := TX1) (N := 7) (Cn := RX1) (j := 1) rfl inX1 tyX1_ok nmX1 rfl (by decide) wF_RX1_16 rfl rfl (tyX1_ok 1 (by decide)) rfl rfl (Nat.le_of_ble_eq_true rfl) (dA DX1_init_0 11 rfl) ?_
  show NJ D X _ _ _ _ _ [(a, .inr (1, [.ref p, .ref t, .null, .int 0, .int 0, .int 0, .int 0])), (p, .inl (τ 2, 6, .inr (.inr (.inr (.inr (rfs 6 r)))))), ((r 0), .inl (τ 0, 16, .inl zz0)), ((r 1), .inl (τ 0, 16, .inl zz0)), ((r 2), .inl (τ 0, 16, .inl zz0)), ((r 3), .inl (τ 0, 16, .inl zz0)), ((r 4), .inl (τ 0, 16, .inl zz0)), ((r 5), .inl (τ 0, 16, .inl zz0)), (t, .inl (τ 2, 3, .inr (.inr (.inr (.inr (rfs 3 u)))))), ((u 0), .inl (τ 0, 8, .inl zz0)), ((u 1), .inl (τ 0, 8, .inl zz0)), ((u 2), .inl (τ 0, 8, .inl zz0))]
  refine N_aload_n C (dA DX1_init_0 12 rfl) rfl ?_
  refine N_bipush (v := nI 10) C (dA DX1_init_0 13 rfl) (by decide) ?_
  refine N_newi C zz0 (fun _ _ => rfl) (by decide) wA_int (by decide) (by decide) (dA DX1_init_0 14 rfl) (fun q1 => ?_)
  show NJ D X _ _ _ _ _ [(a, .inr (1, [.ref p, .ref t, .null, .int 0, .int 0, .int 0, .int 0])), (p, .inl (τ 2, 6, .inr (.inr (.inr (.inr (rfs 6 r)))))), ((r 0), .inl (τ 0, 16, .inl zz0)), ((r 1), .inl (τ 0, 16, .inl zz0)), ((r 2), .inl (τ 0, 16, .inl zz0)), ((r 3), .inl (τ 0, 16, .inl zz0)), ((r 4), .inl (τ 0, 16, .inl zz0)), ((r 5), .inl (τ 0, 16, .inl zz0)), (t, .inl (τ 2, 3, .inr (.inr (.inr (.inr (rfs 3 u)))))), ((u 0), .inl (τ 0, 8, .inl zz0)), ((u 1), .inl (τ 0, 8, .inl zz0)), ((u 2), .inl (τ 0, 8, .inl zz0)), (q1, .inl (τ 0, 10, .inl zz0))]
  refine N_putF C hin (q0 := 0) (ci := 1) (T := TX1) (N := 7) (Cn := RX1) (j := 2) rfl inX1 tyX1_ok nmX1 rfl (by decide) wF_RX1_19 rfl rfl (tyX1_ok 2 (by decide)) rfl rfl (Nat.le_of_ble_eq_true rfl) (dA DX1_init_0 15 rfl) ?_
  show NJ D X _ _ _ _ _ [(a, .inr (1, [.ref p, .ref t, .ref q1, .int 0, .int 0, .int 0, .int 0])), (p, .inl (τ 2, 6, .inr (.inr (.inr (.inr (rfs 6 r)))))), ((r 0), .inl (τ 0, 16, .inl zz0)), ((r 1), .inl (τ 0, 16, .inl zz0)), ((r 2), .inl (τ 0, 16, .inl zz0)), ((r 3), .inl (τ 0, 16, .inl zz0)), ((r 4), .inl (τ 0, 16, .inl zz0)), ((r 5), .inl (τ 0, 16, .inl zz0)), (t, .inl (τ 2, 3, .inr (.inr (.inr (.inr (rfs 3 u)))))), ((u 0), .inl (τ 0, 8, .inl zz0)), ((u 1), .inl (τ 0, 8, .inl zz0)), ((u 2), .inl (τ 0, 8, .inl zz0)), (q1, .inl (τ 0, 10, .inl zz0))]
  refine N_aload_n C (dA DX1_init_0 16 rfl) rfl ?_
  refine N_iconst (v := nI 0) C (dA DX1_init_0 17 rfl) (by decide) ?_
  refine N_put C (q0 := 0) (ci := 1) (T := TX1) (N := 7) (Cn := RX1) (j := 3) rfl inX1 tyX1_ok nmX1 rfl (by decide) wF_RX1_23 rfl (tyX1_ok 3 (by decide)) rfl rfl (Nat.le_of_ble_eq_true rfl) (dA DX1_init_0 18 rfl) ?_
  show NJ D X _ _ _ _ _ [(a, .inr (1, [.ref p, .ref t, .ref q1, .int (nI 0), .int 0, .int 0, .int 0])), (p, .inl (τ 2, 6, .inr (.inr (.inr (.inr (rfs 6 r)))))), ((r 0), .inl (τ 0, 16, .inl zz0)), ((r 1), .inl (τ 0, 16, .inl zz0)), ((r 2), .inl (τ 0, 16, .inl zz0)), ((r 3), .inl (τ 0, 16, .inl zz0)), ((r 4), .inl (τ 0, 16, .inl zz0)), ((r 5), .inl (τ 0, 16, .inl zz0)), (t, .inl (τ 2, 3, .inr (.inr (.inr (.inr (rfs 3 u)))))), ((u 0), .inl (τ 0, 8, .inl zz0)), ((u 1), .inl (τ 0, 8, .inl zz0)), ((u 2), .inl (τ 0, 8, .inl zz0)), (q1, .inl (τ 0, 10, .inl zz0))]
  refine N_aload_n C (dA DX1_init_0 19 rfl) rfl ?_
  refine N_iconst (v := nI 0) C (dA DX1_init_0 20 rfl) (by decide) ?_
  refine N_put C (q0 := 0) (ci := 1) (T := TX1) (N := 7) (Cn := RX1) (j := 4) rfl inX1 tyX1_ok nmX1 rfl (by decide) wF_RX1_27 rfl (tyX1_ok 4 (by decide)) rfl rfl (Nat.le_of_ble_eq_true rfl) (dA DX1_init_0 21 rfl) ?_
  show NJ D X _ _ _ _ _ [(a, .inr (1, [.ref p, .ref t, .ref q1, .int (nI 0), .int (nI 0), .int 0, .int 0])), (p, .inl (τ 2, 6, .inr (.inr (.inr (.inr (rfs 6 r)))))), ((r 0), .inl (τ 0, 16, .inl zz0)), ((r 1), .inl (τ 0, 16, .inl zz0)), ((r 2), .inl (τ 0, 16, .inl zz0)), ((r 3), .inl (τ 0, 16, .inl zz0)), ((r 4), .inl (τ 0, 16, .inl zz0)), ((r 5), .inl (τ 0, 16, .inl zz0)), (t, .inl (τ 2, 3, .inr (.inr (.inr (.inr (rfs 3 u)))))), ((u 0), .inl (τ 0, 8, .inl zz0)), ((u 1), .inl (τ 0, 8, .inl zz0)), ((u 2), .inl (τ 0, 8, .inl zz0)), (q1, .inl (τ 0, 10, .inl zz0))]
  refine N_aload_n C (dA DX1_init_0 22 rfl) rfl ?_
  refine N_iconst (v := nI 0) C (dA DX1_init_0 23 rfl) (by decide) ?_
  refine N_put C (q0 := 0) (ci := 1) (T := TX1) (N := 7) (Cn := RX1) (j := 5) rfl inX1 tyX1_ok nmX1 rfl (by decide) wF_RX1_30 rfl (tyX1_ok 5 (by decide)) rfl rfl (Nat.le_of_ble_eq_true rfl) (dA DX1_init_0 24 rfl) ?_
  show NJ D X _ _ _ _ _ [(a, .inr (1, [.ref p, .ref t, .ref q1, .int (nI 0), .int (nI 0), .int (nI 0), .int 0])), (p, .inl (τ 2, 6, .inr (.inr (.inr (.inr (rfs 6 r)))))), ((r 0), .inl (τ 0, 16, .inl zz0)), ((r 1), .inl (τ 0, 16, .inl zz0)), ((r 2), .inl (τ 0, 16, .inl zz0)), ((r 3), .inl (τ 0, 16, .inl zz0)), ((r 4), .inl (τ 0, 16, .inl zz0)), ((r 5), .inl (τ 0, 16, .inl zz0)), (t, .inl (τ 2, 3, .inr (.inr (.inr (.inr (rfs 3 u)))))), ((u 0), .inl (τ 0, 8, .inl zz0)), ((u 1), .inl (τ 0, 8, .inl zz0)), ((u 2), .inl (τ 0, 8, .inl zz0)), (q1, .inl (τ 0, 10, .inl zz0))]
  refine N_aload_n C (dA DX1_init_0 25 rfl) rfl ?_
  refine N_iconst (v := nI 1) C (dA DX1_init_0 26 rfl) (by decide) ?_
  refine N_put C (q0 := 0) (ci := 1) (T := TX1) (N := 7) (Cn := RX1) (j := 6) rfl inX1 tyX1_ok nmX1 rfl (by decide) wF_RX1_33 rfl (tyX1_ok 6 (by decide)) rfl rfl (Nat.le_of_ble_eq_true rfl) (dA DX1_init_0 27 rfl) ?_
  show NJ D X _ _ _ _ _ [(a, .inr (1, [.ref p, .ref t, .ref q1, .int (nI 0), .int (nI 0), .int (nI 0), .int (nI 1)])), (p, .inl (τ 2, 6, .inr (.inr (.inr (.inr (rfs 6 r)))))), ((r 0), .inl (τ 0, 16, .inl zz0)), ((r 1), .inl (τ 0, 16, .inl zz0)), ((r 2), .inl (τ 0, 16, .inl zz0)), ((r 3), .inl (τ 0, 16, .inl zz0)), ((r 4), .inl (τ 0, 16, .inl zz0)), ((r 5), .inl (τ 0, 16, .inl zz0)), (t, .inl (τ 2, 3, .inr (.inr (.inr (.inr (rfs 3 u)))))), ((u 0), .inl (τ 0, 8, .inl zz0)), ((u 1), .inl (τ 0, 8, .inl zz0)), ((u 2), .inl (τ 0, 8, .inl zz0)), (q1, .inl (τ 0, 10, .inl zz0))]
  refine N_iconst (v := nI 0) C (dA DX1_init_0 28 rfl) (by decide) ?_
  refine N_istore_n C (dA DX1_init_0 29 rfl) rfl (Nat.le_of_ble_eq_true rfl) ?_
  have loop2 : ∀ m i, i + m = 10 → NJ D X 12 139 113 [some (.ref a), some (.int (nI i))] [] [(a, .inr (1, [.ref p, .ref t, .ref q1, .int (nI 0), .int (nI 0), .int (nI 0), .int (nI 1)])), (p, .inl (τ 2, 6, .inr (.inr (.inr (.inr (rfs 6 r)))))), ((r 0), .inl (τ 0, 16, .inl (pf gN 16))), ((r 1), .inl (τ 0, 16, .inl (pf g3 16))), ((r 2), .inl (τ 0, 16, .inl zz0)), ((r 3), .inl (τ 0, 16, .inl zz0)), ((r 4), .inl (τ 0, 16, .inl (pf gI 16))), ((r 5), .inl (τ 0, 16, .inl (pf g10 16))), (t, .inl (τ 2, 3, .inr (.inr (.inr (.inr (rfs 3 u)))))), ((u 0), .inl (τ 0, 8, .inl zz0)), ((u 1), .inl (τ 0, 8, .inl zz0)), ((u 2), .inl (τ 0, 8, .inl zz0)), (q1, .inl (τ 0, 10, .inl (pf gm i)))] := by
    intro m
    induction m with
    | zero =>
      intro i hi
      obtain rfl : 10 = i := by omega
      refine N_iload_n C (dA DX1_init_0 69 rfl) rfl ?_
      refine N_bipush (v := nI 10) C (dA DX1_init_0 70 rfl) (by decide) ?_
      refine N_icmp_ge (tgt := 132) C (by decide) (by decide) (dA DX1_init_0 71 rfl) (by decide) (fun h => ?_) (fun h => absurd h (by decide))
      exact N_vret C G (dA DX1_init_0 79 rfl) rfl rfl ⟨p, r, t, u, q1, rfl⟩
    | succ m ih =>
      intro i hi
      refine N_iload_n C (dA DX1_init_0 69 rfl) rfl ?_
      refine N_bipush (v := nI 10) C (dA DX1_init_0 70 rfl) (by decide) ?_
      refine N_icmp_ge (tgt := 132) C (by omega) (by decide) (dA DX1_init_0 71 rfl) (by decide) (fun h => absurd h (by omega)) (fun h => ?_)
      refine N_aload_n C (dA DX1_init_0 72 rfl) rfl ?_
      refine N_get C (q0 := 0) (ci := 1) (T := TX1) (N := 7) (Cn := RX1) (j := 2) rfl inX1 rfl (by decide) rfl wF_RX1_19 (dA DX1_init_0 73 rfl) ?_
      refine N_iload_n C (dA DX1_init_0 74 rfl) rfl ?_
      refine N_iconst (v := (-1)) C (dA DX1_init_0 75 rfl) (by decide) ?_
      refine N_iast C (q0 := 12) (j := i) rfl (by omega) (by decide) (dA DX1_init_0 76 rfl) ?_
      rw [show upd (pf gm i) i ((-1)) = pf gm (i + 1) from pf_s gm i]
      show NJ D X _ _ _ _ _ [(a, .inr (1, [.ref p, .ref t, .ref q1, .int (nI 0), .int (nI 0), .int (nI 0), .int (nI 1)])), (p, .inl (τ 2, 6, .inr (.inr (.inr (.inr (rfs 6 r)))))), ((r 0), .inl (τ 0, 16, .inl (pf gN 16))), ((r 1), .inl (τ 0, 16, .inl (pf g3 16))), ((r 2), .inl (τ 0, 16, .inl zz0)), ((r 3), .inl (τ 0, 16, .inl zz0)), ((r 4), .inl (τ 0, 16, .inl (pf gI 16))), ((r 5), .inl (τ 0, 16, .inl (pf g10 16))), (t, .inl (τ 2, 3, .inr (.inr (.inr (.inr (rfs 3 u)))))), ((u 0), .inl (τ 0, 8, .inl zz0)), ((u 1), .inl (τ 0, 8, .inl zz0)), ((u 2), .inl (τ 0, 8, .inl zz0)), (q1, .inl (τ 0, 10, .inl (pf gm (i + 1))))]
      refine N_iinc (v := nI (i + 1)) C (dA DX1_init_0 77 rfl) rfl (nI_1 i) rfl ?_
      refine N_goto (tgt := 113) C (dA DX1_init_0 78 rfl) (by decide) ?_
      exact ih (i + 1) (by omega)
  have loop : ∀ m i, i + m = 16 → NJ D X 12 139 57 [some (.ref a), some (.int (nI i))] [] [(a, .inr (1, [.ref p, .ref t, .ref q1, .int (nI 0), .int (nI 0), .int (nI 0), .int (nI 1)])), (p, .inl (τ 2, 6, .inr (.inr (.inr (.inr (rfs 6 r)))))), ((r 0), .inl (τ 0, 16, .inl (pf gN i))), ((r 1), .inl (τ 0, 16, .inl (pf g3 i))), ((r 2), .inl (τ 0, 16, .inl zz0)), ((r 3), .inl (τ 0, 16, .inl zz0)), ((r 4), .inl (τ 0, 16, .inl (pf gI i))), ((r 5), .inl (τ 0, 16, .inl (pf g10 i))), (t, .inl (τ 2, 3, .inr (.inr (.inr (.inr (rfs 3 u)))))), ((u 0), .inl (τ 0, 8, .inl zz0)), ((u 1), .inl (τ 0, 8, .inl zz0)), ((u 2), .inl (τ 0, 8, .inl zz0)), (q1, .inl (τ 0, 10, .inl zz0))] := by
    intro m
    induction m with
    | zero =>
      intro i hi
      obtain rfl : 16 = i := by omega
      refine N_iload_n C (dA DX1_init_0 30 rfl) rfl ?_
      refine N_bipush (v := nI 16) C (dA DX1_init_0 31 rfl) (by decide) ?_
      refine N_icmp_ge (tgt := 111) C (by decide) (by decide) (dA DX1_init_0 32 rfl) (by decide) (fun h => ?_) (fun h => absurd h (by decide))
      refine N_iconst (v := nI 0) C (dA DX1_init_0 67 rfl) (by decide) ?_
      refine N_istore_n C (dA DX1_init_0 68 rfl) rfl (Nat.le_of_ble_eq_true rfl) ?_
      have h2 := loop2 10 0 (Nat.zero_add _)
      rw [pf_0 gm] at h2
      exact h2
    | succ m ih =>
      intro i hi
      refine N_iload_n C (dA DX1_init_0 30 rfl) rfl ?_
      refine N_bipush (v := nI 16) C (dA DX1_init_0 31 rfl) (by decide) ?_
      refine N_icmp_ge (tgt := 111) C (by omega) (by decide) (dA DX1_init_0 32 rfl) (by decide) (fun h => absurd h (by omega)) (fun h => ?_)
      refine N_aload_n C (dA DX1_init_0 33 rfl) rfl ?_
      refine N_get C (q0 := 0) (ci := 1) (T := TX1) (N := 7) (Cn := RX1) (j := 0) rfl inX1 rfl (by decide) rfl wF_RX1_11 (dA DX1_init_0 34 rfl) ?_
      refine N_iconst (v := nI 0) C (dA DX1_init_0 35 rfl) (by decide) ?_
      refine N_aald C (q0 := 1) (j := 0) rfl (by decide) (by decide) rfl (dA DX1_init_0 36 rfl) ?_
      refine N_iload_n C (dA DX1_init_0 37 rfl) rfl ?_
      refine N_iload_n C (dA DX1_init_0 38 rfl) rfl ?_
      refine N_iconst (v := nI 1) C (dA DX1_init_0 39 rfl) (by decide) ?_
      refine N_iadd C (dA DX1_init_0 40 rfl) ?_
      refine N_bipush (v := nI 16) C (dA DX1_init_0 41 rfl) (by decide) ?_
      refine N_irem C (by omega) (by decide) (by decide) (dA DX1_init_0 42 rfl) ?_
      refine N_iast C (q0 := 2) (j := i) rfl (by omega) (by decide) (dA DX1_init_0 43 rfl) ?_
      rw [show upd (pf gN i) i (nI ((i + 1) % 16)) = pf gN (i + 1) from pf_s gN i]
      show NJ D X _ _ _ _ _ [(a, .inr (1, [.ref p, .ref t, .ref q1, .int (nI 0), .int (nI 0), .int (nI 0), .int (nI 1)])), (p, .inl (τ 2, 6, .inr (.inr (.inr (.inr (rfs 6 r)))))), ((r 0), .inl (τ 0, 16, .inl (pf gN (i + 1)))), ((r 1), .inl (τ 0, 16, .inl (pf g3 i))), ((r 2), .inl (τ 0, 16, .inl zz0)), ((r 3), .inl (τ 0, 16, .inl zz0)), ((r 4), .inl (τ 0, 16, .inl (pf gI i))), ((r 5), .inl (τ 0, 16, .inl (pf g10 i))), (t, .inl (τ 2, 3, .inr (.inr (.inr (.inr (rfs 3 u)))))), ((u 0), .inl (τ 0, 8, .inl zz0)), ((u 1), .inl (τ 0, 8, .inl zz0)), ((u 2), .inl (τ 0, 8, .inl zz0)), (q1, .inl (τ 0, 10, .inl zz0))]
      refine N_aload_n C (dA DX1_init_0 44 rfl) rfl ?_
      refine N_get C (q0 := 0) (ci := 1) (T := TX1) (N := 7) (Cn := RX1) (j := 0) rfl inX1 rfl (by decide) rfl wF_RX1_11 (dA DX1_init_0 45 rfl) ?_
      refine N_iconst (v := nI 1) C (dA DX1_init_0 46 rfl) (by decide) ?_
      refine N_aald C (q0 := 1) (j := 1) rfl (by decide) (by decide) rfl (dA DX1_init_0 47 rfl) ?_
      refine N_iload_n C (dA DX1_init_0 48 rfl) rfl ?_
      refine N_iconst (v := nI 3) C (dA DX1_init_0 49 rfl) (by decide) ?_
      refine N_iast C (q0 := 3) (j := i) rfl (by omega) (by decide) (dA DX1_init_0 50 rfl) ?_
      rw [show upd (pf g3 i) i (nI 3) = pf g3 (i + 1) from pf_s g3 i]
      show NJ D X _ _ _ _ _ [(a, .inr (1, [.ref p, .ref t, .ref q1, .int (nI 0), .int (nI 0), .int (nI 0), .int (nI 1)])), (p, .inl (τ 2, 6, .inr (.inr (.inr (.inr (rfs 6 r)))))), ((r 0), .inl (τ 0, 16, .inl (pf gN (i + 1)))), ((r 1), .inl (τ 0, 16, .inl (pf g3 (i + 1)))), ((r 2), .inl (τ 0, 16, .inl zz0)), ((r 3), .inl (τ 0, 16, .inl zz0)), ((r 4), .inl (τ 0, 16, .inl (pf gI i))), ((r 5), .inl (τ 0, 16, .inl (pf g10 i))), (t, .inl (τ 2, 3, .inr (.inr (.inr (.inr (rfs 3 u)))))), ((u 0), .inl (τ 0, 8, .inl zz0)), ((u 1), .inl (τ 0, 8, .inl zz0)), ((u 2), .inl (τ 0, 8, .inl zz0)), (q1, .inl (τ 0, 10, .inl zz0))]
      refine N_aload_n C (dA DX1_init_0 51 rfl) rfl ?_
      refine N_get C (q0 := 0) (ci := 1) (T := TX1) (N := 7) (Cn := RX1) (j := 0) rfl inX1 rfl (by decide) rfl wF_RX1_11 (dA DX1_init_0 52 rfl) ?_
      refine N_iconst (v := nI 4) C (dA DX1_init_0 53 rfl) (by decide) ?_
      refine N_aald C (q0 := 1) (j := 4) rfl (by decide) (by decide) rfl (dA DX1_init_0 54 rfl) ?_
      refine N_iload_n C (dA DX1_init_0 55 rfl) rfl ?_
      refine N_iload_n C (dA DX1_init_0 56 rfl) rfl ?_
      refine N_iast C (q0 := 6) (j := i) rfl (by omega) (by decide) (dA DX1_init_0 57 rfl) ?_
      rw [show upd (pf gI i) i (nI i) = pf gI (i + 1) from pf_s gI i]
      show NJ D X _ _ _ _ _ [(a, .inr (1, [.ref p, .ref t, .ref q1, .int (nI 0), .int (nI 0), .int (nI 0), .int (nI 1)])), (p, .inl (τ 2, 6, .inr (.inr (.inr (.inr (rfs 6 r)))))), ((r 0), .inl (τ 0, 16, .inl (pf gN (i + 1)))), ((r 1), .inl (τ 0, 16, .inl (pf g3 (i + 1)))), ((r 2), .inl (τ 0, 16, .inl zz0)), ((r 3), .inl (τ 0, 16, .inl zz0)), ((r 4), .inl (τ 0, 16, .inl (pf gI (i + 1)))), ((r 5), .inl (τ 0, 16, .inl (pf g10 i))), (t, .inl (τ 2, 3, .inr (.inr (.inr (.inr (rfs 3 u)))))), ((u 0), .inl (τ 0, 8, .inl zz0)), ((u 1), .inl (τ 0, 8, .inl zz0)), ((u 2), .inl (τ 0, 8, .inl zz0)), (q1, .inl (τ 0, 10, .inl zz0))]
      refine N_aload_n C (dA DX1_init_0 58 rfl) rfl ?_
      refine N_get C (q0 := 0) (ci := 1) (T := TX1) (N := 7) (Cn := RX1) (j := 0) rfl inX1 rfl (by decide) rfl wF_RX1_11 (dA DX1_init_0 59 rfl) ?_
      refine N_iconst (v := nI 5) C (dA DX1_init_0 60 rfl) (by decide) ?_
      refine N_aald C (q0 := 1) (j := 5) rfl (by decide) (by decide) rfl (dA DX1_init_0 61 rfl) ?_
      refine N_iload_n C (dA DX1_init_0 62 rfl) rfl ?_
      refine N_bipush (v := nI 10) C (dA DX1_init_0 63 rfl) (by decide) ?_
      refine N_iast C (q0 := 7) (j := i) rfl (by omega) (by decide) (dA DX1_init_0 64 rfl) ?_
      rw [show upd (pf g10 i) i (nI 10) = pf g10 (i + 1) from pf_s g10 i]
      show NJ D X _ _ _ _ _ [(a, .inr (1, [.ref p, .ref t, .ref q1, .int (nI 0), .int (nI 0), .int (nI 0), .int (nI 1)])), (p, .inl (τ 2, 6, .inr (.inr (.inr (.inr (rfs 6 r)))))), ((r 0), .inl (τ 0, 16, .inl (pf gN (i + 1)))), ((r 1), .inl (τ 0, 16, .inl (pf g3 (i + 1)))), ((r 2), .inl (τ 0, 16, .inl zz0)), ((r 3), .inl (τ 0, 16, .inl zz0)), ((r 4), .inl (τ 0, 16, .inl (pf gI (i + 1)))), ((r 5), .inl (τ 0, 16, .inl (pf g10 (i + 1)))), (t, .inl (τ 2, 3, .inr (.inr (.inr (.inr (rfs 3 u)))))), ((u 0), .inl (τ 0, 8, .inl zz0)), ((u 1), .inl (τ 0, 8, .inl zz0)), ((u 2), .inl (τ 0, 8, .inl zz0)), (q1, .inl (τ 0, 10, .inl zz0))]
      refine N_iinc (v := nI (i + 1)) C (dA DX1_init_0 65 rfl) rfl (nI_1 i) rfl ?_
      refine N_goto (tgt := 57) C (dA DX1_init_0 66 rfl) (by decide) ?_
      exact ih (i + 1) (by omega)
  have h := loop 16 0 (Nat.zero_add _)
  rw [pf_0 gN, pf_0 g3, pf_0 gI, pf_0 g10] at h
  exact h
