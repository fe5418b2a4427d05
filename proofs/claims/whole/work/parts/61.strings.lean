def js (E : jE) (i : Nat) : Nat := E.2.2.2.2.2.1 i
def jsv (E : jE) (i : Nat) : Nat := E.2.2.2.2.2.2 i
/-- how long a text is; its letters -/
def sl (i : Nat) : Nat := (jsB.map List.length).getD i 0
def sc (i j : Nat) : Int32 := (jsB.getD i []).getD j 0
section JS
variable {l : Launch} {E : jE} {X : jX} {own : String} {cc : ByteArray} {nL d : Nat} {pc : Nat} {lv : List (Option Value)} {st : List Value} {M : jM}
theorem J_i2c (C : jK l E X own cc nL d) {x : Int32} (hd : decode cc pc = .ok (.i2c, 1)) (k : J E X (pc + 1) lv (.int ((x.toUInt32 % 65536).toInt32) :: st) M) : J E X pc lv (.int x :: st) M :=
  fun H locs ls hP hS hl => lv_i2c C.1.1 C.1.2.1 hd rfl (k H locs ls hP hS hl)
theorem J_ldcS (C : jK l E X RX6 cc nL d) {i k : Nat} {tx : String} (hk : k < 18) (hi : jsT.getD k (0, "") = (i, tx)) (hd : decode cc pc = .ok (.ldc i, 2)) (kk : J E X (pc + 2) lv (.ref (js E k) :: st) M) : J E X pc lv st M := by
  have h := C.2.2.1.2.2.2.1 k hk
  rw [hi] at h
  exact fun H locs ls hP hS hl => va_ldcS C.1.1 C.1.2.1 C.1.2.2.2.1 h hd (kk H locs ls hP hS hl)
theorem J_getsC (C : jK l E X own cc nL d) {i : Nat} (hw : Cond.fieldLink own i "java/lang/String" "COMPACT_STRINGS" "Z" ∈ W0) (hd : decode cc pc = .ok (.getstatic i, 3)) (kk : J E X (pc + 3) lv (.int (nI 1) :: st) M) : J E X pc lv st M :=
  fun H locs ls hP hS hl => va_gets C.1.1 C.1.2.1 C.2.2.1.2.2.2.2.1 hS C.1.2.2.2.1 (C.1.2.2.2.2 _ hw) (fun _ h => h) hd (kk H locs ls hP hS hl)
theorem J_getsF (C : jK l E X own cc nL d) {i : Nat} (hw : Cond.fieldLink own i "jdk/internal/util/Preconditions" "SIOOBE_FORMATTER" "Ljava/util/function/BiFunction;" ∈ W0) (hd : decode cc pc = .ok (.getstatic i, 3)) (kk : ∀ v : Value, (v = .null ∨ ∃ t, v = .ref t) → J E X (pc + 3) lv (v :: st) M) : J E X pc lv st M := by
  rcases C.2.2.1.2.2.2.2.2 with h | ⟨t, h⟩
  · exact fun H locs ls hP hS hl => va_gets C.1.1 C.1.2.1 h hS C.1.2.2.2.1 (C.1.2.2.2.2 _ hw) (fun _ h => h) hd (kk _ (Or.inl rfl) H locs ls hP hS hl)
  · exact fun H locs ls hP hS hl => va_gets C.1.1 C.1.2.1 h hS C.1.2.2.2.1 (C.1.2.2.2.2 _ hw) (fun _ h => h) hd (kk _ (Or.inr ⟨t, rfl⟩) H locs ls hP hS hl)
theorem J_coder (C : jK l E X own cc nL d) {i k : Nat} (hk : k < 18) (hw : Cond.fieldLink own i "java/lang/String" "coder" "B" ∈ W0) (hd : decode cc pc = .ok (.getfield i, 3)) (kk : J E X (pc + 3) lv (.int (nI 0) :: st) M) : J E X pc lv (.ref (js E k) :: st) M :=
  fun H locs ls hP hS hl => vk_getf C.1.1 C.1.2.1 (C.2.2.1.2.2.1.1 k hk).2.1 hS C.1.2.2.2.1 (C.1.2.2.2.2 _ hw) (fun _ h => h) hd (kk H locs ls hP hS hl)
theorem J_svalue (C : jK l E X own cc nL d) {i k : Nat} (hk : k < 18) (hw : Cond.fieldLink own i "java/lang/String" "value" "[B" ∈ W0) (hd : decode cc pc = .ok (.getfield i, 3)) (kk : J E X (pc + 3) lv (.ref (jsv E k) :: st) M) : J E X pc lv (.ref (js E k) :: st) M :=
  fun H locs ls hP hS hl => vk_getf C.1.1 C.1.2.1 (C.2.2.1.2.2.1.1 k hk).2.2.1 hS C.1.2.2.2.1 (C.1.2.2.2.2 _ hw) (fun _ h => h) hd (kk H locs ls hP hS hl)
theorem J_slen (C : jK l E X own cc nL d) {k : Nat} (hk : k < 18) (hd : decode cc pc = .ok (.arraylength, 1)) (kk : J E X (pc + 1) lv (.int (nI (sl k)) :: st) M) : J E X pc lv (.ref (jsv E k) :: st) M :=
  fun H locs ls hP hS hl => va_tlen C.1.1 C.1.2.1 (C.2.2.1.2.2.1.1 k hk).2.2.2 hS rfl hd (kk H locs ls hP hS hl)
theorem sl_le : ∀ k, k < 18 → sl k ≤ 7 := by decide +kernel
theorem J_sb (C : jK l E X own cc nL d) {k j : Nat} (hk : k < 18) (hj : j < sl k) (hd : decode cc pc = .ok (.baload, 1)) (kk : J E X (pc + 1) lv (.int (sc k j) :: st) M) : J E X pc lv (.int (nI j) :: .ref (jsv E k) :: st) M := by
  have hl := sl_le k hk
  obtain ⟨h1, h2⟩ := j_ix (i := nI j) rfl hj (by omega)
  exact fun H locs ls hP hS hl => va_tb C.1.1 C.1.2.1 (C.2.2.1.2.2.1.1 k hk).2.2.2 hS h1 (by rw [h2]; rfl) hd (kk H locs ls hP hS hl)
theorem J_callK (C : jK l E X own cc nL d) {y : MethodName} {b : ByteArray} {n : Nat} {ret : Option FieldType} {d' k i : Nat} {As st0 : List Value} {Post : Option Value → jM → Prop} (hk : k < 18) (hM : CT l E d' y b n ret (.ref (js E k) :: As) M Post) (hy : jy y b n ret As.length) (hi : Cond.instanceMethod y ∈ W0) (he : Cond.selects RJ0 y y ∈ W0) (hyc : y.cls = RJ0) (hw : Cond.methodLink own i y ∈ W0) (hdd : d' < d) (hd : decode cc pc = .ok (.invokevirtual i, 3)) (hn : lv.length = nL) (hs : st0 = As.reverse ++ .ref (js E k) :: st) (hcat : (st.map fun v => v.category).sum ≤ 8) (kk : ∀ r M', Post r M' → J E X (pc + 3) lv (r.toList ++ st) M') : J E X pc lv st0 M := by
  subst hs
  refine J_run C (a := (Value.ref (js E k) :: As).toArray) (fun H locs ls hP hS hl => ?_) kk
  have hxl : xl X = l := C.2.2.2.2.2.2.2.2.2.2
  have he2 : Cond.selects y.cls y y ∈ W0 := by rw [hyc]; exact he
  have hG : GoodIn W0 (wsV own i y.cls y (jw y b n ret)) := by
    intro w hw'
    simp only [wsV, jw, List.mem_append, List.mem_cons, List.not_mem_nil, or_false] at hw'
    rcases hw' with (rfl | rfl | rfl | rfl) | rfl | h
    · exact good_W0 hw
    · exact good_W0 hi
    · exact good_W0 he2
    · exact good_W0 hy.2.1
    · exact good_W0 hy.1
    · exact good_W0 h
  have hrc : ∃ cell : Cell, H[js E k]? = some cell ∧ cell.vm.isStatics = false ∧ (xs X).vm.findClass y.cls = some cell.cls := by
    rw [hyc]
    exact vk_recv C.2.2.1.2.2.1 hk hS
  refine va_runV (As := As) (rest := st) C.1 (hxl ▸ hM H.size) (cwV As.length C.1.2.2.2.2 hG rfl rfl rfl ⟨rfl, hy.2.2.1⟩ ⟨?_, ?_⟩) ⟨jB_blind, hrc, fun U hU hW => ⟨rfl, jB_of C hP hS hU hW⟩⟩ rfl rfl (hl.1.trans hn) rfl (lv_room hcat) hd ⟨C.2.2.2.2.2.2.2.2.1, C.2.2.2.2.2.2.2.2.2.1⟩
  · have := C.2.2.2.2.2.2.1
    show d' + 1 ≤ _
    omega
  · have h1 := C.2.2.2.2.2.2.2.1
    have h2 := hy.2.2.2
    show 8 + (n + 11) + 38 * d' ≤ _
    omega
end JS
section PA
variable {M : jM}
theorem shr0 : ∀ n, n < 8 → nI n >>> (nI 0 &&& 31) = nI n := by decide +kernel
theorem sc_c : ∀ k, k < 18 → ∀ j, j < sl k → ((sc k j &&& nI 255).toUInt32 % 65536).toInt32 = sc k j := by decide +kernel
theorem sc_n : ∀ k, k < 18 → ∀ j, j < sl k → narrow .char (.int (sc k j)) = .int (sc k j) := by
  intro k hk j hj
  rw [← sc_c k hk j hj]
  exact pk_nc _
theorem ky_J0_coder_7d493 : jy yJ0_coder_7d493 cJ0_coder_7d493 1 (some .byte) 0 := ⟨wC_yJ0_coder_7d493, wN_RJ0, ⟨by decide +kernel, by decide +kernel, by decide +kernel⟩, by decide⟩
theorem ky_J0_length_8abf5 : jy yJ0_length_8abf5 cJ0_length_8abf5 1 (some .int) 0 := ⟨wC_yJ0_length_8abf5, wN_RJ0, ⟨by decide +kernel, by decide +kernel, by decide +kernel⟩, by decide⟩
theorem ky_J0_isLatin1_aae02 : jy yJ0_isLatin1_aae02 cJ0_isLatin1_aae02 1 (some .boolean) 0 := ⟨wC_yJ0_isLatin1_aae02, wN_RJ0, ⟨by decide +kernel, by decide +kernel, by decide +kernel⟩, by decide⟩
theorem ky_J3_checkIndex_8e157 : jy yJ3_checkIndex_8e157 cJ3_checkIndex_8e157 3 (some .int) 3 := ⟨wC_yJ3_checkIndex_8e157, wN_RJ3, ⟨by decide +kernel, by decide +kernel, by decide +kernel⟩, by decide⟩
theorem ky_J0_checkIndex_df160 : jy yJ0_checkIndex_df160 cJ0_checkIndex_df160 2 none 2 := ⟨wC_yJ0_checkIndex_df160, wN_RJ0, ⟨by decide +kernel, by decide +kernel, by decide +kernel⟩, by decide⟩
theorem ky_J1_charAt_3b067 : jy yJ1_charAt_3b067 cJ1_charAt_3b067 2 (some .char) 2 := ⟨wC_yJ1_charAt_3b067, wN_RJ1, ⟨by decide +kernel, by decide +kernel, by decide +kernel⟩, by decide⟩
theorem ky_J0_charAt_5068e : jy yJ0_charAt_5068e cJ0_charAt_5068e 2 (some .char) 1 := ⟨wC_yJ0_charAt_5068e, wN_RJ0, ⟨by decide +kernel, by decide +kernel, by decide +kernel⟩, by decide⟩
set_option maxRecDepth 4000 in
theorem c_J0_coder (l : Launch) (E : jE) (k : Nat) (hk : k < 18) : CI l E 0 yJ0_coder_7d493 cJ0_coder_7d493 1 (some .byte) [.ref (js E k)] M (nI 0) M := by
  refine CT_intro (own := RJ0) (by decide +kernel) rfl (by simp [Value.category]) (Nat.le_of_ble_eq_true rfl) rfl (fun X C G => ?_)
  show J E X 0 [some (.ref (js E k))] [] M
  refine J_getsC C wF_RJ0_38 (dA DJ0_coder_7d493_0 0 rfl) ?_
  refine J_if_eq_n (tgt := 13) C (by decide) (dA DJ0_coder_7d493_0 1 rfl) (by decide) (fun h3 => ?_) (fun h3 => ?_)
  · exact absurd h3 (by decide)
  · refine J_aload_n C (dA DJ0_coder_7d493_0 2 rfl) rfl ?_
    refine J_coder C hk wF_RJ0_15 (dA DJ0_coder_7d493_0 3 rfl) ?_
    refine J_goto (tgt := 14) C (dA DJ0_coder_7d493_0 4 rfl) (by decide) ?_
    exact J_zret C G rfl (dA DJ0_coder_7d493_0 6 rfl) ⟨rfl, rfl⟩
set_option maxRecDepth 4000 in
theorem c_J0_length (l : Launch) (E : jE) (k : Nat) (hk : k < 18) : CI l E 1 yJ0_length_8abf5 cJ0_length_8abf5 1 (some .int) [.ref (js E k)] M (nI (sl k)) M := by
  refine CT_intro (own := RJ0) (by decide +kernel) rfl (by simp [Value.category]) (Nat.le_of_ble_eq_true rfl) rfl (fun X C G => ?_)
  show J E X 0 [some (.ref (js E k))] [] M
  have hl := sl_le k hk
  refine J_aload_n C (dA DJ0_length_8abf5_0 0 rfl) rfl ?_
  refine J_svalue C hk wF_RJ0_9 (dA DJ0_length_8abf5_0 1 rfl) ?_
  refine J_slen C hk (dA DJ0_length_8abf5_0 2 rfl) ?_
  refine J_aload_n C (dA DJ0_length_8abf5_0 3 rfl) rfl ?_
  refine J_callK C hk (c_J0_coder l E k hk) ky_J0_coder_7d493 wI_yJ0_coder_7d493 wE_yJ0_coder_7d493 rfl wM_RJ0_335 (by decide) (dA DJ0_length_8abf5_0 4 rfl) rfl rfl (Nat.le_of_ble_eq_true rfl) (fun r M2 hp => ?_)
  obtain ⟨rfl, hm⟩ := hp
  rw [show M2 = M from hm]
  refine J_ishr C (dA DJ0_length_8abf5_0 5 rfl) ?_
  rw [shr0 _ (by omega)]
  exact J_iret C G (dA DJ0_length_8abf5_0 6 rfl) ⟨rfl, rfl⟩
set_option maxRecDepth 4000 in
theorem c_J0_isLatin1 (l : Launch) (E : jE) (k : Nat) (hk : k < 18) : CI l E 0 yJ0_isLatin1_aae02 cJ0_isLatin1_aae02 1 (some .boolean) [.ref (js E k)] M (nI 1) M := by
  refine CT_intro (own := RJ0) (by decide +kernel) rfl (by simp [Value.category]) (Nat.le_of_ble_eq_true rfl) rfl (fun X C G => ?_)
  show J E X 0 [some (.ref (js E k))] [] M
  refine J_getsC C wF_RJ0_38 (dA DJ0_isLatin1_aae02_0 0 rfl) ?_
  refine J_if_eq_n (tgt := 17) C (by decide) (dA DJ0_isLatin1_aae02_0 1 rfl) (by decide) (fun h3 => ?_) (fun h3 => ?_)
  · exact absurd h3 (by decide)
  · refine J_aload_n C (dA DJ0_isLatin1_aae02_0 2 rfl) rfl ?_
    refine J_coder C hk wF_RJ0_15 (dA DJ0_isLatin1_aae02_0 3 rfl) ?_
    refine J_if_ne_n (tgt := 17) C (by decide) (dA DJ0_isLatin1_aae02_0 4 rfl) (by decide) (fun h10 => ?_) (fun h10 => ?_)
    · exact absurd rfl h10
    · refine J_iconst (v := nI 1) C (dA DJ0_isLatin1_aae02_0 5 rfl) (by decide) ?_
      refine J_goto (tgt := 18) C (dA DJ0_isLatin1_aae02_0 6 rfl) (by decide) ?_
      exact J_zret C G rfl (dA DJ0_isLatin1_aae02_0 8 rfl) ⟨rfl, rfl⟩
set_option maxRecDepth 4000 in
theorem c_J3_checkIndex (l : Launch) (E : jE) (j n : Nat) (hj : j < n) (hn : n < 2 ^ 31) (v : Value) (hv : v = .null ∨ ∃ t, v = .ref t) : CI l E 0 yJ3_checkIndex_8e157 cJ3_checkIndex_8e157 3 (some .int) [.int (nI j), .int (nI n), v] M (nI j) M := by
  rcases hv with rfl | ⟨t, rfl⟩
  · refine CT_intro (own := RJ3) (by decide +kernel) rfl (by simp [Value.category]) (Nat.le_of_ble_eq_true rfl) rfl (fun X C G => ?_)
    show J E X 0 [some (.int (nI j)), some (.int (nI n)), some (.null)] [] M
    refine J_iload_n C (dA DJ3_checkIndex_8e157_0 0 rfl) rfl ?_
    refine J_if_lt_n (tgt := 9) C (by omega) (dA DJ3_checkIndex_8e157_0 1 rfl) (by decide) (fun h1 => ?_) (fun h1 => ?_)
    · exfalso; omega
    · refine J_iload_n C (dA DJ3_checkIndex_8e157_0 2 rfl) rfl ?_
      refine J_iload_n C (dA DJ3_checkIndex_8e157_0 3 rfl) rfl ?_
      refine J_icmp_lt_n (tgt := 16) C (by omega) (by omega) (dA DJ3_checkIndex_8e157_0 4 rfl) (by decide) (fun h6 => ?_) (fun h6 => ?_)
      · refine J_iload_n C (dA DJ3_checkIndex_8e157_0 10 rfl) rfl ?_
        exact J_iret C G (dA DJ3_checkIndex_8e157_0 11 rfl) ⟨rfl, rfl⟩
      · exfalso; omega
  · refine CT_intro (own := RJ3) (by decide +kernel) rfl (by simp [Value.category]) (Nat.le_of_ble_eq_true rfl) rfl (fun X C G => ?_)
    show J E X 0 [some (.int (nI j)), some (.int (nI n)), some (.ref t)] [] M
    refine J_iload_n C (dA DJ3_checkIndex_8e157_0 0 rfl) rfl ?_
    refine J_if_lt_n (tgt := 9) C (by omega) (dA DJ3_checkIndex_8e157_0 1 rfl) (by decide) (fun h1 => ?_) (fun h1 => ?_)
    · exfalso; omega
    · refine J_iload_n C (dA DJ3_checkIndex_8e157_0 2 rfl) rfl ?_
      refine J_iload_n C (dA DJ3_checkIndex_8e157_0 3 rfl) rfl ?_
      refine J_icmp_lt_n (tgt := 16) C (by omega) (by omega) (dA DJ3_checkIndex_8e157_0 4 rfl) (by decide) (fun h6 => ?_) (fun h6 => ?_)
      · refine J_iload_n C (dA DJ3_checkIndex_8e157_0 10 rfl) rfl ?_
        exact J_iret C G (dA DJ3_checkIndex_8e157_0 11 rfl) ⟨rfl, rfl⟩
      · exfalso; omega
set_option maxRecDepth 4000 in
theorem c_J0_checkIndex (l : Launch) (E : jE) (j n : Nat) (hj : j < n) (hn : n < 2 ^ 31) : CV l E 1 yJ0_checkIndex_df160 cJ0_checkIndex_df160 2 none [.int (nI j), .int (nI n)] M M := by
  refine CT_intro (own := RJ0) (by decide +kernel) rfl (by simp [Value.category]) (Nat.le_of_ble_eq_true rfl) rfl (fun X C G => ?_)
  show J E X 0 [some (.int (nI j)), some (.int (nI n))] [] M
  refine J_iload_n C (dA DJ0_checkIndex_df160_0 0 rfl) rfl ?_
  refine J_iload_n C (dA DJ0_checkIndex_df160_0 1 rfl) rfl ?_
  refine J_getsF C wF_RJ0_1053 (dA DJ0_checkIndex_df160_0 2 rfl) (fun v hv => ?_)
  refine J_callS C (c_J3_checkIndex l E j n hj hn v hv) ky_J3_checkIndex_8e157 wS_yJ3_checkIndex_8e157 wM_RJ0_1059 (by decide) (dA DJ0_checkIndex_df160_0 3 rfl) rfl rfl (Nat.le_of_ble_eq_true rfl) (fun r M2 hp => ?_)
  obtain ⟨rfl, hm⟩ := hp
  rw [show M2 = M from hm]
  refine J_pop C (dA DJ0_checkIndex_df160_0 4 rfl) rfl ?_
  exact J_vret C G (dA DJ0_checkIndex_df160_0 5 rfl) ⟨rfl, rfl⟩
set_option maxRecDepth 4000 in
theorem c_J1_charAt (l : Launch) (E : jE) (k j : Nat) (hk : k < 18) (hj : j < sl k) : CI l E 2 yJ1_charAt_3b067 cJ1_charAt_3b067 2 (some .char) [.ref (jsv E k), .int (nI j)] M (sc k j) M := by
  refine CT_intro (own := RJ1) (by decide +kernel) rfl (by simp [Value.category]) (Nat.le_of_ble_eq_true rfl) rfl (fun X C G => ?_)
  show J E X 0 [some (.ref (jsv E k)), some (.int (nI j))] [] M
  have hl := sl_le k hk
  refine J_iload_n C (dA DJ1_charAt_3b067_0 0 rfl) rfl ?_
  refine J_aload_n C (dA DJ1_charAt_3b067_0 1 rfl) rfl ?_
  refine J_slen C hk (dA DJ1_charAt_3b067_0 2 rfl) ?_
  refine J_callS C (c_J0_checkIndex l E j (sl k) hj (by omega)) ky_J0_checkIndex_df160 wS_yJ0_checkIndex_df160 wM_RJ1_9 (by decide) (dA DJ1_charAt_3b067_0 3 rfl) rfl rfl (Nat.le_of_ble_eq_true rfl) (fun r M2 hp => ?_)
  obtain ⟨rfl, hm⟩ := hp
  rw [show M2 = M from hm]
  refine J_aload_n C (dA DJ1_charAt_3b067_0 4 rfl) rfl ?_
  refine J_iload_n C (dA DJ1_charAt_3b067_0 5 rfl) rfl ?_
  refine J_sb C hk hj (dA DJ1_charAt_3b067_0 6 rfl) ?_
  refine J_sipush (v := nI 255) C (dA DJ1_charAt_3b067_0 7 rfl) (by decide) ?_
  refine J_iand C (dA DJ1_charAt_3b067_0 8 rfl) ?_
  refine J_i2c C (dA DJ1_charAt_3b067_0 9 rfl) ?_
  rw [sc_c k hk j hj]
  exact J_zret C G (sc_n k hk j hj) (dA DJ1_charAt_3b067_0 10 rfl) ⟨rfl, rfl⟩
set_option maxRecDepth 4000 in
theorem c_J0_charAt (l : Launch) (E : jE) (k j : Nat) (hk : k < 18) (hj : j < sl k) : CI l E 3 yJ0_charAt_5068e cJ0_charAt_5068e 2 (some .char) [.ref (js E k), .int (nI j)] M (sc k j) M := by
  refine CT_intro (own := RJ0) (by decide +kernel) rfl (by simp [Value.category]) (Nat.le_of_ble_eq_true rfl) rfl (fun X C G => ?_)
  show J E X 0 [some (.ref (js E k)), some (.int (nI j))] [] M
  refine J_aload_n C (dA DJ0_charAt_5068e_0 0 rfl) rfl ?_
  refine J_callK C hk (c_J0_isLatin1 l E k hk) ky_J0_isLatin1_aae02 wI_yJ0_isLatin1_aae02 wE_yJ0_isLatin1_aae02 rfl wM_RJ0_492 (by decide) (dA DJ0_charAt_5068e_0 1 rfl) rfl rfl (Nat.le_of_ble_eq_true rfl) (fun r M2 hp => ?_)
  obtain ⟨rfl, hm⟩ := hp
  rw [show M2 = M from hm]
  refine J_if_eq_n (tgt := 16) C (by decide) (dA DJ0_charAt_5068e_0 2 rfl) (by decide) (fun h4 => ?_) (fun h4 => ?_)
  · exact absurd h4 (by decide)
  · refine J_aload_n C (dA DJ0_charAt_5068e_0 3 rfl) rfl ?_
    refine J_svalue C hk wF_RJ0_9 (dA DJ0_charAt_5068e_0 4 rfl) ?_
    refine J_iload_n C (dA DJ0_charAt_5068e_0 5 rfl) rfl ?_
    refine J_callS C (c_J1_charAt l E k j hk hj) ky_J1_charAt_3b067 wS_yJ1_charAt_3b067 wM_RJ0_495 (by decide) (dA DJ0_charAt_5068e_0 6 rfl) rfl rfl (Nat.le_of_ble_eq_true rfl) (fun r M2 hp => ?_)
    obtain ⟨rfl, hm⟩ := hp
    rw [show M2 = M from hm]
    exact J_zret C G (sc_n k hk j hj) (dA DJ0_charAt_5068e_0 7 rfl) ⟨rfl, rfl⟩
def tA (g : Nat → Int32) (n j : Nat) : Int32 := if j < n then g j else -1
def gT (b : Nat) (M : jM) : Nat → Int32 := fun j => M (b + j)
def sayB (g : Nat → Int32) (n i b e : Nat) : Bool := decide (e - b = sl i) && !(anyB (sl i) (fun k => decide (¬ tA g n (b + k) = sc i k)))
def wdN (g : Nat → Int32) (n b e : Nat) : Nat := firstN 18 (fun w => sayB g n w b e)
def isL (x : Int32) : Bool := inr x 97 122
def isD (x : Int32) : Bool := inr x 48 57
set_option maxRecDepth 4000 in
theorem c_X4_at (l : Launch) (E : jE) (n : Nat) (hn : n ≤ 120) (e0 : M 422 = nI n) (j : Nat) (hj : j < 2 ^ 30)  : K_X4_at l E [.ref (ja E 42), .int (nI j)] M (tA (gT 423 M) n j) (M) := by
  refine CT_intro (own := RX4) (by decide +kernel) rfl (by simp [Value.category]) (Nat.le_of_ble_eq_true rfl) rfl (fun X C G => ?_)
  show J E X 0 [some (.ref (ja E 42)), some (.int (nI j))] [] M
  refine J_iload_n C (dA DX4_at_0 0 rfl) rfl ?_
  refine J_if_lt_n (tgt := 21) C (by omega) (dA DX4_at_0 1 rfl) (by decide) (fun h1 => ?_) (fun h1 => ?_)
  · exfalso; omega
  · refine J_iload_n C (dA DX4_at_0 2 rfl) rfl ?_
    refine J_aload_n C (dA DX4_at_0 3 rfl) rfl ?_
    refine G_X4_length C wF_RX4_15 (dA DX4_at_0 4 rfl) ?_
    rw [e0]
    refine J_icmp_ge_n (tgt := 21) C (by omega) (by omega) (dA DX4_at_0 5 rfl) (by decide) (fun h9 => ?_) (fun h9 => ?_)
    · refine J_iconst (v := (-1)) C (dA DX4_at_0 11 rfl) (by decide) ?_
      exact J_iret C G (dA DX4_at_0 12 rfl) ⟨oi (by unfold tA; rw [if_neg (by omega)]), rfl⟩
    · refine J_aload_n C (dA DX4_at_0 6 rfl) rfl ?_
      refine G_X4_bytes C wF_RX4_9 (dA DX4_at_0 7 rfl) ?_
      refine J_iload_n C (dA DX4_at_0 8 rfl) rfl ?_
      refine R_1 C (hk := rfl) rfl (by omega) (dA DX4_at_0 9 rfl) ?_
      refine J_goto (tgt := 22) C (dA DX4_at_0 10 rfl) (by decide) ?_
      exact J_iret C G (dA DX4_at_0 12 rfl) ⟨oi (by unfold tA; rw [if_pos (by omega)]; rfl), rfl⟩
set_option maxRecDepth 4000 in
theorem c_X6_isLetter (l : Launch) (E : jE) (x : Int32)  : K_X6_isLetter l E [.int x] M (jb (isL x)) (M) := by
  refine CT_intro (own := RX6) (by decide +kernel) rfl (by simp [Value.category]) (Nat.le_of_ble_eq_true rfl) rfl (fun X C G => ?_)
  show J E X 0 [some (.int x)] [] M
  refine J_iload_n C (dA DX6_isLetter_0 0 rfl) rfl ?_
  refine J_bipush (v := nI 97) C (dA DX6_isLetter_0 1 rfl) (by decide) ?_
  refine J_icmp_lt_c (tgt := 16) C (by decide) (dA DX6_isLetter_0 2 rfl) (by decide) (fun h3 => ?_) (fun h3 => ?_)
  · refine J_iconst (v := nI 0) C (dA DX6_isLetter_0 8 rfl) (by decide) ?_
    first | exact J_zret C G rfl (dA DX6_isLetter_0 9 rfl) ⟨oi (zt (by omega)), rfl⟩ | exact J_zret C G rfl (dA DX6_isLetter_0 9 rfl) ⟨oi (zf (by omega)), rfl⟩
  · refine J_iload_n C (dA DX6_isLetter_0 3 rfl) rfl ?_
    refine J_bipush (v := nI 122) C (dA DX6_isLetter_0 4 rfl) (by decide) ?_
    refine J_icmp_gt_c (tgt := 16) C (by decide) (dA DX6_isLetter_0 5 rfl) (by decide) (fun h9 => ?_) (fun h9 => ?_)
    · refine J_iconst (v := nI 0) C (dA DX6_isLetter_0 8 rfl) (by decide) ?_
      first | exact J_zret C G rfl (dA DX6_isLetter_0 9 rfl) ⟨oi (zt (by omega)), rfl⟩ | exact J_zret C G rfl (dA DX6_isLetter_0 9 rfl) ⟨oi (zf (by omega)), rfl⟩
    · refine J_iconst (v := nI 1) C (dA DX6_isLetter_0 6 rfl) (by decide) ?_
      refine J_goto (tgt := 17) C (dA DX6_isLetter_0 7 rfl) (by decide) ?_
      first | exact J_zret C G rfl (dA DX6_isLetter_0 9 rfl) ⟨oi (zt (by omega)), rfl⟩ | exact J_zret C G rfl (dA DX6_isLetter_0 9 rfl) ⟨oi (zf (by omega)), rfl⟩
set_option maxRecDepth 4000 in
theorem c_X6_isDigit (l : Launch) (E : jE) (x : Int32)  : K_X6_isDigit l E [.int x] M (jb (isD x)) (M) := by
  refine CT_intro (own := RX6) (by decide +kernel) rfl (by simp [Value.category]) (Nat.le_of_ble_eq_true rfl) rfl (fun X C G => ?_)
  show J E X 0 [some (.int x)] [] M
  refine J_iload_n C (dA DX6_isDigit_0 0 rfl) rfl ?_
  refine J_bipush (v := nI 48) C (dA DX6_isDigit_0 1 rfl) (by decide) ?_
  refine J_icmp_lt_c (tgt := 16) C (by decide) (dA DX6_isDigit_0 2 rfl) (by decide) (fun h3 => ?_) (fun h3 => ?_)
  · refine J_iconst (v := nI 0) C (dA DX6_isDigit_0 8 rfl) (by decide) ?_
    first | exact J_zret C G rfl (dA DX6_isDigit_0 9 rfl) ⟨oi (zt (by omega)), rfl⟩ | exact J_zret C G rfl (dA DX6_isDigit_0 9 rfl) ⟨oi (zf (by omega)), rfl⟩
  · refine J_iload_n C (dA DX6_isDigit_0 3 rfl) rfl ?_
    refine J_bipush (v := nI 57) C (dA DX6_isDigit_0 4 rfl) (by decide) ?_
    refine J_icmp_gt_c (tgt := 16) C (by decide) (dA DX6_isDigit_0 5 rfl) (by decide) (fun h9 => ?_) (fun h9 => ?_)
    · refine J_iconst (v := nI 0) C (dA DX6_isDigit_0 8 rfl) (by decide) ?_
      first | exact J_zret C G rfl (dA DX6_isDigit_0 9 rfl) ⟨oi (zt (by omega)), rfl⟩ | exact J_zret C G rfl (dA DX6_isDigit_0 9 rfl) ⟨oi (zf (by omega)), rfl⟩
    · refine J_iconst (v := nI 1) C (dA DX6_isDigit_0 6 rfl) (by decide) ?_
      refine J_goto (tgt := 17) C (dA DX6_isDigit_0 7 rfl) (by decide) ?_
      first | exact J_zret C G rfl (dA DX6_isDigit_0 9 rfl) ⟨oi (zt (by omega)), rfl⟩ | exact J_zret C G rfl (dA DX6_isDigit_0 9 rfl) ⟨oi (zf (by omega)), rfl⟩
set_option maxRecDepth 4000 in
theorem c_X4_says (l : Launch) (E : jE) (n : Nat) (hn : n ≤ 120) (e0 : M 422 = nI n) (k b e : Nat) (hk : k < 18) (hbe : b ≤ e) (he : e ≤ 120)  : K_X4_says l E [.ref (ja E 42), .ref (js E k), .int (nI b), .int (nI e)] M (jb (sayB (gT 423 M) n k b e)) (M) := by
  refine CT_intro (own := RX4) (by decide +kernel) rfl (by simp [Value.category]) (Nat.le_of_ble_eq_true rfl) rfl (fun X C G => ?_)
  show J E X 0 [some (.ref (ja E 42)), some (.ref (js E k)), some (.int (nI b)), some (.int (nI e)), none] [] M
  have hs := sl_le k hk
  refine J_iload_n C (dA DX4_says_0 0 rfl) rfl ?_
  refine J_iload_n C (dA DX4_says_0 1 rfl) rfl ?_
  refine J_isub_n C hbe (dA DX4_says_0 2 rfl) ?_
  refine J_aload_n C (dA DX4_says_0 3 rfl) rfl ?_
  refine J_callK C hk (c_J0_length l E k hk) ky_J0_length_8abf5 wI_yJ0_length_8abf5 wE_yJ0_length_8abf5 rfl wM_RX4_19 (by decide) (dA DX4_says_0 4 rfl) rfl rfl (Nat.le_of_ble_eq_true rfl) (fun r M2 hp => ?_)
  obtain ⟨rfl, hm⟩ := hp
  rw [show M2 = M from hm]
  refine J_icmp_eq_n (tgt := 12) C (by omega) (by omega) (dA DX4_says_0 5 rfl) (by decide) (fun h7 => ?_) (fun h7 => ?_)
  · have hd := h7
    have loop : ∀ m i, i + m = sl k → (∀ j, j < i → decide (¬ tA (gT 423 M) n (b + j) = sc k j) = false) → J E X 15 [some (.ref (ja E 42)), some (.ref (js E k)), some (.int (nI b)), some (.int (nI e)), some (.int (nI i))] [] M := by
      intro m
      induction m with
      | zero =>
        intro i hi hg
        obtain rfl : sl k = i := by omega
        refine J_iload C (dA DX4_says_0 10 rfl) rfl ?_
        refine J_aload_n C (dA DX4_says_0 11 rfl) rfl ?_
        refine J_callK C hk (c_J0_length l E k hk) ky_J0_length_8abf5 wI_yJ0_length_8abf5 wE_yJ0_length_8abf5 rfl wM_RX4_19 (by decide) (dA DX4_says_0 12 rfl) rfl rfl (Nat.le_of_ble_eq_true rfl) (fun r M2 hp => ?_)
        obtain ⟨rfl, hm⟩ := hp
        rw [show M2 = M from hm]
        refine J_icmp_ge_n (tgt := 49) C (by omega) (by omega) (dA DX4_says_0 13 rfl) (by decide) (fun h21 => ?_) (fun h21 => ?_)
        · refine J_iconst (v := nI 1) C (dA DX4_says_0 27 rfl) (by decide) ?_
          exact J_zret C G rfl (dA DX4_says_0 28 rfl) ⟨oi (bt_t (by unfold sayB; rw [decide_eq_true hd, anyB_no hg]; rfl)), rfl⟩
        · exfalso; omega
      | succ m ih =>
        intro i hi hg
        refine J_iload C (dA DX4_says_0 10 rfl) rfl ?_
        refine J_aload_n C (dA DX4_says_0 11 rfl) rfl ?_
        refine J_callK C hk (c_J0_length l E k hk) ky_J0_length_8abf5 wI_yJ0_length_8abf5 wE_yJ0_length_8abf5 rfl wM_RX4_19 (by decide) (dA DX4_says_0 12 rfl) rfl rfl (Nat.le_of_ble_eq_true rfl) (fun r M2 hp => ?_)
        obtain ⟨rfl, hm⟩ := hp
        rw [show M2 = M from hm]
        refine J_icmp_ge_n (tgt := 49) C (by omega) (by omega) (dA DX4_says_0 13 rfl) (by decide) (fun h21 => ?_) (fun h21 => ?_)
        · exfalso; omega
        · refine J_aload_n C (dA DX4_says_0 14 rfl) rfl ?_
          refine J_iload_n C (dA DX4_says_0 15 rfl) rfl ?_
          refine J_iload C (dA DX4_says_0 16 rfl) rfl ?_
          first | refine J_iadd_n C (dA DX4_says_0 17 rfl) ?_ | refine J_iadd C (dA DX4_says_0 17 rfl) ?_
          refine V_X4_at C (c_X4_at l E n hn e0 (b + i) (by omega)) wM_RX4_24 (by decide) (dA DX4_says_0 18 rfl) rfl (Nat.le_of_ble_eq_true rfl) ?_
          refine J_aload_n C (dA DX4_says_0 19 rfl) rfl ?_
          refine J_iload C (dA DX4_says_0 20 rfl) rfl ?_
          refine J_callK C hk (c_J0_charAt l E k i hk (by omega)) ky_J0_charAt_5068e wI_yJ0_charAt_5068e wE_yJ0_charAt_5068e rfl wM_RX4_28 (by decide) (dA DX4_says_0 21 rfl) rfl rfl (Nat.le_of_ble_eq_true rfl) (fun r M2 hp => ?_)
          obtain ⟨rfl, hm⟩ := hp
          rw [show M2 = M from hm]
          refine J_icmp_eq (tgt := 43) C (dA DX4_says_0 22 rfl) (by decide) (fun h38 => ?_) (fun h38 => ?_)
          · first | refine J_inc1_4_5 C (dA DX4_says_0 25 rfl) rfl ?_ | refine J_iinc_4_5 C (dA DX4_says_0 25 rfl) rfl ?_
            refine J_goto (tgt := 15) C (dA DX4_says_0 26 rfl) (by decide) ?_
            exact ih (i + 1) (by omega) (fun j hj => by
              rcases Nat.lt_or_ge j i with z | z
              · exact hg j z
              · rw [show j = i by omega]; exact decide_eq_false (fun y => y h38))
          · refine J_iconst (v := nI 0) C (dA DX4_says_0 23 rfl) (by decide) ?_
            exact J_zret C G rfl (dA DX4_says_0 24 rfl) ⟨oi (bt_f (by unfold sayB; rw [anyB_yes (k := i) (by omega) (decide_eq_true h38)]; simp)), rfl⟩
    
    refine J_iconst (v := nI 0) C (dA DX4_says_0 8 rfl) (by decide) ?_
    refine J_ist_4_5 C (dA DX4_says_0 9 rfl) rfl ?_
    exact loop _ 0 (Nat.zero_add _) (fun j hj => by omega)
  · refine J_iconst (v := nI 0) C (dA DX4_says_0 6 rfl) (by decide) ?_
    exact J_zret C G rfl (dA DX4_says_0 7 rfl) ⟨oi (bt_f (by unfold sayB; rw [decide_eq_false h7]; rfl)), rfl⟩
set_option maxRecDepth 4000 in
theorem c_X6_nameOf (l : Launch) (E : jE) (k : Nat) (hk : k < 18)  : K_X6_nameOf l E [.int (nI k)] M (js E k) (M) := by
  refine CT_intro (own := RX6) (by decide +kernel) rfl (by simp [Value.category]) (Nat.le_of_ble_eq_true rfl) rfl (fun X C G => ?_)
  show J E X 0 [some (.int (nI k))] [] M
  rcases (show k = 0 ∨ k = 1 ∨ k = 2 ∨ k = 3 ∨ k = 4 ∨ k = 5 ∨ k = 6 ∨ k = 7 ∨ k = 8 ∨ k = 9 ∨ k = 10 ∨ k = 11 ∨ k = 12 ∨ k = 13 ∨ k = 14 ∨ k = 15 ∨ k = 16 ∨ k = 17 by omega) with rfl | rfl | rfl | rfl | rfl | rfl | rfl | rfl | rfl | rfl | rfl | rfl | rfl | rfl | rfl | rfl | rfl | rfl
  · refine J_iload_n C (dA DX6_nameOf_0 0 rfl) rfl ?_
    refine J_tabOut C (dA DX6_nameOf_0 1 rfl) (Or.inl (by decide)) (tgt := 135) (by decide) ?_
    refine J_ldcS (k := 0) C (by decide) rfl (dA DX6_nameOf_0 36 rfl) ?_
    exact J_aret C G (dA DX6_nameOf_0 37 rfl) ⟨rfl, rfl⟩
  · refine J_iload_n C (dA DX6_nameOf_0 0 rfl) rfl ?_
    refine J_tabIn C (dA DX6_nameOf_0 1 rfl) (by decide) (by decide) (off := 83) (by rfl) (tgt := 84) (by decide) ?_
    refine J_ldcS (k := 1) C (by decide) rfl (dA DX6_nameOf_0 2 rfl) ?_
    exact J_aret C G (dA DX6_nameOf_0 3 rfl) ⟨rfl, rfl⟩
  · refine J_iload_n C (dA DX6_nameOf_0 0 rfl) rfl ?_
    refine J_tabIn C (dA DX6_nameOf_0 1 rfl) (by decide) (by decide) (off := 86) (by rfl) (tgt := 87) (by decide) ?_
    refine J_ldcS (k := 2) C (by decide) rfl (dA DX6_nameOf_0 4 rfl) ?_
    exact J_aret C G (dA DX6_nameOf_0 5 rfl) ⟨rfl, rfl⟩
  · refine J_iload_n C (dA DX6_nameOf_0 0 rfl) rfl ?_
    refine J_tabIn C (dA DX6_nameOf_0 1 rfl) (by decide) (by decide) (off := 89) (by rfl) (tgt := 90) (by decide) ?_
    refine J_ldcS (k := 3) C (by decide) rfl (dA DX6_nameOf_0 6 rfl) ?_
    exact J_aret C G (dA DX6_nameOf_0 7 rfl) ⟨rfl, rfl⟩
  · refine J_iload_n C (dA DX6_nameOf_0 0 rfl) rfl ?_
    refine J_tabIn C (dA DX6_nameOf_0 1 rfl) (by decide) (by decide) (off := 92) (by rfl) (tgt := 93) (by decide) ?_
    refine J_ldcS (k := 4) C (by decide) rfl (dA DX6_nameOf_0 8 rfl) ?_
    exact J_aret C G (dA DX6_nameOf_0 9 rfl) ⟨rfl, rfl⟩
  · refine J_iload_n C (dA DX6_nameOf_0 0 rfl) rfl ?_
    refine J_tabIn C (dA DX6_nameOf_0 1 rfl) (by decide) (by decide) (off := 95) (by rfl) (tgt := 96) (by decide) ?_
    refine J_ldcS (k := 5) C (by decide) rfl (dA DX6_nameOf_0 10 rfl) ?_
    exact J_aret C G (dA DX6_nameOf_0 11 rfl) ⟨rfl, rfl⟩
  · refine J_iload_n C (dA DX6_nameOf_0 0 rfl) rfl ?_
    refine J_tabIn C (dA DX6_nameOf_0 1 rfl) (by decide) (by decide) (off := 98) (by rfl) (tgt := 99) (by decide) ?_
    refine J_ldcS (k := 6) C (by decide) rfl (dA DX6_nameOf_0 12 rfl) ?_
    exact J_aret C G (dA DX6_nameOf_0 13 rfl) ⟨rfl, rfl⟩
  · refine J_iload_n C (dA DX6_nameOf_0 0 rfl) rfl ?_
    refine J_tabIn C (dA DX6_nameOf_0 1 rfl) (by decide) (by decide) (off := 101) (by rfl) (tgt := 102) (by decide) ?_
    refine J_ldcS (k := 7) C (by decide) rfl (dA DX6_nameOf_0 14 rfl) ?_
    exact J_aret C G (dA DX6_nameOf_0 15 rfl) ⟨rfl, rfl⟩
  · refine J_iload_n C (dA DX6_nameOf_0 0 rfl) rfl ?_
    refine J_tabIn C (dA DX6_nameOf_0 1 rfl) (by decide) (by decide) (off := 104) (by rfl) (tgt := 105) (by decide) ?_
    refine J_ldcS (k := 8) C (by decide) rfl (dA DX6_nameOf_0 16 rfl) ?_
    exact J_aret C G (dA DX6_nameOf_0 17 rfl) ⟨rfl, rfl⟩
  · refine J_iload_n C (dA DX6_nameOf_0 0 rfl) rfl ?_
    refine J_tabIn C (dA DX6_nameOf_0 1 rfl) (by decide) (by decide) (off := 107) (by rfl) (tgt := 108) (by decide) ?_
    refine J_ldcS (k := 9) C (by decide) rfl (dA DX6_nameOf_0 18 rfl) ?_
    exact J_aret C G (dA DX6_nameOf_0 19 rfl) ⟨rfl, rfl⟩
  · refine J_iload_n C (dA DX6_nameOf_0 0 rfl) rfl ?_
    refine J_tabIn C (dA DX6_nameOf_0 1 rfl) (by decide) (by decide) (off := 110) (by rfl) (tgt := 111) (by decide) ?_
    refine J_ldcS (k := 10) C (by decide) rfl (dA DX6_nameOf_0 20 rfl) ?_
    exact J_aret C G (dA DX6_nameOf_0 21 rfl) ⟨rfl, rfl⟩
  · refine J_iload_n C (dA DX6_nameOf_0 0 rfl) rfl ?_
    refine J_tabIn C (dA DX6_nameOf_0 1 rfl) (by decide) (by decide) (off := 113) (by rfl) (tgt := 114) (by decide) ?_
    refine J_ldcS (k := 11) C (by decide) rfl (dA DX6_nameOf_0 22 rfl) ?_
    exact J_aret C G (dA DX6_nameOf_0 23 rfl) ⟨rfl, rfl⟩
  · refine J_iload_n C (dA DX6_nameOf_0 0 rfl) rfl ?_
    refine J_tabIn C (dA DX6_nameOf_0 1 rfl) (by decide) (by decide) (off := 116) (by rfl) (tgt := 117) (by decide) ?_
    refine J_ldcS (k := 12) C (by decide) rfl (dA DX6_nameOf_0 24 rfl) ?_
    exact J_aret C G (dA DX6_nameOf_0 25 rfl) ⟨rfl, rfl⟩
  · refine J_iload_n C (dA DX6_nameOf_0 0 rfl) rfl ?_
    refine J_tabIn C (dA DX6_nameOf_0 1 rfl) (by decide) (by decide) (off := 119) (by rfl) (tgt := 120) (by decide) ?_
    refine J_ldcS (k := 13) C (by decide) rfl (dA DX6_nameOf_0 26 rfl) ?_
    exact J_aret C G (dA DX6_nameOf_0 27 rfl) ⟨rfl, rfl⟩
  · refine J_iload_n C (dA DX6_nameOf_0 0 rfl) rfl ?_
    refine J_tabIn C (dA DX6_nameOf_0 1 rfl) (by decide) (by decide) (off := 122) (by rfl) (tgt := 123) (by decide) ?_
    refine J_ldcS (k := 14) C (by decide) rfl (dA DX6_nameOf_0 28 rfl) ?_
    exact J_aret C G (dA DX6_nameOf_0 29 rfl) ⟨rfl, rfl⟩
  · refine J_iload_n C (dA DX6_nameOf_0 0 rfl) rfl ?_
    refine J_tabIn C (dA DX6_nameOf_0 1 rfl) (by decide) (by decide) (off := 125) (by rfl) (tgt := 126) (by decide) ?_
    refine J_ldcS (k := 15) C (by decide) rfl (dA DX6_nameOf_0 30 rfl) ?_
    exact J_aret C G (dA DX6_nameOf_0 31 rfl) ⟨rfl, rfl⟩
  · refine J_iload_n C (dA DX6_nameOf_0 0 rfl) rfl ?_
    refine J_tabIn C (dA DX6_nameOf_0 1 rfl) (by decide) (by decide) (off := 128) (by rfl) (tgt := 129) (by decide) ?_
    refine J_ldcS (k := 16) C (by decide) rfl (dA DX6_nameOf_0 32 rfl) ?_
    exact J_aret C G (dA DX6_nameOf_0 33 rfl) ⟨rfl, rfl⟩
  · refine J_iload_n C (dA DX6_nameOf_0 0 rfl) rfl ?_
    refine J_tabIn C (dA DX6_nameOf_0 1 rfl) (by decide) (by decide) (off := 131) (by rfl) (tgt := 132) (by decide) ?_
    refine J_ldcS (k := 17) C (by decide) rfl (dA DX6_nameOf_0 34 rfl) ?_
    exact J_aret C G (dA DX6_nameOf_0 35 rfl) ⟨rfl, rfl⟩
set_option maxRecDepth 4000 in
theorem c_X6_wordAt (l : Launch) (E : jE) (n : Nat) (hn : n ≤ 120) (e0 : M 422 = nI n) (b e : Nat) (hbe : b ≤ e) (he : e ≤ 120)  : K_X6_wordAt l E [.ref (ja E 42), .int (nI b), .int (nI e)] M (nI (wdN (gT 423 M) n b e)) (M) := by
  refine CT_intro (own := RX6) (by decide +kernel) rfl (by simp [Value.category]) (Nat.le_of_ble_eq_true rfl) rfl (fun X C G => ?_)
  show J E X 0 [some (.ref (ja E 42)), some (.int (nI b)), some (.int (nI e)), none] [] M
  have loop : ∀ m i, i + m = 18 → (∀ j, j < i → sayB (gT 423 M) n j b e = false) → J E X 2 [some (.ref (ja E 42)), some (.int (nI b)), some (.int (nI e)), some (.int (nI i))] [] M := by
    intro m
    induction m with
    | zero =>
      intro i hi hg
      obtain rfl : 18 = i := by omega
      refine J_iload_n C (dA DX6_wordAt_0 2 rfl) rfl ?_
      refine J_bipush (v := nI 18) C (dA DX6_wordAt_0 3 rfl) (by decide) ?_
      refine J_icmp_ge_n (tgt := 27) C (by omega) (by omega) (dA DX6_wordAt_0 4 rfl) (by decide) (fun h5 => ?_) (fun h5 => ?_)
      · refine J_iload_n C (dA DX6_wordAt_0 14 rfl) rfl ?_
        have ef : wdN (gT 423 M) n b e = 18 := firstN_no hg
        exact J_iret C G (dA DX6_wordAt_0 15 rfl) ⟨oi (by rw [ef]), rfl⟩
      · exfalso; omega
    | succ m ih =>
      intro i hi hg
      refine J_iload_n C (dA DX6_wordAt_0 2 rfl) rfl ?_
      refine J_bipush (v := nI 18) C (dA DX6_wordAt_0 3 rfl) (by decide) ?_
      refine J_icmp_ge_n (tgt := 27) C (by omega) (by omega) (dA DX6_wordAt_0 4 rfl) (by decide) (fun h5 => ?_) (fun h5 => ?_)
      · exfalso; omega
      · refine J_aload_n C (dA DX6_wordAt_0 5 rfl) rfl ?_
        refine J_iload_n C (dA DX6_wordAt_0 6 rfl) rfl ?_
        refine V_X6_nameOf C (c_X6_nameOf l E i (by omega)) wM_RX6_53 (by decide) (dA DX6_wordAt_0 7 rfl) rfl (Nat.le_of_ble_eq_true rfl) ?_
        refine J_iload_n C (dA DX6_wordAt_0 8 rfl) rfl ?_
        refine J_iload_n C (dA DX6_wordAt_0 9 rfl) rfl ?_
        refine V_X4_says C (c_X4_says l E n hn e0 i b e (by omega) hbe he) wM_RX6_57 (by decide) (dA DX6_wordAt_0 10 rfl) rfl (Nat.le_of_ble_eq_true rfl) ?_
        refine J_if_ne_b (tgt := 27) C (dA DX6_wordAt_0 11 rfl) (by decide) (fun h18 => ?_) (fun h18 => ?_)
        · refine J_iload_n C (dA DX6_wordAt_0 14 rfl) rfl ?_
          have ef : wdN (gT 423 M) n b e = i := firstN_eq (by omega) hg h18
          exact J_iret C G (dA DX6_wordAt_0 15 rfl) ⟨oi (by rw [ef]), rfl⟩
        · first | refine J_inc1_3_4 C (dA DX6_wordAt_0 12 rfl) rfl ?_ | refine J_iinc_3_4 C (dA DX6_wordAt_0 12 rfl) rfl ?_
          refine J_goto (tgt := 2) C (dA DX6_wordAt_0 13 rfl) (by decide) ?_
          exact ih (i + 1) (by omega) (fun j hj => by
            rcases Nat.lt_or_ge j i with z | z
            · exact hg j z
            · rw [show j = i by omega]; exact h18)
  refine J_iconst (v := nI 0) C (dA DX6_wordAt_0 0 rfl) (by decide) ?_
  refine J_ist_3_4 C (dA DX6_wordAt_0 1 rfl) rfl ?_
  exact loop 18 0 (Nat.zero_add _) (fun j hj => by omega)
end PA
