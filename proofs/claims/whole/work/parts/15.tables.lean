section JZ
variable {l : Launch} {E : jE} {X : jX} {own : String} {cc : ByteArray} {nL d : Nat} {pc : Nat} {lv : List (Option Value)} {st : List Value} {M : jM}
theorem J_gets (C : jK l E X own cc nL d) {i k : Nat} (hk : k < 5) (hw : Cond.fieldLink own i RX7 (jtN k) "[I" ∈ W0) (hd : decode cc pc = .ok (.getstatic i, 3)) (kk : J E X (pc + 3) lv (.ref (jt E k) :: st) M) : J E X pc lv st M :=
  fun H locs ls hP hS hl => va_gets C.1.1 C.1.2.1 (C.2.2.1.1 k hk).1 hS C.1.2.2.2.1 (C.1.2.2.2.2 _ hw) (fun _ h => h) hd (kk H locs ls hP hS hl)
theorem J_getsN (C : jK l E X own cc nL d) {i k : Nat} (hk : k < 5) (hw : Cond.fieldLinkNest own i RX7 (jtN k) "[I" RX7 ∈ jNF) (hd : decode cc pc = .ok (.getstatic i, 3)) (kk : J E X (pc + 3) lv (.ref (jt E k) :: st) M) : J E X pc lv st M :=
  fun H locs ls hP hS hl => va_getsN C.1.1 C.1.2.1 (C.2.2.1.1 k hk).1 hS C.1.2.2.2.1 (va_Nw.use rfl (C.2.2.1.2.1 _ hw)) (fun _ h => h) hd (kk H locs ls hP hS hl)
theorem J_tab (C : jK l E X own cc nL d) {k j : Nat} {i : Int32} (hk : k < 5) (hi : i = nI j) (hj : j < (jtV k).length) (hd : decode cc pc = .ok (.iaload, 1)) (kk : J E X (pc + 1) lv (.int ((jtV k).getD j 0) :: st) M) : J E X pc lv (.int i :: .ref (jt E k) :: st) M := by
  intro H locs ls hP hS hl
  have hlen : (jtV k).length < 8 := by
    rcases k with _ | _ | _ | _ | _ | k <;> first | decide | omega
  obtain ⟨h1, h2⟩ := j_ix hi hj (by omega)
  exact va_ti C.1.1 C.1.2.1 (C.2.2.1.1 k hk).2 hS h1 (by rw [h2]) hd (kk H locs ls hP hS hl)
theorem J_ldc_w (C : jK l E X own cc nL d) {i : Nat} {v : Int32} (hw : Cond.constant own i v ∈ W0) (hd : decode cc pc = .ok (.ldc_w i, 3)) (k : J E X (pc + 3) lv (.int v :: st) M) : J E X pc lv st M :=
  fun H locs ls hP hS hl => lv_ldcw C.1.1 C.1.2.1 C.1.2.2.2.1 (C.1.2.2.2.2 _ hw) hd (k H locs ls hP hS hl)
set_option maxRecDepth 100000 in
theorem wC_min : Cond.code Lib.Math.min.name Lib.Math.min.code 2 (some .int) ∈ W0 := W0_t (i := 312) rfl rfl
theorem wS_min : Cond.static Lib.Math.min.name ∈ W0 := wS_yJ9_min_7cf53
theorem J_min (C : jK l E X own cc nL d) {i : Nat} {x y : Int32} (hw : Cond.methodLink own i Lib.Math.min.name ∈ W0) (h0 : 0 < d) (hd : decode cc pc = .ok (.invokestatic i, 3)) (hn : lv.length = nL) (hcat : (st.map fun v => v.category).sum ≤ 8) (kk : J E X (pc + 3) lv (.int (if y < x then y else x) :: st) M) : J E X pc lv (.int y :: .int x :: st) M := by
  intro H locs ls hP hS hl
  have h1 := C.2.2.2.2.2.2.1
  have h2 := C.2.2.2.2.2.2.2.1
  exact va_mmin C.1.1 C.1.2.1 (by rw [C.1.2.2.1, hl.1, hn]) C.1.2.2.2.1 (C.1.2.2.2.2 _ hw) (C.1.2.2.2.2 _ wS_min) (C.1.2.2.2.2 _ wN_RJ9) (C.1.2.2.2.2 _ wC_min) (by omega) (by omega) C.2.2.2.2.2.2.2.2.1 C.2.2.2.2.2.2.2.2.2.1 hd (kk H locs ls hP hS hl)
theorem nI_min {a b : Nat} (ha : a < 2 ^ 31) (hb : b < 2 ^ 31) : (if nI b < nI a then nI b else nI a) = nI (min a b) := by
  by_cases h : b < a
  · rw [if_pos ((nI_ltI hb ha).mpr h), Nat.min_eq_right (by omega)]
  · rw [if_neg (fun z => h ((nI_ltI hb ha).mp z)), Nat.min_eq_left (by omega)]
theorem J_min_n (C : jK l E X own cc nL d) {i : Nat} {a b : Nat} (hw : Cond.methodLink own i Lib.Math.min.name ∈ W0) (ha : a < 2 ^ 31) (hb : b < 2 ^ 31) (h0 : 0 < d) (hd : decode cc pc = .ok (.invokestatic i, 3)) (hn : lv.length = nL) (hcat : (st.map fun v => v.category).sum ≤ 8) (kk : J E X (pc + 3) lv (.int (nI (min a b)) :: st) M) : J E X pc lv (.int (nI b) :: .int (nI a) :: st) M :=
  J_min C hw h0 hd hn hcat (by rw [nI_min ha hb]; exact kk)
/-- a copy of q numbers, out of a row into a row -/
def jcp (M : jM) (b0 s0 b1 s1 p0 p1 q : Nat) : jM := fun a => if b1 + s1 * p1 ≤ a ∧ a < b1 + s1 * (p1 + q) ∧ (a - b1) % s1 = 0 then M (b0 + s0 * (p0 + ((a - b1) / s1 - p1))) else M a
theorem jcp_at {M : jM} {b0 s0 b1 s1 p0 p1 q j : Nat} (hs : 0 < s1) : jcp M b0 s0 b1 s1 p0 p1 q (b1 + s1 * j) = if p1 ≤ j ∧ j < p1 + q then M (b0 + s0 * (p0 + (j - p1))) else M (b1 + s1 * j) := by
  unfold jcp
  rw [Nat.add_sub_cancel_left, Nat.mul_mod_right, Nat.mul_div_cancel_left _ hs]
  by_cases h : p1 ≤ j ∧ j < p1 + q
  · have h1 : s1 * p1 ≤ s1 * j := Nat.mul_le_mul_left _ h.1
    have h2 : s1 * j < s1 * (p1 + q) := Nat.mul_lt_mul_of_pos_left h.2 hs
    rw [if_pos h, if_pos ⟨by omega, by omega, rfl⟩]
  · rw [if_neg h, if_neg]
    rintro ⟨h1, h2, -⟩
    have h3 : s1 * p1 ≤ s1 * j := by omega
    have h4 : s1 * j < s1 * (p1 + q) := by omega
    exact h ⟨Nat.le_of_mul_le_mul_left h3 hs, Nat.lt_of_mul_lt_mul_left h4⟩
theorem jcp_out {M : jM} {b0 s0 b1 s1 p0 p1 q a : Nat} (hs : 0 < s1) (h : ∀ j, p1 ≤ j → j < p1 + q → a ≠ b1 + s1 * j) : jcp M b0 s0 b1 s1 p0 p1 q a = M a := by
  unfold jcp
  rw [if_neg]
  rintro ⟨h1, h2, h3⟩
  have e : a - b1 = s1 * ((a - b1) / s1) := by
    have := Nat.div_add_mod (a - b1) s1
    omega
  have hb : b1 ≤ a := Nat.le_trans (Nat.le_add_right _ _) h1
  have e2 : a = b1 + s1 * ((a - b1) / s1) := by omega
  have h4 : s1 * p1 ≤ s1 * ((a - b1) / s1) := by omega
  have h5 : s1 * ((a - b1) / s1) < s1 * (p1 + q) := by omega
  exact h _ (Nat.le_of_mul_le_mul_left h4 hs) (Nat.lt_of_mul_lt_mul_left h5) e2
theorem J_copy (C : jK l E X own cc nL d) {i k0 k1 n0 b0 s0 n1 b1 s1 p0 p1 q : Nat} (h0 : jL[k0]? = some (.inl (0, n0, b0, s0))) (h1 : jL[k1]? = some (.inl (0, n1, b1, s1))) (hq0 : p0 + q ≤ n0) (hq1 : p1 + q ≤ n1) (hw : Cond.methodLink own i arraycopyName ∈ W0) (h00 : 0 < d) (hd : decode cc pc = .ok (.invokestatic i, 3)) (hn : lv.length = nL) (hcat : (st.map fun v => v.category).sum ≤ 8) (kk : J E X (pc + 3) lv st (jcp M b0 s0 b1 s1 p0 p1 q)) (hn0 : n0 < 1000 := by decide) (hn1 : n1 < 1000 := by decide) (hs1 : 0 < s1 := by decide) : J E X pc lv (.int (nI q) :: .int (nI p1) :: .ref (ja E k1) :: .int (nI p0) :: .ref (ja E k0) :: st) M := by
  intro H locs ls hP hS hl
  have g1 := C.2.2.2.2.2.2.1
  have g2 := C.2.2.2.2.2.2.2.1
  have c0 : (nI p0).toNatClampNeg = p0 := nI_clamp (by omega)
  have c1 : (nI p1).toNatClampNeg = p1 := nI_clamp (by omega)
  have c2 : (nI q).toNatClampNeg = q := nI_clamp (by omega)
  refine va_copyi C.1.1 C.1.2.1 (by rw [C.1.2.2.1, hl.1, hn]) C.1.2.2.2.1 (C.1.2.2.2.2 _ hw) (C.1.2.2.2.2 _ wV_java_lang_System_arraycopy_Ljava_lang_Object_ILjava_lang_Object_II_V_MethodName) (C.1.2.2.2.2 _ wS_java_lang_System_arraycopy_Ljava_lang_Object_ILjava_lang_Object_II_V_MethodName) (C.1.2.2.2.2 _ wN_RJ10) C.2.1 hP (jD_of C.2.2.2.1 C.2.2.2.2.1) hS k0 k1 0 0 (jW_at h0) (jW_at h1) rfl rfl rfl (nI_pos (by omega)) (nI_pos (by omega)) (nI_pos (by omega)) (by rw [c0, c2]; exact hq0) (by rw [c1, c2]; exact hq1) (fun _ _ => rfl) (by omega) ?_ hd (fun H1 locs1 hP1 _ hS1 => ?_)
  · have : nativeFrameWords "java/lang/System" "arraycopy" 5 + 11 ≤ 30 := by decide
    omega
  · have h := jW_set (E := E) (M := M) (M' := jcp M b0 s0 b1 s1 p0 p1 q) h1 (fun a ha => jcp_out hs1 (fun j hj1 hj2 z => ha (by rw [z]; exact jown_of h1 (List.mem_map.mpr ⟨j, List.mem_range.mpr (show j < n1 by omega), rfl⟩))))
    have e : jcA (jcp M b0 s0 b1 s1 p0 p1 q) n1 b1 s1 = va_cpy (jcA M n0 b0 s0) (jcA M n1 b1 s1) p0 p1 q := by
      funext j
      unfold va_cpy jcA
      by_cases hj : j < n1
      · rw [if_pos hj, jcp_at hs1]
        by_cases hp : p1 ≤ j ∧ j < p1 + q
        · rw [if_pos hp, if_pos hp, if_pos (by omega)]
        · rw [if_neg hp, if_neg hp, if_pos hj]
      · rw [if_neg hj, if_neg (by omega), if_neg hj]
    have h' : (jW E M).set k1 (ja E k1, .inl (E.2.2.2.1 0, n1, .inl (va_cpy (jcA M n0 b0 s0) (jcA M n1 b1 s1) p0 p1 q))) = jW E (jcp M b0 s0 b1 s1 p0 p1 q) := by
      rw [← e]; exact h
    rw [c0, c1, c2] at hP1
    exact kk H1 locs1 ls (h' ▸ hP1) hS1 hl
end JZ
