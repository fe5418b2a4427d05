def FF : List Cond := flatC (Jvm.Cond.and given_1 narrow_1)
def qx (l : List Nat) (i : Nat) : Nat := l.getD i 0
theorem tb_in {i : Nat} {w : Cond} (h : tables_1[i]? = some w) : w ∈ lw_tbl := List.mem_append_right _ (List.mem_of_getElem? h)
section ST
variable {s : State} {b : Nat}
theorem st_K (hts : ∀ w ∈ lw_tbl, w.before #[Value.ref b] s = true) : ∃ (D : va_G) (τ : Nat → ClassId), va_K D jcl (nty τ) s := by
  have hw : ∀ w ∈ W0, w.before #[Value.ref b] s = true := fun w h => hts w (W0_tbl w h)
  obtain ⟨c0, i0, k0⟩ := u_known (C := RX0) (T := TX0) (N := 4) (n := 4) hw inX0 (hw _ wT_RX0)
  obtain ⟨c1, i1, k1⟩ := u_known (C := RX1) (T := TX1) (N := 7) (n := 7) hw inX1 (hw _ wT_RX1)
  obtain ⟨c2, i2, k2⟩ := u_known (C := RX2) (T := TX2) (N := 1) (n := 1) hw inX2 (hw _ wT_RX2)
  obtain ⟨c3, i3, k3⟩ := u_known (C := RX3) (T := TX3) (N := 3) (n := 3) hw inX3 (hw _ wT_RX3)
  obtain ⟨c4, i4, k4⟩ := u_known (C := RX4) (T := TX4) (N := 2) (n := 2) hw inX4 (hw _ wT_RX4)
  obtain ⟨c5, i5, k5⟩ := u_known (C := RX5) (T := TX5) (N := 2) (n := 2) hw inX5 (hw _ wT_RX5)
  obtain ⟨c6, i6, k6⟩ := u_known (C := RX6) (T := TX6) (N := 4) (n := 4) hw inX6 (hw _ wT_RX6)
  obtain ⟨c7, i7, k7⟩ := u_known (C := RX7) (T := TX7) (N := 10) (n := 10) hw inX7 (hw _ wT_RX7)
  obtain ⟨c8, i8, k8⟩ := u_known (C := RX8) (T := TX8) (N := 24) (n := 24) hw inX8 (hw _ wT_RX8)
  obtain ⟨a0, h0, m0, f0, g0, e0⟩ := Cond.arrayClass_spec (hw _ wA_int)
  obtain ⟨a1, h1, m1, f1, g1, e1⟩ := Cond.arrayClass_spec (hw _ wA_char)
  obtain ⟨m2, a2, h2, p2, g2, e2, f2⟩ := Cond.arrayOver_specA (hts _ (tb_in (i := 32) (w := .arrayOver (.array .int)) (by decide +kernel)))
  obtain ⟨m3, a3, h3, p3, q3, g3, e3, f3⟩ := Cond.arrayOver_spec (hts _ (tb_in (i := 149) (w := .arrayOver (.object RX3)) (by decide +kernel)))
  refine ⟨(fun k => [c0, c1, c2, c3, c4, c5, c6, c7, c8].getD k c0, fun k => [i0, i1, i2, i3, i4, i5, i6, i7, i8].getD k i0), fun k => [a0, a1, a2, a3].getD k a0, fun c q hq => ?_, fun k q hk => ?_⟩
  · match c, hq with
    | 0, hq => cases hq; exact k0
    | 1, hq => cases hq; exact k1
    | 2, hq => cases hq; exact k2
    | 3, hq => cases hq; exact k3
    | 4, hq => cases hq; exact k4
    | 5, hq => cases hq; exact k5
    | 6, hq => cases hq; exact k6
    | 7, hq => cases hq; exact k7
    | 8, hq => cases hq; exact k8
    | c + 9, hq => cases hq
  · match k, hk with
    | 0, hk => cases hk; exact ⟨fun N z => ⟨(fun k h => by cases h), h0, g0, m0, e0⟩, f0⟩
    | 1, hk => cases hk; exact ⟨fun N z => ⟨(fun k h => by cases h), h1, g1, m1, e1⟩, f1⟩
    | 2, hk => cases hk; exact ⟨fun N z => ⟨(fun k h => by cases h), h2, g2, m2, e2⟩, f2⟩
    | 3, hk => cases hk; exact ⟨fun N z => ⟨(fun k h => by cases h), h3, g3, m3, e3⟩, h3, m3, g3, e3, p3, f3⟩
    | k + 4, hk => cases hk
theorem st_N (hts : ∀ w ∈ lw_tbl, w.before #[Value.ref b] s = true) : NF s := by
  refine ⟨va_AOA.of (hts _ (tb_in (i := 32) (by decide +kernel))), va_AO.of (hts _ (tb_in (i := 149) (by decide +kernel))), fun q hq => ?_⟩
  simp only [nNs, List.mem_cons, List.not_mem_nil, or_false] at hq
  rcases hq with rfl | rfl | rfl | rfl | rfl | rfl
  · exact va_Nw.of rfl (hts _ (tb_in (i := 70) (by decide +kernel)))
  · exact va_Nw.of rfl (hts _ (tb_in (i := 93) (by decide +kernel)))
  · exact va_Nw.of rfl (hts _ (tb_in (i := 103) (by decide +kernel)))
  · exact va_Nw.of rfl (hts _ (tb_in (i := 118) (by decide +kernel)))
  · exact va_Nw.of rfl (hts _ (tb_in (i := 124) (by decide +kernel)))
  · exact va_Nw.of rfl (hts _ (tb_in (i := 151) (by decide +kernel)))
def AH (s : State) : Nat → Prop := fun q => s.heap.size ≤ q
theorem st_A : ∀ a : Nat, a < s.heap.size → ¬ AH s a := fun a h => Nat.not_le.mpr h
theorem st_t0 (hts : ∀ w ∈ lw_tbl, w.before #[Value.ref b] s = true) (hs : ∀ w ∈ FF, w.before #[Value.ref b] s = true) : ∃ t : Nat, va_Z RX7 (jtN 0) "[I" (.ref t) (AH s) s s.heap ∧ va_T .int t (jtV 0).length (fun j => .int ((jtV 0).getD j 0)) (AH s) s s.heap := by
  have hel : ∀ j : Nat, j < 6 → (Term.elem (.static RX7 "POND_LEAST" "[I") (.int (Int32.ofNat j))).eval #[Value.ref b] s none [] s = some (.int ((jtV 0).getD j 0)) := fun j hj => by
    match j, hj with
    | 0, _ => exact va_eqt (hs _ (List.mem_of_getElem? (i := 7) (by decide +kernel)))
    | 1, _ => exact va_eqt (hs _ (List.mem_of_getElem? (i := 8) (by decide +kernel)))
    | 2, _ => exact va_eqt (hs _ (List.mem_of_getElem? (i := 9) (by decide +kernel)))
    | 3, _ => exact va_eqt (hs _ (List.mem_of_getElem? (i := 10) (by decide +kernel)))
    | 4, _ => exact va_eqt (hs _ (List.mem_of_getElem? (i := 11) (by decide +kernel)))
    | 5, _ => exact va_eqt (hs _ (List.mem_of_getElem? (i := 12) (by decide +kernel)))
    | j + 6, hj => exact absurd hj (by omega)
  obtain ⟨t, h1, h2⟩ := va_Tof (tm := (.static RX7 "POND_LEAST" "[I")) (ty := .int) (N := 6) (f := fun j => .int ((jtV 0).getD j 0)) (by decide) (hs _ (List.mem_of_getElem? (i := 5) (by decide +kernel))) (va_eqt (hs _ (List.mem_of_getElem? (i := 6) (by decide +kernel)))) hel (st_A (s := s))
  exact ⟨t, va_Zof (hts _ (tb_in (i := 230) (by decide +kernel))) (hts _ (W0_tbl _ wN_RX7)) h1 st_A, h2⟩
theorem st_t1 (hts : ∀ w ∈ lw_tbl, w.before #[Value.ref b] s = true) (hs : ∀ w ∈ FF, w.before #[Value.ref b] s = true) : ∃ t : Nat, va_Z RX7 (jtN 1) "[I" (.ref t) (AH s) s s.heap ∧ va_T .int t (jtV 1).length (fun j => .int ((jtV 1).getD j 0)) (AH s) s s.heap := by
  have hel : ∀ j : Nat, j < 6 → (Term.elem (.static RX7 "POND_MOST" "[I") (.int (Int32.ofNat j))).eval #[Value.ref b] s none [] s = some (.int ((jtV 1).getD j 0)) := fun j hj => by
    match j, hj with
    | 0, _ => exact va_eqt (hs _ (List.mem_of_getElem? (i := 16) (by decide +kernel)))
    | 1, _ => exact va_eqt (hs _ (List.mem_of_getElem? (i := 17) (by decide +kernel)))
    | 2, _ => exact va_eqt (hs _ (List.mem_of_getElem? (i := 18) (by decide +kernel)))
    | 3, _ => exact va_eqt (hs _ (List.mem_of_getElem? (i := 19) (by decide +kernel)))
    | 4, _ => exact va_eqt (hs _ (List.mem_of_getElem? (i := 20) (by decide +kernel)))
    | 5, _ => exact va_eqt (hs _ (List.mem_of_getElem? (i := 21) (by decide +kernel)))
    | j + 6, hj => exact absurd hj (by omega)
  obtain ⟨t, h1, h2⟩ := va_Tof (tm := (.static RX7 "POND_MOST" "[I")) (ty := .int) (N := 6) (f := fun j => .int ((jtV 1).getD j 0)) (by decide) (hs _ (List.mem_of_getElem? (i := 14) (by decide +kernel))) (va_eqt (hs _ (List.mem_of_getElem? (i := 15) (by decide +kernel)))) hel (st_A (s := s))
  exact ⟨t, va_Zof (hts _ (tb_in (i := 232) (by decide +kernel))) (hts _ (W0_tbl _ wN_RX7)) h1 st_A, h2⟩
theorem st_t2 (hts : ∀ w ∈ lw_tbl, w.before #[Value.ref b] s = true) (hs : ∀ w ∈ FF, w.before #[Value.ref b] s = true) : ∃ t : Nat, va_Z RX7 (jtN 2) "[I" (.ref t) (AH s) s s.heap ∧ va_T .int t (jtV 2).length (fun j => .int ((jtV 2).getD j 0)) (AH s) s s.heap := by
  have hel : ∀ j : Nat, j < 3 → (Term.elem (.static RX7 "THING_LEAST" "[I") (.int (Int32.ofNat j))).eval #[Value.ref b] s none [] s = some (.int ((jtV 2).getD j 0)) := fun j hj => by
    match j, hj with
    | 0, _ => exact va_eqt (hs _ (List.mem_of_getElem? (i := 35) (by decide +kernel)))
    | 1, _ => exact va_eqt (hs _ (List.mem_of_getElem? (i := 36) (by decide +kernel)))
    | 2, _ => exact va_eqt (hs _ (List.mem_of_getElem? (i := 37) (by decide +kernel)))
    | j + 3, hj => exact absurd hj (by omega)
  obtain ⟨t, h1, h2⟩ := va_Tof (tm := (.static RX7 "THING_LEAST" "[I")) (ty := .int) (N := 3) (f := fun j => .int ((jtV 2).getD j 0)) (by decide) (hs _ (List.mem_of_getElem? (i := 33) (by decide +kernel))) (va_eqt (hs _ (List.mem_of_getElem? (i := 34) (by decide +kernel)))) hel (st_A (s := s))
  exact ⟨t, va_Zof (hts _ (tb_in (i := 291) (by decide +kernel))) (hts _ (W0_tbl _ wN_RX7)) h1 st_A, h2⟩
theorem st_t3 (hts : ∀ w ∈ lw_tbl, w.before #[Value.ref b] s = true) (hs : ∀ w ∈ FF, w.before #[Value.ref b] s = true) : ∃ t : Nat, va_Z RX7 (jtN 3) "[I" (.ref t) (AH s) s s.heap ∧ va_T .int t (jtV 3).length (fun j => .int ((jtV 3).getD j 0)) (AH s) s s.heap := by
  have hel : ∀ j : Nat, j < 3 → (Term.elem (.static RX7 "THING_MOST" "[I") (.int (Int32.ofNat j))).eval #[Value.ref b] s none [] s = some (.int ((jtV 3).getD j 0)) := fun j hj => by
    match j, hj with
    | 0, _ => exact va_eqt (hs _ (List.mem_of_getElem? (i := 41) (by decide +kernel)))
    | 1, _ => exact va_eqt (hs _ (List.mem_of_getElem? (i := 42) (by decide +kernel)))
    | 2, _ => exact va_eqt (hs _ (List.mem_of_getElem? (i := 43) (by decide +kernel)))
    | j + 3, hj => exact absurd hj (by omega)
  obtain ⟨t, h1, h2⟩ := va_Tof (tm := (.static RX7 "THING_MOST" "[I")) (ty := .int) (N := 3) (f := fun j => .int ((jtV 3).getD j 0)) (by decide) (hs _ (List.mem_of_getElem? (i := 39) (by decide +kernel))) (va_eqt (hs _ (List.mem_of_getElem? (i := 40) (by decide +kernel)))) hel (st_A (s := s))
  exact ⟨t, va_Zof (hts _ (tb_in (i := 293) (by decide +kernel))) (hts _ (W0_tbl _ wN_RX7)) h1 st_A, h2⟩
theorem st_t4 (hts : ∀ w ∈ lw_tbl, w.before #[Value.ref b] s = true) (hs : ∀ w ∈ FF, w.before #[Value.ref b] s = true) : ∃ t : Nat, va_Z RX7 (jtN 4) "[I" (.ref t) (AH s) s s.heap ∧ va_T .int t (jtV 4).length (fun j => .int ((jtV 4).getD j 0)) (AH s) s s.heap := by
  have hel : ∀ j : Nat, j < 7 → (Term.elem (.static RX7 "KINDS_OF" "[I") (.int (Int32.ofNat j))).eval #[Value.ref b] s none [] s = some (.int ((jtV 4).getD j 0)) := fun j hj => by
    match j, hj with
    | 0, _ => exact va_eqt (hs _ (List.mem_of_getElem? (i := 25) (by decide +kernel)))
    | 1, _ => exact va_eqt (hs _ (List.mem_of_getElem? (i := 26) (by decide +kernel)))
    | 2, _ => exact va_eqt (hs _ (List.mem_of_getElem? (i := 27) (by decide +kernel)))
    | 3, _ => exact va_eqt (hs _ (List.mem_of_getElem? (i := 28) (by decide +kernel)))
    | 4, _ => exact va_eqt (hs _ (List.mem_of_getElem? (i := 29) (by decide +kernel)))
    | 5, _ => exact va_eqt (hs _ (List.mem_of_getElem? (i := 30) (by decide +kernel)))
    | 6, _ => exact va_eqt (hs _ (List.mem_of_getElem? (i := 31) (by decide +kernel)))
    | j + 7, hj => exact absurd hj (by omega)
  obtain ⟨t, h1, h2⟩ := va_Tof (tm := (.static RX7 "KINDS_OF" "[I")) (ty := .int) (N := 7) (f := fun j => .int ((jtV 4).getD j 0)) (by decide) (hs _ (List.mem_of_getElem? (i := 23) (by decide +kernel))) (va_eqt (hs _ (List.mem_of_getElem? (i := 24) (by decide +kernel)))) hel (st_A (s := s))
  exact ⟨t, va_Zof (hts _ (tb_in (i := 274) (by decide +kernel))) (hts _ (W0_tbl _ wN_RX7)) h1 st_A, h2⟩
theorem st_W (hts : ∀ w ∈ lw_tbl, w.before #[Value.ref b] s = true) : ∀ w ∈ jNF, va_Nw w s := by
  intro w hw
  simp only [jNF, List.mem_cons, List.not_mem_nil, or_false] at hw
  rcases hw with rfl | rfl | rfl | rfl | rfl
  · exact va_Nw.of rfl (hts _ (tb_in (i := 273) (by decide +kernel)))
  · exact va_Nw.of rfl (hts _ (tb_in (i := 713) (by decide +kernel)))
  · exact va_Nw.of rfl (hts _ (tb_in (i := 714) (by decide +kernel)))
  · exact va_Nw.of rfl (hts _ (tb_in (i := 728) (by decide +kernel)))
  · exact va_Nw.of rfl (hts _ (tb_in (i := 729) (by decide +kernel)))
def tmS (i : Nat) : Term := .string RX6 (jsT.getD i (0, "")).1
def xEx : List Nat := [327, 49, 57, 66, 76, 88, 100, 113, 128, 143, 161, 181, 200, 220, 238, 259, 281, 304]
def xCo : List Nat := [328, 50, 58, 67, 77, 89, 101, 114, 129, 144, 162, 182, 201, 221, 239, 260, 282, 305]
def xAr : List Nat := [329, 51, 59, 68, 78, 90, 102, 115, 130, 145, 163, 183, 202, 222, 240, 261, 283, 306]
def xLe : List Nat := [330, 52, 60, 69, 79, 91, 103, 116, 131, 146, 164, 184, 203, 223, 241, 262, 284, 307]
def xEl : List (List Nat) := [[331, 332, 333, 334, 335], [53, 54, 55, 56], [61, 62, 63, 64], [70, 71, 72, 73], [80, 81, 82, 83, 84], [92, 93, 94, 95], [104, 105, 106, 107], [117, 118, 119, 120, 121], [132, 133, 134, 135], [147, 148, 149, 150, 151, 152], [165, 166, 167, 168, 169, 170, 171], [185, 186, 187, 188, 189], [204, 205, 206, 207, 208], [224, 225], [242, 243, 244, 245], [263, 264, 265, 266], [285, 286, 287, 288], [308, 309, 310]]
def xNe : List (List Nat) := [[0, 336, 337, 338, 339, 340, 341, 342, 343, 344, 345, 346, 347, 348, 349, 350, 351, 352], [336, 0, 65, 74, 85, 96, 108, 122, 136, 153, 172, 190, 209, 226, 246, 267, 289, 311], [337, 65, 0, 75, 86, 97, 109, 123, 137, 154, 173, 191, 210, 227, 247, 268, 290, 312], [338, 74, 75, 0, 87, 98, 110, 124, 138, 155, 174, 192, 211, 228, 248, 269, 291, 313], [339, 85, 86, 87, 0, 99, 111, 125, 139, 156, 175, 193, 212, 229, 249, 270, 292, 314], [340, 96, 97, 98, 99, 0, 112, 126, 140, 157, 176, 194, 213, 230, 250, 271, 293, 315], [341, 108, 109, 110, 111, 112, 0, 127, 141, 158, 177, 195, 214, 231, 251, 272, 294, 316], [342, 122, 123, 124, 125, 126, 127, 0, 142, 159, 178, 196, 215, 232, 252, 273, 295, 317], [343, 136, 137, 138, 139, 140, 141, 142, 0, 160, 179, 197, 216, 233, 253, 274, 296, 318], [344, 153, 154, 155, 156, 157, 158, 159, 160, 0, 180, 198, 217, 234, 254, 275, 297, 319], [345, 172, 173, 174, 175, 176, 177, 178, 179, 180, 0, 199, 218, 235, 255, 276, 298, 320], [346, 190, 191, 192, 193, 194, 195, 196, 197, 198, 199, 0, 219, 236, 256, 277, 299, 321], [347, 209, 210, 211, 212, 213, 214, 215, 216, 217, 218, 219, 0, 237, 257, 278, 300, 322], [348, 226, 227, 228, 229, 230, 231, 232, 233, 234, 235, 236, 237, 0, 258, 279, 301, 323], [349, 246, 247, 248, 249, 250, 251, 252, 253, 254, 255, 256, 257, 258, 0, 280, 302, 324], [350, 267, 268, 269, 270, 271, 272, 273, 274, 275, 276, 277, 278, 279, 280, 0, 303, 325], [351, 289, 290, 291, 292, 293, 294, 295, 296, 297, 298, 299, 300, 301, 302, 303, 0, 326], [352, 311, 312, 313, 314, 315, 316, 317, 318, 319, 320, 321, 322, 323, 324, 325, 326, 0]]
def xSr : List Nat := [614, 597, 598, 599, 600, 601, 602, 603, 604, 605, 606, 607, 608, 609, 610, 611, 612, 613]
set_option maxRecDepth 100000 in
theorem y_Ex : ∀ i, i < 18 → FF[qx xEx i]? = some (Cond.exactly (tmS i) "java/lang/String") := by decide +kernel
set_option maxRecDepth 100000 in
theorem y_Co : ∀ i, i < 18 → FF[qx xCo i]? = some (Cond.eq (.field (tmS i) "java/lang/String" "coder" "B") (.int 0)) := by decide +kernel
set_option maxRecDepth 100000 in
theorem y_Ar : ∀ i, i < 18 → FF[qx xAr i]? = some (Cond.arrayOf (.field (tmS i) "java/lang/String" "value" "[B") .byte) := by decide +kernel
set_option maxRecDepth 100000 in
theorem y_Le : ∀ i, i < 18 → (jsB.map List.length).getD i 0 < 10 ∧ FF[qx xLe i]? = some (Cond.eq (.length (.field (tmS i) "java/lang/String" "value" "[B")) (.int (Int32.ofNat ((jsB.map List.length).getD i 0)))) := by decide +kernel
set_option maxRecDepth 100000 in
theorem y_El : ∀ i, i < 18 → ∀ j, j < (jsB.map List.length).getD i 0 → FF[qx (xEl.getD i []) j]? = some (Cond.eq (.elem (.field (tmS i) "java/lang/String" "value" "[B") (.int (Int32.ofNat j))) (.int ((jsB.getD i []).getD j 0))) := by decide +kernel
set_option maxRecDepth 100000 in
theorem y_Ne : ∀ i, i < 18 → ∀ j, j < 18 → i = j ∨ FF[qx (xNe.getD i []) j]? = some (Cond.not (Cond.eq (tmS i) (tmS j))) ∨ FF[qx (xNe.getD i []) j]? = some (Cond.not (Cond.eq (tmS j) (tmS i))) := by decide +kernel
set_option maxRecDepth 100000 in
theorem y_Sr : ∀ i, i < 18 → tables_1[qx xSr i]? = some (Cond.stringRef RX6 (jsT.getD i (0, "")).1 (jsT.getD i (0, "")).2) := by decide +kernel
theorem st_S (hts : ∀ w ∈ lw_tbl, w.before #[Value.ref b] s = true) (hs : ∀ w ∈ FF, w.before #[Value.ref b] s = true) : ∃ adK adV : Nat → Nat, vk_S 18 (jsB.map List.length) jsB adK adV (AH s) s s.heap ∧ ∀ i, i < 18 → vk_R RX6 ((jsT.getD i (0, "")).1) ((jsT.getD i (0, "")).2) (adK i) s := by
  obtain ⟨adK, adV, h1, h2⟩ := vk_Sof (args := #[Value.ref b]) (s := s) (N := 18) (tm := tmS) (len := jsB.map List.length) (byt := jsB) (A := AH s) (fun i hi => by have := (y_Le i hi).1; omega) (fun i hi => hs _ (List.mem_of_getElem? (y_Ex i hi))) (fun i hi => hs _ (List.mem_of_getElem? (y_Co i hi))) (fun i hi => hs _ (List.mem_of_getElem? (y_Ar i hi))) (fun i hi => hs _ (List.mem_of_getElem? (y_Le i hi).2)) (fun i hi j hj => hs _ (List.mem_of_getElem? (y_El i hi j hj))) (fun i j hi hj hij => by
      rcases y_Ne i hi j hj with h | h | h
      · exact absurd h hij
      · exact Or.inl (hs _ (List.mem_of_getElem? h))
      · exact Or.inr (hs _ (List.mem_of_getElem? h))) st_A
  exact ⟨adK, adV, h1, fun i hi => vk_R.of (hts _ (tb_in (y_Sr i hi))) (h2 i hi)⟩
theorem st_F (hts : ∀ w ∈ lw_tbl, w.before #[Value.ref b] s = true) (hs : ∀ w ∈ FF, w.before #[Value.ref b] s = true) : ∃ (jt js jsv : Nat → Nat), ∀ (dC : Nat → ClassId) (dI : Nat → Nat → Nat) (ad : Nat → Nat) (τ : Nat → ClassId), jF (dC, dI, ad, τ, jt, js, jsv) (AH s) s s.heap := by
  obtain ⟨t0, z0⟩ := st_t0 hts hs
  obtain ⟨t1, z1⟩ := st_t1 hts hs
  obtain ⟨t2, z2⟩ := st_t2 hts hs
  obtain ⟨t3, z3⟩ := st_t3 hts hs
  obtain ⟨t4, z4⟩ := st_t4 hts hs
  obtain ⟨js, jsv, hS, hR⟩ := st_S hts hs
  refine ⟨fun k => [t0, t1, t2, t3, t4].getD k 0, js, jsv, fun dC dI ad τ => ⟨fun k hk => ?_, st_W hts, hS, hR, ?_, ?_⟩⟩
  · match k, hk with
    | 0, _ => exact z0
    | 1, _ => exact z1
    | 2, _ => exact z2
    | 3, _ => exact z3
    | 4, _ => exact z4
    | k + 5, hk => exact absurd hk (by omega)
  · exact va_Zof (hts _ (tb_in (i := 628) (by decide +kernel))) (hts _ (tb_in (i := 13) (w := .initialized "java/lang/String") (by decide +kernel))) (va_eqt (hs _ (List.mem_of_getElem? (i := 44) (by decide +kernel)))) st_A
  · exact va_Zqof (hts _ (tb_in (i := 645) (by decide +kernel))) (hts _ (tb_in (i := 15) (w := .initialized "jdk/internal/util/Preconditions") (by decide +kernel))) (hs _ (List.mem_of_getElem? (i := 45) (by decide +kernel))) st_A
end ST
