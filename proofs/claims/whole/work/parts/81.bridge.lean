def M0 : jM := fun a => if a < 402 then sJ 10 (a % 134) else if a = 403 then nI 81 else if a = 543 then -1 else if 1100 ≤ a ∧ a < 1234 then sJ 10 (a - 1100) else if 1862 ≤ a ∧ a < 2006 then nI (ltr (a - 1862)) else 0
theorem jc_pf {n b s : Nat} {g : Nat → Int32} (h : ∀ i, i < n → M0 (b + s * i) = g i) : jcA M0 n b s = pf g n := by
  funext i
  unfold jcA pf
  by_cases hi : i < n
  · rw [if_pos hi, if_pos hi]; exact h i hi
  · rw [if_neg hi, if_neg hi]
theorem jc_z {n b s : Nat} (h : ∀ i, i < n → M0 (b + s * i) = 0) : jcA M0 n b s = zz0 := by
  funext i
  unfold jcA zz0
  by_cases hi : i < n
  · rw [if_pos hi]; exact h i hi
  · rw [if_neg hi]
theorem sJ_hi {i : Nat} (h : 134 ≤ i) : sJ 10 i = 0 := by
  unfold sJ
  rw [if_neg (by omega)]
  unfold sI
  rw [if_neg (by omega), if_neg (by omega)]
theorem jc_s {n b s : Nat} (hn : n = 134) (h : ∀ i, i < n → M0 (b + s * i) = sJ 10 i) : jcA M0 n b s = sJ 10 := by
  funext i
  unfold jcA
  by_cases hi : i < n
  · rw [if_pos hi]; exact h i hi
  · rw [if_neg hi, sJ_hi (by omega)]
def pl (k : Nat) : Nat := [1, 2, 3, 4, 5, 6, 7, 8, 9, 10, 11, 12, 13, 14, 15, 16, 17, 18, 19, 20, 21, 22, 23, 24, 25, 26, 27, 28, 29, 30, 31, 32, 33, 34, 35, 36, 37, 38, 39, 40, 41, 42, 43, 44, 45, 46, 47, 48, 49, 50, 51, 53, 55, 57, 52, 54, 56, 58, 59, 0, 60, 61, 62, 63, 64, 65, 66, 71, 72, 73, 74, 67, 68, 69, 70].getD k 0
set_option maxRecDepth 20000 in
theorem pl_i : ∀ i, i < 75 → ∀ j, j < 75 → pl i = pl j → i = j := by decide +kernel
set_option maxRecDepth 20000 in
theorem e_2 : jcA M0 16 4 6 = (pf gN 16) := jc_pf (by decide +kernel)
set_option maxRecDepth 20000 in
theorem e_3 : jcA M0 16 5 6 = (pf g3 16) := jc_pf (by decide +kernel)
set_option maxRecDepth 20000 in
theorem e_4 : jcA M0 16 6 6 = zz0 := jc_z (by decide +kernel)
set_option maxRecDepth 20000 in
theorem e_5 : jcA M0 16 7 6 = zz0 := jc_z (by decide +kernel)
set_option maxRecDepth 20000 in
theorem e_6 : jcA M0 16 8 6 = (pf gI 16) := jc_pf (by decide +kernel)
set_option maxRecDepth 20000 in
theorem e_7 : jcA M0 16 9 6 = (pf g10 16) := jc_pf (by decide +kernel)
set_option maxRecDepth 20000 in
theorem e_9 : jcA M0 8 100 3 = zz0 := jc_z (by decide +kernel)
set_option maxRecDepth 20000 in
theorem e_10 : jcA M0 8 101 3 = zz0 := jc_z (by decide +kernel)
set_option maxRecDepth 20000 in
theorem e_11 : jcA M0 8 102 3 = zz0 := jc_z (by decide +kernel)
set_option maxRecDepth 20000 in
theorem e_12 : jcA M0 10 124 1 = (pf gm 10) := jc_pf (by decide +kernel)
set_option maxRecDepth 20000 in
theorem e_15 : jcA M0 16 138 6 = (pf gN 16) := jc_pf (by decide +kernel)
set_option maxRecDepth 20000 in
theorem e_16 : jcA M0 16 139 6 = (pf g3 16) := jc_pf (by decide +kernel)
set_option maxRecDepth 20000 in
theorem e_17 : jcA M0 16 140 6 = zz0 := jc_z (by decide +kernel)
set_option maxRecDepth 20000 in
theorem e_18 : jcA M0 16 141 6 = zz0 := jc_z (by decide +kernel)
set_option maxRecDepth 20000 in
theorem e_19 : jcA M0 16 142 6 = (pf gI 16) := jc_pf (by decide +kernel)
set_option maxRecDepth 20000 in
theorem e_20 : jcA M0 16 143 6 = (pf g10 16) := jc_pf (by decide +kernel)
set_option maxRecDepth 20000 in
theorem e_22 : jcA M0 8 234 3 = zz0 := jc_z (by decide +kernel)
set_option maxRecDepth 20000 in
theorem e_23 : jcA M0 8 235 3 = zz0 := jc_z (by decide +kernel)
set_option maxRecDepth 20000 in
theorem e_24 : jcA M0 8 236 3 = zz0 := jc_z (by decide +kernel)
set_option maxRecDepth 20000 in
theorem e_25 : jcA M0 10 258 1 = (pf gm 10) := jc_pf (by decide +kernel)
set_option maxRecDepth 20000 in
theorem e_28 : jcA M0 16 272 6 = (pf gN 16) := jc_pf (by decide +kernel)
set_option maxRecDepth 20000 in
theorem e_29 : jcA M0 16 273 6 = (pf g3 16) := jc_pf (by decide +kernel)
set_option maxRecDepth 20000 in
theorem e_30 : jcA M0 16 274 6 = zz0 := jc_z (by decide +kernel)
set_option maxRecDepth 20000 in
theorem e_31 : jcA M0 16 275 6 = zz0 := jc_z (by decide +kernel)
set_option maxRecDepth 20000 in
theorem e_32 : jcA M0 16 276 6 = (pf gI 16) := jc_pf (by decide +kernel)
set_option maxRecDepth 20000 in
theorem e_33 : jcA M0 16 277 6 = (pf g10 16) := jc_pf (by decide +kernel)
set_option maxRecDepth 20000 in
theorem e_35 : jcA M0 8 368 3 = zz0 := jc_z (by decide +kernel)
set_option maxRecDepth 20000 in
theorem e_36 : jcA M0 8 369 3 = zz0 := jc_z (by decide +kernel)
set_option maxRecDepth 20000 in
theorem e_37 : jcA M0 8 370 3 = zz0 := jc_z (by decide +kernel)
set_option maxRecDepth 20000 in
theorem e_38 : jcA M0 10 392 1 = (pf gm 10) := jc_pf (by decide +kernel)
set_option maxRecDepth 20000 in
theorem e_41 : jcA M0 16 406 1 = zz0 := jc_z (by decide +kernel)
set_option maxRecDepth 20000 in
theorem e_43 : jcA M0 120 423 1 = zz0 := jc_z (by decide +kernel)
set_option maxRecDepth 20000 in
theorem e_46 : jcA M0 121 545 1 = zz0 := jc_z (by decide +kernel)
set_option maxRecDepth 20000 in
theorem e_47 : jcA M0 121 666 1 = zz0 := jc_z (by decide +kernel)
set_option maxRecDepth 20000 in
theorem e_48 : jcA M0 121 787 1 = zz0 := jc_z (by decide +kernel)
set_option maxRecDepth 20000 in
theorem e_54 : jcA M0 40 910 1 = zz0 := jc_z (by decide +kernel)
set_option maxRecDepth 20000 in
theorem e_55 : jcA M0 40 952 1 = zz0 := jc_z (by decide +kernel)
set_option maxRecDepth 20000 in
theorem e_56 : jcA M0 40 994 1 = zz0 := jc_z (by decide +kernel)
set_option maxRecDepth 20000 in
theorem e_57 : jcA M0 40 1036 1 = zz0 := jc_z (by decide +kernel)
set_option maxRecDepth 20000 in
theorem e_58 : jcA M0 7 1076 1 = zz0 := jc_z (by decide +kernel)
set_option maxRecDepth 20000 in
theorem e_61 : jcA M0 134 1100 1 = (sJ 10) := jc_s rfl (by decide +kernel)
set_option maxRecDepth 20000 in
theorem e_62 : jcA M0 134 1234 1 = zz0 := jc_z (by decide +kernel)
set_option maxRecDepth 20000 in
theorem e_63 : jcA M0 134 1368 1 = zz0 := jc_z (by decide +kernel)
set_option maxRecDepth 20000 in
theorem e_64 : jcA M0 7 1502 1 = zz0 := jc_z (by decide +kernel)
set_option maxRecDepth 20000 in
theorem e_65 : jcA M0 16 1509 1 = zz0 := jc_z (by decide +kernel)
set_option maxRecDepth 20000 in
theorem e_66 : jcA M0 120 1525 1 = zz0 := jc_z (by decide +kernel)
set_option maxRecDepth 20000 in
theorem e_67 : jcA M0 4 1645 1 = zz0 := jc_z (by decide +kernel)
set_option maxRecDepth 20000 in
theorem e_68 : jcA M0 4 1649 1 = zz0 := jc_z (by decide +kernel)
set_option maxRecDepth 20000 in
theorem e_69 : jcA M0 160 1653 1 = zz0 := jc_z (by decide +kernel)
set_option maxRecDepth 20000 in
theorem e_70 : jcA M0 40 1813 1 = zz0 := jc_z (by decide +kernel)
set_option maxRecDepth 20000 in
theorem e_71 : jcA M0 56 1862 1 = (pf (gl 0) 56) := jc_pf (by decide +kernel)
set_option maxRecDepth 20000 in
theorem e_72 : jcA M0 16 1918 1 = (pf (gl 56) 16) := jc_pf (by decide +kernel)
set_option maxRecDepth 20000 in
theorem e_73 : jcA M0 24 1934 1 = (pf (gl 72) 24) := jc_pf (by decide +kernel)
set_option maxRecDepth 20000 in
theorem e_74 : jcA M0 48 1958 1 = (pf (gl 96) 48) := jc_pf (by decide +kernel)
theorem v_0 : M0 0 = (nI 0) := by decide +kernel
theorem v_1 : M0 1 = (nI 0) := by decide +kernel
theorem v_2 : M0 2 = (nI 1) := by decide +kernel
theorem v_3 : M0 3 = (nI 0) := by decide +kernel
theorem v_134 : M0 134 = (nI 0) := by decide +kernel
theorem v_135 : M0 135 = (nI 0) := by decide +kernel
theorem v_136 : M0 136 = (nI 1) := by decide +kernel
theorem v_137 : M0 137 = (nI 0) := by decide +kernel
theorem v_268 : M0 268 = (nI 0) := by decide +kernel
theorem v_269 : M0 269 = (nI 0) := by decide +kernel
theorem v_270 : M0 270 = (nI 1) := by decide +kernel
theorem v_271 : M0 271 = (nI 0) := by decide +kernel
theorem v_402 : M0 402 = (nI 0) := by decide +kernel
theorem v_403 : M0 403 = (nI 81) := by decide +kernel
theorem v_404 : M0 404 = (nI 0) := by decide +kernel
theorem v_405 : M0 405 = (nI 0) := by decide +kernel
theorem v_422 : M0 422 = (nI 0) := by decide +kernel
theorem v_543 : M0 543 = (-1) := by decide +kernel
theorem v_544 : M0 544 = (nI 0) := by decide +kernel
theorem v_908 : M0 908 = (nI 0) := by decide +kernel
theorem v_909 : M0 909 = (nI 0) := by decide +kernel
theorem v_950 : M0 950 = (nI 0) := by decide +kernel
theorem v_951 : M0 951 = (nI 0) := by decide +kernel
theorem v_992 : M0 992 = (nI 0) := by decide +kernel
theorem v_993 : M0 993 = (nI 0) := by decide +kernel
theorem v_1034 : M0 1034 = (nI 0) := by decide +kernel
theorem v_1035 : M0 1035 = (nI 0) := by decide +kernel
theorem v_1083 : M0 1083 = (nI 0) := by decide +kernel
theorem v_1853 : M0 1853 = 0 := by decide +kernel
theorem v_1854 : M0 1854 = 0 := by decide +kernel
theorem v_1855 : M0 1855 = 0 := by decide +kernel
theorem v_1856 : M0 1856 = 0 := by decide +kernel
theorem v_1857 : M0 1857 = 0 := by decide +kernel
theorem v_1858 : M0 1858 = 0 := by decide +kernel
theorem v_1859 : M0 1859 = 0 := by decide +kernel
theorem v_1860 : M0 1860 = 0 := by decide +kernel
theorem v_1861 : M0 1861 = 0 := by decide +kernel
theorem v_L : jmk (M0 2006) (M0 2007) = 0 := by decide +kernel
set_option maxHeartbeats 2000000 in
set_option maxRecDepth 20000 in
theorem bridge (dC : Nat → ClassId) (dI : Nat → Nat → Nat) (τ : Nat → ClassId) (jt js jsv : Nat → Nat) (a b1 p0 t0 s0 b2 p1 t1 s1 b3 p2 t2 s2 b4 b5 b6 b7 b8 b9 b10 b11 b12 b13 b14 b15 b16 b17 b18 b19 b20 b21 b22 b23 : Nat) (r0 r1 r2 u0 u1 u2 : Nat → Nat) (c d1 d2 d3 d4 d5 d6 d7 d8 d9 d10 d11 d12 d13 d14 : Nat) : ∀ (k : Nat) (d : jd), jL[k]? = some d → ([(a, .inr (7, [.ref b1, .ref b2, .ref b3, .int (nI 0), .ref b4, .ref b5, .ref b7, .ref b9, .ref b14, .ref b23])), (b1, .inr (1, [.ref p0, .ref t0, .ref s0, .int (nI 0), .int (nI 0), .int (nI 0), .int (nI 1)])), (p0, .inl (τ 2, 6, .inr (.inr (.inr (.inr (rfs 6 r0)))))), ((r0 0), .inl (τ 0, 16, .inl (pf gN 16))), ((r0 1), .inl (τ 0, 16, .inl (pf g3 16))), ((r0 2), .inl (τ 0, 16, .inl zz0)), ((r0 3), .inl (τ 0, 16, .inl zz0)), ((r0 4), .inl (τ 0, 16, .inl (pf gI 16))), ((r0 5), .inl (τ 0, 16, .inl (pf g10 16))), (t0, .inl (τ 2, 3, .inr (.inr (.inr (.inr (rfs 3 u0)))))), ((u0 0), .inl (τ 0, 8, .inl zz0)), ((u0 1), .inl (τ 0, 8, .inl zz0)), ((u0 2), .inl (τ 0, 8, .inl zz0)), (s0, .inl (τ 0, 10, .inl (pf gm 10))), (b2, .inr (1, [.ref p1, .ref t1, .ref s1, .int (nI 0), .int (nI 0), .int (nI 0), .int (nI 1)])), (p1, .inl (τ 2, 6, .inr (.inr (.inr (.inr (rfs 6 r1)))))), ((r1 0), .inl (τ 0, 16, .inl (pf gN 16))), ((r1 1), .inl (τ 0, 16, .inl (pf g3 16))), ((r1 2), .inl (τ 0, 16, .inl zz0)), ((r1 3), .inl (τ 0, 16, .inl zz0)), ((r1 4), .inl (τ 0, 16, .inl (pf gI 16))), ((r1 5), .inl (τ 0, 16, .inl (pf g10 16))), (t1, .inl (τ 2, 3, .inr (.inr (.inr (.inr (rfs 3 u1)))))), ((u1 0), .inl (τ 0, 8, .inl zz0)), ((u1 1), .inl (τ 0, 8, .inl zz0)), ((u1 2), .inl (τ 0, 8, .inl zz0)), (s1, .inl (τ 0, 10, .inl (pf gm 10))), (b3, .inr (1, [.ref p2, .ref t2, .ref s2, .int (nI 0), .int (nI 0), .int (nI 0), .int (nI 1)])), (p2, .inl (τ 2, 6, .inr (.inr (.inr (.inr (rfs 6 r2)))))), ((r2 0), .inl (τ 0, 16, .inl (pf gN 16))), ((r2 1), .inl (τ 0, 16, .inl (pf g3 16))), ((r2 2), .inl (τ 0, 16, .inl zz0)), ((r2 3), .inl (τ 0, 16, .inl zz0)), ((r2 4), .inl (τ 0, 16, .inl (pf gI 16))), ((r2 5), .inl (τ 0, 16, .inl (pf g10 16))), (t2, .inl (τ 2, 3, .inr (.inr (.inr (.inr (rfs 3 u2)))))), ((u2 0), .inl (τ 0, 8, .inl zz0)), ((u2 1), .inl (τ 0, 8, .inl zz0)), ((u2 2), .inl (τ 0, 8, .inl zz0)), (s2, .inl (τ 0, 10, .inl (pf gm 10))), (b4, .inr (0, [.int (nI 0), .int (nI 81), .int (nI 0), .int (nI 0)])), (b5, .inr (2, [.ref b6])), (b6, .inl (τ 0, 16, .inl zz0)), (b7, .inr (4, [.ref b8, .int (nI 0)])), (b8, .inl (τ 0, 120, .inl zz0)), (b9, .inr (5, [.ref b10, .int (-1)])), (b10, .inr (6, [.ref b11, .ref b12, .ref b13, .int (nI 0)])), (b11, .inl (τ 0, 121, .inl zz0)), (b12, .inl (τ 0, 121, .inl zz0)), (b13, .inl (τ 0, 121, .inl zz0)), (b14, .inl (τ 3, 4, .inr (.inr (.inr (.inr (va_up (va_up (va_up (va_up (fun _ => none) 0 (some b15)) 1 (some b17)) 2 (some b19)) 3 (some b21))))))), (b15, .inr (3, [.ref b16, .int (nI 0), .int (nI 0)])), (b16, .inl (τ 0, 40, .inl zz0)), (b17, .inr (3, [.ref b18, .int (nI 0), .int (nI 0)])), (b18, .inl (τ 0, 40, .inl zz0)), (b19, .inr (3, [.ref b20, .int (nI 0), .int (nI 0)])), (b20, .inl (τ 0, 40, .inl zz0)), (b21, .inr (3, [.ref b22, .int (nI 0), .int (nI 0)])), (b22, .inl (τ 0, 40, .inl zz0)), (b23, .inl (τ 0, 7, .inl zz0)), (c, .inr (8, [.ref d1, .ref d2, .ref d3, .int 0, .ref d4, .int 0, .int 0, .int 0, .int 0, .ref d5, .ref d6, .int 0, .int 0, .int 0, .int 0, .long 0, .ref d7, .ref d8, .ref d9, .ref d10, .ref d11, .ref d12, .ref d13, .ref d14])), (d1, .inl (τ 0, 134, .inl (sJ 10))), (d2, .inl (τ 0, 134, .inl zz0)), (d3, .inl (τ 0, 134, .inl zz0)), (d4, .inl (τ 0, 7, .inl zz0)), (d5, .inl (τ 0, 16, .inl zz0)), (d6, .inl (τ 0, 120, .inl zz0)), (d7, .inl (τ 1, 56, .inl (pf (gl 0) 56))), (d8, .inl (τ 1, 16, .inl (pf (gl 56) 16))), (d9, .inl (τ 1, 24, .inl (pf (gl 72) 24))), (d10, .inl (τ 1, 48, .inl (pf (gl 96) 48))), (d11, .inl (τ 0, 4, .inl zz0)), (d12, .inl (τ 0, 4, .inl zz0)), (d13, .inl (τ 0, 160, .inl zz0)), (d14, .inl (τ 0, 40, .inl zz0))] : va_W)[pl k]? = some (ja ((dC, dI, fun k => [b1, p0, (r0 0), (r0 1), (r0 2), (r0 3), (r0 4), (r0 5), t0, (u0 0), (u0 1), (u0 2), s0, b2, p1, (r1 0), (r1 1), (r1 2), (r1 3), (r1 4), (r1 5), t1, (u1 0), (u1 1), (u1 2), s1, b3, p2, (r2 0), (r2 1), (r2 2), (r2 3), (r2 4), (r2 5), t2, (u2 0), (u2 1), (u2 2), s2, b4, b5, b6, b7, b8, b9, b10, b11, b12, b13, b14, b15, b17, b19, b21, b16, b18, b20, b22, b23, a, c, d1, d2, d3, d4, d5, d6, d11, d12, d13, d14, d7, d8, d9, d10].getD k 0, τ, jt, js, jsv) : jE) k, jc ((dC, dI, fun k => [b1, p0, (r0 0), (r0 1), (r0 2), (r0 3), (r0 4), (r0 5), t0, (u0 0), (u0 1), (u0 2), s0, b2, p1, (r1 0), (r1 1), (r1 2), (r1 3), (r1 4), (r1 5), t1, (u1 0), (u1 1), (u1 2), s1, b3, p2, (r2 0), (r2 1), (r2 2), (r2 3), (r2 4), (r2 5), t2, (u2 0), (u2 1), (u2 2), s2, b4, b5, b6, b7, b8, b9, b10, b11, b12, b13, b14, b15, b17, b19, b21, b16, b18, b20, b22, b23, a, c, d1, d2, d3, d4, d5, d6, d11, d12, d13, d14, d7, d8, d9, d10].getD k 0, τ, jt, js, jsv) : jE) M0 d) := by
  intro k d hk
  match k, hk with
  | 0, hk =>
    obtain rfl : (.inr (.inr (1, [.inl 1, .inl 8, .inl 12, .inr (.inl 1), .inr (.inl 3), .inr (.inl 0), .inr (.inl 2)])) : jd) = d := Option.some.inj hk
    show some (b1, (Sum.inr (1, [.ref p0, .ref t0, .ref s0, .int (nI 0), .int (nI 0), .int (nI 0), .int (nI 1)]) : va_E)) = some (b1, Sum.inr (1, [.ref p0, .ref t0, .ref s0, .int (M0 1), .int (M0 3), .int (M0 0), .int (M0 2)]))
    rw [v_1, v_3, v_0, v_2]
  | 1, hk =>
    obtain rfl : (.inr (.inl (2, [2, 3, 4, 5, 6, 7])) : jd) = d := Option.some.inj hk
    have rf : jcR ((dC, dI, fun k => [b1, p0, (r0 0), (r0 1), (r0 2), (r0 3), (r0 4), (r0 5), t0, (u0 0), (u0 1), (u0 2), s0, b2, p1, (r1 0), (r1 1), (r1 2), (r1 3), (r1 4), (r1 5), t1, (u1 0), (u1 1), (u1 2), s1, b3, p2, (r2 0), (r2 1), (r2 2), (r2 3), (r2 4), (r2 5), t2, (u2 0), (u2 1), (u2 2), s2, b4, b5, b6, b7, b8, b9, b10, b11, b12, b13, b14, b15, b17, b19, b21, b16, b18, b20, b22, b23, a, c, d1, d2, d3, d4, d5, d6, d11, d12, d13, d14, d7, d8, d9, d10].getD k 0, τ, jt, js, jsv) : jE) [2, 3, 4, 5, 6, 7] = (rfs 6 r0) := by
      funext i
      match i with
      | 0 => exact rfl
      | 1 => exact rfl
      | 2 => exact rfl
      | 3 => exact rfl
      | 4 => exact rfl
      | 5 => exact rfl
      | i + 6 => exact (if_neg (show ¬ i + 6 < 6 by omega)).symm
    exact congrArg (fun f => some (p0, (Sum.inl (τ 2, 6, Sum.inr (.inr (.inr (.inr f)))) : va_E))) rf.symm
  | 2, hk =>
    obtain rfl : (.inl (0, 16, 4, 6) : jd) = d := Option.some.inj hk
    exact congrArg (fun f => some ((r0 0), (Sum.inl (τ 0, 16, Sum.inl f) : va_E))) e_2.symm
  | 3, hk =>
    obtain rfl : (.inl (0, 16, 5, 6) : jd) = d := Option.some.inj hk
    exact congrArg (fun f => some ((r0 1), (Sum.inl (τ 0, 16, Sum.inl f) : va_E))) e_3.symm
  | 4, hk =>
    obtain rfl : (.inl (0, 16, 6, 6) : jd) = d := Option.some.inj hk
    exact congrArg (fun f => some ((r0 2), (Sum.inl (τ 0, 16, Sum.inl f) : va_E))) e_4.symm
  | 5, hk =>
    obtain rfl : (.inl (0, 16, 7, 6) : jd) = d := Option.some.inj hk
    exact congrArg (fun f => some ((r0 3), (Sum.inl (τ 0, 16, Sum.inl f) : va_E))) e_5.symm
  | 6, hk =>
    obtain rfl : (.inl (0, 16, 8, 6) : jd) = d := Option.some.inj hk
    exact congrArg (fun f => some ((r0 4), (Sum.inl (τ 0, 16, Sum.inl f) : va_E))) e_6.symm
  | 7, hk =>
    obtain rfl : (.inl (0, 16, 9, 6) : jd) = d := Option.some.inj hk
    exact congrArg (fun f => some ((r0 5), (Sum.inl (τ 0, 16, Sum.inl f) : va_E))) e_7.symm
  | 8, hk =>
    obtain rfl : (.inr (.inl (2, [9, 10, 11])) : jd) = d := Option.some.inj hk
    have rf : jcR ((dC, dI, fun k => [b1, p0, (r0 0), (r0 1), (r0 2), (r0 3), (r0 4), (r0 5), t0, (u0 0), (u0 1), (u0 2), s0, b2, p1, (r1 0), (r1 1), (r1 2), (r1 3), (r1 4), (r1 5), t1, (u1 0), (u1 1), (u1 2), s1, b3, p2, (r2 0), (r2 1), (r2 2), (r2 3), (r2 4), (r2 5), t2, (u2 0), (u2 1), (u2 2), s2, b4, b5, b6, b7, b8, b9, b10, b11, b12, b13, b14, b15, b17, b19, b21, b16, b18, b20, b22, b23, a, c, d1, d2, d3, d4, d5, d6, d11, d12, d13, d14, d7, d8, d9, d10].getD k 0, τ, jt, js, jsv) : jE) [9, 10, 11] = (rfs 3 u0) := by
      funext i
      match i with
      | 0 => exact rfl
      | 1 => exact rfl
      | 2 => exact rfl
      | i + 3 => exact (if_neg (show ¬ i + 3 < 3 by omega)).symm
    exact congrArg (fun f => some (t0, (Sum.inl (τ 2, 3, Sum.inr (.inr (.inr (.inr f)))) : va_E))) rf.symm
  | 9, hk =>
    obtain rfl : (.inl (0, 8, 100, 3) : jd) = d := Option.some.inj hk
    exact congrArg (fun f => some ((u0 0), (Sum.inl (τ 0, 8, Sum.inl f) : va_E))) e_9.symm
  | 10, hk =>
    obtain rfl : (.inl (0, 8, 101, 3) : jd) = d := Option.some.inj hk
    exact congrArg (fun f => some ((u0 1), (Sum.inl (τ 0, 8, Sum.inl f) : va_E))) e_10.symm
  | 11, hk =>
    obtain rfl : (.inl (0, 8, 102, 3) : jd) = d := Option.some.inj hk
    exact congrArg (fun f => some ((u0 2), (Sum.inl (τ 0, 8, Sum.inl f) : va_E))) e_11.symm
  | 12, hk =>
    obtain rfl : (.inl (0, 10, 124, 1) : jd) = d := Option.some.inj hk
    exact congrArg (fun f => some (s0, (Sum.inl (τ 0, 10, Sum.inl f) : va_E))) e_12.symm
  | 13, hk =>
    obtain rfl : (.inr (.inr (1, [.inl 14, .inl 21, .inl 25, .inr (.inl 135), .inr (.inl 137), .inr (.inl 134), .inr (.inl 136)])) : jd) = d := Option.some.inj hk
    show some (b2, (Sum.inr (1, [.ref p1, .ref t1, .ref s1, .int (nI 0), .int (nI 0), .int (nI 0), .int (nI 1)]) : va_E)) = some (b2, Sum.inr (1, [.ref p1, .ref t1, .ref s1, .int (M0 135), .int (M0 137), .int (M0 134), .int (M0 136)]))
    rw [v_135, v_137, v_134, v_136]
  | 14, hk =>
    obtain rfl : (.inr (.inl (2, [15, 16, 17, 18, 19, 20])) : jd) = d := Option.some.inj hk
    have rf : jcR ((dC, dI, fun k => [b1, p0, (r0 0), (r0 1), (r0 2), (r0 3), (r0 4), (r0 5), t0, (u0 0), (u0 1), (u0 2), s0, b2, p1, (r1 0), (r1 1), (r1 2), (r1 3), (r1 4), (r1 5), t1, (u1 0), (u1 1), (u1 2), s1, b3, p2, (r2 0), (r2 1), (r2 2), (r2 3), (r2 4), (r2 5), t2, (u2 0), (u2 1), (u2 2), s2, b4, b5, b6, b7, b8, b9, b10, b11, b12, b13, b14, b15, b17, b19, b21, b16, b18, b20, b22, b23, a, c, d1, d2, d3, d4, d5, d6, d11, d12, d13, d14, d7, d8, d9, d10].getD k 0, τ, jt, js, jsv) : jE) [15, 16, 17, 18, 19, 20] = (rfs 6 r1) := by
      funext i
      match i with
      | 0 => exact rfl
      | 1 => exact rfl
      | 2 => exact rfl
      | 3 => exact rfl
      | 4 => exact rfl
      | 5 => exact rfl
      | i + 6 => exact (if_neg (show ¬ i + 6 < 6 by omega)).symm
    exact congrArg (fun f => some (p1, (Sum.inl (τ 2, 6, Sum.inr (.inr (.inr (.inr f)))) : va_E))) rf.symm
  | 15, hk =>
    obtain rfl : (.inl (0, 16, 138, 6) : jd) = d := Option.some.inj hk
    exact congrArg (fun f => some ((r1 0), (Sum.inl (τ 0, 16, Sum.inl f) : va_E))) e_15.symm
  | 16, hk =>
    obtain rfl : (.inl (0, 16, 139, 6) : jd) = d := Option.some.inj hk
    exact congrArg (fun f => some ((r1 1), (Sum.inl (τ 0, 16, Sum.inl f) : va_E))) e_16.symm
  | 17, hk =>
    obtain rfl : (.inl (0, 16, 140, 6) : jd) = d := Option.some.inj hk
    exact congrArg (fun f => some ((r1 2), (Sum.inl (τ 0, 16, Sum.inl f) : va_E))) e_17.symm
  | 18, hk =>
    obtain rfl : (.inl (0, 16, 141, 6) : jd) = d := Option.some.inj hk
    exact congrArg (fun f => some ((r1 3), (Sum.inl (τ 0, 16, Sum.inl f) : va_E))) e_18.symm
  | 19, hk =>
    obtain rfl : (.inl (0, 16, 142, 6) : jd) = d := Option.some.inj hk
    exact congrArg (fun f => some ((r1 4), (Sum.inl (τ 0, 16, Sum.inl f) : va_E))) e_19.symm
  | 20, hk =>
    obtain rfl : (.inl (0, 16, 143, 6) : jd) = d := Option.some.inj hk
    exact congrArg (fun f => some ((r1 5), (Sum.inl (τ 0, 16, Sum.inl f) : va_E))) e_20.symm
  | 21, hk =>
    obtain rfl : (.inr (.inl (2, [22, 23, 24])) : jd) = d := Option.some.inj hk
    have rf : jcR ((dC, dI, fun k => [b1, p0, (r0 0), (r0 1), (r0 2), (r0 3), (r0 4), (r0 5), t0, (u0 0), (u0 1), (u0 2), s0, b2, p1, (r1 0), (r1 1), (r1 2), (r1 3), (r1 4), (r1 5), t1, (u1 0), (u1 1), (u1 2), s1, b3, p2, (r2 0), (r2 1), (r2 2), (r2 3), (r2 4), (r2 5), t2, (u2 0), (u2 1), (u2 2), s2, b4, b5, b6, b7, b8, b9, b10, b11, b12, b13, b14, b15, b17, b19, b21, b16, b18, b20, b22, b23, a, c, d1, d2, d3, d4, d5, d6, d11, d12, d13, d14, d7, d8, d9, d10].getD k 0, τ, jt, js, jsv) : jE) [22, 23, 24] = (rfs 3 u1) := by
      funext i
      match i with
      | 0 => exact rfl
      | 1 => exact rfl
      | 2 => exact rfl
      | i + 3 => exact (if_neg (show ¬ i + 3 < 3 by omega)).symm
    exact congrArg (fun f => some (t1, (Sum.inl (τ 2, 3, Sum.inr (.inr (.inr (.inr f)))) : va_E))) rf.symm
  | 22, hk =>
    obtain rfl : (.inl (0, 8, 234, 3) : jd) = d := Option.some.inj hk
    exact congrArg (fun f => some ((u1 0), (Sum.inl (τ 0, 8, Sum.inl f) : va_E))) e_22.symm
  | 23, hk =>
    obtain rfl : (.inl (0, 8, 235, 3) : jd) = d := Option.some.inj hk
    exact congrArg (fun f => some ((u1 1), (Sum.inl (τ 0, 8, Sum.inl f) : va_E))) e_23.symm
  | 24, hk =>
    obtain rfl : (.inl (0, 8, 236, 3) : jd) = d := Option.some.inj hk
    exact congrArg (fun f => some ((u1 2), (Sum.inl (τ 0, 8, Sum.inl f) : va_E))) e_24.symm
  | 25, hk =>
    obtain rfl : (.inl (0, 10, 258, 1) : jd) = d := Option.some.inj hk
    exact congrArg (fun f => some (s1, (Sum.inl (τ 0, 10, Sum.inl f) : va_E))) e_25.symm
  | 26, hk =>
    obtain rfl : (.inr (.inr (1, [.inl 27, .inl 34, .inl 38, .inr (.inl 269), .inr (.inl 271), .inr (.inl 268), .inr (.inl 270)])) : jd) = d := Option.some.inj hk
    show some (b3, (Sum.inr (1, [.ref p2, .ref t2, .ref s2, .int (nI 0), .int (nI 0), .int (nI 0), .int (nI 1)]) : va_E)) = some (b3, Sum.inr (1, [.ref p2, .ref t2, .ref s2, .int (M0 269), .int (M0 271), .int (M0 268), .int (M0 270)]))
    rw [v_269, v_271, v_268, v_270]
  | 27, hk =>
    obtain rfl : (.inr (.inl (2, [28, 29, 30, 31, 32, 33])) : jd) = d := Option.some.inj hk
    have rf : jcR ((dC, dI, fun k => [b1, p0, (r0 0), (r0 1), (r0 2), (r0 3), (r0 4), (r0 5), t0, (u0 0), (u0 1), (u0 2), s0, b2, p1, (r1 0), (r1 1), (r1 2), (r1 3), (r1 4), (r1 5), t1, (u1 0), (u1 1), (u1 2), s1, b3, p2, (r2 0), (r2 1), (r2 2), (r2 3), (r2 4), (r2 5), t2, (u2 0), (u2 1), (u2 2), s2, b4, b5, b6, b7, b8, b9, b10, b11, b12, b13, b14, b15, b17, b19, b21, b16, b18, b20, b22, b23, a, c, d1, d2, d3, d4, d5, d6, d11, d12, d13, d14, d7, d8, d9, d10].getD k 0, τ, jt, js, jsv) : jE) [28, 29, 30, 31, 32, 33] = (rfs 6 r2) := by
      funext i
      match i with
      | 0 => exact rfl
      | 1 => exact rfl
      | 2 => exact rfl
      | 3 => exact rfl
      | 4 => exact rfl
      | 5 => exact rfl
      | i + 6 => exact (if_neg (show ¬ i + 6 < 6 by omega)).symm
    exact congrArg (fun f => some (p2, (Sum.inl (τ 2, 6, Sum.inr (.inr (.inr (.inr f)))) : va_E))) rf.symm
  | 28, hk =>
    obtain rfl : (.inl (0, 16, 272, 6) : jd) = d := Option.some.inj hk
    exact congrArg (fun f => some ((r2 0), (Sum.inl (τ 0, 16, Sum.inl f) : va_E))) e_28.symm
  | 29, hk =>
    obtain rfl : (.inl (0, 16, 273, 6) : jd) = d := Option.some.inj hk
    exact congrArg (fun f => some ((r2 1), (Sum.inl (τ 0, 16, Sum.inl f) : va_E))) e_29.symm
  | 30, hk =>
    obtain rfl : (.inl (0, 16, 274, 6) : jd) = d := Option.some.inj hk
    exact congrArg (fun f => some ((r2 2), (Sum.inl (τ 0, 16, Sum.inl f) : va_E))) e_30.symm
  | 31, hk =>
    obtain rfl : (.inl (0, 16, 275, 6) : jd) = d := Option.some.inj hk
    exact congrArg (fun f => some ((r2 3), (Sum.inl (τ 0, 16, Sum.inl f) : va_E))) e_31.symm
  | 32, hk =>
    obtain rfl : (.inl (0, 16, 276, 6) : jd) = d := Option.some.inj hk
    exact congrArg (fun f => some ((r2 4), (Sum.inl (τ 0, 16, Sum.inl f) : va_E))) e_32.symm
  | 33, hk =>
    obtain rfl : (.inl (0, 16, 277, 6) : jd) = d := Option.some.inj hk
    exact congrArg (fun f => some ((r2 5), (Sum.inl (τ 0, 16, Sum.inl f) : va_E))) e_33.symm
  | 34, hk =>
    obtain rfl : (.inr (.inl (2, [35, 36, 37])) : jd) = d := Option.some.inj hk
    have rf : jcR ((dC, dI, fun k => [b1, p0, (r0 0), (r0 1), (r0 2), (r0 3), (r0 4), (r0 5), t0, (u0 0), (u0 1), (u0 2), s0, b2, p1, (r1 0), (r1 1), (r1 2), (r1 3), (r1 4), (r1 5), t1, (u1 0), (u1 1), (u1 2), s1, b3, p2, (r2 0), (r2 1), (r2 2), (r2 3), (r2 4), (r2 5), t2, (u2 0), (u2 1), (u2 2), s2, b4, b5, b6, b7, b8, b9, b10, b11, b12, b13, b14, b15, b17, b19, b21, b16, b18, b20, b22, b23, a, c, d1, d2, d3, d4, d5, d6, d11, d12, d13, d14, d7, d8, d9, d10].getD k 0, τ, jt, js, jsv) : jE) [35, 36, 37] = (rfs 3 u2) := by
      funext i
      match i with
      | 0 => exact rfl
      | 1 => exact rfl
      | 2 => exact rfl
      | i + 3 => exact (if_neg (show ¬ i + 3 < 3 by omega)).symm
    exact congrArg (fun f => some (t2, (Sum.inl (τ 2, 3, Sum.inr (.inr (.inr (.inr f)))) : va_E))) rf.symm
  | 35, hk =>
    obtain rfl : (.inl (0, 8, 368, 3) : jd) = d := Option.some.inj hk
    exact congrArg (fun f => some ((u2 0), (Sum.inl (τ 0, 8, Sum.inl f) : va_E))) e_35.symm
  | 36, hk =>
    obtain rfl : (.inl (0, 8, 369, 3) : jd) = d := Option.some.inj hk
    exact congrArg (fun f => some ((u2 1), (Sum.inl (τ 0, 8, Sum.inl f) : va_E))) e_36.symm
  | 37, hk =>
    obtain rfl : (.inl (0, 8, 370, 3) : jd) = d := Option.some.inj hk
    exact congrArg (fun f => some ((u2 2), (Sum.inl (τ 0, 8, Sum.inl f) : va_E))) e_37.symm
  | 38, hk =>
    obtain rfl : (.inl (0, 10, 392, 1) : jd) = d := Option.some.inj hk
    exact congrArg (fun f => some (s2, (Sum.inl (τ 0, 10, Sum.inl f) : va_E))) e_38.symm
  | 39, hk =>
    obtain rfl : (.inr (.inr (0, [.inr (.inl 402), .inr (.inl 403), .inr (.inl 404), .inr (.inl 405)])) : jd) = d := Option.some.inj hk
    show some (b4, (Sum.inr (0, [.int (nI 0), .int (nI 81), .int (nI 0), .int (nI 0)]) : va_E)) = some (b4, Sum.inr (0, [.int (M0 402), .int (M0 403), .int (M0 404), .int (M0 405)]))
    rw [v_402, v_403, v_404, v_405]
  | 40, hk =>
    obtain rfl : (.inr (.inr (2, [.inl 41])) : jd) = d := Option.some.inj hk
    show some (b5, (Sum.inr (2, [.ref b6]) : va_E)) = some (b5, Sum.inr (2, [.ref b6]))
    rfl
  | 41, hk =>
    obtain rfl : (.inl (0, 16, 406, 1) : jd) = d := Option.some.inj hk
    exact congrArg (fun f => some (b6, (Sum.inl (τ 0, 16, Sum.inl f) : va_E))) e_41.symm
  | 42, hk =>
    obtain rfl : (.inr (.inr (4, [.inl 43, .inr (.inl 422)])) : jd) = d := Option.some.inj hk
    show some (b7, (Sum.inr (4, [.ref b8, .int (nI 0)]) : va_E)) = some (b7, Sum.inr (4, [.ref b8, .int (M0 422)]))
    rw [v_422]
  | 43, hk =>
    obtain rfl : (.inl (0, 120, 423, 1) : jd) = d := Option.some.inj hk
    exact congrArg (fun f => some (b8, (Sum.inl (τ 0, 120, Sum.inl f) : va_E))) e_43.symm
  | 44, hk =>
    obtain rfl : (.inr (.inr (5, [.inl 45, .inr (.inl 543)])) : jd) = d := Option.some.inj hk
    show some (b9, (Sum.inr (5, [.ref b10, .int (-1)]) : va_E)) = some (b9, Sum.inr (5, [.ref b10, .int (M0 543)]))
    rw [v_543]
  | 45, hk =>
    obtain rfl : (.inr (.inr (6, [.inl 46, .inl 47, .inl 48, .inr (.inl 544)])) : jd) = d := Option.some.inj hk
    show some (b10, (Sum.inr (6, [.ref b11, .ref b12, .ref b13, .int (nI 0)]) : va_E)) = some (b10, Sum.inr (6, [.ref b11, .ref b12, .ref b13, .int (M0 544)]))
    rw [v_544]
  | 46, hk =>
    obtain rfl : (.inl (0, 121, 545, 1) : jd) = d := Option.some.inj hk
    exact congrArg (fun f => some (b11, (Sum.inl (τ 0, 121, Sum.inl f) : va_E))) e_46.symm
  | 47, hk =>
    obtain rfl : (.inl (0, 121, 666, 1) : jd) = d := Option.some.inj hk
    exact congrArg (fun f => some (b12, (Sum.inl (τ 0, 121, Sum.inl f) : va_E))) e_47.symm
  | 48, hk =>
    obtain rfl : (.inl (0, 121, 787, 1) : jd) = d := Option.some.inj hk
    exact congrArg (fun f => some (b13, (Sum.inl (τ 0, 121, Sum.inl f) : va_E))) e_48.symm
  | 49, hk =>
    obtain rfl : (.inr (.inl (3, [50, 51, 52, 53])) : jd) = d := Option.some.inj hk
    have rf : jcR ((dC, dI, fun k => [b1, p0, (r0 0), (r0 1), (r0 2), (r0 3), (r0 4), (r0 5), t0, (u0 0), (u0 1), (u0 2), s0, b2, p1, (r1 0), (r1 1), (r1 2), (r1 3), (r1 4), (r1 5), t1, (u1 0), (u1 1), (u1 2), s1, b3, p2, (r2 0), (r2 1), (r2 2), (r2 3), (r2 4), (r2 5), t2, (u2 0), (u2 1), (u2 2), s2, b4, b5, b6, b7, b8, b9, b10, b11, b12, b13, b14, b15, b17, b19, b21, b16, b18, b20, b22, b23, a, c, d1, d2, d3, d4, d5, d6, d11, d12, d13, d14, d7, d8, d9, d10].getD k 0, τ, jt, js, jsv) : jE) [50, 51, 52, 53] = (va_up (va_up (va_up (va_up (fun _ => none) 0 (some b15)) 1 (some b17)) 2 (some b19)) 3 (some b21)) := by
      funext i
      match i with
      | 0 => exact rfl
      | 1 => exact rfl
      | 2 => exact rfl
      | 3 => exact rfl
      | i + 4 => simp [jcR, va_up]
    exact congrArg (fun f => some (b14, (Sum.inl (τ 3, 4, Sum.inr (.inr (.inr (.inr f)))) : va_E))) rf.symm
  | 50, hk =>
    obtain rfl : (.inr (.inr (3, [.inl 54, .inr (.inl 908), .inr (.inl 909)])) : jd) = d := Option.some.inj hk
    show some (b15, (Sum.inr (3, [.ref b16, .int (nI 0), .int (nI 0)]) : va_E)) = some (b15, Sum.inr (3, [.ref b16, .int (M0 908), .int (M0 909)]))
    rw [v_908, v_909]
  | 51, hk =>
    obtain rfl : (.inr (.inr (3, [.inl 55, .inr (.inl 950), .inr (.inl 951)])) : jd) = d := Option.some.inj hk
    show some (b17, (Sum.inr (3, [.ref b18, .int (nI 0), .int (nI 0)]) : va_E)) = some (b17, Sum.inr (3, [.ref b18, .int (M0 950), .int (M0 951)]))
    rw [v_950, v_951]
  | 52, hk =>
    obtain rfl : (.inr (.inr (3, [.inl 56, .inr (.inl 992), .inr (.inl 993)])) : jd) = d := Option.some.inj hk
    show some (b19, (Sum.inr (3, [.ref b20, .int (nI 0), .int (nI 0)]) : va_E)) = some (b19, Sum.inr (3, [.ref b20, .int (M0 992), .int (M0 993)]))
    rw [v_992, v_993]
  | 53, hk =>
    obtain rfl : (.inr (.inr (3, [.inl 57, .inr (.inl 1034), .inr (.inl 1035)])) : jd) = d := Option.some.inj hk
    show some (b21, (Sum.inr (3, [.ref b22, .int (nI 0), .int (nI 0)]) : va_E)) = some (b21, Sum.inr (3, [.ref b22, .int (M0 1034), .int (M0 1035)]))
    rw [v_1034, v_1035]
  | 54, hk =>
    obtain rfl : (.inl (0, 40, 910, 1) : jd) = d := Option.some.inj hk
    exact congrArg (fun f => some (b16, (Sum.inl (τ 0, 40, Sum.inl f) : va_E))) e_54.symm
  | 55, hk =>
    obtain rfl : (.inl (0, 40, 952, 1) : jd) = d := Option.some.inj hk
    exact congrArg (fun f => some (b18, (Sum.inl (τ 0, 40, Sum.inl f) : va_E))) e_55.symm
  | 56, hk =>
    obtain rfl : (.inl (0, 40, 994, 1) : jd) = d := Option.some.inj hk
    exact congrArg (fun f => some (b20, (Sum.inl (τ 0, 40, Sum.inl f) : va_E))) e_56.symm
  | 57, hk =>
    obtain rfl : (.inl (0, 40, 1036, 1) : jd) = d := Option.some.inj hk
    exact congrArg (fun f => some (b22, (Sum.inl (τ 0, 40, Sum.inl f) : va_E))) e_57.symm
  | 58, hk =>
    obtain rfl : (.inl (0, 7, 1076, 1) : jd) = d := Option.some.inj hk
    exact congrArg (fun f => some (b23, (Sum.inl (τ 0, 7, Sum.inl f) : va_E))) e_58.symm
  | 59, hk =>
    obtain rfl : (.inr (.inr (7, [.inl 0, .inl 13, .inl 26, .inr (.inl 1083), .inl 39, .inl 40, .inl 42, .inl 44, .inl 49, .inl 58])) : jd) = d := Option.some.inj hk
    show some (a, (Sum.inr (7, [.ref b1, .ref b2, .ref b3, .int (nI 0), .ref b4, .ref b5, .ref b7, .ref b9, .ref b14, .ref b23]) : va_E)) = some (a, Sum.inr (7, [.ref b1, .ref b2, .ref b3, .int (M0 1083), .ref b4, .ref b5, .ref b7, .ref b9, .ref b14, .ref b23]))
    rw [v_1083]
  | 60, hk =>
    obtain rfl : (.inr (.inr (8, [.inl 61, .inl 62, .inl 63, .inr (.inl 1853), .inl 64, .inr (.inl 1854), .inr (.inl 1855), .inr (.inl 1856), .inr (.inl 1857), .inl 65, .inl 66, .inr (.inl 1858), .inr (.inl 1859), .inr (.inl 1860), .inr (.inl 1861), .inr (.inr (2006, 2007)), .inl 71, .inl 72, .inl 73, .inl 74, .inl 67, .inl 68, .inl 69, .inl 70])) : jd) = d := Option.some.inj hk
    show some (c, (Sum.inr (8, [.ref d1, .ref d2, .ref d3, .int 0, .ref d4, .int 0, .int 0, .int 0, .int 0, .ref d5, .ref d6, .int 0, .int 0, .int 0, .int 0, .long 0, .ref d7, .ref d8, .ref d9, .ref d10, .ref d11, .ref d12, .ref d13, .ref d14]) : va_E)) = some (c, Sum.inr (8, [.ref d1, .ref d2, .ref d3, .int (M0 1853), .ref d4, .int (M0 1854), .int (M0 1855), .int (M0 1856), .int (M0 1857), .ref d5, .ref d6, .int (M0 1858), .int (M0 1859), .int (M0 1860), .int (M0 1861), .long (jmk (M0 2006) (M0 2007)), .ref d7, .ref d8, .ref d9, .ref d10, .ref d11, .ref d12, .ref d13, .ref d14]))
    rw [v_1853, v_1854, v_1855, v_1856, v_1857, v_1858, v_1859, v_1860, v_1861, v_L]
  | 61, hk =>
    obtain rfl : (.inl (0, 134, 1100, 1) : jd) = d := Option.some.inj hk
    exact congrArg (fun f => some (d1, (Sum.inl (τ 0, 134, Sum.inl f) : va_E))) e_61.symm
  | 62, hk =>
    obtain rfl : (.inl (0, 134, 1234, 1) : jd) = d := Option.some.inj hk
    exact congrArg (fun f => some (d2, (Sum.inl (τ 0, 134, Sum.inl f) : va_E))) e_62.symm
  | 63, hk =>
    obtain rfl : (.inl (0, 134, 1368, 1) : jd) = d := Option.some.inj hk
    exact congrArg (fun f => some (d3, (Sum.inl (τ 0, 134, Sum.inl f) : va_E))) e_63.symm
  | 64, hk =>
    obtain rfl : (.inl (0, 7, 1502, 1) : jd) = d := Option.some.inj hk
    exact congrArg (fun f => some (d4, (Sum.inl (τ 0, 7, Sum.inl f) : va_E))) e_64.symm
  | 65, hk =>
    obtain rfl : (.inl (0, 16, 1509, 1) : jd) = d := Option.some.inj hk
    exact congrArg (fun f => some (d5, (Sum.inl (τ 0, 16, Sum.inl f) : va_E))) e_65.symm
  | 66, hk =>
    obtain rfl : (.inl (0, 120, 1525, 1) : jd) = d := Option.some.inj hk
    exact congrArg (fun f => some (d6, (Sum.inl (τ 0, 120, Sum.inl f) : va_E))) e_66.symm
  | 67, hk =>
    obtain rfl : (.inl (0, 4, 1645, 1) : jd) = d := Option.some.inj hk
    exact congrArg (fun f => some (d11, (Sum.inl (τ 0, 4, Sum.inl f) : va_E))) e_67.symm
  | 68, hk =>
    obtain rfl : (.inl (0, 4, 1649, 1) : jd) = d := Option.some.inj hk
    exact congrArg (fun f => some (d12, (Sum.inl (τ 0, 4, Sum.inl f) : va_E))) e_68.symm
  | 69, hk =>
    obtain rfl : (.inl (0, 160, 1653, 1) : jd) = d := Option.some.inj hk
    exact congrArg (fun f => some (d13, (Sum.inl (τ 0, 160, Sum.inl f) : va_E))) e_69.symm
  | 70, hk =>
    obtain rfl : (.inl (0, 40, 1813, 1) : jd) = d := Option.some.inj hk
    exact congrArg (fun f => some (d14, (Sum.inl (τ 0, 40, Sum.inl f) : va_E))) e_70.symm
  | 71, hk =>
    obtain rfl : (.inl (1, 56, 1862, 1) : jd) = d := Option.some.inj hk
    exact congrArg (fun f => some (d7, (Sum.inl (τ 1, 56, Sum.inl f) : va_E))) e_71.symm
  | 72, hk =>
    obtain rfl : (.inl (1, 16, 1918, 1) : jd) = d := Option.some.inj hk
    exact congrArg (fun f => some (d8, (Sum.inl (τ 1, 16, Sum.inl f) : va_E))) e_72.symm
  | 73, hk =>
    obtain rfl : (.inl (1, 24, 1934, 1) : jd) = d := Option.some.inj hk
    exact congrArg (fun f => some (d9, (Sum.inl (τ 1, 24, Sum.inl f) : va_E))) e_73.symm
  | 74, hk =>
    obtain rfl : (.inl (1, 48, 1958, 1) : jd) = d := Option.some.inj hk
    exact congrArg (fun f => some (d10, (Sum.inl (τ 1, 48, Sum.inl f) : va_E))) e_74.symm
  | k + 75, hk => exact absurd (List.getElem?_eq_some_iff.mp hk).1 (by simp [jL])
theorem br_P {D : va_G} {E : jE} {M : jM} {ws : va_W} {H : Heap} (hE : D = (E.1, E.2.1)) (hb : ∀ (k : Nat) (d : jd), jL[k]? = some d → ws[pl k]? = some (ja E k, jc E M d)) (hP : va_P D jcl ws H) : va_P (E.1, E.2.1) jcl (jW E M) H := fun k q hq => by
  subst hE
  obtain ⟨d, hd, rfl⟩ := jW_of hq
  exact hP _ _ (hb k d hd)
theorem br_I {E : jE} {M : jM} {ws : va_W} {A : Nat → Prop} (hb : ∀ (k : Nat) (d : jd), jL[k]? = some d → ws[pl k]? = some (ja E k, jc E M d)) (hD : va_D A ws) : jI E ∧ ∀ k, k < 75 → A (ja E k) := by
  have g : ∀ k, k < 75 → ∃ d, jL[k]? = some d := fun k hk => ⟨_, List.getElem?_eq_getElem (by rw [jL_len]; exact hk)⟩
  refine ⟨fun i j hi hj e => ?_, fun k hk => ?_⟩
  · obtain ⟨d1, h1⟩ := g i hi
    obtain ⟨d2, h2⟩ := g j hj
    exact pl_i i hi j hj (hD.1 _ _ _ _ (hb i d1 h1) (hb j d2 h2) e)
  · obtain ⟨d1, h1⟩ := g k hk
    exact hD.2 _ _ (hb k d1 h1)
theorem M0_f6 : ∀ p, p < 16 → ∀ w, w < 6 → vb 1100 M0 (4 + 6 * p + w) = nI (f6 (vb 1100 M0) p w) ∧ f6 (vb 1100 M0) p w ≤ mx6 w := by decide +kernel
theorem M0_c : ∀ p, p < 16 → f6 (vb 1100 M0) p 0 ≠ p ∧ 1 ≤ f6 (vb 1100 M0) p 1 := by decide +kernel
theorem M0_f3 : ∀ p, p < 8 → ∀ w, w < 3 → vb 1100 M0 (100 + 3 * p + w) = nI (f3 (vb 1100 M0) p w) ∧ f3 (vb 1100 M0) p w ≤ mx3 w := by decide +kernel
theorem M0_s : ∀ j, j < 10 → vb 1100 M0 (124 + j) = -1 := by decide +kernel
theorem M0_v : ∀ j, j < 134 → M0 (0 + j) = M0 (1100 + j) := by decide +kernel
theorem M0_IS : IS (vb 1100 M0) := ⟨Can_vb _ _, M0_f6, M0_c, M0_f3, by decide +kernel, by decide +kernel, by decide +kernel, fun j hj => Or.inl (M0_s j hj)⟩
theorem M0_q : ∀ q, q < 4 → ∀ k, k < 42 → sv7 M0 q k = 0 ∧ sv8 M0 q k = 0 := by decide +kernel
theorem M0_rl : Rl M0 M0 := by
  have z : ∀ q k, sv7 M0 q k = 0 ∧ sv8 M0 q k = 0 := fun q k => by
    by_cases h : q < 4 ∧ k < 42
    · exact M0_q q h.1 k h.2
    · exact ⟨if_neg h, if_neg h⟩
  refine ⟨?_, M0_IS, by decide +kernel, ⟨false, by decide +kernel, by decide +kernel, fun h => by cases h⟩, ?_, ?_, ⟨0, by decide, by decide +kernel, by decide +kernel, fun j hj => absurd hj (by omega)⟩, ?_⟩
  · funext j
    unfold vb
    by_cases h : j < 134
    · rw [if_pos h, if_pos h]; exact M0_v j h
    · rw [if_neg h, if_neg h]
  · funext q k
    rw [(z q k).1, (z q k).2]
  · intro q hq
    exact ⟨0, 0, Or.inl rfl, by decide, (z q 0).2, (z q 1).2, fun _ => rfl⟩
  · intro i hi
    unfold M0
    rw [if_neg (by omega), if_neg (by omega), if_neg (by omega), if_neg (by omega), if_pos (by omega), show 1862 + i - 1862 = i by omega]
