section LAWL
variable {l : Launch} {E : jE} {X : jX} {b L i : Nat} {x : Nat → Int32} {st : List Value} {M : jM} {pc : Nat}
theorem L_slen {lv : List (Option Value)} (C : jK l E X RL code 4 13) (hX : va_X b L x (xs X) (xs X).heap) (hb : b < (xs X).heap.size) (hA : ¬ xA X b) (hd : decode code pc = .ok (.arraylength, 1)) (k : J E X (pc + 1) lv (.int (nI L) :: st) M) : J E X pc lv (.ref b :: st) M :=
  fun H locs ls hP hS hl => va_slen C.1.1 C.1.2.1 hX hb hA hS hd (k H locs ls hP hS hl)
theorem L_sld {lv : List (Option Value)} (C : jK l E X RL code 4 13) (hX : va_X b L x (xs X) (xs X).heap) (hb : b < (xs X).heap.size) (hA : ¬ xA X b) {j : Nat} (hj : j < L) (hL : L ≤ 3072) (hd : decode code pc = .ok (.iaload, 1)) (k : J E X (pc + 1) lv (.int (x j) :: st) M) : J E X pc lv (.int (nI j) :: .ref b :: st) M :=
  fun H locs ls hP hS hl => by
    have e := nI_clamp (n := j) (by omega)
    refine va_sld C.1.1 C.1.2.1 hX hb hA hS (i := nI j) ?_ hd (by rw [e]; exact k H locs ls hP hS hl)
    rintro (h | h)
    · have h := Int32.lt_iff_toInt_lt.mp h
      rw [nI_toInt (by omega)] at h
      have : (0 : Int32).toInt = 0 := by decide
      omega
    · rw [e] at h; omega
abbrev llv (E : jE) (b i : Nat) : List (Option Value) := [some (.ref b), some (.ref (ja E 59)), some (.ref (ja E 60)), some (.int (nI i))]
theorem L_arg (C : jK l E X RL code 4 13) (hX : va_X b L x (xs X) (xs X).heap) (hb : b < (xs X).heap.size) (hA : ¬ xA X b) (hi : i + 6 ≤ L) (hL : L ≤ 3072) (q : Nat) (hq : q < 6) {qi : Int} (hqi : Int32.ofInt qi = nI q) (d0 : decode code pc = .ok (.aload_n 0, 1)) (d1 : decode code (pc + 1) = .ok (.iload_n 3, 1)) (d2 : decode code (pc + 2) = .ok (.iconst qi, 1)) (d3 : decode code (pc + 3) = .ok (.iadd, 1)) (d4 : decode code (pc + 4) = .ok (.iaload, 1)) (k : J E X (pc + 5) (llv E b i) (.int (x (i + q)) :: st) M) : J E X pc (llv E b i) st M :=
  J_aload_n C d0 rfl (J_iload_n C d1 rfl (J_iconst C d2 hqi (J_iadd_n C d3 (L_sld C hX hb hA (by omega) hL d4 k))))
theorem L_and (y : Int32) : ∃ j, j < 64 ∧ y &&& nI 63 = nI j := by
  have h : (y &&& nI 63).toBitVec.toNat ≤ 63 := by
    rw [Int32.toBitVec_and, BitVec.toNat_and]
    exact Nat.and_le_right
  exact ⟨(y &&& nI 63).toBitVec.toNat, by omega, by
    apply Int32.toBitVec_inj.mp
    apply BitVec.eq_of_toNat_eq
    show _ = (BitVec.ofNat 32 _).toNat
    rw [BitVec.toNat_ofNat, Nat.mod_eq_of_lt (by omega)]⟩
theorem L_pond (C : jK l E X RL code 4 13) (hX : va_X b L x (xs X) (xs X).heap) (hb : b < (xs X).heap.size) (hA : ¬ xA X b) (hi : i + 6 ≤ L) (hL : L ≤ 3072) (h : Rl M M) (kk : ∀ M, Rl M M → J E X 1541 (llv E b i) [] M) : J E X 232 (llv E b i) [] M := by
  obtain ⟨r, M1, M2, c7, c8, h2⟩ := p_pond l E h (x (i + 1)) (x (i + 2))
  refine J_aload_n C (dA DL_law_0 22 rfl) rfl ?_
  refine L_arg C hX hb hA hi hL 1 (by decide) rfl (dA DL_law_0 23 rfl) (dA DL_law_0 24 rfl) (dA DL_law_0 25 rfl) (dA DL_law_0 26 rfl) (dA DL_law_0 27 rfl) ?_
  refine L_arg C hX hb hA hi hL 2 (by decide) rfl (dA DL_law_0 28 rfl) (dA DL_law_0 29 rfl) (dA DL_law_0 30 rfl) (dA DL_law_0 31 rfl) (dA DL_law_0 32 rfl) ?_
  refine V_X7_pond C c7 wM_RL_13 (by decide) (dA DL_law_0 33 rfl) rfl (Nat.le_of_ble_eq_true rfl) ?_
  refine J_aload_n C (dA DL_law_0 34 rfl) rfl ?_
  refine L_arg C hX hb hA hi hL 1 (by decide) rfl (dA DL_law_0 35 rfl) (dA DL_law_0 36 rfl) (dA DL_law_0 37 rfl) (dA DL_law_0 38 rfl) (dA DL_law_0 39 rfl) ?_
  refine L_arg C hX hb hA hi hL 2 (by decide) rfl (dA DL_law_0 40 rfl) (dA DL_law_0 41 rfl) (dA DL_law_0 42 rfl) (dA DL_law_0 43 rfl) (dA DL_law_0 44 rfl) ?_
  refine V_X8_pond C c8 wM_RL_17 (by decide) (dA DL_law_0 45 rfl) rfl (Nat.le_of_ble_eq_true rfl) ?_
  exact J_icmp_eq (tgt := 1541) C (dA DL_law_0 46 rfl) (by decide) (fun _ => kk M2 h2) (fun z => absurd rfl z)
theorem L_dig (C : jK l E X RL code 4 13) (hX : va_X b L x (xs X) (xs X).heap) (hb : b < (xs X).heap.size) (hA : ¬ xA X b) (hi : i + 6 ≤ L) (hL : L ≤ 3072) (h : Rl M M) (kk : ∀ M, Rl M M → J E X 1541 (llv E b i) [] M) : J E X 265 (llv E b i) [] M := by
  obtain ⟨r, M1, M2, c7, c8, h2⟩ := p_dig l E h (x (i + 1)) (x (i + 2)) (x (i + 3))
  refine J_aload_n C (dA DL_law_0 49 rfl) rfl ?_
  refine L_arg C hX hb hA hi hL 1 (by decide) rfl (dA DL_law_0 50 rfl) (dA DL_law_0 51 rfl) (dA DL_law_0 52 rfl) (dA DL_law_0 53 rfl) (dA DL_law_0 54 rfl) ?_
  refine L_arg C hX hb hA hi hL 2 (by decide) rfl (dA DL_law_0 55 rfl) (dA DL_law_0 56 rfl) (dA DL_law_0 57 rfl) (dA DL_law_0 58 rfl) (dA DL_law_0 59 rfl) ?_
  refine L_arg C hX hb hA hi hL 3 (by decide) rfl (dA DL_law_0 60 rfl) (dA DL_law_0 61 rfl) (dA DL_law_0 62 rfl) (dA DL_law_0 63 rfl) (dA DL_law_0 64 rfl) ?_
  refine V_X7_dig C c7 wM_RL_18 (by decide) (dA DL_law_0 65 rfl) rfl (Nat.le_of_ble_eq_true rfl) ?_
  refine J_aload_n C (dA DL_law_0 66 rfl) rfl ?_
  refine L_arg C hX hb hA hi hL 1 (by decide) rfl (dA DL_law_0 67 rfl) (dA DL_law_0 68 rfl) (dA DL_law_0 69 rfl) (dA DL_law_0 70 rfl) (dA DL_law_0 71 rfl) ?_
  refine L_arg C hX hb hA hi hL 2 (by decide) rfl (dA DL_law_0 72 rfl) (dA DL_law_0 73 rfl) (dA DL_law_0 74 rfl) (dA DL_law_0 75 rfl) (dA DL_law_0 76 rfl) ?_
  refine L_arg C hX hb hA hi hL 3 (by decide) rfl (dA DL_law_0 77 rfl) (dA DL_law_0 78 rfl) (dA DL_law_0 79 rfl) (dA DL_law_0 80 rfl) (dA DL_law_0 81 rfl) ?_
  refine V_X8_dig C c8 wM_RL_22 (by decide) (dA DL_law_0 82 rfl) rfl (Nat.le_of_ble_eq_true rfl) ?_
  exact J_icmp_eq (tgt := 1541) C (dA DL_law_0 83 rfl) (by decide) (fun _ => kk M2 h2) (fun z => absurd rfl z)
theorem L_thing (C : jK l E X RL code 4 13) (hX : va_X b L x (xs X) (xs X).heap) (hb : b < (xs X).heap.size) (hA : ¬ xA X b) (hi : i + 6 ≤ L) (hL : L ≤ 3072) (h : Rl M M) (kk : ∀ M, Rl M M → J E X 1541 (llv E b i) [] M) : J E X 308 (llv E b i) [] M := by
  obtain ⟨r, M1, M2, c7, c8, h2⟩ := p_thing l E h (x (i + 1)) (x (i + 2))
  refine J_aload_n C (dA DL_law_0 86 rfl) rfl ?_
  refine L_arg C hX hb hA hi hL 1 (by decide) rfl (dA DL_law_0 87 rfl) (dA DL_law_0 88 rfl) (dA DL_law_0 89 rfl) (dA DL_law_0 90 rfl) (dA DL_law_0 91 rfl) ?_
  refine L_arg C hX hb hA hi hL 2 (by decide) rfl (dA DL_law_0 92 rfl) (dA DL_law_0 93 rfl) (dA DL_law_0 94 rfl) (dA DL_law_0 95 rfl) (dA DL_law_0 96 rfl) ?_
  refine V_X7_thing C c7 wM_RL_23 (by decide) (dA DL_law_0 97 rfl) rfl (Nat.le_of_ble_eq_true rfl) ?_
  refine J_aload_n C (dA DL_law_0 98 rfl) rfl ?_
  refine L_arg C hX hb hA hi hL 1 (by decide) rfl (dA DL_law_0 99 rfl) (dA DL_law_0 100 rfl) (dA DL_law_0 101 rfl) (dA DL_law_0 102 rfl) (dA DL_law_0 103 rfl) ?_
  refine L_arg C hX hb hA hi hL 2 (by decide) rfl (dA DL_law_0 104 rfl) (dA DL_law_0 105 rfl) (dA DL_law_0 106 rfl) (dA DL_law_0 107 rfl) (dA DL_law_0 108 rfl) ?_
  refine V_X8_thing C c8 wM_RL_26 (by decide) (dA DL_law_0 109 rfl) rfl (Nat.le_of_ble_eq_true rfl) ?_
  exact J_icmp_eq (tgt := 1541) C (dA DL_law_0 110 rfl) (by decide) (fun _ => kk M2 h2) (fun z => absurd rfl z)
theorem L_of (C : jK l E X RL code 4 13) (hX : va_X b L x (xs X) (xs X).heap) (hb : b < (xs X).heap.size) (hA : ¬ xA X b) (hi : i + 6 ≤ L) (hL : L ≤ 3072) (h : Rl M M) (kk : ∀ M, Rl M M → J E X 1541 (llv E b i) [] M) : J E X 341 (llv E b i) [] M := by
  obtain ⟨r, M1, M2, c7, c8, h2⟩ := p_of l E h (x (i + 1)) (x (i + 2))
  refine J_aload_n C (dA DL_law_0 113 rfl) rfl ?_
  refine L_arg C hX hb hA hi hL 1 (by decide) rfl (dA DL_law_0 114 rfl) (dA DL_law_0 115 rfl) (dA DL_law_0 116 rfl) (dA DL_law_0 117 rfl) (dA DL_law_0 118 rfl) ?_
  refine L_arg C hX hb hA hi hL 2 (by decide) rfl (dA DL_law_0 119 rfl) (dA DL_law_1 0 rfl) (dA DL_law_1 1 rfl) (dA DL_law_1 2 rfl) (dA DL_law_1 3 rfl) ?_
  refine V_X7_of C c7 wM_RL_27 (by decide) (dA DL_law_1 4 rfl) rfl (Nat.le_of_ble_eq_true rfl) ?_
  refine J_aload_n C (dA DL_law_1 5 rfl) rfl ?_
  refine L_arg C hX hb hA hi hL 1 (by decide) rfl (dA DL_law_1 6 rfl) (dA DL_law_1 7 rfl) (dA DL_law_1 8 rfl) (dA DL_law_1 9 rfl) (dA DL_law_1 10 rfl) ?_
  refine L_arg C hX hb hA hi hL 2 (by decide) rfl (dA DL_law_1 11 rfl) (dA DL_law_1 12 rfl) (dA DL_law_1 13 rfl) (dA DL_law_1 14 rfl) (dA DL_law_1 15 rfl) ?_
  refine V_X8_of C c8 wM_RL_30 (by decide) (dA DL_law_1 16 rfl) rfl (Nat.le_of_ble_eq_true rfl) ?_
  exact J_icmp_eq (tgt := 1541) C (dA DL_law_1 17 rfl) (by decide) (fun _ => kk M2 h2) (fun z => absurd rfl z)
theorem L_change (C : jK l E X RL code 4 13) (hX : va_X b L x (xs X) (xs X).heap) (hb : b < (xs X).heap.size) (hA : ¬ xA X b) (hi : i + 6 ≤ L) (hL : L ≤ 3072) (h : Rl M M) (kk : ∀ M, Rl M M → J E X 1541 (llv E b i) [] M) : J E X 374 (llv E b i) [] M := by
  obtain ⟨r, M1, M2, c7, c8, h2⟩ := p_change l E h (x (i + 1)) (x (i + 2)) (x (i + 3))
  refine J_aload_n C (dA DL_law_1 20 rfl) rfl ?_
  refine L_arg C hX hb hA hi hL 1 (by decide) rfl (dA DL_law_1 21 rfl) (dA DL_law_1 22 rfl) (dA DL_law_1 23 rfl) (dA DL_law_1 24 rfl) (dA DL_law_1 25 rfl) ?_
  refine L_arg C hX hb hA hi hL 2 (by decide) rfl (dA DL_law_1 26 rfl) (dA DL_law_1 27 rfl) (dA DL_law_1 28 rfl) (dA DL_law_1 29 rfl) (dA DL_law_1 30 rfl) ?_
  refine L_arg C hX hb hA hi hL 3 (by decide) rfl (dA DL_law_1 31 rfl) (dA DL_law_1 32 rfl) (dA DL_law_1 33 rfl) (dA DL_law_1 34 rfl) (dA DL_law_1 35 rfl) ?_
  refine V_X7_change C c7 wM_RL_31 (by decide) (dA DL_law_1 36 rfl) rfl (Nat.le_of_ble_eq_true rfl) ?_
  refine J_aload_n C (dA DL_law_1 37 rfl) rfl ?_
  refine L_arg C hX hb hA hi hL 1 (by decide) rfl (dA DL_law_1 38 rfl) (dA DL_law_1 39 rfl) (dA DL_law_1 40 rfl) (dA DL_law_1 41 rfl) (dA DL_law_1 42 rfl) ?_
  refine L_arg C hX hb hA hi hL 2 (by decide) rfl (dA DL_law_1 43 rfl) (dA DL_law_1 44 rfl) (dA DL_law_1 45 rfl) (dA DL_law_1 46 rfl) (dA DL_law_1 47 rfl) ?_
  refine L_arg C hX hb hA hi hL 3 (by decide) rfl (dA DL_law_1 48 rfl) (dA DL_law_1 49 rfl) (dA DL_law_1 50 rfl) (dA DL_law_1 51 rfl) (dA DL_law_1 52 rfl) ?_
  refine V_X8_change C c8 wM_RL_34 (by decide) (dA DL_law_1 53 rfl) rfl (Nat.le_of_ble_eq_true rfl) ?_
  exact J_icmp_eq (tgt := 1541) C (dA DL_law_1 54 rfl) (by decide) (fun _ => kk M2 h2) (fun z => absurd rfl z)
theorem L_rain (C : jK l E X RL code 4 13) (hX : va_X b L x (xs X) (xs X).heap) (hb : b < (xs X).heap.size) (hA : ¬ xA X b) (hi : i + 6 ≤ L) (hL : L ≤ 3072) (h : Rl M M) (kk : ∀ M, Rl M M → J E X 1541 (llv E b i) [] M) : J E X 417 (llv E b i) [] M := by
  obtain ⟨r, M1, M2, c7, c8, h2⟩ := p_rain l E h (x (i + 1))
  refine J_aload_n C (dA DL_law_1 57 rfl) rfl ?_
  refine L_arg C hX hb hA hi hL 1 (by decide) rfl (dA DL_law_1 58 rfl) (dA DL_law_1 59 rfl) (dA DL_law_1 60 rfl) (dA DL_law_1 61 rfl) (dA DL_law_1 62 rfl) ?_
  refine V_X7_rain C c7 wM_RL_35 (by decide) (dA DL_law_1 63 rfl) rfl (Nat.le_of_ble_eq_true rfl) ?_
  refine J_aload_n C (dA DL_law_1 64 rfl) rfl ?_
  refine L_arg C hX hb hA hi hL 1 (by decide) rfl (dA DL_law_1 65 rfl) (dA DL_law_1 66 rfl) (dA DL_law_1 67 rfl) (dA DL_law_1 68 rfl) (dA DL_law_1 69 rfl) ?_
  refine V_X8_rain C c8 wM_RL_39 (by decide) (dA DL_law_1 70 rfl) rfl (Nat.le_of_ble_eq_true rfl) ?_
  exact J_icmp_eq (tgt := 1541) C (dA DL_law_1 71 rfl) (by decide) (fun _ => kk M2 h2) (fun z => absurd rfl z)
theorem L_go (C : jK l E X RL code 4 13) (hX : va_X b L x (xs X) (xs X).heap) (hb : b < (xs X).heap.size) (hA : ¬ xA X b) (hi : i + 6 ≤ L) (hL : L ≤ 3072) (h : Rl M M) (kk : ∀ M, Rl M M → J E X 1541 (llv E b i) [] M) : J E X 440 (llv E b i) [] M := by
  obtain ⟨r, M1, M2, c7, c8, h2⟩ := p_go l E h (x (i + 1))
  refine J_aload_n C (dA DL_law_1 74 rfl) rfl ?_
  refine L_arg C hX hb hA hi hL 1 (by decide) rfl (dA DL_law_1 75 rfl) (dA DL_law_1 76 rfl) (dA DL_law_1 77 rfl) (dA DL_law_1 78 rfl) (dA DL_law_1 79 rfl) ?_
  refine V_X7_go C c7 wM_RL_40 (by decide) (dA DL_law_1 80 rfl) rfl (Nat.le_of_ble_eq_true rfl) ?_
  refine J_aload_n C (dA DL_law_1 81 rfl) rfl ?_
  refine L_arg C hX hb hA hi hL 1 (by decide) rfl (dA DL_law_1 82 rfl) (dA DL_law_1 83 rfl) (dA DL_law_1 84 rfl) (dA DL_law_1 85 rfl) (dA DL_law_1 86 rfl) ?_
  refine V_X8_go C c8 wM_RL_43 (by decide) (dA DL_law_1 87 rfl) rfl (Nat.le_of_ble_eq_true rfl) ?_
  exact J_icmp_eq (tgt := 1541) C (dA DL_law_1 88 rfl) (by decide) (fun _ => kk M2 h2) (fun z => absurd rfl z)
theorem L_now (C : jK l E X RL code 4 13) (hX : va_X b L x (xs X) (xs X).heap) (hb : b < (xs X).heap.size) (hA : ¬ xA X b) (hi : i + 6 ≤ L) (hL : L ≤ 3072) (h : Rl M M) (kk : ∀ M, Rl M M → J E X 1541 (llv E b i) [] M) : J E X 463 (llv E b i) [] M := by
  obtain ⟨r, M1, M2, c7, c8, h2⟩ := p_now l E h (x (i + 1))
  refine J_aload_n C (dA DL_law_1 91 rfl) rfl ?_
  refine L_arg C hX hb hA hi hL 1 (by decide) rfl (dA DL_law_1 92 rfl) (dA DL_law_1 93 rfl) (dA DL_law_1 94 rfl) (dA DL_law_1 95 rfl) (dA DL_law_1 96 rfl) ?_
  refine V_X7_now C c7 wM_RL_44 (by decide) (dA DL_law_1 97 rfl) rfl (Nat.le_of_ble_eq_true rfl) ?_
  refine J_aload_n C (dA DL_law_1 98 rfl) rfl ?_
  refine L_arg C hX hb hA hi hL 1 (by decide) rfl (dA DL_law_1 99 rfl) (dA DL_law_1 100 rfl) (dA DL_law_1 101 rfl) (dA DL_law_1 102 rfl) (dA DL_law_1 103 rfl) ?_
  refine V_X8_now C c8 wM_RL_47 (by decide) (dA DL_law_1 104 rfl) rfl (Nat.le_of_ble_eq_true rfl) ?_
  exact J_icmp_eq (tgt := 1541) C (dA DL_law_1 105 rfl) (by decide) (fun _ => kk M2 h2) (fun z => absurd rfl z)
theorem L_chain (C : jK l E X RL code 4 13) (hX : va_X b L x (xs X) (xs X).heap) (hb : b < (xs X).heap.size) (hA : ¬ xA X b) (hi : i + 6 ≤ L) (hL : L ≤ 3072) (h : Rl M M) (kk : ∀ M, Rl M M → J E X 1541 (llv E b i) [] M) : J E X 486 (llv E b i) [] M := by
  obtain ⟨r, M1, M2, c7, c8, h2⟩ := p_chain l E h (x (i + 1)) (x (i + 2)) (x (i + 3))
  refine J_aload_n C (dA DL_law_1 108 rfl) rfl ?_
  refine L_arg C hX hb hA hi hL 1 (by decide) rfl (dA DL_law_1 109 rfl) (dA DL_law_1 110 rfl) (dA DL_law_1 111 rfl) (dA DL_law_1 112 rfl) (dA DL_law_1 113 rfl) ?_
  refine L_arg C hX hb hA hi hL 2 (by decide) rfl (dA DL_law_1 114 rfl) (dA DL_law_1 115 rfl) (dA DL_law_1 116 rfl) (dA DL_law_1 117 rfl) (dA DL_law_1 118 rfl) ?_
  refine L_arg C hX hb hA hi hL 3 (by decide) rfl (dA DL_law_1 119 rfl) (dA DL_law_2 0 rfl) (dA DL_law_2 1 rfl) (dA DL_law_2 2 rfl) (dA DL_law_2 3 rfl) ?_
  refine V_X7_chain C c7 wM_RL_48 (by decide) (dA DL_law_2 4 rfl) rfl (Nat.le_of_ble_eq_true rfl) ?_
  refine J_aload_n C (dA DL_law_2 5 rfl) rfl ?_
  refine L_arg C hX hb hA hi hL 1 (by decide) rfl (dA DL_law_2 6 rfl) (dA DL_law_2 7 rfl) (dA DL_law_2 8 rfl) (dA DL_law_2 9 rfl) (dA DL_law_2 10 rfl) ?_
  refine L_arg C hX hb hA hi hL 2 (by decide) rfl (dA DL_law_2 11 rfl) (dA DL_law_2 12 rfl) (dA DL_law_2 13 rfl) (dA DL_law_2 14 rfl) (dA DL_law_2 15 rfl) ?_
  refine L_arg C hX hb hA hi hL 3 (by decide) rfl (dA DL_law_2 16 rfl) (dA DL_law_2 17 rfl) (dA DL_law_2 18 rfl) (dA DL_law_2 19 rfl) (dA DL_law_2 20 rfl) ?_
  refine V_X8_chain C c8 wM_RL_51 (by decide) (dA DL_law_2 21 rfl) rfl (Nat.le_of_ble_eq_true rfl) ?_
  exact J_icmp_eq (tgt := 1541) C (dA DL_law_2 22 rfl) (by decide) (fun _ => kk M2 h2) (fun z => absurd rfl z)
theorem L_through (C : jK l E X RL code 4 13) (hX : va_X b L x (xs X) (xs X).heap) (hb : b < (xs X).heap.size) (hA : ¬ xA X b) (hi : i + 6 ≤ L) (hL : L ≤ 3072) (h : Rl M M) (kk : ∀ M, Rl M M → J E X 1541 (llv E b i) [] M) : J E X 529 (llv E b i) [] M := by
  obtain ⟨r, M1, M2, c7, c8, h2⟩ := p_through l E h (x (i + 1)) (x (i + 2))
  refine J_aload_n C (dA DL_law_2 25 rfl) rfl ?_
  refine L_arg C hX hb hA hi hL 1 (by decide) rfl (dA DL_law_2 26 rfl) (dA DL_law_2 27 rfl) (dA DL_law_2 28 rfl) (dA DL_law_2 29 rfl) (dA DL_law_2 30 rfl) ?_
  refine L_arg C hX hb hA hi hL 2 (by decide) rfl (dA DL_law_2 31 rfl) (dA DL_law_2 32 rfl) (dA DL_law_2 33 rfl) (dA DL_law_2 34 rfl) (dA DL_law_2 35 rfl) ?_
  refine V_X7_through C c7 wM_RL_52 (by decide) (dA DL_law_2 36 rfl) rfl (Nat.le_of_ble_eq_true rfl) ?_
  refine J_aload_n C (dA DL_law_2 37 rfl) rfl ?_
  refine L_arg C hX hb hA hi hL 1 (by decide) rfl (dA DL_law_2 38 rfl) (dA DL_law_2 39 rfl) (dA DL_law_2 40 rfl) (dA DL_law_2 41 rfl) (dA DL_law_2 42 rfl) ?_
  refine L_arg C hX hb hA hi hL 2 (by decide) rfl (dA DL_law_2 43 rfl) (dA DL_law_2 44 rfl) (dA DL_law_2 45 rfl) (dA DL_law_2 46 rfl) (dA DL_law_2 47 rfl) ?_
  refine V_X8_through C c8 wM_RL_55 (by decide) (dA DL_law_2 48 rfl) rfl (Nat.le_of_ble_eq_true rfl) ?_
  exact J_icmp_eq (tgt := 1541) C (dA DL_law_2 49 rfl) (by decide) (fun _ => kk M2 h2) (fun z => absurd rfl z)
theorem L_upright (C : jK l E X RL code 4 13) (hX : va_X b L x (xs X) (xs X).heap) (hb : b < (xs X).heap.size) (hA : ¬ xA X b) (hi : i + 6 ≤ L) (hL : L ≤ 3072) (h : Rl M M) (kk : ∀ M, Rl M M → J E X 1541 (llv E b i) [] M) : J E X 562 (llv E b i) [] M := by
  obtain ⟨r, M1, M2, c7, c8, h2⟩ := p_upright l E h (x (i + 1))
  refine J_aload_n C (dA DL_law_2 52 rfl) rfl ?_
  refine L_arg C hX hb hA hi hL 1 (by decide) rfl (dA DL_law_2 53 rfl) (dA DL_law_2 54 rfl) (dA DL_law_2 55 rfl) (dA DL_law_2 56 rfl) (dA DL_law_2 57 rfl) ?_
  refine V_X7_upright C c7 wM_RL_56 (by decide) (dA DL_law_2 58 rfl) rfl (Nat.le_of_ble_eq_true rfl) ?_
  refine J_aload_n C (dA DL_law_2 59 rfl) rfl ?_
  refine L_arg C hX hb hA hi hL 1 (by decide) rfl (dA DL_law_2 60 rfl) (dA DL_law_2 61 rfl) (dA DL_law_2 62 rfl) (dA DL_law_2 63 rfl) (dA DL_law_2 64 rfl) ?_
  refine V_X8_upright C c8 wM_RL_59 (by decide) (dA DL_law_2 65 rfl) rfl (Nat.le_of_ble_eq_true rfl) ?_
  exact J_icmp_eq (tgt := 1541) C (dA DL_law_2 66 rfl) (by decide) (fun _ => kk M2 h2) (fun z => absurd rfl z)
theorem L_large (C : jK l E X RL code 4 13) (hX : va_X b L x (xs X) (xs X).heap) (hb : b < (xs X).heap.size) (hA : ¬ xA X b) (hi : i + 6 ≤ L) (hL : L ≤ 3072) (h : Rl M M) (kk : ∀ M, Rl M M → J E X 1541 (llv E b i) [] M) : J E X 585 (llv E b i) [] M := by
  obtain ⟨r, M1, M2, c7, c8, h2⟩ := p_large l E h (x (i + 1)) (x (i + 2)) (x (i + 3))
  refine J_aload_n C (dA DL_law_2 69 rfl) rfl ?_
  refine L_arg C hX hb hA hi hL 1 (by decide) rfl (dA DL_law_2 70 rfl) (dA DL_law_2 71 rfl) (dA DL_law_2 72 rfl) (dA DL_law_2 73 rfl) (dA DL_law_2 74 rfl) ?_
  refine L_arg C hX hb hA hi hL 2 (by decide) rfl (dA DL_law_2 75 rfl) (dA DL_law_2 76 rfl) (dA DL_law_2 77 rfl) (dA DL_law_2 78 rfl) (dA DL_law_2 79 rfl) ?_
  refine L_arg C hX hb hA hi hL 3 (by decide) rfl (dA DL_law_2 80 rfl) (dA DL_law_2 81 rfl) (dA DL_law_2 82 rfl) (dA DL_law_2 83 rfl) (dA DL_law_2 84 rfl) ?_
  refine V_X7_large C c7 wM_RL_60 (by decide) (dA DL_law_2 85 rfl) rfl (Nat.le_of_ble_eq_true rfl) ?_
  refine J_aload_n C (dA DL_law_2 86 rfl) rfl ?_
  refine L_arg C hX hb hA hi hL 1 (by decide) rfl (dA DL_law_2 87 rfl) (dA DL_law_2 88 rfl) (dA DL_law_2 89 rfl) (dA DL_law_2 90 rfl) (dA DL_law_2 91 rfl) ?_
  refine L_arg C hX hb hA hi hL 2 (by decide) rfl (dA DL_law_2 92 rfl) (dA DL_law_2 93 rfl) (dA DL_law_2 94 rfl) (dA DL_law_2 95 rfl) (dA DL_law_2 96 rfl) ?_
  refine L_arg C hX hb hA hi hL 3 (by decide) rfl (dA DL_law_2 97 rfl) (dA DL_law_2 98 rfl) (dA DL_law_2 99 rfl) (dA DL_law_2 100 rfl) (dA DL_law_2 101 rfl) ?_
  refine V_X8_large C c8 wM_RL_63 (by decide) (dA DL_law_2 102 rfl) rfl (Nat.le_of_ble_eq_true rfl) ?_
  exact J_icmp_eq (tgt := 1541) C (dA DL_law_2 103 rfl) (by decide) (fun _ => kk M2 h2) (fun z => absurd rfl z)
theorem L_round (C : jK l E X RL code 4 13) (hX : va_X b L x (xs X) (xs X).heap) (hb : b < (xs X).heap.size) (hA : ¬ xA X b) (hi : i + 6 ≤ L) (hL : L ≤ 3072) (h : Rl M M) (kk : ∀ M, Rl M M → J E X 1541 (llv E b i) [] M) : J E X 628 (llv E b i) [] M := by
  obtain ⟨r, M1, M2, c7, c8, h2⟩ := p_round l E h (x (i + 1))
  refine J_aload_n C (dA DL_law_2 106 rfl) rfl ?_
  refine L_arg C hX hb hA hi hL 1 (by decide) rfl (dA DL_law_2 107 rfl) (dA DL_law_2 108 rfl) (dA DL_law_2 109 rfl) (dA DL_law_2 110 rfl) (dA DL_law_2 111 rfl) ?_
  refine V_X7_round C c7 wM_RL_64 (by decide) (dA DL_law_2 112 rfl) rfl (Nat.le_of_ble_eq_true rfl) ?_
  refine J_aload_n C (dA DL_law_2 113 rfl) rfl ?_
  refine L_arg C hX hb hA hi hL 1 (by decide) rfl (dA DL_law_2 114 rfl) (dA DL_law_2 115 rfl) (dA DL_law_2 116 rfl) (dA DL_law_2 117 rfl) (dA DL_law_2 118 rfl) ?_
  refine V_X8_round C c8 wM_RL_67 (by decide) (dA DL_law_2 119 rfl) rfl (Nat.le_of_ble_eq_true rfl) ?_
  exact J_icmp_eq (tgt := 1541) C (dA DL_law_3 0 rfl) (by decide) (fun _ => kk M2 h2) (fun z => absurd rfl z)
theorem L_rounds (C : jK l E X RL code 4 13) (hX : va_X b L x (xs X) (xs X).heap) (hb : b < (xs X).heap.size) (hA : ¬ xA X b) (hi : i + 6 ≤ L) (hL : L ≤ 3072) (h : Rl M M) (kk : ∀ M, Rl M M → J E X 1541 (llv E b i) [] M) : J E X 651 (llv E b i) [] M := by
  obtain ⟨r, M1, M2, c7, c8, h2⟩ := p_rounds l E h
  refine J_aload_n C (dA DL_law_3 3 rfl) rfl ?_
  refine V_X7_rounds C c7 wM_RL_68 (by decide) (dA DL_law_3 4 rfl) rfl (Nat.le_of_ble_eq_true rfl) ?_
  refine J_aload_n C (dA DL_law_3 5 rfl) rfl ?_
  refine V_X8_rounds C c8 wM_RL_72 (by decide) (dA DL_law_3 6 rfl) rfl (Nat.le_of_ble_eq_true rfl) ?_
  exact J_icmp_eq (tgt := 1541) C (dA DL_law_3 7 rfl) (by decide) (fun _ => kk M2 h2) (fun z => absurd rfl z)
theorem L_before (C : jK l E X RL code 4 13) (hX : va_X b L x (xs X) (xs X).heap) (hb : b < (xs X).heap.size) (hA : ¬ xA X b) (hi : i + 6 ≤ L) (hL : L ≤ 3072) (h : Rl M M) (kk : ∀ M, Rl M M → J E X 1541 (llv E b i) [] M) : J E X 664 (llv E b i) [] M := by
  obtain ⟨r, M1, M2, c7, c8, h2⟩ := p_before l E h (x (i + 1))
  refine J_aload_n C (dA DL_law_3 10 rfl) rfl ?_
  refine L_arg C hX hb hA hi hL 1 (by decide) rfl (dA DL_law_3 11 rfl) (dA DL_law_3 12 rfl) (dA DL_law_3 13 rfl) (dA DL_law_3 14 rfl) (dA DL_law_3 15 rfl) ?_
  refine V_X7_before C c7 wM_RL_73 (by decide) (dA DL_law_3 16 rfl) rfl (Nat.le_of_ble_eq_true rfl) ?_
  refine J_aload_n C (dA DL_law_3 17 rfl) rfl ?_
  refine L_arg C hX hb hA hi hL 1 (by decide) rfl (dA DL_law_3 18 rfl) (dA DL_law_3 19 rfl) (dA DL_law_3 20 rfl) (dA DL_law_3 21 rfl) (dA DL_law_3 22 rfl) ?_
  refine V_X8_before C c8 wM_RL_76 (by decide) (dA DL_law_3 23 rfl) rfl (Nat.le_of_ble_eq_true rfl) ?_
  exact J_icmp_eq (tgt := 1541) C (dA DL_law_3 24 rfl) (by decide) (fun _ => kk M2 h2) (fun z => absurd rfl z)
theorem L_shownBy (C : jK l E X RL code 4 13) (hX : va_X b L x (xs X) (xs X).heap) (hb : b < (xs X).heap.size) (hA : ¬ xA X b) (hi : i + 6 ≤ L) (hL : L ≤ 3072) (h : Rl M M) (kk : ∀ M, Rl M M → J E X 1541 (llv E b i) [] M) : J E X 687 (llv E b i) [] M := by
  obtain ⟨r, M1, M2, c7, c8, h2⟩ := p_shownBy l E h (x (i + 1))
  refine J_aload_n C (dA DL_law_3 27 rfl) rfl ?_
  refine L_arg C hX hb hA hi hL 1 (by decide) rfl (dA DL_law_3 28 rfl) (dA DL_law_3 29 rfl) (dA DL_law_3 30 rfl) (dA DL_law_3 31 rfl) (dA DL_law_3 32 rfl) ?_
  refine V_X7_shownBy C c7 wM_RL_77 (by decide) (dA DL_law_3 33 rfl) rfl (Nat.le_of_ble_eq_true rfl) ?_
  refine J_aload_n C (dA DL_law_3 34 rfl) rfl ?_
  refine L_arg C hX hb hA hi hL 1 (by decide) rfl (dA DL_law_3 35 rfl) (dA DL_law_3 36 rfl) (dA DL_law_3 37 rfl) (dA DL_law_3 38 rfl) (dA DL_law_3 39 rfl) ?_
  refine V_X8_shownBy C c8 wM_RL_80 (by decide) (dA DL_law_3 40 rfl) rfl (Nat.le_of_ble_eq_true rfl) ?_
  exact J_icmp_eq (tgt := 1541) C (dA DL_law_3 41 rfl) (by decide) (fun _ => kk M2 h2) (fun z => absurd rfl z)
theorem L_ahead (C : jK l E X RL code 4 13) (hX : va_X b L x (xs X) (xs X).heap) (hb : b < (xs X).heap.size) (hA : ¬ xA X b) (hi : i + 6 ≤ L) (hL : L ≤ 3072) (h : Rl M M) (kk : ∀ M, Rl M M → J E X 1541 (llv E b i) [] M) : J E X 710 (llv E b i) [] M := by
  obtain ⟨r, M1, M2, c7, c8, h2⟩ := p_ahead l E h (x (i + 1)) (x (i + 2))
  refine J_aload_n C (dA DL_law_3 44 rfl) rfl ?_
  refine L_arg C hX hb hA hi hL 1 (by decide) rfl (dA DL_law_3 45 rfl) (dA DL_law_3 46 rfl) (dA DL_law_3 47 rfl) (dA DL_law_3 48 rfl) (dA DL_law_3 49 rfl) ?_
  refine L_arg C hX hb hA hi hL 2 (by decide) rfl (dA DL_law_3 50 rfl) (dA DL_law_3 51 rfl) (dA DL_law_3 52 rfl) (dA DL_law_3 53 rfl) (dA DL_law_3 54 rfl) ?_
  refine V_X7_ahead C c7 wM_RL_81 (by decide) (dA DL_law_3 55 rfl) rfl (Nat.le_of_ble_eq_true rfl) ?_
  refine J_aload_n C (dA DL_law_3 56 rfl) rfl ?_
  refine L_arg C hX hb hA hi hL 1 (by decide) rfl (dA DL_law_3 57 rfl) (dA DL_law_3 58 rfl) (dA DL_law_3 59 rfl) (dA DL_law_3 60 rfl) (dA DL_law_3 61 rfl) ?_
  refine L_arg C hX hb hA hi hL 2 (by decide) rfl (dA DL_law_3 62 rfl) (dA DL_law_3 63 rfl) (dA DL_law_3 64 rfl) (dA DL_law_3 65 rfl) (dA DL_law_3 66 rfl) ?_
  refine V_X8_ahead C c8 wM_RL_84 (by decide) (dA DL_law_3 67 rfl) rfl (Nat.le_of_ble_eq_true rfl) ?_
  exact J_icmp_eq (tgt := 1541) C (dA DL_law_3 68 rfl) (by decide) (fun _ => kk M2 h2) (fun z => absurd rfl z)
theorem L_comes (C : jK l E X RL code 4 13) (hX : va_X b L x (xs X) (xs X).heap) (hb : b < (xs X).heap.size) (hA : ¬ xA X b) (hi : i + 6 ≤ L) (hL : L ≤ 3072) (h : Rl M M) (kk : ∀ M, Rl M M → J E X 1541 (llv E b i) [] M) : J E X 743 (llv E b i) [] M := by
  obtain ⟨r, M1, M2, c7, c8, h2⟩ := p_comes l E h (x (i + 1)) (x (i + 2))
  refine J_aload_n C (dA DL_law_3 71 rfl) rfl ?_
  refine L_arg C hX hb hA hi hL 1 (by decide) rfl (dA DL_law_3 72 rfl) (dA DL_law_3 73 rfl) (dA DL_law_3 74 rfl) (dA DL_law_3 75 rfl) (dA DL_law_3 76 rfl) ?_
  refine L_arg C hX hb hA hi hL 2 (by decide) rfl (dA DL_law_3 77 rfl) (dA DL_law_3 78 rfl) (dA DL_law_3 79 rfl) (dA DL_law_3 80 rfl) (dA DL_law_3 81 rfl) ?_
  refine V_X7_comes C c7 wM_RL_85 (by decide) (dA DL_law_3 82 rfl) rfl (Nat.le_of_ble_eq_true rfl) ?_
  refine J_aload_n C (dA DL_law_3 83 rfl) rfl ?_
  refine L_arg C hX hb hA hi hL 1 (by decide) rfl (dA DL_law_3 84 rfl) (dA DL_law_3 85 rfl) (dA DL_law_3 86 rfl) (dA DL_law_3 87 rfl) (dA DL_law_3 88 rfl) ?_
  refine L_arg C hX hb hA hi hL 2 (by decide) rfl (dA DL_law_3 89 rfl) (dA DL_law_3 90 rfl) (dA DL_law_3 91 rfl) (dA DL_law_3 92 rfl) (dA DL_law_3 93 rfl) ?_
  refine V_X8_comes C c8 wM_RL_88 (by decide) (dA DL_law_3 94 rfl) rfl (Nat.le_of_ble_eq_true rfl) ?_
  exact J_icmp_eq (tgt := 1541) C (dA DL_law_3 95 rfl) (by decide) (fun _ => kk M2 h2) (fun z => absurd rfl z)
theorem L_seen (C : jK l E X RL code 4 13) (hX : va_X b L x (xs X) (xs X).heap) (hb : b < (xs X).heap.size) (hA : ¬ xA X b) (hi : i + 6 ≤ L) (hL : L ≤ 3072) (h : Rl M M) (kk : ∀ M, Rl M M → J E X 1541 (llv E b i) [] M) : J E X 776 (llv E b i) [] M := by
  obtain ⟨r, M1, M2, c7, c8, h2⟩ := p_seen l E h (x (i + 1)) (x (i + 2))
  refine J_aload_n C (dA DL_law_3 98 rfl) rfl ?_
  refine L_arg C hX hb hA hi hL 1 (by decide) rfl (dA DL_law_3 99 rfl) (dA DL_law_3 100 rfl) (dA DL_law_3 101 rfl) (dA DL_law_3 102 rfl) (dA DL_law_3 103 rfl) ?_
  refine L_arg C hX hb hA hi hL 2 (by decide) rfl (dA DL_law_3 104 rfl) (dA DL_law_3 105 rfl) (dA DL_law_3 106 rfl) (dA DL_law_3 107 rfl) (dA DL_law_3 108 rfl) ?_
  refine V_X7_seen C c7 wM_RL_89 (by decide) (dA DL_law_3 109 rfl) rfl (Nat.le_of_ble_eq_true rfl) ?_
  refine J_aload_n C (dA DL_law_3 110 rfl) rfl ?_
  refine L_arg C hX hb hA hi hL 1 (by decide) rfl (dA DL_law_3 111 rfl) (dA DL_law_3 112 rfl) (dA DL_law_3 113 rfl) (dA DL_law_3 114 rfl) (dA DL_law_3 115 rfl) ?_
  refine L_arg C hX hb hA hi hL 2 (by decide) rfl (dA DL_law_3 116 rfl) (dA DL_law_3 117 rfl) (dA DL_law_3 118 rfl) (dA DL_law_3 119 rfl) (dA DL_law_4 0 rfl) ?_
  refine V_X8_seen C c8 wM_RL_92 (by decide) (dA DL_law_4 1 rfl) rfl (Nat.le_of_ble_eq_true rfl) ?_
  exact J_icmp_eq (tgt := 1541) C (dA DL_law_4 2 rfl) (by decide) (fun _ => kk M2 h2) (fun z => absurd rfl z)
theorem L_meet (C : jK l E X RL code 4 13) (hX : va_X b L x (xs X) (xs X).heap) (hb : b < (xs X).heap.size) (hA : ¬ xA X b) (hi : i + 6 ≤ L) (hL : L ≤ 3072) (h : Rl M M) (kk : ∀ M, Rl M M → J E X 1541 (llv E b i) [] M) : J E X 809 (llv E b i) [] M := by
  obtain ⟨r, M1, M2, c7, c8, h2⟩ := p_meet l E h (x (i + 1)) (x (i + 2))
  refine J_aload_n C (dA DL_law_4 5 rfl) rfl ?_
  refine L_arg C hX hb hA hi hL 1 (by decide) rfl (dA DL_law_4 6 rfl) (dA DL_law_4 7 rfl) (dA DL_law_4 8 rfl) (dA DL_law_4 9 rfl) (dA DL_law_4 10 rfl) ?_
  refine L_arg C hX hb hA hi hL 2 (by decide) rfl (dA DL_law_4 11 rfl) (dA DL_law_4 12 rfl) (dA DL_law_4 13 rfl) (dA DL_law_4 14 rfl) (dA DL_law_4 15 rfl) ?_
  refine V_X7_meet C c7 wM_RL_93 (by decide) (dA DL_law_4 16 rfl) rfl (Nat.le_of_ble_eq_true rfl) ?_
  refine J_aload_n C (dA DL_law_4 17 rfl) rfl ?_
  refine L_arg C hX hb hA hi hL 1 (by decide) rfl (dA DL_law_4 18 rfl) (dA DL_law_4 19 rfl) (dA DL_law_4 20 rfl) (dA DL_law_4 21 rfl) (dA DL_law_4 22 rfl) ?_
  refine L_arg C hX hb hA hi hL 2 (by decide) rfl (dA DL_law_4 23 rfl) (dA DL_law_4 24 rfl) (dA DL_law_4 25 rfl) (dA DL_law_4 26 rfl) (dA DL_law_4 27 rfl) ?_
  refine V_X8_meet C c8 wM_RL_96 (by decide) (dA DL_law_4 28 rfl) rfl (Nat.le_of_ble_eq_true rfl) ?_
  exact J_icmp_eq (tgt := 1541) C (dA DL_law_4 29 rfl) (by decide) (fun _ => kk M2 h2) (fun z => absurd rfl z)
theorem L_cast (C : jK l E X RL code 4 13) (hX : va_X b L x (xs X) (xs X).heap) (hb : b < (xs X).heap.size) (hA : ¬ xA X b) (hi : i + 6 ≤ L) (hL : L ≤ 3072) (h : Rl M M) (kk : ∀ M, Rl M M → J E X 1541 (llv E b i) [] M) : J E X 842 (llv E b i) [] M := by
  obtain ⟨r, M1, M2, c7, c8, h2⟩ := p_cast l E h (x (i + 1)) (x (i + 2))
  refine J_aload_n C (dA DL_law_4 32 rfl) rfl ?_
  refine L_arg C hX hb hA hi hL 1 (by decide) rfl (dA DL_law_4 33 rfl) (dA DL_law_4 34 rfl) (dA DL_law_4 35 rfl) (dA DL_law_4 36 rfl) (dA DL_law_4 37 rfl) ?_
  refine L_arg C hX hb hA hi hL 2 (by decide) rfl (dA DL_law_4 38 rfl) (dA DL_law_4 39 rfl) (dA DL_law_4 40 rfl) (dA DL_law_4 41 rfl) (dA DL_law_4 42 rfl) ?_
  refine V_X7_cast C c7 wM_RL_97 (by decide) (dA DL_law_4 43 rfl) rfl (Nat.le_of_ble_eq_true rfl) ?_
  refine J_aload_n C (dA DL_law_4 44 rfl) rfl ?_
  refine L_arg C hX hb hA hi hL 1 (by decide) rfl (dA DL_law_4 45 rfl) (dA DL_law_4 46 rfl) (dA DL_law_4 47 rfl) (dA DL_law_4 48 rfl) (dA DL_law_4 49 rfl) ?_
  refine L_arg C hX hb hA hi hL 2 (by decide) rfl (dA DL_law_4 50 rfl) (dA DL_law_4 51 rfl) (dA DL_law_4 52 rfl) (dA DL_law_4 53 rfl) (dA DL_law_4 54 rfl) ?_
  refine V_X8_cast C c8 wM_RL_100 (by decide) (dA DL_law_4 55 rfl) rfl (Nat.le_of_ble_eq_true rfl) ?_
  exact J_icmp_eq (tgt := 1541) C (dA DL_law_4 56 rfl) (by decide) (fun _ => kk M2 h2) (fun z => absurd rfl z)
theorem L_kindFor (C : jK l E X RL code 4 13) (hX : va_X b L x (xs X) (xs X).heap) (hb : b < (xs X).heap.size) (hA : ¬ xA X b) (hi : i + 6 ≤ L) (hL : L ≤ 3072) (h : Rl M M) (kk : ∀ M, Rl M M → J E X 1541 (llv E b i) [] M) : J E X 875 (llv E b i) [] M := by
  obtain ⟨r, M1, M2, c7, c8, h2⟩ := p_kindFor l E h (x (i + 1))
  refine J_aload_n C (dA DL_law_4 59 rfl) rfl ?_
  refine L_arg C hX hb hA hi hL 1 (by decide) rfl (dA DL_law_4 60 rfl) (dA DL_law_4 61 rfl) (dA DL_law_4 62 rfl) (dA DL_law_4 63 rfl) (dA DL_law_4 64 rfl) ?_
  refine V_X7_kindFor C c7 wM_RL_101 (by decide) (dA DL_law_4 65 rfl) rfl (Nat.le_of_ble_eq_true rfl) ?_
  refine J_aload_n C (dA DL_law_4 66 rfl) rfl ?_
  refine L_arg C hX hb hA hi hL 1 (by decide) rfl (dA DL_law_4 67 rfl) (dA DL_law_4 68 rfl) (dA DL_law_4 69 rfl) (dA DL_law_4 70 rfl) (dA DL_law_4 71 rfl) ?_
  refine V_X8_kindFor C c8 wM_RL_104 (by decide) (dA DL_law_4 72 rfl) rfl (Nat.le_of_ble_eq_true rfl) ?_
  exact J_icmp_eq (tgt := 1541) C (dA DL_law_4 73 rfl) (by decide) (fun _ => kk M2 h2) (fun z => absurd rfl z)
theorem L_fits (C : jK l E X RL code 4 13) (hX : va_X b L x (xs X) (xs X).heap) (hb : b < (xs X).heap.size) (hA : ¬ xA X b) (hi : i + 6 ≤ L) (hL : L ≤ 3072) (h : Rl M M) (kk : ∀ M, Rl M M → J E X 1541 (llv E b i) [] M) : J E X 898 (llv E b i) [] M := by
  obtain ⟨r, M1, M2, c7, c8, h2⟩ := p_fits l E h (x (i + 1)) (x (i + 2))
  refine J_aload_n C (dA DL_law_4 76 rfl) rfl ?_
  refine L_arg C hX hb hA hi hL 1 (by decide) rfl (dA DL_law_4 77 rfl) (dA DL_law_4 78 rfl) (dA DL_law_4 79 rfl) (dA DL_law_4 80 rfl) (dA DL_law_4 81 rfl) ?_
  refine L_arg C hX hb hA hi hL 2 (by decide) rfl (dA DL_law_4 82 rfl) (dA DL_law_4 83 rfl) (dA DL_law_4 84 rfl) (dA DL_law_4 85 rfl) (dA DL_law_4 86 rfl) ?_
  refine V_X7_fits C c7 wM_RL_105 (by decide) (dA DL_law_4 87 rfl) rfl (Nat.le_of_ble_eq_true rfl) ?_
  refine J_aload_n C (dA DL_law_4 88 rfl) rfl ?_
  refine L_arg C hX hb hA hi hL 1 (by decide) rfl (dA DL_law_4 89 rfl) (dA DL_law_4 90 rfl) (dA DL_law_4 91 rfl) (dA DL_law_4 92 rfl) (dA DL_law_4 93 rfl) ?_
  refine L_arg C hX hb hA hi hL 2 (by decide) rfl (dA DL_law_4 94 rfl) (dA DL_law_4 95 rfl) (dA DL_law_4 96 rfl) (dA DL_law_4 97 rfl) (dA DL_law_4 98 rfl) ?_
  refine V_X8_fits C c8 wM_RL_108 (by decide) (dA DL_law_4 99 rfl) rfl (Nat.le_of_ble_eq_true rfl) ?_
  exact J_icmp_eq (tgt := 1541) C (dA DL_law_4 100 rfl) (by decide) (fun _ => kk M2 h2) (fun z => absurd rfl z)
theorem L_lens (C : jK l E X RL code 4 13) (hX : va_X b L x (xs X) (xs X).heap) (hb : b < (xs X).heap.size) (hA : ¬ xA X b) (hi : i + 6 ≤ L) (hL : L ≤ 3072) (h : Rl M M) (kk : ∀ M, Rl M M → J E X 1541 (llv E b i) [] M) : J E X 931 (llv E b i) [] M := by
  obtain ⟨r, M1, M2, c7, c8, h2⟩ := p_lens l E h (x (i + 1)) (x (i + 2))
  refine J_aload_n C (dA DL_law_4 103 rfl) rfl ?_
  refine L_arg C hX hb hA hi hL 1 (by decide) rfl (dA DL_law_4 104 rfl) (dA DL_law_4 105 rfl) (dA DL_law_4 106 rfl) (dA DL_law_4 107 rfl) (dA DL_law_4 108 rfl) ?_
  refine L_arg C hX hb hA hi hL 2 (by decide) rfl (dA DL_law_4 109 rfl) (dA DL_law_4 110 rfl) (dA DL_law_4 111 rfl) (dA DL_law_4 112 rfl) (dA DL_law_4 113 rfl) ?_
  refine V_X7_lens C c7 wM_RL_109 (by decide) (dA DL_law_4 114 rfl) rfl (Nat.le_of_ble_eq_true rfl) ?_
  refine J_aload_n C (dA DL_law_4 115 rfl) rfl ?_
  refine L_arg C hX hb hA hi hL 1 (by decide) rfl (dA DL_law_4 116 rfl) (dA DL_law_4 117 rfl) (dA DL_law_4 118 rfl) (dA DL_law_4 119 rfl) (dA DL_law_5 0 rfl) ?_
  refine L_arg C hX hb hA hi hL 2 (by decide) rfl (dA DL_law_5 1 rfl) (dA DL_law_5 2 rfl) (dA DL_law_5 3 rfl) (dA DL_law_5 4 rfl) (dA DL_law_5 5 rfl) ?_
  refine V_X8_lens C c8 wM_RL_112 (by decide) (dA DL_law_5 6 rfl) rfl (Nat.le_of_ble_eq_true rfl) ?_
  exact J_icmp_eq (tgt := 1541) C (dA DL_law_5 7 rfl) (by decide) (fun _ => kk M2 h2) (fun z => absurd rfl z)
theorem L_which (C : jK l E X RL code 4 13) (hX : va_X b L x (xs X) (xs X).heap) (hb : b < (xs X).heap.size) (hA : ¬ xA X b) (hi : i + 6 ≤ L) (hL : L ≤ 3072) (h : Rl M M) (kk : ∀ M, Rl M M → J E X 1541 (llv E b i) [] M) : J E X 964 (llv E b i) [] M := by
  obtain ⟨r, M1, M2, c7, c8, h2⟩ := p_which l E h (x (i + 1))
  refine J_aload_n C (dA DL_law_5 10 rfl) rfl ?_
  refine L_arg C hX hb hA hi hL 1 (by decide) rfl (dA DL_law_5 11 rfl) (dA DL_law_5 12 rfl) (dA DL_law_5 13 rfl) (dA DL_law_5 14 rfl) (dA DL_law_5 15 rfl) ?_
  refine V_X7_which C c7 wM_RL_113 (by decide) (dA DL_law_5 16 rfl) rfl (Nat.le_of_ble_eq_true rfl) ?_
  refine J_aload_n C (dA DL_law_5 17 rfl) rfl ?_
  refine L_arg C hX hb hA hi hL 1 (by decide) rfl (dA DL_law_5 18 rfl) (dA DL_law_5 19 rfl) (dA DL_law_5 20 rfl) (dA DL_law_5 21 rfl) (dA DL_law_5 22 rfl) ?_
  refine V_X8_which C c8 wM_RL_116 (by decide) (dA DL_law_5 23 rfl) rfl (Nat.le_of_ble_eq_true rfl) ?_
  exact J_icmp_eq (tgt := 1541) C (dA DL_law_5 24 rfl) (by decide) (fun _ => kk M2 h2) (fun z => absurd rfl z)
theorem L_eyes (C : jK l E X RL code 4 13) (hX : va_X b L x (xs X) (xs X).heap) (hb : b < (xs X).heap.size) (hA : ¬ xA X b) (hi : i + 6 ≤ L) (hL : L ≤ 3072) (h : Rl M M) (kk : ∀ M, Rl M M → J E X 1541 (llv E b i) [] M) : J E X 987 (llv E b i) [] M := by
  obtain ⟨r, M1, M2, c7, c8, h2⟩ := p_eyes l E h
  refine J_aload_n C (dA DL_law_5 27 rfl) rfl ?_
  refine V_X7_eyes C c7 wM_RL_117 (by decide) (dA DL_law_5 28 rfl) rfl (Nat.le_of_ble_eq_true rfl) ?_
  refine J_aload_n C (dA DL_law_5 29 rfl) rfl ?_
  refine V_X8_eyes C c8 wM_RL_120 (by decide) (dA DL_law_5 30 rfl) rfl (Nat.le_of_ble_eq_true rfl) ?_
  exact J_icmp_eq (tgt := 1541) C (dA DL_law_5 31 rfl) (by decide) (fun _ => kk M2 h2) (fun z => absurd rfl z)
theorem L_dredge (C : jK l E X RL code 4 13) (hX : va_X b L x (xs X) (xs X).heap) (hb : b < (xs X).heap.size) (hA : ¬ xA X b) (hi : i + 6 ≤ L) (hL : L ≤ 3072) (h : Rl M M) (kk : ∀ M, Rl M M → J E X 1541 (llv E b i) [] M) : J E X 1000 (llv E b i) [] M := by
  obtain ⟨r, M1, M2, c7, c8, h2⟩ := p_dredge l E h (x (i + 1)) (x (i + 2))
  refine J_aload_n C (dA DL_law_5 34 rfl) rfl ?_
  refine L_arg C hX hb hA hi hL 1 (by decide) rfl (dA DL_law_5 35 rfl) (dA DL_law_5 36 rfl) (dA DL_law_5 37 rfl) (dA DL_law_5 38 rfl) (dA DL_law_5 39 rfl) ?_
  refine L_arg C hX hb hA hi hL 2 (by decide) rfl (dA DL_law_5 40 rfl) (dA DL_law_5 41 rfl) (dA DL_law_5 42 rfl) (dA DL_law_5 43 rfl) (dA DL_law_5 44 rfl) ?_
  refine V_X7_dredge C c7 wM_RL_121 (by decide) (dA DL_law_5 45 rfl) rfl (Nat.le_of_ble_eq_true rfl) ?_
  refine J_aload_n C (dA DL_law_5 46 rfl) rfl ?_
  refine L_arg C hX hb hA hi hL 1 (by decide) rfl (dA DL_law_5 47 rfl) (dA DL_law_5 48 rfl) (dA DL_law_5 49 rfl) (dA DL_law_5 50 rfl) (dA DL_law_5 51 rfl) ?_
  refine L_arg C hX hb hA hi hL 2 (by decide) rfl (dA DL_law_5 52 rfl) (dA DL_law_5 53 rfl) (dA DL_law_5 54 rfl) (dA DL_law_5 55 rfl) (dA DL_law_5 56 rfl) ?_
  refine V_X8_dredge C c8 wM_RL_124 (by decide) (dA DL_law_5 57 rfl) rfl (Nat.le_of_ble_eq_true rfl) ?_
  exact J_icmp_eq (tgt := 1541) C (dA DL_law_5 58 rfl) (by decide) (fun _ => kk M2 h2) (fun z => absurd rfl z)
theorem L_watch (C : jK l E X RL code 4 13) (hX : va_X b L x (xs X) (xs X).heap) (hb : b < (xs X).heap.size) (hA : ¬ xA X b) (hi : i + 6 ≤ L) (hL : L ≤ 3072) (h : Rl M M) (kk : ∀ M, Rl M M → J E X 1541 (llv E b i) [] M) : J E X 1033 (llv E b i) [] M := by
  obtain ⟨r, M1, M2, c7, c8, h2⟩ := p_watch l E h (x (i + 1))
  refine J_aload_n C (dA DL_law_5 61 rfl) rfl ?_
  refine L_arg C hX hb hA hi hL 1 (by decide) rfl (dA DL_law_5 62 rfl) (dA DL_law_5 63 rfl) (dA DL_law_5 64 rfl) (dA DL_law_5 65 rfl) (dA DL_law_5 66 rfl) ?_
  refine V_X7_watch C c7 wM_RL_125 (by decide) (dA DL_law_5 67 rfl) rfl (Nat.le_of_ble_eq_true rfl) ?_
  refine J_aload_n C (dA DL_law_5 68 rfl) rfl ?_
  refine L_arg C hX hb hA hi hL 1 (by decide) rfl (dA DL_law_5 69 rfl) (dA DL_law_5 70 rfl) (dA DL_law_5 71 rfl) (dA DL_law_5 72 rfl) (dA DL_law_5 73 rfl) ?_
  refine V_X8_watch C c8 wM_RL_128 (by decide) (dA DL_law_5 74 rfl) rfl (Nat.le_of_ble_eq_true rfl) ?_
  exact J_icmp_eq (tgt := 1541) C (dA DL_law_5 75 rfl) (by decide) (fun _ => kk M2 h2) (fun z => absurd rfl z)
theorem L_falls (C : jK l E X RL code 4 13) (hX : va_X b L x (xs X) (xs X).heap) (hb : b < (xs X).heap.size) (hA : ¬ xA X b) (hi : i + 6 ≤ L) (hL : L ≤ 3072) (h : Rl M M) (kk : ∀ M, Rl M M → J E X 1541 (llv E b i) [] M) : J E X 1056 (llv E b i) [] M := by
  obtain ⟨r, M1, M2, c7, c8, h2⟩ := p_falls l E h (x (i + 1))
  refine J_aload_n C (dA DL_law_5 78 rfl) rfl ?_
  refine L_arg C hX hb hA hi hL 1 (by decide) rfl (dA DL_law_5 79 rfl) (dA DL_law_5 80 rfl) (dA DL_law_5 81 rfl) (dA DL_law_5 82 rfl) (dA DL_law_5 83 rfl) ?_
  refine V_X7_falls C c7 wM_RL_129 (by decide) (dA DL_law_5 84 rfl) rfl (Nat.le_of_ble_eq_true rfl) ?_
  refine J_aload_n C (dA DL_law_5 85 rfl) rfl ?_
  refine L_arg C hX hb hA hi hL 1 (by decide) rfl (dA DL_law_5 86 rfl) (dA DL_law_5 87 rfl) (dA DL_law_5 88 rfl) (dA DL_law_5 89 rfl) (dA DL_law_5 90 rfl) ?_
  refine V_X8_falls C c8 wM_RL_132 (by decide) (dA DL_law_5 91 rfl) rfl (Nat.le_of_ble_eq_true rfl) ?_
  exact J_icmp_eq (tgt := 1541) C (dA DL_law_5 92 rfl) (by decide) (fun _ => kk M2 h2) (fun z => absurd rfl z)
theorem L_cmp (r : Int64) : lg_cmp r r = 0 := by
  unfold lg_cmp
  simp
theorem L_odds (C : jK l E X RL code 4 13) (hX : va_X b L x (xs X) (xs X).heap) (hb : b < (xs X).heap.size) (hA : ¬ xA X b) (hi : i + 6 ≤ L) (hL : L ≤ 3072) (h : Rl M M) (kk : ∀ M, Rl M M → J E X 1541 (llv E b i) [] M) : J E X 1079 (llv E b i) [] M := by
  obtain ⟨r, M1, M2, c7, c8, h2⟩ := p_odds l E h (x (i + 1)) (x (i + 2))
  refine J_aload_n C (dA DL_law_5 95 rfl) rfl ?_
  refine L_arg C hX hb hA hi hL 1 (by decide) rfl (dA DL_law_5 96 rfl) (dA DL_law_5 97 rfl) (dA DL_law_5 98 rfl) (dA DL_law_5 99 rfl) (dA DL_law_5 100 rfl) ?_
  refine L_arg C hX hb hA hi hL 2 (by decide) rfl (dA DL_law_5 101 rfl) (dA DL_law_5 102 rfl) (dA DL_law_5 103 rfl) (dA DL_law_5 104 rfl) (dA DL_law_5 105 rfl) ?_
  refine V_X7_odds C c7 wM_RL_133 (by decide) (dA DL_law_5 106 rfl) rfl (Nat.le_of_ble_eq_true rfl) ?_
  refine J_aload_n C (dA DL_law_5 107 rfl) rfl ?_
  refine L_arg C hX hb hA hi hL 1 (by decide) rfl (dA DL_law_5 108 rfl) (dA DL_law_5 109 rfl) (dA DL_law_5 110 rfl) (dA DL_law_5 111 rfl) (dA DL_law_5 112 rfl) ?_
  refine L_arg C hX hb hA hi hL 2 (by decide) rfl (dA DL_law_5 113 rfl) (dA DL_law_5 114 rfl) (dA DL_law_5 115 rfl) (dA DL_law_5 116 rfl) (dA DL_law_5 117 rfl) ?_
  refine V_X8_odds C c8 wM_RL_137 (by decide) (dA DL_law_5 118 rfl) rfl (Nat.le_of_ble_eq_true rfl) ?_
  refine J_lcmp C (dA DL_law_5 119 rfl) ?_
  rw [L_cmp r]
  exact J_if_eq (tgt := 1541) C (dA DL_law_6 0 rfl) (by decide) (fun _ => kk M2 h2) (fun z => absurd rfl z)
theorem L_seed (C : jK l E X RL code 4 13) (hX : va_X b L x (xs X) (xs X).heap) (hb : b < (xs X).heap.size) (hA : ¬ xA X b) (hi : i + 6 ≤ L) (hL : L ≤ 3072) (h : Rl M M) (kk : ∀ M, Rl M M → J E X 1541 (llv E b i) [] M) : J E X 1113 (llv E b i) [] M := by
  obtain ⟨r, M1, M2, c7, c8, h2⟩ := p_seed l E h (x (i + 1))
  refine J_aload_n C (dA DL_law_6 3 rfl) rfl ?_
  refine L_arg C hX hb hA hi hL 1 (by decide) rfl (dA DL_law_6 4 rfl) (dA DL_law_6 5 rfl) (dA DL_law_6 6 rfl) (dA DL_law_6 7 rfl) (dA DL_law_6 8 rfl) ?_
  refine V_X7_seed C c7 wM_RL_138 (by decide) (dA DL_law_6 9 rfl) rfl (Nat.le_of_ble_eq_true rfl) ?_
  refine J_aload_n C (dA DL_law_6 10 rfl) rfl ?_
  refine L_arg C hX hb hA hi hL 1 (by decide) rfl (dA DL_law_6 11 rfl) (dA DL_law_6 12 rfl) (dA DL_law_6 13 rfl) (dA DL_law_6 14 rfl) (dA DL_law_6 15 rfl) ?_
  refine V_X8_seed C c8 wM_RL_141 (by decide) (dA DL_law_6 16 rfl) rfl (Nat.le_of_ble_eq_true rfl) ?_
  exact J_icmp_eq (tgt := 1541) C (dA DL_law_6 17 rfl) (by decide) (fun _ => kk M2 h2) (fun z => absurd rfl z)
theorem L_feed (C : jK l E X RL code 4 13) (hX : va_X b L x (xs X) (xs X).heap) (hb : b < (xs X).heap.size) (hA : ¬ xA X b) (hi : i + 6 ≤ L) (hL : L ≤ 3072) (h : Rl M M) (kk : ∀ M, Rl M M → J E X 1541 (llv E b i) [] M) : J E X 1136 (llv E b i) [] M := by
  obtain ⟨r, M1, M2, c7, c8, h2⟩ := p_feed l E h (x (i + 1)) (x (i + 2))
  refine J_aload_n C (dA DL_law_6 20 rfl) rfl ?_
  refine L_arg C hX hb hA hi hL 1 (by decide) rfl (dA DL_law_6 21 rfl) (dA DL_law_6 22 rfl) (dA DL_law_6 23 rfl) (dA DL_law_6 24 rfl) (dA DL_law_6 25 rfl) ?_
  refine L_arg C hX hb hA hi hL 2 (by decide) rfl (dA DL_law_6 26 rfl) (dA DL_law_6 27 rfl) (dA DL_law_6 28 rfl) (dA DL_law_6 29 rfl) (dA DL_law_6 30 rfl) ?_
  refine V_X7_feed C c7 wM_RL_142 (by decide) (dA DL_law_6 31 rfl) rfl (Nat.le_of_ble_eq_true rfl) ?_
  refine J_aload_n C (dA DL_law_6 32 rfl) rfl ?_
  refine L_arg C hX hb hA hi hL 1 (by decide) rfl (dA DL_law_6 33 rfl) (dA DL_law_6 34 rfl) (dA DL_law_6 35 rfl) (dA DL_law_6 36 rfl) (dA DL_law_6 37 rfl) ?_
  refine L_arg C hX hb hA hi hL 2 (by decide) rfl (dA DL_law_6 38 rfl) (dA DL_law_6 39 rfl) (dA DL_law_6 40 rfl) (dA DL_law_6 41 rfl) (dA DL_law_6 42 rfl) ?_
  refine V_X8_feed C c8 wM_RL_145 (by decide) (dA DL_law_6 43 rfl) rfl (Nat.le_of_ble_eq_true rfl) ?_
  exact J_icmp_eq (tgt := 1541) C (dA DL_law_6 44 rfl) (by decide) (fun _ => kk M2 h2) (fun z => absurd rfl z)
theorem L_wipe (C : jK l E X RL code 4 13) (hX : va_X b L x (xs X) (xs X).heap) (hb : b < (xs X).heap.size) (hA : ¬ xA X b) (hi : i + 6 ≤ L) (hL : L ≤ 3072) (h : Rl M M) (kk : ∀ M, Rl M M → J E X 1541 (llv E b i) [] M) : J E X 1169 (llv E b i) [] M := by
  obtain ⟨r, M1, M2, c7, c8, h2⟩ := p_wipe l E h
  refine J_aload_n C (dA DL_law_6 47 rfl) rfl ?_
  refine V_X7_wipe C c7 wM_RL_146 (by decide) (dA DL_law_6 48 rfl) rfl (Nat.le_of_ble_eq_true rfl) ?_
  refine J_aload_n C (dA DL_law_6 49 rfl) rfl ?_
  refine V_X8_wipe C c8 wM_RL_149 (by decide) (dA DL_law_6 50 rfl) rfl (Nat.le_of_ble_eq_true rfl) ?_
  exact J_icmp_eq (tgt := 1541) C (dA DL_law_6 51 rfl) (by decide) (fun _ => kk M2 h2) (fun z => absurd rfl z)
theorem L_text (C : jK l E X RL code 4 13) (hX : va_X b L x (xs X) (xs X).heap) (hb : b < (xs X).heap.size) (hA : ¬ xA X b) (hi : i + 6 ≤ L) (hL : L ≤ 3072) (h : Rl M M) (kk : ∀ M, Rl M M → J E X 1541 (llv E b i) [] M) : J E X 1182 (llv E b i) [] M := by
  obtain ⟨r, M1, M2, c7, c8, h2⟩ := p_text l E h
  refine J_aload_n C (dA DL_law_6 54 rfl) rfl ?_
  refine V_X7_text C c7 wM_RL_150 (by decide) (dA DL_law_6 55 rfl) rfl (Nat.le_of_ble_eq_true rfl) ?_
  refine J_aload_n C (dA DL_law_6 56 rfl) rfl ?_
  refine V_X8_text C c8 wM_RL_153 (by decide) (dA DL_law_6 57 rfl) rfl (Nat.le_of_ble_eq_true rfl) ?_
  exact J_icmp_eq (tgt := 1541) C (dA DL_law_6 58 rfl) (by decide) (fun _ => kk M2 h2) (fun z => absurd rfl z)
theorem L_hold (C : jK l E X RL code 4 13) (hX : va_X b L x (xs X) (xs X).heap) (hb : b < (xs X).heap.size) (hA : ¬ xA X b) (hi : i + 6 ≤ L) (hL : L ≤ 3072) (h : Rl M M) (kk : ∀ M, Rl M M → J E X 1541 (llv E b i) [] M) : J E X 1195 (llv E b i) [] M := by
  obtain ⟨r, M1, M2, c7, c8, h2⟩ := p_hold l E h (x (i + 1)) (x (i + 2))
  refine J_aload_n C (dA DL_law_6 61 rfl) rfl ?_
  refine L_arg C hX hb hA hi hL 1 (by decide) rfl (dA DL_law_6 62 rfl) (dA DL_law_6 63 rfl) (dA DL_law_6 64 rfl) (dA DL_law_6 65 rfl) (dA DL_law_6 66 rfl) ?_
  refine L_arg C hX hb hA hi hL 2 (by decide) rfl (dA DL_law_6 67 rfl) (dA DL_law_6 68 rfl) (dA DL_law_6 69 rfl) (dA DL_law_6 70 rfl) (dA DL_law_6 71 rfl) ?_
  refine V_X7_hold C c7 wM_RL_154 (by decide) (dA DL_law_6 72 rfl) rfl (Nat.le_of_ble_eq_true rfl) ?_
  refine J_aload_n C (dA DL_law_6 73 rfl) rfl ?_
  refine L_arg C hX hb hA hi hL 1 (by decide) rfl (dA DL_law_6 74 rfl) (dA DL_law_6 75 rfl) (dA DL_law_6 76 rfl) (dA DL_law_6 77 rfl) (dA DL_law_6 78 rfl) ?_
  refine L_arg C hX hb hA hi hL 2 (by decide) rfl (dA DL_law_6 79 rfl) (dA DL_law_6 80 rfl) (dA DL_law_6 81 rfl) (dA DL_law_6 82 rfl) (dA DL_law_6 83 rfl) ?_
  refine V_X8_hold C c8 wM_RL_157 (by decide) (dA DL_law_6 84 rfl) rfl (Nat.le_of_ble_eq_true rfl) ?_
  exact J_icmp_eq (tgt := 1541) C (dA DL_law_6 85 rfl) (by decide) (fun _ => kk M2 h2) (fun z => absurd rfl z)
theorem L_as (C : jK l E X RL code 4 13) (hX : va_X b L x (xs X) (xs X).heap) (hb : b < (xs X).heap.size) (hA : ¬ xA X b) (hi : i + 6 ≤ L) (hL : L ≤ 3072) (h : Rl M M) (kk : ∀ M, Rl M M → J E X 1541 (llv E b i) [] M) : J E X 1228 (llv E b i) [] M := by
  obtain ⟨r, M1, M2, c7, c8, h2⟩ := p_as l E h (x (i + 1)) (x (i + 2))
  refine J_aload_n C (dA DL_law_6 88 rfl) rfl ?_
  refine L_arg C hX hb hA hi hL 1 (by decide) rfl (dA DL_law_6 89 rfl) (dA DL_law_6 90 rfl) (dA DL_law_6 91 rfl) (dA DL_law_6 92 rfl) (dA DL_law_6 93 rfl) ?_
  refine L_arg C hX hb hA hi hL 2 (by decide) rfl (dA DL_law_6 94 rfl) (dA DL_law_6 95 rfl) (dA DL_law_6 96 rfl) (dA DL_law_6 97 rfl) (dA DL_law_6 98 rfl) ?_
  refine V_X7_as C c7 wM_RL_158 (by decide) (dA DL_law_6 99 rfl) rfl (Nat.le_of_ble_eq_true rfl) ?_
  refine J_aload_n C (dA DL_law_6 100 rfl) rfl ?_
  refine L_arg C hX hb hA hi hL 1 (by decide) rfl (dA DL_law_6 101 rfl) (dA DL_law_6 102 rfl) (dA DL_law_6 103 rfl) (dA DL_law_6 104 rfl) (dA DL_law_6 105 rfl) ?_
  refine L_arg C hX hb hA hi hL 2 (by decide) rfl (dA DL_law_6 106 rfl) (dA DL_law_6 107 rfl) (dA DL_law_6 108 rfl) (dA DL_law_6 109 rfl) (dA DL_law_6 110 rfl) ?_
  refine V_X8_as C c8 wM_RL_161 (by decide) (dA DL_law_6 111 rfl) rfl (Nat.le_of_ble_eq_true rfl) ?_
  exact J_icmp_eq (tgt := 1541) C (dA DL_law_6 112 rfl) (by decide) (fun _ => kk M2 h2) (fun z => absurd rfl z)
theorem L_sheet (C : jK l E X RL code 4 13) (hX : va_X b L x (xs X) (xs X).heap) (hb : b < (xs X).heap.size) (hA : ¬ xA X b) (hi : i + 6 ≤ L) (hL : L ≤ 3072) (h : Rl M M) (kk : ∀ M, Rl M M → J E X 1541 (llv E b i) [] M) : J E X 1261 (llv E b i) [] M := by
  obtain ⟨r, M1, M2, c7, c8, h2⟩ := p_sheet l E h (x (i + 1)) (x (i + 2)) (x (i + 3))
  refine J_aload_n C (dA DL_law_6 115 rfl) rfl ?_
  refine L_arg C hX hb hA hi hL 1 (by decide) rfl (dA DL_law_6 116 rfl) (dA DL_law_6 117 rfl) (dA DL_law_6 118 rfl) (dA DL_law_6 119 rfl) (dA DL_law_7 0 rfl) ?_
  refine L_arg C hX hb hA hi hL 2 (by decide) rfl (dA DL_law_7 1 rfl) (dA DL_law_7 2 rfl) (dA DL_law_7 3 rfl) (dA DL_law_7 4 rfl) (dA DL_law_7 5 rfl) ?_
  refine L_arg C hX hb hA hi hL 3 (by decide) rfl (dA DL_law_7 6 rfl) (dA DL_law_7 7 rfl) (dA DL_law_7 8 rfl) (dA DL_law_7 9 rfl) (dA DL_law_7 10 rfl) ?_
  refine V_X7_sheet C c7 wM_RL_162 (by decide) (dA DL_law_7 11 rfl) rfl (Nat.le_of_ble_eq_true rfl) ?_
  refine J_aload_n C (dA DL_law_7 12 rfl) rfl ?_
  refine L_arg C hX hb hA hi hL 1 (by decide) rfl (dA DL_law_7 13 rfl) (dA DL_law_7 14 rfl) (dA DL_law_7 15 rfl) (dA DL_law_7 16 rfl) (dA DL_law_7 17 rfl) ?_
  refine L_arg C hX hb hA hi hL 2 (by decide) rfl (dA DL_law_7 18 rfl) (dA DL_law_7 19 rfl) (dA DL_law_7 20 rfl) (dA DL_law_7 21 rfl) (dA DL_law_7 22 rfl) ?_
  refine L_arg C hX hb hA hi hL 3 (by decide) rfl (dA DL_law_7 23 rfl) (dA DL_law_7 24 rfl) (dA DL_law_7 25 rfl) (dA DL_law_7 26 rfl) (dA DL_law_7 27 rfl) ?_
  refine V_X8_sheet C c8 wM_RL_165 (by decide) (dA DL_law_7 28 rfl) rfl (Nat.le_of_ble_eq_true rfl) ?_
  exact J_icmp_eq (tgt := 1541) C (dA DL_law_7 29 rfl) (by decide) (fun _ => kk M2 h2) (fun z => absurd rfl z)
theorem L_write (C : jK l E X RL code 4 13) (hX : va_X b L x (xs X) (xs X).heap) (hb : b < (xs X).heap.size) (hA : ¬ xA X b) (hi : i + 6 ≤ L) (hL : L ≤ 3072) (h : Rl M M) (kk : ∀ M, Rl M M → J E X 1541 (llv E b i) [] M) : J E X 1304 (llv E b i) [] M := by
  obtain ⟨r, M1, M2, c7, c8, h2⟩ := p_write l E h (x (i + 1)) (x (i + 2)) (x (i + 3))
  refine J_aload_n C (dA DL_law_7 32 rfl) rfl ?_
  refine L_arg C hX hb hA hi hL 1 (by decide) rfl (dA DL_law_7 33 rfl) (dA DL_law_7 34 rfl) (dA DL_law_7 35 rfl) (dA DL_law_7 36 rfl) (dA DL_law_7 37 rfl) ?_
  refine L_arg C hX hb hA hi hL 2 (by decide) rfl (dA DL_law_7 38 rfl) (dA DL_law_7 39 rfl) (dA DL_law_7 40 rfl) (dA DL_law_7 41 rfl) (dA DL_law_7 42 rfl) ?_
  refine L_arg C hX hb hA hi hL 3 (by decide) rfl (dA DL_law_7 43 rfl) (dA DL_law_7 44 rfl) (dA DL_law_7 45 rfl) (dA DL_law_7 46 rfl) (dA DL_law_7 47 rfl) ?_
  refine V_X7_write C c7 wM_RL_166 (by decide) (dA DL_law_7 48 rfl) rfl (Nat.le_of_ble_eq_true rfl) ?_
  refine J_aload_n C (dA DL_law_7 49 rfl) rfl ?_
  refine L_arg C hX hb hA hi hL 1 (by decide) rfl (dA DL_law_7 50 rfl) (dA DL_law_7 51 rfl) (dA DL_law_7 52 rfl) (dA DL_law_7 53 rfl) (dA DL_law_7 54 rfl) ?_
  refine L_arg C hX hb hA hi hL 2 (by decide) rfl (dA DL_law_7 55 rfl) (dA DL_law_7 56 rfl) (dA DL_law_7 57 rfl) (dA DL_law_7 58 rfl) (dA DL_law_7 59 rfl) ?_
  refine L_arg C hX hb hA hi hL 3 (by decide) rfl (dA DL_law_7 60 rfl) (dA DL_law_7 61 rfl) (dA DL_law_7 62 rfl) (dA DL_law_7 63 rfl) (dA DL_law_7 64 rfl) ?_
  refine V_X8_write C c8 wM_RL_169 (by decide) (dA DL_law_7 65 rfl) rfl (Nat.le_of_ble_eq_true rfl) ?_
  exact J_icmp_eq (tgt := 1541) C (dA DL_law_7 66 rfl) (by decide) (fun _ => kk M2 h2) (fun z => absurd rfl z)
theorem L_copy (C : jK l E X RL code 4 13) (hX : va_X b L x (xs X) (xs X).heap) (hb : b < (xs X).heap.size) (hA : ¬ xA X b) (hi : i + 6 ≤ L) (hL : L ≤ 3072) (h : Rl M M) (kk : ∀ M, Rl M M → J E X 1541 (llv E b i) [] M) : J E X 1347 (llv E b i) [] M := by
  obtain ⟨r, M1, M2, c7, c8, h2⟩ := p_copy l E h (x (i + 1)) (x (i + 2)) (x (i + 3)) (x (i + 4)) (x (i + 5))
  refine J_aload_n C (dA DL_law_7 69 rfl) rfl ?_
  refine L_arg C hX hb hA hi hL 1 (by decide) rfl (dA DL_law_7 70 rfl) (dA DL_law_7 71 rfl) (dA DL_law_7 72 rfl) (dA DL_law_7 73 rfl) (dA DL_law_7 74 rfl) ?_
  refine L_arg C hX hb hA hi hL 2 (by decide) rfl (dA DL_law_7 75 rfl) (dA DL_law_7 76 rfl) (dA DL_law_7 77 rfl) (dA DL_law_7 78 rfl) (dA DL_law_7 79 rfl) ?_
  refine L_arg C hX hb hA hi hL 3 (by decide) rfl (dA DL_law_7 80 rfl) (dA DL_law_7 81 rfl) (dA DL_law_7 82 rfl) (dA DL_law_7 83 rfl) (dA DL_law_7 84 rfl) ?_
  refine L_arg C hX hb hA hi hL 4 (by decide) rfl (dA DL_law_7 85 rfl) (dA DL_law_7 86 rfl) (dA DL_law_7 87 rfl) (dA DL_law_7 88 rfl) (dA DL_law_7 89 rfl) ?_
  refine L_arg C hX hb hA hi hL 5 (by decide) rfl (dA DL_law_7 90 rfl) (dA DL_law_7 91 rfl) (dA DL_law_7 92 rfl) (dA DL_law_7 93 rfl) (dA DL_law_7 94 rfl) ?_
  refine V_X7_copy C c7 wM_RL_170 (by decide) (dA DL_law_7 95 rfl) rfl (Nat.le_of_ble_eq_true rfl) ?_
  refine J_aload_n C (dA DL_law_7 96 rfl) rfl ?_
  refine L_arg C hX hb hA hi hL 1 (by decide) rfl (dA DL_law_7 97 rfl) (dA DL_law_7 98 rfl) (dA DL_law_7 99 rfl) (dA DL_law_7 100 rfl) (dA DL_law_7 101 rfl) ?_
  refine L_arg C hX hb hA hi hL 2 (by decide) rfl (dA DL_law_7 102 rfl) (dA DL_law_7 103 rfl) (dA DL_law_7 104 rfl) (dA DL_law_7 105 rfl) (dA DL_law_7 106 rfl) ?_
  refine L_arg C hX hb hA hi hL 3 (by decide) rfl (dA DL_law_7 107 rfl) (dA DL_law_7 108 rfl) (dA DL_law_7 109 rfl) (dA DL_law_7 110 rfl) (dA DL_law_7 111 rfl) ?_
  refine L_arg C hX hb hA hi hL 4 (by decide) rfl (dA DL_law_7 112 rfl) (dA DL_law_7 113 rfl) (dA DL_law_7 114 rfl) (dA DL_law_7 115 rfl) (dA DL_law_7 116 rfl) ?_
  refine L_arg C hX hb hA hi hL 5 (by decide) rfl (dA DL_law_7 117 rfl) (dA DL_law_7 118 rfl) (dA DL_law_7 119 rfl) (dA DL_law_8 0 rfl) (dA DL_law_8 1 rfl) ?_
  refine V_X8_copy C c8 wM_RL_174 (by decide) (dA DL_law_8 2 rfl) rfl (Nat.le_of_ble_eq_true rfl) ?_
  exact J_icmp_eq (tgt := 1541) C (dA DL_law_8 3 rfl) (by decide) (fun _ => kk M2 h2) (fun z => absurd rfl z)
theorem L_load (C : jK l E X RL code 4 13) (hX : va_X b L x (xs X) (xs X).heap) (hb : b < (xs X).heap.size) (hA : ¬ xA X b) (hi : i + 6 ≤ L) (hL : L ≤ 3072) (h : Rl M M) (kk : ∀ M, Rl M M → J E X 1541 (llv E b i) [] M) : J E X 1410 (llv E b i) [] M := by
  obtain ⟨r, M1, M2, c7, c8, h2⟩ := p_load l E h (x (i + 1))
  refine J_aload_n C (dA DL_law_8 6 rfl) rfl ?_
  refine L_arg C hX hb hA hi hL 1 (by decide) rfl (dA DL_law_8 7 rfl) (dA DL_law_8 8 rfl) (dA DL_law_8 9 rfl) (dA DL_law_8 10 rfl) (dA DL_law_8 11 rfl) ?_
  refine V_X7_load C c7 wM_RL_175 (by decide) (dA DL_law_8 12 rfl) rfl (Nat.le_of_ble_eq_true rfl) ?_
  refine J_aload_n C (dA DL_law_8 13 rfl) rfl ?_
  refine L_arg C hX hb hA hi hL 1 (by decide) rfl (dA DL_law_8 14 rfl) (dA DL_law_8 15 rfl) (dA DL_law_8 16 rfl) (dA DL_law_8 17 rfl) (dA DL_law_8 18 rfl) ?_
  refine V_X8_load C c8 wM_RL_178 (by decide) (dA DL_law_8 19 rfl) rfl (Nat.le_of_ble_eq_true rfl) ?_
  exact J_icmp_eq (tgt := 1541) C (dA DL_law_8 20 rfl) (by decide) (fun _ => kk M2 h2) (fun z => absurd rfl z)
theorem L_judge (C : jK l E X RL code 4 13) (hX : va_X b L x (xs X) (xs X).heap) (hb : b < (xs X).heap.size) (hA : ¬ xA X b) (hi : i + 6 ≤ L) (hL : L ≤ 3072) (h : Rl M M) (kk : ∀ M, Rl M M → J E X 1541 (llv E b i) [] M) : J E X 1433 (llv E b i) [] M := by
  obtain ⟨r, M1, M2, c7, c8, h2⟩ := p_judge l E h (x (i + 1))
  refine J_aload_n C (dA DL_law_8 23 rfl) rfl ?_
  refine L_arg C hX hb hA hi hL 1 (by decide) rfl (dA DL_law_8 24 rfl) (dA DL_law_8 25 rfl) (dA DL_law_8 26 rfl) (dA DL_law_8 27 rfl) (dA DL_law_8 28 rfl) ?_
  refine V_X7_judge C c7 wM_RL_179 (by decide) (dA DL_law_8 29 rfl) rfl (Nat.le_of_ble_eq_true rfl) ?_
  refine J_aload_n C (dA DL_law_8 30 rfl) rfl ?_
  refine L_arg C hX hb hA hi hL 1 (by decide) rfl (dA DL_law_8 31 rfl) (dA DL_law_8 32 rfl) (dA DL_law_8 33 rfl) (dA DL_law_8 34 rfl) (dA DL_law_8 35 rfl) ?_
  refine V_X8_judge C c8 wM_RL_182 (by decide) (dA DL_law_8 36 rfl) rfl (Nat.le_of_ble_eq_true rfl) ?_
  exact J_icmp_eq (tgt := 1541) C (dA DL_law_8 37 rfl) (by decide) (fun _ => kk M2 h2) (fun z => absurd rfl z)
theorem L_image (C : jK l E X RL code 4 13) (hX : va_X b L x (xs X) (xs X).heap) (hb : b < (xs X).heap.size) (hA : ¬ xA X b) (hi : i + 6 ≤ L) (hL : L ≤ 3072) (h : Rl M M) (kk : ∀ M, Rl M M → J E X 1541 (llv E b i) [] M) : J E X 1456 (llv E b i) [] M := by
  obtain ⟨r, M1, M2, c7, c8, h2⟩ := p_image l E h
  refine J_aload_n C (dA DL_law_8 40 rfl) rfl ?_
  refine V_X7_image C c7 wM_RL_183 (by decide) (dA DL_law_8 41 rfl) rfl (Nat.le_of_ble_eq_true rfl) ?_
  refine J_aload_n C (dA DL_law_8 42 rfl) rfl ?_
  refine V_X8_image C c8 wM_RL_186 (by decide) (dA DL_law_8 43 rfl) rfl (Nat.le_of_ble_eq_true rfl) ?_
  exact J_icmp_eq (tgt := 1541) C (dA DL_law_8 44 rfl) (by decide) (fun _ => kk M2 h2) (fun z => absurd rfl z)
theorem L_undo (C : jK l E X RL code 4 13) (hX : va_X b L x (xs X) (xs X).heap) (hb : b < (xs X).heap.size) (hA : ¬ xA X b) (hi : i + 6 ≤ L) (hL : L ≤ 3072) (h : Rl M M) (kk : ∀ M, Rl M M → J E X 1541 (llv E b i) [] M) : J E X 1469 (llv E b i) [] M := by
  obtain ⟨r, M1, M2, c7, c8, h2⟩ := p_undo l E h
  refine J_aload_n C (dA DL_law_8 47 rfl) rfl ?_
  refine V_X7_undo C c7 wM_RL_187 (by decide) (dA DL_law_8 48 rfl) rfl (Nat.le_of_ble_eq_true rfl) ?_
  refine J_aload_n C (dA DL_law_8 49 rfl) rfl ?_
  refine V_X8_undo C c8 wM_RL_190 (by decide) (dA DL_law_8 50 rfl) rfl (Nat.le_of_ble_eq_true rfl) ?_
  exact J_icmp_eq (tgt := 1541) C (dA DL_law_8 51 rfl) (by decide) (fun _ => kk M2 h2) (fun z => absurd rfl z)
theorem L_tear (C : jK l E X RL code 4 13) (hX : va_X b L x (xs X) (xs X).heap) (hb : b < (xs X).heap.size) (hA : ¬ xA X b) (hi : i + 6 ≤ L) (hL : L ≤ 3072) (h : Rl M M) (kk : ∀ M, Rl M M → J E X 1541 (llv E b i) [] M) : J E X 1482 (llv E b i) [] M := by
  obtain ⟨r, M1, M2, c7, c8, h2⟩ := p_tear l E h
  refine J_aload_n C (dA DL_law_8 54 rfl) rfl ?_
  refine V_X7_tear C c7 wM_RL_191 (by decide) (dA DL_law_8 55 rfl) rfl (Nat.le_of_ble_eq_true rfl) ?_
  refine J_aload_n C (dA DL_law_8 56 rfl) rfl ?_
  refine V_X8_tear C c8 wM_RL_194 (by decide) (dA DL_law_8 57 rfl) rfl (Nat.le_of_ble_eq_true rfl) ?_
  exact J_icmp_eq (tgt := 1541) C (dA DL_law_8 58 rfl) (by decide) (fun _ => kk M2 h2) (fun z => absurd rfl z)
theorem L_count (C : jK l E X RL code 4 13) (hX : va_X b L x (xs X) (xs X).heap) (hb : b < (xs X).heap.size) (hA : ¬ xA X b) (hi : i + 6 ≤ L) (hL : L ≤ 3072) (h : Rl M M) (kk : ∀ M, Rl M M → J E X 1541 (llv E b i) [] M) : J E X 1495 (llv E b i) [] M := by
  obtain ⟨r, M1, M2, c7, c8, h2⟩ := p_count l E h (x (i + 1))
  refine J_aload_n C (dA DL_law_8 61 rfl) rfl ?_
  refine L_arg C hX hb hA hi hL 1 (by decide) rfl (dA DL_law_8 62 rfl) (dA DL_law_8 63 rfl) (dA DL_law_8 64 rfl) (dA DL_law_8 65 rfl) (dA DL_law_8 66 rfl) ?_
  refine V_X7_count C c7 wM_RL_195 (by decide) (dA DL_law_8 67 rfl) rfl (Nat.le_of_ble_eq_true rfl) ?_
  refine J_aload_n C (dA DL_law_8 68 rfl) rfl ?_
  refine L_arg C hX hb hA hi hL 1 (by decide) rfl (dA DL_law_8 69 rfl) (dA DL_law_8 70 rfl) (dA DL_law_8 71 rfl) (dA DL_law_8 72 rfl) (dA DL_law_8 73 rfl) ?_
  refine V_X8_count C c8 wM_RL_198 (by decide) (dA DL_law_8 74 rfl) rfl (Nat.le_of_ble_eq_true rfl) ?_
  exact J_icmp_eq (tgt := 1541) C (dA DL_law_8 75 rfl) (by decide) (fun _ => kk M2 h2) (fun z => absurd rfl z)
theorem L_status (C : jK l E X RL code 4 13) (hX : va_X b L x (xs X) (xs X).heap) (hb : b < (xs X).heap.size) (hA : ¬ xA X b) (hi : i + 6 ≤ L) (hL : L ≤ 3072) (h : Rl M M) (kk : ∀ M, Rl M M → J E X 1541 (llv E b i) [] M) : J E X 1518 (llv E b i) [] M := by
  obtain ⟨r, M1, M2, c7, c8, h2⟩ := p_status l E h (x (i + 1))
  refine J_aload_n C (dA DL_law_8 78 rfl) rfl ?_
  refine L_arg C hX hb hA hi hL 1 (by decide) rfl (dA DL_law_8 79 rfl) (dA DL_law_8 80 rfl) (dA DL_law_8 81 rfl) (dA DL_law_8 82 rfl) (dA DL_law_8 83 rfl) ?_
  refine V_X7_status C c7 wM_RL_199 (by decide) (dA DL_law_8 84 rfl) rfl (Nat.le_of_ble_eq_true rfl) ?_
  refine J_aload_n C (dA DL_law_8 85 rfl) rfl ?_
  refine L_arg C hX hb hA hi hL 1 (by decide) rfl (dA DL_law_8 86 rfl) (dA DL_law_8 87 rfl) (dA DL_law_8 88 rfl) (dA DL_law_8 89 rfl) (dA DL_law_8 90 rfl) ?_
  refine V_X8_status C c8 wM_RL_202 (by decide) (dA DL_law_8 91 rfl) rfl (Nat.le_of_ble_eq_true rfl) ?_
  exact J_icmp_eq (tgt := 1541) C (dA DL_law_8 92 rfl) (by decide) (fun _ => kk M2 h2) (fun z => absurd rfl z)
theorem L_step (C : jK l E X RL code 4 13) (hX : va_X b L x (xs X) (xs X).heap) (hb : b < (xs X).heap.size) (hA : ¬ xA X b) (hi : i + 6 ≤ L) (hL : L ≤ 3072) (h : Rl M M) (kk : ∀ M, Rl M M → J E X 1541 (llv E b i) [] M) : J E X 27 (llv E b i) [] M := by
  refine J_aload_n C (dA DL_law_0 16 rfl) rfl ?_
  refine J_iload_n C (dA DL_law_0 17 rfl) rfl ?_
  refine L_sld C hX hb hA (by omega) hL (dA DL_law_0 18 rfl) ?_
  refine J_bipush (v := nI 63) C (dA DL_law_0 19 rfl) rfl ?_
  refine J_iand C (dA DL_law_0 20 rfl) ?_
  obtain ⟨j, hj, e⟩ := L_and (x i)
  rw [e]
  match j, hj with
  | 0, _ => exact J_tabIn (off := 199) (tgt := 232) C (dA DL_law_0 21 rfl) (by decide) (by decide) rfl (by decide) (L_pond C hX hb hA hi hL h kk)
  | 1, _ => exact J_tabIn (off := 232) (tgt := 265) C (dA DL_law_0 21 rfl) (by decide) (by decide) rfl (by decide) (L_dig C hX hb hA hi hL h kk)
  | 2, _ => exact J_tabIn (off := 275) (tgt := 308) C (dA DL_law_0 21 rfl) (by decide) (by decide) rfl (by decide) (L_thing C hX hb hA hi hL h kk)
  | 3, _ => exact J_tabIn (off := 308) (tgt := 341) C (dA DL_law_0 21 rfl) (by decide) (by decide) rfl (by decide) (L_of C hX hb hA hi hL h kk)
  | 4, _ => exact J_tabIn (off := 341) (tgt := 374) C (dA DL_law_0 21 rfl) (by decide) (by decide) rfl (by decide) (L_change C hX hb hA hi hL h kk)
  | 5, _ => exact J_tabIn (off := 384) (tgt := 417) C (dA DL_law_0 21 rfl) (by decide) (by decide) rfl (by decide) (L_rain C hX hb hA hi hL h kk)
  | 6, _ => exact J_tabIn (off := 407) (tgt := 440) C (dA DL_law_0 21 rfl) (by decide) (by decide) rfl (by decide) (L_go C hX hb hA hi hL h kk)
  | 7, _ => exact J_tabIn (off := 430) (tgt := 463) C (dA DL_law_0 21 rfl) (by decide) (by decide) rfl (by decide) (L_now C hX hb hA hi hL h kk)
  | 8, _ => exact J_tabIn (off := 453) (tgt := 486) C (dA DL_law_0 21 rfl) (by decide) (by decide) rfl (by decide) (L_chain C hX hb hA hi hL h kk)
  | 9, _ => exact J_tabIn (off := 496) (tgt := 529) C (dA DL_law_0 21 rfl) (by decide) (by decide) rfl (by decide) (L_through C hX hb hA hi hL h kk)
  | 10, _ => exact J_tabIn (off := 529) (tgt := 562) C (dA DL_law_0 21 rfl) (by decide) (by decide) rfl (by decide) (L_upright C hX hb hA hi hL h kk)
  | 11, _ => exact J_tabIn (off := 552) (tgt := 585) C (dA DL_law_0 21 rfl) (by decide) (by decide) rfl (by decide) (L_large C hX hb hA hi hL h kk)
  | 12, _ => exact J_tabIn (off := 595) (tgt := 628) C (dA DL_law_0 21 rfl) (by decide) (by decide) rfl (by decide) (L_round C hX hb hA hi hL h kk)
  | 13, _ => exact J_tabIn (off := 618) (tgt := 651) C (dA DL_law_0 21 rfl) (by decide) (by decide) rfl (by decide) (L_rounds C hX hb hA hi hL h kk)
  | 14, _ => exact J_tabIn (off := 631) (tgt := 664) C (dA DL_law_0 21 rfl) (by decide) (by decide) rfl (by decide) (L_before C hX hb hA hi hL h kk)
  | 15, _ => exact J_tabIn (off := 654) (tgt := 687) C (dA DL_law_0 21 rfl) (by decide) (by decide) rfl (by decide) (L_shownBy C hX hb hA hi hL h kk)
  | 16, _ => exact J_tabIn (off := 677) (tgt := 710) C (dA DL_law_0 21 rfl) (by decide) (by decide) rfl (by decide) (L_ahead C hX hb hA hi hL h kk)
  | 17, _ => exact J_tabIn (off := 710) (tgt := 743) C (dA DL_law_0 21 rfl) (by decide) (by decide) rfl (by decide) (L_comes C hX hb hA hi hL h kk)
  | 18, _ => exact J_tabIn (off := 743) (tgt := 776) C (dA DL_law_0 21 rfl) (by decide) (by decide) rfl (by decide) (L_seen C hX hb hA hi hL h kk)
  | 19, _ => exact J_tabIn (off := 776) (tgt := 809) C (dA DL_law_0 21 rfl) (by decide) (by decide) rfl (by decide) (L_meet C hX hb hA hi hL h kk)
  | 20, _ => exact J_tabIn (off := 809) (tgt := 842) C (dA DL_law_0 21 rfl) (by decide) (by decide) rfl (by decide) (L_cast C hX hb hA hi hL h kk)
  | 21, _ => exact J_tabIn (off := 842) (tgt := 875) C (dA DL_law_0 21 rfl) (by decide) (by decide) rfl (by decide) (L_kindFor C hX hb hA hi hL h kk)
  | 22, _ => exact J_tabIn (off := 865) (tgt := 898) C (dA DL_law_0 21 rfl) (by decide) (by decide) rfl (by decide) (L_fits C hX hb hA hi hL h kk)
  | 23, _ => exact J_tabIn (off := 898) (tgt := 931) C (dA DL_law_0 21 rfl) (by decide) (by decide) rfl (by decide) (L_lens C hX hb hA hi hL h kk)
  | 24, _ => exact J_tabIn (off := 931) (tgt := 964) C (dA DL_law_0 21 rfl) (by decide) (by decide) rfl (by decide) (L_which C hX hb hA hi hL h kk)
  | 25, _ => exact J_tabIn (off := 954) (tgt := 987) C (dA DL_law_0 21 rfl) (by decide) (by decide) rfl (by decide) (L_eyes C hX hb hA hi hL h kk)
  | 26, _ => exact J_tabIn (off := 967) (tgt := 1000) C (dA DL_law_0 21 rfl) (by decide) (by decide) rfl (by decide) (L_dredge C hX hb hA hi hL h kk)
  | 27, _ => exact J_tabIn (off := 1000) (tgt := 1033) C (dA DL_law_0 21 rfl) (by decide) (by decide) rfl (by decide) (L_watch C hX hb hA hi hL h kk)
  | 28, _ => exact J_tabIn (off := 1023) (tgt := 1056) C (dA DL_law_0 21 rfl) (by decide) (by decide) rfl (by decide) (L_falls C hX hb hA hi hL h kk)
  | 29, _ => exact J_tabIn (off := 1046) (tgt := 1079) C (dA DL_law_0 21 rfl) (by decide) (by decide) rfl (by decide) (L_odds C hX hb hA hi hL h kk)
  | 30, _ => exact J_tabIn (off := 1080) (tgt := 1113) C (dA DL_law_0 21 rfl) (by decide) (by decide) rfl (by decide) (L_seed C hX hb hA hi hL h kk)
  | 31, _ => exact J_tabIn (off := 1103) (tgt := 1136) C (dA DL_law_0 21 rfl) (by decide) (by decide) rfl (by decide) (L_feed C hX hb hA hi hL h kk)
  | 32, _ => exact J_tabIn (off := 1136) (tgt := 1169) C (dA DL_law_0 21 rfl) (by decide) (by decide) rfl (by decide) (L_wipe C hX hb hA hi hL h kk)
  | 33, _ => exact J_tabIn (off := 1149) (tgt := 1182) C (dA DL_law_0 21 rfl) (by decide) (by decide) rfl (by decide) (L_text C hX hb hA hi hL h kk)
  | 34, _ => exact J_tabIn (off := 1162) (tgt := 1195) C (dA DL_law_0 21 rfl) (by decide) (by decide) rfl (by decide) (L_hold C hX hb hA hi hL h kk)
  | 35, _ => exact J_tabIn (off := 1195) (tgt := 1228) C (dA DL_law_0 21 rfl) (by decide) (by decide) rfl (by decide) (L_as C hX hb hA hi hL h kk)
  | 36, _ => exact J_tabIn (off := 1228) (tgt := 1261) C (dA DL_law_0 21 rfl) (by decide) (by decide) rfl (by decide) (L_sheet C hX hb hA hi hL h kk)
  | 37, _ => exact J_tabIn (off := 1271) (tgt := 1304) C (dA DL_law_0 21 rfl) (by decide) (by decide) rfl (by decide) (L_write C hX hb hA hi hL h kk)
  | 38, _ => exact J_tabIn (off := 1314) (tgt := 1347) C (dA DL_law_0 21 rfl) (by decide) (by decide) rfl (by decide) (L_copy C hX hb hA hi hL h kk)
  | 39, _ => exact J_tabIn (off := 1377) (tgt := 1410) C (dA DL_law_0 21 rfl) (by decide) (by decide) rfl (by decide) (L_load C hX hb hA hi hL h kk)
  | 40, _ => exact J_tabIn (off := 1400) (tgt := 1433) C (dA DL_law_0 21 rfl) (by decide) (by decide) rfl (by decide) (L_judge C hX hb hA hi hL h kk)
  | 41, _ => exact J_tabIn (off := 1423) (tgt := 1456) C (dA DL_law_0 21 rfl) (by decide) (by decide) rfl (by decide) (L_image C hX hb hA hi hL h kk)
  | 42, _ => exact J_tabIn (off := 1436) (tgt := 1469) C (dA DL_law_0 21 rfl) (by decide) (by decide) rfl (by decide) (L_undo C hX hb hA hi hL h kk)
  | 43, _ => exact J_tabIn (off := 1449) (tgt := 1482) C (dA DL_law_0 21 rfl) (by decide) (by decide) rfl (by decide) (L_tear C hX hb hA hi hL h kk)
  | 44, _ => exact J_tabIn (off := 1462) (tgt := 1495) C (dA DL_law_0 21 rfl) (by decide) (by decide) rfl (by decide) (L_count C hX hb hA hi hL h kk)
  | 45, _ => exact J_tabIn (off := 1485) (tgt := 1518) C (dA DL_law_0 21 rfl) (by decide) (by decide) rfl (by decide) (L_status C hX hb hA hi hL h kk)
  | j + 46, hj => exact J_tabOut (tgt := 1541) C (dA DL_law_0 21 rfl) (Or.inr (by rw [tI (by omega)]; omega)) (by decide) (kk M h)
theorem L_loop (C : jK l E X RL code 4 13) (hX : va_X b L x (xs X) (xs X).heap) (hb : b < (xs X).heap.size) (hA : ¬ xA X b) (hL : L ≤ 3072) (hend : ∀ i M, J E X 1548 (llv E b i) [.int 1] M) : ∀ (k i : Nat) (M : jM), i ≤ 3078 → L ≤ i + k → Rl M M → J E X 18 (llv E b i) [] M := by
  intro k
  induction k with
  | zero =>
    intro i M hi hk h
    refine J_iload_n C (dA DL_law_0 10 rfl) rfl ?_
    refine J_aload_n C (dA DL_law_0 11 rfl) rfl ?_
    refine L_slen C hX hb hA (dA DL_law_0 12 rfl) ?_
    refine J_bipush (v := nI 6) C (dA DL_law_0 13 rfl) rfl ?_
    refine J_isub C (dA DL_law_0 14 rfl) ?_
    refine J_icmp_gt_t (tgt := 1547) C (dA DL_law_0 15 rfl) (by decide) (fun _ => ?_) (fun z => ?_)
    · refine J_iconst (v := 1) C (dA DL_law_8 97 rfl) (by decide) ?_
      exact hend i M
    · rw [pk_sub_toInt (by omega) (by omega), tI (by omega)] at z
      omega
  | succ k ih =>
    intro i M hi hk h
    refine J_iload_n C (dA DL_law_0 10 rfl) rfl ?_
    refine J_aload_n C (dA DL_law_0 11 rfl) rfl ?_
    refine L_slen C hX hb hA (dA DL_law_0 12 rfl) ?_
    refine J_bipush (v := nI 6) C (dA DL_law_0 13 rfl) rfl ?_
    refine J_isub C (dA DL_law_0 14 rfl) ?_
    refine J_icmp_gt_t (tgt := 1547) C (dA DL_law_0 15 rfl) (by decide) (fun _ => ?_) (fun z => ?_)
    · refine J_iconst (v := 1) C (dA DL_law_8 97 rfl) (by decide) ?_
      exact hend i M
    · rw [pk_sub_toInt (by omega) (by omega), tI (by omega)] at z
      have hi6 : i + 6 ≤ L := by omega
      refine L_step C hX hb hA hi6 hL h (fun M' h' => ?_)
      refine J_iinc (x := nI i) (v := nI (i + 6)) C (dA DL_law_8 95 rfl) rfl (nI_add i 6) rfl ?_
      refine J_goto (tgt := 18) C (dA DL_law_8 96 rfl) (by decide) ?_
      exact ih (i + 6) M' (by omega) (by omega) h'
end LAWL
