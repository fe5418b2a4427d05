def runF (P : Int32 → Bool) (g : Nat → Int32) (n : Nat) : Nat → Nat → Nat
  | 0, b => b
  | f + 1, b => if b < n ∧ P (g b) = true then runF P g n f (b + 1) else b
def runE (P : Int32 → Bool) (g : Nat → Int32) (n b : Nat) : Nat := runF P g n (n - b) b
theorem runE_y {P : Int32 → Bool} {g : Nat → Int32} {n b : Nat} (h : b < n) (hp : P (g b) = true) : runE P g n b = runE P g n (b + 1) := by
  unfold runE
  rw [show n - b = (n - (b + 1)) + 1 by omega]
  show (if b < n ∧ P (g b) = true then runF P g n (n - (b + 1)) (b + 1) else b) = _
  rw [if_pos ⟨h, hp⟩]
theorem runE_n {P : Int32 → Bool} {g : Nat → Int32} {n b : Nat} (h : b < n) (hp : P (g b) = false) : runE P g n b = b := by
  unfold runE
  rw [show n - b = (n - (b + 1)) + 1 by omega]
  show (if b < n ∧ P (g b) = true then runF P g n (n - (b + 1)) (b + 1) else b) = _
  rw [if_neg (fun z => by rw [hp] at z; exact absurd z.2 (by decide))]
theorem runE_e {P : Int32 → Bool} {g : Nat → Int32} {n b : Nat} (h : n ≤ b) : runE P g n b = b := by
  unfold runE
  rw [show n - b = 0 by omega]
  rfl
theorem runE_b {P : Int32 → Bool} {g : Nat → Int32} {n : Nat} : ∀ (f b : Nat), n - b = f → b ≤ n → b ≤ runE P g n b ∧ runE P g n b ≤ n ∧ (∀ j, b ≤ j → j < runE P g n b → P (g j) = true) ∧ (runE P g n b < n → P (g (runE P g n b)) = false)
  | 0, b, h, hb => by
    rw [runE_e (by omega)]
    exact ⟨Nat.le_refl _, hb, fun j h1 h2 => by omega, fun z => by omega⟩
  | f + 1, b, h, hb => by
    cases hp : P (g b) with
    | true =>
      obtain ⟨h1, h2, h3, h4⟩ := runE_b (P := P) (g := g) (n := n) f (b + 1) (by omega) (by omega)
      rw [runE_y (by omega) hp]
      refine ⟨by omega, h2, fun j j1 j2 => ?_, h4⟩
      rcases Nat.eq_or_lt_of_le j1 with z | z
      · rw [← z]; exact hp
      · exact h3 j (by omega) j2
    | false =>
      rw [runE_n (by omega) hp]
      exact ⟨Nat.le_refl _, hb, fun j h1 h2 => by omega, fun _ => hp⟩
theorem runE_ge {P : Int32 → Bool} {g : Nat → Int32} {n b : Nat} (h : b ≤ n) : b ≤ runE P g n b := (runE_b _ b rfl h).1
theorem runE_le {P : Int32 → Bool} {g : Nat → Int32} {n b : Nat} (h : b ≤ n) : runE P g n b ≤ n := (runE_b _ b rfl h).2.1
def isW (x : Int32) : Bool := decide (x = nI 32)
/-- a number's worth, held at 1000 -/
def dgC (g : Nat → Int32) (b : Nat) : Nat → Nat
  | 0 => 0
  | i + 1 => min (dgC g b i * 10 + nv (g (b + i)) - 48) 1000
theorem dgC_le (g : Nat → Int32) (b : Nat) : ∀ i, dgC g b i ≤ 1000
  | 0 => Nat.zero_le _
  | _ + 1 => Nat.min_le_right _ _
/-- the token at b: its sort, its end, its worth -/
def oS (g : Nat → Int32) (n b : Nat) : Nat := if b < n then (if isL (g b) = true then 1 else if isD (g b) = true then 2 else if g b = nI 59 then 3 else 4) else 0
def oE (g : Nat → Int32) (n b : Nat) : Nat := if b < n then (if isL (g b) = true then runE isL g n (b + 1) else if isD (g b) = true then runE isD g n (b + 1) else b + 1) else b
def oV (g : Nat → Int32) (n b : Nat) : Nat := if isL (g b) = true then wdN g n b (oE g n b) else dgC g b (oE g n b - b)
theorem oE_b {g : Nat → Int32} {n b : Nat} (h : b < n) : b + 1 ≤ oE g n b ∧ oE g n b ≤ n := by
  unfold oE
  rw [if_pos h]
  have h1 := runE_ge (P := isL) (g := g) (n := n) (b := b + 1) (by omega)
  have h2 := runE_le (P := isL) (g := g) (n := n) (b := b + 1) (by omega)
  have h3 := runE_ge (P := isD) (g := g) (n := n) (b := b + 1) (by omega)
  have h4 := runE_le (P := isD) (g := g) (n := n) (b := b + 1) (by omega)
  split
  · omega
  · split <;> omega
theorem oS_le (g : Nat → Int32) (n b : Nat) : oS g n b ≤ 4 := by
  unfold oS
  split
  · split
    · decide
    · split
      · decide
      · split <;> decide
  · decide
theorem oS_0 {g : Nat → Int32} {n b : Nat} : oS g n b = 0 ↔ ¬ b < n := by
  unfold oS
  by_cases h : b < n
  · rw [if_pos h]
    constructor
    · intro z
      split at z
      · omega
      · split at z
        · omega
        · split at z <;> omega
    · intro z; exact absurd h z
  · rw [if_neg h]; exact ⟨fun _ => h, fun _ => rfl⟩
theorem oV_le (g : Nat → Int32) (n b : Nat) : oV g n b ≤ 1000 := by
  unfold oV
  split
  · have := firstN_le (fun w => sayB g n w b (oE g n b)) 18
    exact Nat.le_trans this (by decide)
  · exact dgC_le _ _ _
def tkB (g : Nat → Int32) (n p : Nat) : Nat := runE isW g n p
/-- where the search for token j begins -/
def tst (g : Nat → Int32) (n : Nat) : Nat → Nat
  | 0 => 0
  | j + 1 => oE g n (tkB g n (tst g n j))
def tB (g : Nat → Int32) (n j : Nat) : Nat := tkB g n (tst g n j)
def tS (g : Nat → Int32) (n j : Nat) : Nat := oS g n (tB g n j)
def tV (g : Nat → Int32) (n j : Nat) : Nat := oV g n (tB g n j)
def tK (g : Nat → Int32) (n : Nat) : Nat := firstN 121 (fun j => decide (tS g n j = 0))
theorem tst_le (g : Nat → Int32) (n : Nat) : ∀ j, tst g n j ≤ n
  | 0 => Nat.zero_le _
  | j + 1 => by
    have h := runE_le (P := isW) (g := g) (n := n) (tst_le g n j)
    show oE g n (tkB g n (tst g n j)) ≤ n
    by_cases z : tkB g n (tst g n j) < n
    · exact (oE_b z).2
    · unfold oE; rw [if_neg z]; exact h
theorem tB_le (g : Nat → Int32) (n j : Nat) : tB g n j ≤ n := runE_le (tst_le g n j)
theorem tB_ge (g : Nat → Int32) (n j : Nat) : tst g n j ≤ tB g n j := runE_ge (tst_le g n j)
theorem tB_j {g : Nat → Int32} {n : Nat} : ∀ j, (∀ i, i < j → ¬ tS g n i = 0) → j ≤ tst g n j
  | 0, _ => Nat.zero_le _
  | j + 1, h => by
    have ih := tB_j j (fun i hi => h i (by omega))
    have h1 := tB_ge g n j
    have h2 : tB g n j < n := Classical.byContradiction (fun z => h j (by omega) (oS_0.mpr z))
    have h3 := (oE_b (g := g) h2).1
    show j + 1 ≤ oE g n (tB g n j)
    omega
theorem tK_p {g : Nat → Int32} {n : Nat} (hn : n ≤ 120) : tK g n ≤ 120 ∧ tS g n (tK g n) = 0 ∧ ∀ j, j < tK g n → ¬ tS g n j = 0 := by
  have hlt : tK g n < 121 := Classical.byContradiction (fun z => by
    have h := tB_j (g := g) (n := n) 121 (fun i hi => of_decide_eq_false (firstN_z z i hi))
    have := tst_le g n 121
    omega)
  have h2 := firstN_lt (n := 121) hlt
  exact ⟨by omega, of_decide_eq_true h2.2, fun j hj => of_decide_eq_false (h2.1 j hj)⟩
/-- the memory behind one token, behind j tokens, behind all -/
def oM (g : Nat → Int32) (n : Nat) (M : jM) (k b : Nat) : jM := if oS g n b ≤ 2 then upd (upd M (545 + k) (nI (oS g n b))) (787 + k) (nI (oV g n b)) else upd M (545 + k) (nI (oS g n b))
def tkm (g : Nat → Int32) (n : Nat) (M : jM) : Nat → jM
  | 0 => M
  | j + 1 => oM g n (upd (tkm g n M j) (666 + j) (nI (tB g n j))) j (tB g n j)
def tkF (g : Nat → Int32) (n : Nat) (M : jM) : jM := upd (upd (upd (tkm g n M (tK g n)) (545 + tK g n) (nI 0)) (666 + tK g n) (nI n)) 544 (nI 0)
theorem tkm_out {g : Nat → Int32} {n : Nat} {M : jM} {a : Nat} (h : a < 545 ∨ 908 ≤ a) : ∀ j, j ≤ 121 → tkm g n M j a = M a
  | 0, _ => rfl
  | j + 1, hj => by
    have ih := tkm_out (g := g) (n := n) (M := M) h j (by omega)
    show oM g n (upd (tkm g n M j) (666 + j) (nI (tB g n j))) j (tB g n j) a = M a
    unfold oM
    split
    · rw [pk_un (by omega), pk_un (by omega), pk_un (by omega), ih]
    · rw [pk_un (by omega), pk_un (by omega), ih]
theorem tkm_at {g : Nat → Int32} {n : Nat} {M : jM} {i : Nat} : ∀ j, i < j → j ≤ 121 → tkm g n M j (545 + i) = nI (tS g n i) ∧ tkm g n M j (666 + i) = nI (tB g n i) ∧ (tS g n i ≤ 2 → tkm g n M j (787 + i) = nI (tV g n i))
  | 0, h, _ => by omega
  | j + 1, h, hj => by
    show oM g n (upd (tkm g n M j) (666 + j) (nI (tB g n j))) j (tB g n j) (545 + i) = nI (tS g n i) ∧ oM g n (upd (tkm g n M j) (666 + j) (nI (tB g n j))) j (tB g n j) (666 + i) = nI (tB g n i) ∧ (tS g n i ≤ 2 → oM g n (upd (tkm g n M j) (666 + j) (nI (tB g n j))) j (tB g n j) (787 + i) = nI (tV g n i))
    by_cases e : i = j
    · subst e
      unfold oM
      by_cases z : oS g n (tB g n i) ≤ 2
      · rw [if_pos z]
        refine ⟨?_, ?_, fun _ => ?_⟩
        · rw [pk_un (by omega), pk_us]; rfl
        · rw [pk_un (by omega), pk_un (by omega), pk_us]
        · rw [pk_us]; rfl
      · rw [if_neg z]
        refine ⟨?_, ?_, fun w => absurd w z⟩
        · rw [pk_us]; rfl
        · rw [pk_un (by omega), pk_us]
    · obtain ⟨h1, h2, h3⟩ := tkm_at (g := g) (n := n) (M := M) (i := i) j (by omega) (by omega)
      unfold oM
      split
      · refine ⟨?_, ?_, fun w => ?_⟩
        · rw [pk_un (by omega), pk_un (by omega), pk_un (by omega), h1]
        · rw [pk_un (by omega), pk_un (by omega), pk_un (by omega), h2]
        · rw [pk_un (by omega), pk_un (by omega), pk_un (by omega), h3 w]
      · refine ⟨?_, ?_, fun w => ?_⟩
        · rw [pk_un (by omega), pk_un (by omega), h1]
        · rw [pk_un (by omega), pk_un (by omega), h2]
        · rw [pk_un (by omega), pk_un (by omega), h3 w]
/-- the rows of tokens, as they stand in a memory -/
def TK (g : Nat → Int32) (n : Nat) (m : jM) : Prop := ∀ j, j ≤ tK g n → m (545 + j) = nI (tS g n j) ∧ m (666 + j) = nI (tB g n j) ∧ (tS g n j = 1 ∨ tS g n j = 2 → m (787 + j) = nI (tV g n j))
theorem tkF_TK {g : Nat → Int32} {n : Nat} {M : jM} (hn : n ≤ 120) : TK g n (tkF g n M) := by
  obtain ⟨hk, h0, hnz⟩ := tK_p (g := g) hn
  have hBK : tB g n (tK g n) = n := by
    have := oS_0.mp h0
    have := tB_le g n (tK g n)
    omega
  intro j hj
  unfold tkF
  by_cases e : j = tK g n
  · rw [e]
    refine ⟨?_, ?_, fun z => by omega⟩
    · rw [pk_un (by omega), pk_un (by omega), pk_us, h0]
    · rw [pk_un (by omega), pk_us, hBK]
  · obtain ⟨h1, h2, h3⟩ := tkm_at (g := g) (n := n) (M := M) (i := j) (tK g n) (by omega) (by omega)
    refine ⟨?_, ?_, fun z => ?_⟩
    · rw [pk_un (by omega), pk_un (by omega), pk_un (by omega), h1]
    · rw [pk_un (by omega), pk_un (by omega), pk_un (by omega), h2]
    · rw [pk_un (by omega), pk_un (by omega), pk_un (by omega), h3 (by omega)]
theorem tkF_out {g : Nat → Int32} {n : Nat} {M : jM} {a : Nat} (hn : n ≤ 120) (h : a < 544 ∨ 908 ≤ a) : tkF g n M a = M a := by
  obtain ⟨hk, h0, hnz⟩ := tK_p (g := g) hn
  unfold tkF
  rw [pk_un (by omega), pk_un (by omega), pk_un (by omega), tkm_out (by omega) _ (by omega)]
section PA
variable {M : jM}
theorem gT_un {M : jM} {a b : Nat} {x : Int32} (h : a < b ∨ b + 120 ≤ a) {j : Nat} (hj : j < 120) : gT b (upd M a x) j = gT b M j := by
  unfold gT
  rw [pk_un (by omega)]
set_option maxRecDepth 4000 in
theorem c_X6_takeOne (l : Launch) (E : jE) (g : Nat → Int32) (n : Nat) (hn : n ≤ 120) (b k : Nat) (hb : b < n) (hk : k < 121) (e0 : M 422 = nI n) (hg : ∀ j, j < n → M (423 + j) = g j)  : K_X6_takeOne l E [.ref (ja E 45), .ref (ja E 42), .int (nI b), .int (nI k)] M (nI (oE g n b)) (oM g n M k b) := by
  refine CT_intro (own := RX6) (by decide +kernel) rfl (by simp [Value.category]) (Nat.le_of_ble_eq_true rfl) rfl (fun X C G => ?_)
  show J E X 0 [some (.ref (ja E 45)), some (.ref (ja E 42)), some (.int (nI b)), some (.int (nI k)), none, none, none] [] M
  have htA : ∀ j, tA (gT 423 M) n j = tA g n j := fun j => by
    unfold tA
    by_cases z : j < n
    · rw [if_pos z, if_pos z]; exact hg j z
    · rw [if_neg z, if_neg z]
  have hAb : tA g n b = g b := if_pos hb
  have hLm : isL (-1) = false := by decide
  have hDm : isD (-1) = false := by decide
  refine J_aload_n C (dA DX6_takeOne_0 0 rfl) rfl ?_
  refine J_iload_n C (dA DX6_takeOne_0 1 rfl) rfl ?_
  refine V_X4_at C (c_X4_at l E n hn e0 b (by omega)) wM_RX6_30 (by decide) (dA DX6_takeOne_0 2 rfl) rfl (Nat.le_of_ble_eq_true rfl) ?_
  rw [htA b]
  rw [hAb]
  refine J_ist_4_7 C (dA DX6_takeOne_0 3 rfl) rfl ?_
  refine J_iload_n C (dA DX6_takeOne_0 4 rfl) rfl ?_
  refine J_iconst (v := nI 1) C (dA DX6_takeOne_0 5 rfl) (by decide) ?_
  first | refine J_iadd_n C (dA DX6_takeOne_0 6 rfl) ?_ | refine J_iadd C (dA DX6_takeOne_0 6 rfl) ?_
  refine J_ist_5_7 C (dA DX6_takeOne_0 7 rfl) rfl ?_
  refine J_iload C (dA DX6_takeOne_0 8 rfl) rfl ?_
  refine V_X6_isLetter C (c_X6_isLetter l E _) wM_RX6_37 (by decide) (dA DX6_takeOne_0 9 rfl) rfl (Nat.le_of_ble_eq_true rfl) ?_
  refine J_if_eq_b (tgt := 68) C (dA DX6_takeOne_0 10 rfl) (by decide) (fun h17 => ?_) (fun h17 => ?_)
  · have hl : isL (g b) = false := h17
    refine J_iload C (dA DX6_takeOne_0 35 rfl) rfl ?_
    refine V_X6_isDigit C (c_X6_isDigit l E _) wM_RX6_44 (by decide) (dA DX6_takeOne_0 36 rfl) rfl (Nat.le_of_ble_eq_true rfl) ?_
    refine J_if_eq_b (tgt := 149) C (dA DX6_takeOne_0 37 rfl) (by decide) (fun h73 => ?_) (fun h73 => ?_)
    · have hd : isD (g b) = false := h73
      have hne : ∀ x, oS g n b = x → (x = 3 ∨ x = 4) → upd M (545 + k) (nI x) = oM g n M k b := fun x hx h34 => by
        unfold oM
        rw [hx, if_neg (by omega)]
      have hE3 : oE g n b = b + 1 := by unfold oE; rw [if_pos hb, if_neg (by rw [hl]; decide), if_neg (by rw [hd]; decide)]
      rw [show nI (b + 1) = nI (oE g n b) by rw [hE3]]
      refine J_aload_n C (dA DX6_takeOne_0 75 rfl) rfl ?_
      refine G_X6_sorts C wF_RX6_11 (dA DX6_takeOne_0 76 rfl) ?_
      refine J_iload_n C (dA DX6_takeOne_0 77 rfl) rfl ?_
      refine J_iload C (dA DX6_takeOne_0 78 rfl) rfl ?_
      refine J_bipush (v := nI 59) C (dA DX6_takeOne_0 79 rfl) (by decide) ?_
      refine J_icmp_ne (tgt := 165) C (dA DX6_takeOne_0 80 rfl) (by decide) (fun h158 => ?_) (fun h158 => ?_)
      · refine J_iconst (v := nI 4) C (dA DX6_takeOne_0 83 rfl) (by decide) ?_
        refine S_1 C (hk := rfl) rfl (by omega) (dA DX6_takeOne_0 84 rfl) ?_
        refine J_iload C (dA DX6_takeOne_0 85 rfl) rfl ?_
        have hS3 : oS g n b = 4 := by unfold oS; rw [if_pos hb, if_neg (by rw [hl]; decide), if_neg (by rw [hd]; decide), if_neg h158]
        rw [hne 4 hS3 (by decide)]
        exact J_iret C G (dA DX6_takeOne_0 86 rfl) ⟨rfl, rfl⟩
      · refine J_iconst (v := nI 3) C (dA DX6_takeOne_0 81 rfl) (by decide) ?_
        refine J_goto (tgt := 166) C (dA DX6_takeOne_0 82 rfl) (by decide) ?_
        refine S_1 C (hk := rfl) rfl (by omega) (dA DX6_takeOne_0 84 rfl) ?_
        refine J_iload C (dA DX6_takeOne_0 85 rfl) rfl ?_
        have hS3 : oS g n b = 3 := by unfold oS; rw [if_pos hb, if_neg (by rw [hl]; decide), if_neg (by rw [hd]; decide), if_pos h158]
        rw [hne 3 hS3 (by decide)]
        exact J_iret C G (dA DX6_takeOne_0 86 rfl) ⟨rfl, rfl⟩
    · have hd : isD (g b) = true := h73
      obtain ⟨q, hq, eq⟩ := toNI (x := g b) (n := 58) (by have := inr_t hd; omega) (by have := inr_t hd; omega)
      have hq2 : 48 ≤ q := by
        have := (inr_t hd).1
        rw [eq, tI (by omega)] at this
        omega
      have h0 : q - 48 = dgC g b (b + 1 - b) := by
        rw [show b + 1 - b = 0 + 1 by omega]
        show _ = min (0 * 10 + nv (g (b + 0)) - 48) 1000
        rw [Nat.add_zero, eq, nv_nI (by omega)]
        omega
      refine J_iload C (dA DX6_takeOne_0 38 rfl) rfl ?_
      rw [eq]
      refine J_bipush (v := nI 48) C (dA DX6_takeOne_0 39 rfl) (by decide) ?_
      refine J_isub_n C (by omega) (dA DX6_takeOne_0 40 rfl) ?_
      rw [h0]
      rw [← eq]
      refine J_ist_6_7 C (dA DX6_takeOne_0 41 rfl) rfl ?_
      have hS2 : oS g n b = 2 := by unfold oS; rw [if_pos hb, if_neg (by rw [hl]; decide), if_pos hd]
      have hE2 : oE g n b = runE isD g n (b + 1) := by unfold oE; rw [if_pos hb, if_neg (by rw [hl]; decide), if_pos hd]
      have hle := oE_b (g := g) hb
      have hV2 : oV g n b = dgC g b (oE g n b - b) := by unfold oV; rw [if_neg (by rw [hl]; decide)]
      have last : J E X 131 [some (.ref (ja E 45)), some (.ref (ja E 42)), some (.int (nI b)), some (.int (nI k)), some (.int (g b)), some (.int (nI (oE g n b))), some (.int (nI (dgC g b (oE g n b - b))))] [] M := by
        refine J_aload_n C (dA DX6_takeOne_0 64 rfl) rfl ?_
        refine G_X6_sorts C wF_RX6_11 (dA DX6_takeOne_0 65 rfl) ?_
        refine J_iload_n C (dA DX6_takeOne_0 66 rfl) rfl ?_
        refine J_iconst (v := nI 2) C (dA DX6_takeOne_0 67 rfl) (by decide) ?_
        refine S_1 C (hk := rfl) rfl (by omega) (dA DX6_takeOne_0 68 rfl) ?_
        refine J_aload_n C (dA DX6_takeOne_0 69 rfl) rfl ?_
        refine G_X6_values C wF_RX6_18 (dA DX6_takeOne_0 70 rfl) ?_
        refine J_iload_n C (dA DX6_takeOne_0 71 rfl) rfl ?_
        refine J_iload C (dA DX6_takeOne_0 72 rfl) rfl ?_
        refine S_1 C (hk := rfl) rfl (by omega) (dA DX6_takeOne_0 73 rfl) ?_
        refine J_goto (tgt := 167) C (dA DX6_takeOne_0 74 rfl) (by decide) ?_
        refine J_iload C (dA DX6_takeOne_0 85 rfl) rfl ?_
        have hM : upd (upd M (545 + k) (nI 2)) (787 + k) (nI (dgC g b (oE g n b - b))) = oM g n M k b := by
          unfold oM
          rw [hS2, if_pos (by decide), hV2]
        rw [hM]
        exact J_iret C G (dA DX6_takeOne_0 86 rfl) ⟨rfl, rfl⟩
      have loop : ∀ m e, e + m = n → b < e → runE isD g n e = oE g n b → J E X 83 [some (.ref (ja E 45)), some (.ref (ja E 42)), some (.int (nI b)), some (.int (nI k)), some (.int (g b)), some (.int (nI e)), some (.int (nI (dgC g b (e - b))))] [] M := by
        intro m
        induction m with
        | zero =>
          intro e he hbe hr
          obtain rfl : n = e := by omega
          have hA : tA g n n = -1 := if_neg (by omega)
          rw [runE_e (Nat.le_refl _)] at hr
          refine J_aload_n C (dA DX6_takeOne_0 42 rfl) rfl ?_
          refine J_iload C (dA DX6_takeOne_0 43 rfl) rfl ?_
          refine V_X4_at C (c_X4_at l E n hn e0 n (by omega)) wM_RX6_30 (by decide) (dA DX6_takeOne_0 44 rfl) rfl (Nat.le_of_ble_eq_true rfl) ?_
          rw [htA n]
          rw [hA]
          refine V_X6_isDigit C (c_X6_isDigit l E _) wM_RX6_44 (by decide) (dA DX6_takeOne_0 45 rfl) rfl (Nat.le_of_ble_eq_true rfl) ?_
          refine J_if_eq_b (tgt := 131) C (dA DX6_takeOne_0 46 rfl) (by decide) (fun h92 => ?_) (fun h92 => ?_)
          · have h := last
            rw [← hr] at h
            exact h
          · exact absurd h92 (by rw [hDm]; decide)
        | succ m ih =>
          intro e he hbe hr
          have hA : tA g n e = g e := if_pos (by omega)
          have hc := dgC_le g b (e - b)
          refine J_aload_n C (dA DX6_takeOne_0 42 rfl) rfl ?_
          refine J_iload C (dA DX6_takeOne_0 43 rfl) rfl ?_
          refine V_X4_at C (c_X4_at l E n hn e0 e (by omega)) wM_RX6_30 (by decide) (dA DX6_takeOne_0 44 rfl) rfl (Nat.le_of_ble_eq_true rfl) ?_
          rw [htA e]
          rw [hA]
          refine V_X6_isDigit C (c_X6_isDigit l E _) wM_RX6_44 (by decide) (dA DX6_takeOne_0 45 rfl) rfl (Nat.le_of_ble_eq_true rfl) ?_
          refine J_if_eq_b (tgt := 131) C (dA DX6_takeOne_0 46 rfl) (by decide) (fun h92 => ?_) (fun h92 => ?_)
          · have h := last
            rw [← hr, runE_n (by omega) h92] at h
            exact h
          · obtain ⟨q, hq, eq⟩ := toNI (x := g e) (n := 58) (by have := inr_t h92; omega) (by have := inr_t h92; omega)
            have hq2 : 48 ≤ q := by
              have := (inr_t h92).1
              rw [eq, tI (by omega)] at this
              omega
            have hstep : min (dgC g b (e - b) * 10 + q - 48) 1000 = dgC g b (e + 1 - b) := by
              rw [show e + 1 - b = (e - b) + 1 by omega]
              show _ = min (dgC g b (e - b) * 10 + nv (g (b + (e - b))) - 48) 1000
              rw [show b + (e - b) = e by omega, eq, nv_nI (by omega)]
            refine J_iload C (dA DX6_takeOne_0 47 rfl) rfl ?_
            refine J_bipush (v := nI 120) C (dA DX6_takeOne_0 48 rfl) (by decide) ?_
            refine J_icmp_ge_n (tgt := 131) C (by omega) (by omega) (dA DX6_takeOne_0 49 rfl) (by decide) (fun h99 => ?_) (fun h99 => ?_)
            · exfalso; omega
            · refine J_iload C (dA DX6_takeOne_0 50 rfl) rfl ?_
              refine J_bipush (v := nI 10) C (dA DX6_takeOne_0 51 rfl) (by decide) ?_
              first | refine J_imul_n C (dA DX6_takeOne_0 52 rfl) ?_ | refine J_imul C (dA DX6_takeOne_0 52 rfl) ?_
              refine J_aload_n C (dA DX6_takeOne_0 53 rfl) rfl ?_
              refine J_iload C (dA DX6_takeOne_0 54 rfl) rfl ?_
              refine V_X4_at C (c_X4_at l E n hn e0 e (by omega)) wM_RX6_30 (by decide) (dA DX6_takeOne_0 55 rfl) rfl (Nat.le_of_ble_eq_true rfl) ?_
              rw [htA e]
              rw [hA, eq]
              refine J_iadd_n C (dA DX6_takeOne_0 56 rfl) ?_
              refine J_bipush (v := nI 48) C (dA DX6_takeOne_0 57 rfl) (by decide) ?_
              refine J_isub_n C (by omega) (dA DX6_takeOne_0 58 rfl) ?_
              refine J_sipush (v := nI 1000) C (dA DX6_takeOne_0 59 rfl) (by decide) ?_
              refine J_min_n C wM_RX6_47 (by omega) (by decide) (by decide) (dA DX6_takeOne_0 60 rfl) rfl (Nat.le_of_ble_eq_true rfl) ?_
              refine J_ist_6_7 C (dA DX6_takeOne_0 61 rfl) rfl ?_
              first | refine J_inc1_5_7 C (dA DX6_takeOne_0 62 rfl) rfl ?_ | refine J_iinc_5_7 C (dA DX6_takeOne_0 62 rfl) rfl ?_
              refine J_goto (tgt := 83) C (dA DX6_takeOne_0 63 rfl) (by decide) ?_
              rw [hstep]
              exact ih (e + 1) (by omega) (by omega) (by rw [← runE_y (by omega) h92]; exact hr)
      exact loop (n - (b + 1)) (b + 1) (by omega) (by omega) hE2.symm
  · have hl : isL (g b) = true := h17
    have hS1 : oS g n b = 1 := by unfold oS; rw [if_pos hb, if_pos hl]
    have hE1 : oE g n b = runE isL g n (b + 1) := by unfold oE; rw [if_pos hb, if_pos hl]
    have hle := oE_b (g := g) hb
    have hwd : ∀ (M1 : jM) (e : Nat), (∀ j, j < n → M1 (423 + j) = g j) → wdN (gT 423 M1) n b e = wdN g n b e := fun M1 e h1 => by
      have ht : ∀ j, tA (gT 423 M1) n j = tA g n j := fun j => by
        unfold tA
        by_cases z : j < n
        · rw [if_pos z, if_pos z]; exact h1 j z
        · rw [if_neg z, if_neg z]
      have hs : ∀ w, sayB (gT 423 M1) n w b e = sayB g n w b e := fun w => by
        unfold sayB
        rw [anyB_cong (fun k _ => by rw [ht])]
      unfold wdN
      rw [show (fun w => sayB (gT 423 M1) n w b e) = (fun w => sayB g n w b e) from funext hs]
    have hV1 : oV g n b = wdN g n b (oE g n b) := by unfold oV; rw [if_pos hl]
    have last : J E X 45 [some (.ref (ja E 45)), some (.ref (ja E 42)), some (.int (nI b)), some (.int (nI k)), some (.int (g b)), some (.int (nI (oE g n b))), none] [] M := by
      refine J_aload_n C (dA DX6_takeOne_0 21 rfl) rfl ?_
      refine G_X6_sorts C wF_RX6_11 (dA DX6_takeOne_0 22 rfl) ?_
      refine J_iload_n C (dA DX6_takeOne_0 23 rfl) rfl ?_
      refine J_iconst (v := nI 1) C (dA DX6_takeOne_0 24 rfl) (by decide) ?_
      refine S_1 C (hk := rfl) rfl (by omega) (dA DX6_takeOne_0 25 rfl) ?_
      refine J_aload_n C (dA DX6_takeOne_0 26 rfl) rfl ?_
      refine G_X6_values C wF_RX6_18 (dA DX6_takeOne_0 27 rfl) ?_
      refine J_iload_n C (dA DX6_takeOne_0 28 rfl) rfl ?_
      refine J_aload_n C (dA DX6_takeOne_0 29 rfl) rfl ?_
      refine J_iload_n C (dA DX6_takeOne_0 30 rfl) rfl ?_
      refine J_iload C (dA DX6_takeOne_0 31 rfl) rfl ?_
      refine V_X6_wordAt C (c_X6_wordAt l E n hn (by rw [pk_un (by omega)]; exact e0) b (oE g n b) (by omega) (by omega)) wM_RX6_41 (by decide) (dA DX6_takeOne_0 32 rfl) rfl (Nat.le_of_ble_eq_true rfl) ?_
      refine S_1 C (hk := rfl) rfl (by omega) (dA DX6_takeOne_0 33 rfl) ?_
      refine J_goto (tgt := 167) C (dA DX6_takeOne_0 34 rfl) (by decide) ?_
      refine J_iload C (dA DX6_takeOne_0 85 rfl) rfl ?_
      have hM : upd (upd M (545 + k) (nI 1)) (787 + k) (nI (wdN (gT 423 (upd M (545 + k) (nI 1))) n b (oE g n b))) = oM g n M k b := by
        unfold oM
        rw [hS1, if_pos (by decide), hwd _ _ (fun j hj => by rw [pk_un (by omega)]; exact hg j hj), hV1]
      rw [hM]
      exact J_iret C G (dA DX6_takeOne_0 86 rfl) ⟨rfl, rfl⟩
    have loop : ∀ m e, e + m = n → b < e → runE isL g n e = oE g n b → J E X 20 [some (.ref (ja E 45)), some (.ref (ja E 42)), some (.int (nI b)), some (.int (nI k)), some (.int (g b)), some (.int (nI e)), none] [] M := by
      intro m
      induction m with
      | zero =>
        intro e he hbe hr
        obtain rfl : n = e := by omega
        have hA : tA g n n = -1 := if_neg (by omega)
        rw [runE_e (Nat.le_refl _)] at hr
        refine J_aload_n C (dA DX6_takeOne_0 11 rfl) rfl ?_
        refine J_iload C (dA DX6_takeOne_0 12 rfl) rfl ?_
        refine V_X4_at C (c_X4_at l E n hn e0 n (by omega)) wM_RX6_30 (by decide) (dA DX6_takeOne_0 13 rfl) rfl (Nat.le_of_ble_eq_true rfl) ?_
        rw [htA n]
        rw [hA]
        refine V_X6_isLetter C (c_X6_isLetter l E _) wM_RX6_37 (by decide) (dA DX6_takeOne_0 14 rfl) rfl (Nat.le_of_ble_eq_true rfl) ?_
        refine J_if_eq_b (tgt := 45) C (dA DX6_takeOne_0 15 rfl) (by decide) (fun h29 => ?_) (fun h29 => ?_)
        · have h := last
          rw [← hr] at h
          exact h
        · exact absurd h29 (by rw [hLm]; decide)
      | succ m ih =>
        intro e he hbe hr
        have hA : tA g n e = g e := if_pos (by omega)
        refine J_aload_n C (dA DX6_takeOne_0 11 rfl) rfl ?_
        refine J_iload C (dA DX6_takeOne_0 12 rfl) rfl ?_
        refine V_X4_at C (c_X4_at l E n hn e0 e (by omega)) wM_RX6_30 (by decide) (dA DX6_takeOne_0 13 rfl) rfl (Nat.le_of_ble_eq_true rfl) ?_
        rw [htA e]
        rw [hA]
        refine V_X6_isLetter C (c_X6_isLetter l E _) wM_RX6_37 (by decide) (dA DX6_takeOne_0 14 rfl) rfl (Nat.le_of_ble_eq_true rfl) ?_
        refine J_if_eq_b (tgt := 45) C (dA DX6_takeOne_0 15 rfl) (by decide) (fun h29 => ?_) (fun h29 => ?_)
        · have h := last
          rw [← hr, runE_n (by omega) h29] at h
          exact h
        · refine J_iload C (dA DX6_takeOne_0 16 rfl) rfl ?_
          refine J_bipush (v := nI 120) C (dA DX6_takeOne_0 17 rfl) (by decide) ?_
          refine J_icmp_ge_n (tgt := 45) C (by omega) (by omega) (dA DX6_takeOne_0 18 rfl) (by decide) (fun h36 => ?_) (fun h36 => ?_)
          · exfalso; omega
          · first | refine J_inc1_5_7 C (dA DX6_takeOne_0 19 rfl) rfl ?_ | refine J_iinc_5_7 C (dA DX6_takeOne_0 19 rfl) rfl ?_
            refine J_goto (tgt := 20) C (dA DX6_takeOne_0 20 rfl) (by decide) ?_
            exact ih (e + 1) (by omega) (by omega) (by rw [← runE_y (by omega) h29]; exact hr)
    exact loop (n - (b + 1)) (b + 1) (by omega) (by omega) hE1.symm
set_option maxRecDepth 4000 in
theorem c_X6_take (l : Launch) (E : jE) (g : Nat → Int32) (n : Nat) (hn : n ≤ 120) (e0 : M 422 = nI n) (hg : ∀ j, j < n → M (423 + j) = g j)  : K_X6_take l E [.ref (ja E 45), .ref (ja E 42)] M (tkF g n M) := by
  refine CT_intro (own := RX6) (by decide +kernel) rfl (by simp [Value.category]) (Nat.le_of_ble_eq_true rfl) rfl (fun X C G => ?_)
  show J E X 0 [some (.ref (ja E 45)), some (.ref (ja E 42)), none, none] [] M
  have loop : ∀ m p k, n - p ≤ m → p ≤ n → k ≤ p → tkB g n p = tB g n k → (∀ j, j < k → ¬ tS g n j = 0) → J E X 4 [some (.ref (ja E 45)), some (.ref (ja E 42)), some (.int (nI k)), some (.int (nI p))] [] (tkm g n M k) := by
    intro m
    induction m with
    | zero =>
      intro p k hp hpn hkp hB hnz
      obtain rfl : n = p := by omega
      have f0 : (tkm g n M k) 422 = nI n := by rw [tkm_out (by omega) _ (by omega)]; exact e0
      have fg : ∀ j, j < n → (tkm g n M k) (423 + j) = g j := fun j hj => by rw [tkm_out (by omega) _ (by omega)]; exact hg j hj
      refine J_iload_n C (dA DX6_take_0 4 rfl) rfl ?_
      refine J_aload_n C (dA DX6_take_0 5 rfl) rfl ?_
      refine G_X4_length C wF_RX6_25 (dA DX6_take_0 6 rfl) ?_
      rw [f0]
      refine J_icmp_ge_n (tgt := 55) C (by omega) (by omega) (dA DX6_take_0 7 rfl) (by decide) (fun h9 => ?_) (fun h9 => ?_)
      · refine J_aload_n C (dA DX6_take_0 31 rfl) rfl ?_
        refine G_X6_sorts C wF_RX6_11 (dA DX6_take_0 32 rfl) ?_
        refine J_iload_n C (dA DX6_take_0 33 rfl) rfl ?_
        refine J_iconst (v := nI 0) C (dA DX6_take_0 34 rfl) (by decide) ?_
        refine S_1 C (hk := rfl) rfl (by omega) (dA DX6_take_0 35 rfl) ?_
        refine J_aload_n C (dA DX6_take_0 36 rfl) rfl ?_
        refine G_X6_begins C wF_RX6_15 (dA DX6_take_0 37 rfl) ?_
        refine J_iload_n C (dA DX6_take_0 38 rfl) rfl ?_
        refine J_aload_n C (dA DX6_take_0 39 rfl) rfl ?_
        refine G_X4_length C wF_RX6_25 (dA DX6_take_0 40 rfl) ?_
        rw [show (upd (tkm g n M k) (545 + k) (nI 0)) 422 = nI n by rw [pk_un (by omega)]; exact f0]
        refine S_1 C (hk := rfl) rfl (by omega) (dA DX6_take_0 41 rfl) ?_
        refine J_aload_n C (dA DX6_take_0 42 rfl) rfl ?_
        refine J_iconst (v := nI 0) C (dA DX6_take_0 43 rfl) (by decide) ?_
        refine P_X6_at C wF_RX6_21 (dA DX6_take_0 44 rfl) ?_
        have hBk : tB g n k = n := by rw [← hB]; exact runE_e (Nat.le_refl _)
        have hK : tK g n = k := firstN_eq (by omega) (fun j hj => decide_eq_false (hnz j hj)) (decide_eq_true (oS_0.mpr (by rw [hBk]; omega)))
        exact J_vret C G (dA DX6_take_0 45 rfl) ⟨rfl, by unfold tkF; rw [hK]⟩
      · exfalso; omega
    | succ m ih =>
      intro p k hp hpn hkp hB hnz
      rcases Nat.eq_or_lt_of_le hpn with hz | hz
      · exact ih p k (by omega) hpn hkp hB hnz
      have hA : tA (gT 423 (tkm g n M k)) n p = g p := by
        unfold tA gT
        rw [if_pos (show p < n by omega), tkm_out (by omega) _ (by omega)]
        exact hg p (by omega)
      have f0 : (tkm g n M k) 422 = nI n := by rw [tkm_out (by omega) _ (by omega)]; exact e0
      have fg : ∀ j, j < n → (tkm g n M k) (423 + j) = g j := fun j hj => by rw [tkm_out (by omega) _ (by omega)]; exact hg j hj
      refine J_iload_n C (dA DX6_take_0 4 rfl) rfl ?_
      refine J_aload_n C (dA DX6_take_0 5 rfl) rfl ?_
      refine G_X4_length C wF_RX6_25 (dA DX6_take_0 6 rfl) ?_
      rw [f0]
      refine J_icmp_ge_n (tgt := 55) C (by omega) (by omega) (dA DX6_take_0 7 rfl) (by decide) (fun h9 => ?_) (fun h9 => ?_)
      · exfalso; omega
      · refine J_iload_n C (dA DX6_take_0 8 rfl) rfl ?_
        refine J_bipush (v := nI 120) C (dA DX6_take_0 9 rfl) (by decide) ?_
        refine J_icmp_ge_n (tgt := 55) C (by omega) (by omega) (dA DX6_take_0 10 rfl) (by decide) (fun h15 => ?_) (fun h15 => ?_)
        · exfalso; omega
        · refine J_aload_n C (dA DX6_take_0 11 rfl) rfl ?_
          refine J_iload_n C (dA DX6_take_0 12 rfl) rfl ?_
          refine V_X4_at C (c_X4_at l E n hn f0 p (by omega)) wM_RX6_30 (by decide) (dA DX6_take_0 13 rfl) rfl (Nat.le_of_ble_eq_true rfl) ?_
          rw [hA]
          refine J_bipush (v := nI 32) C (dA DX6_take_0 14 rfl) (by decide) ?_
          refine J_icmp_ne (tgt := 34) C (dA DX6_take_0 15 rfl) (by decide) (fun h25 => ?_) (fun h25 => ?_)
          · have hw : isW (g p) = false := decide_eq_false h25
            have hBp : tB g n k = p := by rw [← hB]; exact runE_n (by omega) hw
            have hle := oE_b (g := g) (n := n) (b := p) (by omega)
            have hst : tst g n (k + 1) = oE g n p := by show oE g n (tB g n k) = _; rw [hBp]
            have hB2 : tkB g n (oE g n p) = tB g n (k + 1) := by rw [← hst]; rfl
            have hnz2 : ∀ j, j < k + 1 → ¬ tS g n j = 0 := fun j hj => by
              rcases Nat.lt_or_ge j k with z | z
              · exact hnz j z
              · rw [show j = k by omega]
                intro y
                have := oS_0.mp y
                omega
            have hMk : oM g n (upd (tkm g n M k) (666 + k) (nI p)) k p = tkm g n M (k + 1) := by
              show _ = oM g n (upd (tkm g n M k) (666 + k) (nI (tB g n k))) k (tB g n k)
              rw [hBp]
            have hgo : J E X 4 [some (.ref (ja E 45)), some (.ref (ja E 42)), some (.int (nI (k + 1))), some (.int (nI (oE g n p)))] [] (tkm g n M (k + 1)) := by
              have h := ih (oE g n p) (k + 1) (by omega) hle.2 (by omega) hB2 hnz2
              exact h
            refine J_aload_n C (dA DX6_take_0 18 rfl) rfl ?_
            refine G_X6_begins C wF_RX6_15 (dA DX6_take_0 19 rfl) ?_
            refine J_iload_n C (dA DX6_take_0 20 rfl) rfl ?_
            refine J_iload_n C (dA DX6_take_0 21 rfl) rfl ?_
            refine S_1 C (hk := rfl) rfl (by omega) (dA DX6_take_0 22 rfl) ?_
            refine J_aload_n C (dA DX6_take_0 23 rfl) rfl ?_
            refine J_aload_n C (dA DX6_take_0 24 rfl) rfl ?_
            refine J_iload_n C (dA DX6_take_0 25 rfl) rfl ?_
            refine J_iload_n C (dA DX6_take_0 26 rfl) rfl ?_
            refine V_X6_takeOne C (c_X6_takeOne l E g n hn p k (by omega) (by omega) (by rw [pk_un (by omega)]; exact f0) (fun j hj => by rw [pk_un (by omega)]; exact fg j hj)) wM_RX6_33 (by decide) (dA DX6_take_0 27 rfl) rfl (Nat.le_of_ble_eq_true rfl) ?_
            rw [hMk]
            refine J_ist_3_4 C (dA DX6_take_0 28 rfl) rfl ?_
            first | refine J_inc1_2_4 C (dA DX6_take_0 29 rfl) rfl ?_ | refine J_iinc_2_4 C (dA DX6_take_0 29 rfl) rfl ?_
            refine J_goto (tgt := 4) C (dA DX6_take_0 30 rfl) (by decide) ?_
            exact hgo
          · first | refine J_inc1_3_4 C (dA DX6_take_0 16 rfl) rfl ?_ | refine J_iinc_3_4 C (dA DX6_take_0 16 rfl) rfl ?_
            refine J_goto (tgt := 4) C (dA DX6_take_0 17 rfl) (by decide) ?_
            exact ih (p + 1) k (by omega) (by omega) (by omega) (by rw [← hB]; unfold tkB; rw [← runE_y (by omega) (decide_eq_true h25)]) hnz
  refine J_iconst (v := nI 0) C (dA DX6_take_0 0 rfl) (by decide) ?_
  refine J_ist_2_4 C (dA DX6_take_0 1 rfl) rfl ?_
  refine J_iconst (v := nI 0) C (dA DX6_take_0 2 rfl) (by decide) ?_
  refine J_ist_3_4 C (dA DX6_take_0 3 rfl) rfl ?_
  exact loop n 0 0 (by omega) (Nat.zero_le _) (Nat.zero_le _) rfl (fun j hj => by omega)
end PA
