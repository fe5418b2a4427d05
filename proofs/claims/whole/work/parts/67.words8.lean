def ltL : List Nat := [116, 104, 105, 110, 103, 32, 32, 32, 102, 105, 115, 104, 32, 32, 32, 32, 100, 117, 99, 107, 32, 32, 32, 32, 102, 114, 111, 103, 32, 32, 32, 32, 104, 101, 114, 111, 110, 32, 32, 32, 99, 111, 114, 107, 32, 32, 32, 32, 112, 105, 107, 101, 32, 32, 32, 32, 105, 110, 32, 32, 32, 32, 32, 32, 108, 111, 110, 103, 32, 32, 32, 32, 112, 111, 110, 100, 32, 32, 32, 32, 114, 97, 105, 110, 32, 32, 32, 32, 100, 114, 121, 32, 32, 32, 32, 32, 115, 104, 111, 119, 115, 32, 32, 32, 115, 105, 122, 101, 32, 32, 32, 32, 116, 117, 114, 110, 101, 100, 32, 32, 102, 108, 105, 112, 112, 101, 100, 32, 100, 105, 116, 99, 104, 32, 32, 32, 100, 101, 112, 116, 104, 32, 32, 32]
def ltr (i : Nat) : Nat := ltL.getD i 0
/-- the reference's letters stand in their rows -/
def LT (M : jM) : Prop := ∀ i, i < 144 → M (1862 + i) = nI (ltr i)
def wv (s : Nat) : Nat → Nat
  | 0 => 0
  | j + 1 => if ltr (s + j) = 32 then wv s j else wv s j * 27 + ltr (s + j) - 96
def wst (W : Nat) : Nat := if W < 7 then 8 * W else if W < 13 then 96 + 8 * (W - 7) else if W < 15 then 56 + 8 * (W - 13) else 72 + 8 * (W - 15)
def nwN (W : Nat) : Nat → Nat
  | 0 => 0
  | j + 1 => nwN W j * 27 + nv (sc W j) - 96
theorem nw_eq : ∀ W, W < 18 → wv (wst W) 8 = nwN W (sl W) := by decide +kernel
theorem nw_le : ∀ W, W < 18 → ∀ j, j ≤ sl W → nwN W j ≤ 9999999999999 := by decide +kernel
theorem nw_uni : ∀ W, W < 18 → ∀ V, V < 18 → nwN W (sl W) = nwN V (sl V) → W = V := by decide +kernel
theorem sc_in : ∀ W, W < 18 → ∀ j, j < sl W → sc W j = nI (nv (sc W j)) ∧ 97 ≤ nv (sc W j) ∧ nv (sc W j) ≤ 122 := by decide +kernel
theorem ltr_le : ∀ i, i < 144 → ltr i ≤ 122 ∧ (ltr i = 32 ∨ 97 ≤ ltr i) := by decide +kernel
theorem L_q {x : Int32} (h : isL x = true) : ∃ q, x = nI q ∧ 97 ≤ q ∧ q ≤ 122 := by
  have h1 := inr_t h
  obtain ⟨q, hq, e⟩ := toNI (x := x) (n := 123) (by omega) (by omega)
  rw [e, tI (by omega)] at h1
  exact ⟨q, e, by omega, by omega⟩
theorem sv_iff {g : Nat → Int32} {b W : Nat} (hW : W < 18) : ∀ (k j : Nat), (∀ i, i < k → isL (g (b + i)) = true) → j ≤ sl W → (svN g b k = nwN W j ↔ k = j ∧ ∀ i, i < k → g (b + i) = sc W i)
  | 0, 0, _, _ => ⟨fun _ => ⟨rfl, fun i hi => by omega⟩, fun _ => rfl⟩
  | 0, j + 1, _, hj => by
    obtain ⟨-, h1, h2⟩ := sc_in W hW j (by omega)
    refine ⟨fun z => ?_, fun z => by omega⟩
    have z : 0 = nwN W j * 27 + nv (sc W j) - 96 := z
    omega
  | k + 1, 0, h, _ => by
    obtain ⟨q, e, h1, h2⟩ := L_q (h k (by omega))
    refine ⟨fun z => ?_, fun z => by omega⟩
    have z : (if svN g b k ≤ 9999999999999 then svN g b k * 27 + nv (g (b + k)) - 96 else svN g b k) = 0 := z
    rw [e, nv_nI (by omega)] at z
    split at z <;> omega
  | k + 1, j + 1, h, hj => by
    obtain ⟨q, e, h1, h2⟩ := L_q (h k (by omega))
    obtain ⟨s0, s1, s2⟩ := sc_in W hW j (by omega)
    have ih := sv_iff (g := g) (b := b) hW k j (fun i hi => h i (by omega)) (by omega)
    have hle := nw_le W hW j (by omega)
    have hle1 : nwN W j * 27 + nv (sc W j) - 96 ≤ 9999999999999 := nw_le W hW (j + 1) hj
    show (if svN g b k ≤ 9999999999999 then svN g b k * 27 + nv (g (b + k)) - 96 else svN g b k) = nwN W j * 27 + nv (sc W j) - 96 ↔ _
    rw [e, nv_nI (by omega)]
    by_cases z : svN g b k ≤ 9999999999999
    · rw [if_pos z]
      constructor
      · intro y
        obtain ⟨y1, y2⟩ := ih.mp (by omega)
        refine ⟨by omega, fun i hi => ?_⟩
        rcases Nat.lt_or_ge i k with w | w
        · exact y2 i w
        · rw [show i = k by omega, e, y1, s0]
          exact congrArg nI (by omega)
      · rintro ⟨y1, y2⟩
        have y3 := ih.mpr ⟨by omega, fun i hi => y2 i (by omega)⟩
        have y4 := y2 k (by omega)
        have ejk : k = j := by omega
        rw [e, ejk, s0] at y4
        have y5 := (nI_eq (by omega) (by omega)).mp y4
        omega
    · rw [if_neg z]
      constructor
      · intro y; omega
      · rintro ⟨y1, y2⟩
        have y3 := ih.mpr ⟨by omega, fun i hi => y2 i (by omega)⟩
        omega
theorem say_iff {g : Nat → Int32} {n W b e : Nat} (hb : b ≤ e) (he : e ≤ n) : sayB g n W b e = true ↔ e - b = sl W ∧ ∀ i, i < sl W → g (b + i) = sc W i := by
  unfold sayB
  rw [Bool.and_eq_true, decide_eq_true_iff, Bool.not_eq_true', Bool.eq_false_iff, Ne, anyB_iff]
  constructor
  · rintro ⟨h1, h2⟩
    refine ⟨h1, fun i hi => Classical.byContradiction (fun z => h2 ⟨i, hi, decide_eq_true ?_⟩)⟩
    unfold tA
    rw [if_pos (by omega)]
    exact z
  · rintro ⟨h1, h2⟩
    refine ⟨h1, fun ⟨i, hi, z⟩ => ?_⟩
    have z := of_decide_eq_true z
    unfold tA at z
    rw [if_pos (by omega)] at z
    exact z (h2 i hi)
theorem oS_L {g : Nat → Int32} {n b : Nat} (h : oS g n b = 1) : b < n ∧ isL (g b) = true := by
  unfold oS at h
  by_cases hb : b < n
  · rw [if_pos hb] at h
    by_cases hl : isL (g b) = true
    · exact ⟨hb, hl⟩
    · rw [if_neg hl] at h
      split at h
      · omega
      · split at h <;> omega
  · rw [if_neg hb] at h; omega
theorem oS_D {g : Nat → Int32} {n b : Nat} (h : oS g n b = 2) : b < n ∧ isL (g b) = false ∧ isD (g b) = true := by
  unfold oS at h
  by_cases hb : b < n
  · rw [if_pos hb] at h
    by_cases hl : isL (g b) = true
    · rw [if_pos hl] at h; omega
    · rw [if_neg hl] at h
      by_cases hd : isD (g b) = true
      · exact ⟨hb, Bool.eq_false_iff.mpr hl, hd⟩
      · rw [if_neg hd] at h
        split at h <;> omega
  · rw [if_neg hb] at h; omega
theorem run_all {P : Int32 → Bool} {g : Nat → Int32} {n b : Nat} (hb : b < n) (hp : P (g b) = true) : ∀ i, i < runE P g n (b + 1) - b → P (g (b + i)) = true := fun i hi => by
  have h := (runE_b (P := P) (g := g) (n := n) _ (b + 1) rfl (by omega))
  rcases Nat.eq_zero_or_pos i with z | z
  · subst z; exact hp
  · exact h.2.2.1 (b + i) (by omega) (by omega)
theorem word_iff {g : Nat → Int32} {n b W : Nat} (hS : oS g n b = 1) (hW : W < 18) : rVV g n b = wv (wst W) 8 ↔ oV g n b = W := by
  obtain ⟨hb, hl⟩ := oS_L hS
  have hE : oE g n b = runE isL g n (b + 1) := by unfold oE; rw [if_pos hb, if_pos hl]
  have hle := oE_b (g := g) hb
  have hall : ∀ i, i < oE g n b - b → isL (g (b + i)) = true := by rw [hE]; exact run_all hb hl
  have hV : oV g n b = wdN g n b (oE g n b) := by unfold oV; rw [if_pos hl]
  have hR : rVV g n b = svN g b (oE g n b - b) := by unfold rVV; rw [if_pos hS]
  have hsv : ∀ V, V < 18 → (sayB g n V b (oE g n b) = true ↔ svN g b (oE g n b - b) = nwN V (sl V)) := fun V hV2 => by
    rw [sv_iff hV2 _ _ hall (Nat.le_refl _), say_iff (by omega) hle.2]
    constructor
    · rintro ⟨h1, h2⟩; exact ⟨h1, fun i hi => h2 i (by omega)⟩
    · rintro ⟨h1, h2⟩; exact ⟨h1, fun i hi => h2 i (by omega)⟩
  rw [hR, hV, nw_eq W hW]
  constructor
  · intro h
    have h1 := (hsv W hW).mpr h
    have hlt : wdN g n b (oE g n b) < 18 := Classical.byContradiction (fun z => by
      have := firstN_z (P := fun w => sayB g n w b (oE g n b)) (n := 18) z W hW
      exact absurd h1 (Bool.eq_false_iff.mp this))
    have h2 : sayB g n (wdN g n b (oE g n b)) b (oE g n b) = true := (firstN_lt (P := fun w => sayB g n w b (oE g n b)) (n := 18) hlt).2
    exact nw_uni _ hlt _ hW (((hsv _ hlt).mp h2).symm.trans h)
  · intro h
    have hlt : wdN g n b (oE g n b) < 18 := by omega
    have h2 : sayB g n (wdN g n b (oE g n b)) b (oE g n b) = true := (firstN_lt (P := fun w => sayB g n w b (oE g n b)) (n := 18) hlt).2
    rw [h] at h2
    exact (hsv W hW).mp h2
/-- what wordOf says of a row of c words, whose first is word w0 -/
def wO (o vv : Nat) : Nat → Int32
  | 0 => -1
  | w + 1 => if wv (o + 8 * w) 8 = vv then nI w else wO o vv w
def wIx (g : Nat → Int32) (n k w0 c : Nat) : Int32 := if tS g n k = 1 ∧ w0 ≤ tV g n k ∧ tV g n k < w0 + c then nI (tV g n k - w0) else -1
theorem wO_ix {g : Nat → Int32} {n k w0 c o : Nat} (h1 : tS g n k = 1) (hc : ∀ w, w < c → w0 + w < 18 ∧ wst (w0 + w) = o + 8 * w) : ∀ d, d ≤ c → wO o (rVV g n (tB g n k)) d = if w0 ≤ tV g n k ∧ tV g n k < w0 + d then nI (tV g n k - w0) else -1
  | 0, _ => by rw [if_neg (by omega)]; rfl
  | d + 1, hd => by
    have ih := wO_ix h1 hc d (by omega)
    obtain ⟨hw, he⟩ := hc d (by omega)
    have hi := word_iff (g := g) (n := n) (b := tB g n k) h1 hw
    rw [he] at hi
    show (if wv (o + 8 * d) 8 = rVV g n (tB g n k) then nI d else wO o (rVV g n (tB g n k)) d) = _
    have hv : oV g n (tB g n k) = tV g n k := rfl
    rw [hv] at hi
    by_cases e : tV g n k = w0 + d
    · rw [if_pos (hi.mpr e).symm, if_pos (by omega), e, Nat.add_sub_cancel_left]
    · rw [if_neg (fun z => e (hi.mp z.symm)), ih]
      by_cases y : w0 ≤ tV g n k ∧ tV g n k < w0 + d
      · rw [if_pos y, if_pos (by omega)]
      · rw [if_neg y, if_neg (by omega)]
theorem rS_1 {g : Nat → Int32} {n b : Nat} : rSS g n b = 1 ↔ oS g n b = 1 := by
  unfold rSS
  split <;> omega
theorem rS_3 {g : Nat → Int32} {n b : Nat} : rSS g n b = 3 ↔ oS g n b = 3 := by
  unfold rSS
  split <;> omega
theorem rS_0 {g : Nat → Int32} {n b : Nat} : rSS g n b = 0 ↔ oS g n b = 0 := by
  unfold rSS
  split <;> omega
theorem rS_le (g : Nat → Int32) (n b : Nat) : rSS g n b ≤ 4 := by
  have := oS_le g n b
  unfold rSS
  split <;> omega
theorem num_v {g : Nat → Int32} {n b : Nat} (h : rSS g n b = 2) : oS g n b = 2 ∧ rVV g n b ≤ 999 ∧ oV g n b = rVV g n b := by
  have hS : oS g n b = 2 := by
    unfold rSS at h
    split at h <;> omega
  obtain ⟨hb, hl, hd⟩ := oS_D hS
  have hE : oE g n b = runE isD g n (b + 1) := by unfold oE; rw [if_pos hb, if_neg (by rw [hl]; decide), if_pos hd]
  have hR : rVV g n b = dgR g b (oE g n b - b) := by unfold rVV; rw [if_neg (by omega), if_pos hS]
  have hV : oV g n b = dgC g b (oE g n b - b) := by unfold oV; rw [if_neg (by rw [hl]; decide)]
  have hC := dgC_R (g := g) (b := b) (oE g n b - b) (by rw [hE]; exact run_all hb hd)
  have h9 : dgR g b (oE g n b - b) ≤ 999 := Classical.byContradiction (fun z => by
    unfold rSS at h
    rw [if_pos ⟨hS, z⟩] at h
    omega)
  exact ⟨hS, by omega, by omega⟩
theorem num_big {g : Nat → Int32} {n b : Nat} (hS : oS g n b = 2) (h : ¬ rSS g n b = 2) : oV g n b = 1000 := by
  obtain ⟨hb, hl, hd⟩ := oS_D hS
  have hE : oE g n b = runE isD g n (b + 1) := by unfold oE; rw [if_pos hb, if_neg (by rw [hl]; decide), if_pos hd]
  have hV : oV g n b = dgC g b (oE g n b - b) := by unfold oV; rw [if_neg (by rw [hl]; decide)]
  have hC := dgC_R (g := g) (b := b) (oE g n b - b) (by rw [hE]; exact run_all hb hd)
  have h9 : ¬ dgR g b (oE g n b - b) ≤ 999 := fun z => by
    unfold rSS at h
    rw [if_neg (fun y => y.2 z)] at h
    exact h hS
  omega
theorem num_iff {g : Nat → Int32} {n k lo hi : Nat} {x : Int32} (hh : hi ≤ 99) (hx : x = -1) : numB g n k lo hi x = true ↔ rSS g n (tB g n k) = 2 ∧ lo ≤ rVV g n (tB g n k) ∧ rVV g n (tB g n k) ≤ hi := by
  have hS : tS g n k = oS g n (tB g n k) := rfl
  have hV : tV g n k = oV g n (tB g n k) := rfl
  unfold numB
  rw [decide_eq_true_iff, hS, hV]
  constructor
  · rintro ⟨h1, h2, h3, -⟩
    have h4 : rSS g n (tB g n k) = 2 := Classical.byContradiction (fun z => by have := num_big h1 z; omega)
    obtain ⟨-, -, h5⟩ := num_v h4
    omega
  · rintro ⟨h1, h2, h3⟩
    obtain ⟨h4, h5, h6⟩ := num_v h1
    refine ⟨h4, by omega, by omega, fun z => ?_⟩
    rw [hx] at z
    exact absurd (show nI (oV g n (tB g n k)) < 0 by rw [z]; decide) (nI_pos (by omega))
/-! the reference's memory while it reads -/
def rr (g : Nat → Int32) (n : Nat) (m : jM) (k : Nat) (S : Nat → Int32) : jM := t5 (lay 1100 m S) (nI (rSS g n (tB g n k))) (nI (tB g n k)) (nI (tst g n (k + 1))) (lN (rVV g n (tB g n k)))
def RB (g : Nat → Int32) (n : Nat) (m : jM) : Prop := n ≤ 120 ∧ m 1858 = nI n ∧ (∀ j, j < n → m (1525 + j) = g j) ∧ LT m
theorem rr_o {g : Nat → Int32} {n : Nat} {m : jM} {k : Nat} {S : Nat → Int32} {a : Nat} (h : a < 1100 ∨ (1234 ≤ a ∧ a < 1859) ∨ (1862 ≤ a ∧ a < 2006) ∨ 2008 ≤ a) : rr g n m k S a = m a := by
  unfold rr; rw [t5_o (by omega), lay_out (by omega)]
theorem rr_vb {g : Nat → Int32} {n : Nat} {m : jM} {k : Nat} {S : Nat → Int32} (h : Can S) : vb 1100 (rr g n m k S) = S := by
  funext j
  unfold vb
  by_cases e : j < 134
  · rw [if_pos e]
    unfold rr
    rw [t5_o (by omega)]
    unfold lay
    rw [if_pos (by omega), Nat.add_sub_cancel_left]
  · rw [if_neg e, h j (by omega)]
theorem t5_lay {M : jM} {t b e : Int32} {v : Int64} {S : Nat → Int32} : lay 1100 (t5 M t b e v) S = t5 (lay 1100 M S) t b e v := t5_x (by rw [lay_out (by omega), t5_t]) (by rw [lay_out (by omega), t5_b]) (by rw [lay_out (by omega), t5_e]) (by rw [lay_out (by omega)]; unfold t5; rw [pk_un (by decide)]; exact pk_us) (by rw [lay_out (by omega)]; unfold t5; exact pk_us) (fun a h1 h2 h3 h4 h5 => by
  unfold lay
  split
  · rfl
  · unfold t5; rw [pk_un h5, pk_un h4, pk_un h3, pk_un h2, pk_un h1])
theorem rr_lay {g : Nat → Int32} {n : Nat} {m : jM} {k : Nat} {S S' : Nat → Int32} : lay 1100 (rr g n m k S) S' = rr g n m k S' := by
  unfold rr
  rw [t5_lay, lay_lay]
theorem rr_S {g : Nat → Int32} {n : Nat} {m : jM} {k j : Nat} {S : Nat → Int32} {x : Int32} (h : Can S) (hj : j < 134) : upd (rr g n m k S) (1100 + j) x = rr g n m k (upd S j x) := by
  rw [lay_upd hj, rr_vb h, rr_lay]
theorem rr_LT {g : Nat → Int32} {n : Nat} {m : jM} {k : Nat} {S : Nat → Int32} (h : LT m) : LT (rr g n m k S) := fun i hi => by rw [rr_o (by omega)]; exact h i hi
section PA
variable {M m : jM} {g : Nat → Int32} {n : Nat} {S : Nat → Int32}
theorem c_nt (l : Launch) (E : jE) (hB : RB g n m) (k : Nat) : K_X8_nextToken l E [.ref (ja E 60)] (rr g n m k S) (rr g n m (k + 1) S) := by
  have h := c_X8_nextToken (M := rr g n m k S) l E g n (tst g n (k + 1)) hB.1 (tst_le g n (k + 1)) (by rw [rr_o (by omega)]; exact hB.2.1) t5_e (fun j hj => by have := hB.1; rw [rr_o (by omega)]; exact hB.2.2.1 j hj)
  have e : t5 (rr g n m k S) (nI (rSS g n (tkB g n (tst g n (k + 1))))) (nI (tkB g n (tst g n (k + 1)))) (nI (oE g n (tkB g n (tst g n (k + 1))))) (lN (rVV g n (tkB g n (tst g n (k + 1))))) = rr g n m (k + 1) S := by
    unfold rr
    rw [t5_t5]
    rfl
  rw [e] at h
  exact h
theorem rV_le (g : Nat → Int32) (n b : Nat) : rVV g n b ≤ 270000000000000 := by
  unfold rVV
  by_cases h1 : oS g n b = 1
  · rw [if_pos h1]
    obtain ⟨hb, hl⟩ := oS_L h1
    have hE : oE g n b = runE isL g n (b + 1) := by unfold oE; rw [if_pos hb, if_pos hl]
    exact svN_le _ (by rw [hE]; exact run_all hb hl)
  · rw [if_neg h1]
    by_cases h2 : oS g n b = 2
    · rw [if_pos h2]
      obtain ⟨hb, hl, hd⟩ := oS_D h2
      have hE : oE g n b = runE isD g n (b + 1) := by unfold oE; rw [if_pos hb, if_neg (by rw [hl]; decide), if_pos hd]
      exact Nat.le_trans (dgR_le _ (by rw [hE]; exact run_all hb hd)) (by decide)
    · rw [if_neg h2]; exact Nat.zero_le _
theorem wv_le : ∀ s, s < 137 → ∀ j, j < 9 → s % 8 = 0 → wv s j ≤ 300000000000 := by decide +kernel
set_option maxRecDepth 4000 in
theorem c_X8_wordOf (l : Launch) (E : jE) (q c o ts vv : Nat) (hk : jL[q]? = some (.inl (1, 8 * c, 1862 + o, 1))) (hc : c ≤ 7) (ho : o + 8 * c ≤ 144) (ho8 : o % 8 = 0) (hts : ts ≤ 4) (hvv : vv ≤ 270000000000000) (e9 : M 1859 = nI ts) (ev : jmk (M 2006) (M 2007) = lN vv) (hL : LT M)  : K_X8_wordOf l E [.ref (ja E 60), .ref (ja E q)] M (if ts = 1 then wO o vv c else -1) (M) := by
  refine CT_intro (own := RX8) (by decide +kernel) rfl (by simp [Value.category]) (Nat.le_of_ble_eq_true rfl) rfl (fun X C G => ?_)
  show J E X 0 [some (.ref (ja E 60)), some (.ref (ja E q)), none, none, none, none, none] [] M
  have loop : ∀ d w (o4 o5 o6 : Option Value), w + d = c → (0 < w → ts = 1) → J E X 4 [some (.ref (ja E 60)), some (.ref (ja E q)), some (.int (wO o vv w)), some (.int (nI w)), o4, o5, o6] [] M := by
    intro d
    induction d with
    | zero =>
      intro w o4 o5 o6 hw h1
      obtain rfl : c = w := by omega
      refine J_iload_n C (dA DX8_wordOf_0 4 rfl) rfl ?_
      refine J_aload_n C (dA DX8_wordOf_0 5 rfl) rfl ?_
      refine J_alen C hk (ty := .char) rfl (dA DX8_wordOf_0 6 rfl) ?_
      refine J_bipush (v := nI 8) C (dA DX8_wordOf_0 7 rfl) (by decide) ?_
      refine J_idiv_n C (by omega) (by decide) (by decide) (dA DX8_wordOf_0 8 rfl) ?_
      rw [show 8 * c / 8 = c by omega]
      refine J_icmp_ge_n (tgt := 104) C (by omega) (by omega) (dA DX8_wordOf_0 9 rfl) (by decide) (fun h10 => ?_) (fun h10 => ?_)
      · refine J_iload_n C (dA DX8_wordOf_0 60 rfl) rfl ?_
        exact J_iret C G (dA DX8_wordOf_0 61 rfl) ⟨oi (by
          by_cases z : ts = 1
          · rw [if_pos z]
          · have : c = 0 := Classical.byContradiction (fun y => z (h1 (by omega)))
            subst this
            rw [if_neg z]; rfl), rfl⟩
      · exfalso; omega
    | succ d ih =>
      intro w o4 o5 o6 hw h1
      have inner : ts = 1 → ∀ f j, j + f = 8 → J E X 27 [some (.ref (ja E 60)), some (.ref (ja E q)), some (.int (wO o vv w)), some (.int (nI w)), some (.long (lN (wv (o + 8 * w) j))), none, some (.int (nI j))] [] M := by
        intro hts1 f
        induction f with
        | zero =>
          intro j hj
          obtain rfl : 8 = j := by omega
          have hwl := wv_le (o + 8 * w) (by omega) 8 (by decide) (by omega)
          refine J_iload C (dA DX8_wordOf_0 18 rfl) rfl ?_
          refine J_bipush (v := nI 8) C (dA DX8_wordOf_0 19 rfl) (by decide) ?_
          refine J_icmp_ge_n (tgt := 82) C (by omega) (by omega) (dA DX8_wordOf_0 20 rfl) (by decide) (fun h31 => ?_) (fun h31 => ?_)
          · refine J_lload C (dA DX8_wordOf_0 49 rfl) rfl ?_
            refine J_aload_n C (dA DX8_wordOf_0 50 rfl) rfl ?_
            refine G_X8_value C wF_RX8_212 (dA DX8_wordOf_0 51 rfl) ?_
            rw [ev]
            refine J_lcmp C (dA DX8_wordOf_0 52 rfl) ?_
            refine J_if_ne (tgt := 96) C (dA DX8_wordOf_0 53 rfl) (by decide) (fun h89 => ?_) (fun h89 => ?_)
            · refine J_iload_n C (dA DX8_wordOf_0 56 rfl) rfl ?_
              refine J_ist_2_7 C (dA DX8_wordOf_0 57 rfl) rfl ?_
              first | refine J_inc1_3_7 C (dA DX8_wordOf_0 58 rfl) rfl ?_ | refine J_iinc_3_7 C (dA DX8_wordOf_0 58 rfl) rfl ?_
              refine J_goto (tgt := 4) C (dA DX8_wordOf_0 59 rfl) (by decide) ?_
              have e : wO o vv (w + 1) = wO o vv w := by show (if wv (o + 8 * w) 8 = vv then nI w else wO o vv w) = _; rw [if_neg (fun z => h89 ((lg_cmp_eq _ _).mpr (by rw [z])))]
              have h := ih (w + 1) (some (.long (lN (wv (o + 8 * w) 8)))) none (some (.int (nI 8))) (by omega) (fun _ => hts1)
              rw [e] at h
              exact h
            · refine J_iload_n C (dA DX8_wordOf_0 54 rfl) rfl ?_
              refine J_goto (tgt := 97) C (dA DX8_wordOf_0 55 rfl) (by decide) ?_
              refine J_ist_2_7 C (dA DX8_wordOf_0 57 rfl) rfl ?_
              first | refine J_inc1_3_7 C (dA DX8_wordOf_0 58 rfl) rfl ?_ | refine J_iinc_3_7 C (dA DX8_wordOf_0 58 rfl) rfl ?_
              refine J_goto (tgt := 4) C (dA DX8_wordOf_0 59 rfl) (by decide) ?_
              have e : wO o vv (w + 1) = nI w := by show (if wv (o + 8 * w) 8 = vv then nI w else wO o vv w) = _; rw [if_pos ((pk_lEQ (by omega) (by omega)).mp ((lg_cmp_eq _ _).mp h89))]
              have h := ih (w + 1) (some (.long (lN (wv (o + 8 * w) 8)))) none (some (.int (nI 8))) (by omega) (fun _ => hts1)
              rw [e] at h
              exact h
          · exfalso; omega
        | succ f ihf =>
          intro j hj
          have hwl := wv_le (o + 8 * w) (by omega) j (by omega) (by omega)
          have hlr := ltr_le (o + 8 * w + j) (by omega)
          refine J_iload C (dA DX8_wordOf_0 18 rfl) rfl ?_
          refine J_bipush (v := nI 8) C (dA DX8_wordOf_0 19 rfl) (by decide) ?_
          refine J_icmp_ge_n (tgt := 82) C (by omega) (by omega) (dA DX8_wordOf_0 20 rfl) (by decide) (fun h31 => ?_) (fun h31 => ?_)
          · exfalso; omega
          · refine J_aload_n C (dA DX8_wordOf_0 21 rfl) rfl ?_
            refine J_bipush (v := nI 8) C (dA DX8_wordOf_0 22 rfl) (by decide) ?_
            refine J_iload_n C (dA DX8_wordOf_0 23 rfl) rfl ?_
            first | refine J_imul_n C (dA DX8_wordOf_0 24 rfl) ?_ | refine J_imul C (dA DX8_wordOf_0 24 rfl) ?_
            refine J_iload C (dA DX8_wordOf_0 25 rfl) rfl ?_
            first | refine J_iadd_n C (dA DX8_wordOf_0 26 rfl) ?_ | refine J_iadd C (dA DX8_wordOf_0 26 rfl) ?_
            refine J_cald C hk rfl (by omega) (dA DX8_wordOf_0 27 rfl) ?_ (by omega)
            rw [show 1862 + o + 1 * (8 * w + j) = 1862 + (o + 8 * w + j) by omega, hL _ (by omega)]
            refine J_bipush (v := nI 32) C (dA DX8_wordOf_0 28 rfl) (by decide) ?_
            refine J_icmp_ne_n (tgt := 53) C (by omega) (by omega) (dA DX8_wordOf_0 29 rfl) (by decide) (fun h45 => ?_) (fun h45 => ?_)
            · refine J_lload C (dA DX8_wordOf_0 32 rfl) rfl ?_
              refine J_ldc2 (v := lN 27) C wKL_RX8_224 (dA DX8_wordOf_0 33 rfl) ?_
              refine J_lmul_n C (dA DX8_wordOf_0 34 rfl) ?_
              refine J_aload_n C (dA DX8_wordOf_0 35 rfl) rfl ?_
              refine J_bipush (v := nI 8) C (dA DX8_wordOf_0 36 rfl) (by decide) ?_
              refine J_iload_n C (dA DX8_wordOf_0 37 rfl) rfl ?_
              first | refine J_imul_n C (dA DX8_wordOf_0 38 rfl) ?_ | refine J_imul C (dA DX8_wordOf_0 38 rfl) ?_
              refine J_iload C (dA DX8_wordOf_0 39 rfl) rfl ?_
              first | refine J_iadd_n C (dA DX8_wordOf_0 40 rfl) ?_ | refine J_iadd C (dA DX8_wordOf_0 40 rfl) ?_
              refine J_cald C hk rfl (by omega) (dA DX8_wordOf_0 41 rfl) ?_ (by omega)
              rw [show 1862 + o + 1 * (8 * w + j) = 1862 + (o + 8 * w + j) by omega, hL _ (by omega)]
              refine J_i2l_n C (by omega) (dA DX8_wordOf_0 42 rfl) ?_
              refine J_ladd_n C (dA DX8_wordOf_0 43 rfl) ?_
              refine J_ldc2 (v := lN 96) C wKL_RX8_226 (dA DX8_wordOf_0 44 rfl) ?_
              refine J_lsub_n C (by omega) (dA DX8_wordOf_0 45 rfl) ?_
              refine J_lstore C (dA DX8_wordOf_0 46 rfl) rfl (Nat.le_of_ble_eq_true rfl) ?_
              first | refine J_inc1_6_7 C (dA DX8_wordOf_0 47 rfl) rfl ?_ | refine J_iinc_6_7 C (dA DX8_wordOf_0 47 rfl) rfl ?_
              refine J_goto (tgt := 27) C (dA DX8_wordOf_0 48 rfl) (by decide) ?_
              have h := ihf (j + 1) (by omega)
              rw [show wv (o + 8 * w) (j + 1) = wv (o + 8 * w) j * 27 + ltr (o + 8 * w + j) - 96 by show (if ltr (o + 8 * w + j) = 32 then _ else _) = _; rw [if_neg h45]] at h
              exact h
            · refine J_lload C (dA DX8_wordOf_0 30 rfl) rfl ?_
              refine J_goto (tgt := 74) C (dA DX8_wordOf_0 31 rfl) (by decide) ?_
              refine J_lstore C (dA DX8_wordOf_0 46 rfl) rfl (Nat.le_of_ble_eq_true rfl) ?_
              first | refine J_inc1_6_7 C (dA DX8_wordOf_0 47 rfl) rfl ?_ | refine J_iinc_6_7 C (dA DX8_wordOf_0 47 rfl) rfl ?_
              refine J_goto (tgt := 27) C (dA DX8_wordOf_0 48 rfl) (by decide) ?_
              have h := ihf (j + 1) (by omega)
              rw [show wv (o + 8 * w) (j + 1) = wv (o + 8 * w) j by show (if ltr (o + 8 * w + j) = 32 then _ else _) = _; rw [if_pos h45]] at h
              exact h
      refine J_iload_n C (dA DX8_wordOf_0 4 rfl) rfl ?_
      refine J_aload_n C (dA DX8_wordOf_0 5 rfl) rfl ?_
      refine J_alen C hk (ty := .char) rfl (dA DX8_wordOf_0 6 rfl) ?_
      refine J_bipush (v := nI 8) C (dA DX8_wordOf_0 7 rfl) (by decide) ?_
      refine J_idiv_n C (by omega) (by decide) (by decide) (dA DX8_wordOf_0 8 rfl) ?_
      rw [show 8 * c / 8 = c by omega]
      refine J_icmp_ge_n (tgt := 104) C (by omega) (by omega) (dA DX8_wordOf_0 9 rfl) (by decide) (fun h10 => ?_) (fun h10 => ?_)
      · exfalso; omega
      · refine J_aload_n C (dA DX8_wordOf_0 10 rfl) rfl ?_
        refine G_X8_token C wF_RX8_216 (dA DX8_wordOf_0 11 rfl) ?_
        rw [e9]
        refine J_iconst (v := nI 1) C (dA DX8_wordOf_0 12 rfl) (by decide) ?_
        refine J_icmp_ne_n (tgt := 104) C (by omega) (by decide) (dA DX8_wordOf_0 13 rfl) (by decide) (fun h18 => ?_) (fun h18 => ?_)
        · refine J_iload_n C (dA DX8_wordOf_0 60 rfl) rfl ?_
          obtain rfl : w = 0 := by
            rcases Nat.eq_zero_or_pos w with z | z
            · exact z
            · exact absurd (h1 z) h18
          exact J_iret C G (dA DX8_wordOf_0 61 rfl) ⟨oi (by rw [if_neg h18]; rfl), rfl⟩
        · refine J_lconst (v := lN 0) C (dA DX8_wordOf_0 14 rfl) (by decide) ?_
          refine J_lstore C (dA DX8_wordOf_0 15 rfl) rfl (Nat.le_of_ble_eq_true rfl) ?_
          refine J_iconst (v := nI 0) C (dA DX8_wordOf_0 16 rfl) (by decide) ?_
          refine J_ist_6_7 C (dA DX8_wordOf_0 17 rfl) rfl ?_
          exact inner h18 8 0 (Nat.zero_add _)
  refine J_iconst (v := (-1)) C (dA DX8_wordOf_0 0 rfl) (by decide) ?_
  refine J_ist_2_7 C (dA DX8_wordOf_0 1 rfl) rfl ?_
  refine J_iconst (v := nI 0) C (dA DX8_wordOf_0 2 rfl) (by decide) ?_
  refine J_ist_3_7 C (dA DX8_wordOf_0 3 rfl) rfl ?_
  exact loop c 0 none none none (Nat.zero_add _) (fun z => by omega)
theorem c_wd (l : Launch) (E : jE) (hB : RB g n m) (k q c o w0 : Nat) (hk : jL[q]? = some (.inl (1, 8 * c, 1862 + o, 1))) (hc : c ≤ 7) (ho : o + 8 * c ≤ 144) (ho8 : o % 8 = 0) (hw : ∀ w, w < c → w0 + w < 18 ∧ wst (w0 + w) = o + 8 * w) : K_X8_wordOf l E [.ref (ja E 60), .ref (ja E q)] (rr g n m k S) (wIx g n k w0 c) (rr g n m k S) := by
  have h := c_X8_wordOf (M := rr g n m k S) l E q c o (rSS g n (tB g n k)) (rVV g n (tB g n k)) hk hc ho ho8 (rS_le _ _ _) (rV_le _ _ _) t5_t t5_v (rr_LT hB.2.2.2)
  have e : (if rSS g n (tB g n k) = 1 then wO o (rVV g n (tB g n k)) c else -1) = wIx g n k w0 c := by
    unfold wIx
    by_cases h1 : rSS g n (tB g n k) = 1
    · have h2 : tS g n k = 1 := rS_1.mp h1
      rw [if_pos h1, wO_ix h2 hw c (Nat.le_refl c)]
      by_cases y : w0 ≤ tV g n k ∧ tV g n k < w0 + c
      · rw [if_pos y, if_pos ⟨h2, y⟩]
      · rw [if_neg y, if_neg (fun z => y z.2)]
    · rw [if_neg h1, if_neg (fun z => h1 (rS_1.mpr z.1))]
  rw [e] at h
  exact h
theorem c_wd71 (l : Launch) (E : jE) (hB : RB g n m) (k : Nat) : K_X8_wordOf l E [.ref (ja E 60), .ref (ja E 71)] (rr g n m k S) (wIx g n k 0 7) (rr g n m k S) := c_wd l E hB k 71 7 0 0 rfl (by decide) (by decide) (by decide) (by decide)
theorem c_wd72 (l : Launch) (E : jE) (hB : RB g n m) (k : Nat) : K_X8_wordOf l E [.ref (ja E 60), .ref (ja E 72)] (rr g n m k S) (wIx g n k 13 2) (rr g n m k S) := c_wd l E hB k 72 2 56 13 rfl (by decide) (by decide) (by decide) (by decide)
theorem c_wd73 (l : Launch) (E : jE) (hB : RB g n m) (k : Nat) : K_X8_wordOf l E [.ref (ja E 60), .ref (ja E 73)] (rr g n m k S) (wIx g n k 15 3) (rr g n m k S) := c_wd l E hB k 73 3 72 15 rfl (by decide) (by decide) (by decide) (by decide)
theorem c_wd74 (l : Launch) (E : jE) (hB : RB g n m) (k : Nat) : K_X8_wordOf l E [.ref (ja E 60), .ref (ja E 74)] (rr g n m k S) (wIx g n k 7 6) (rr g n m k S) := c_wd l E hB k 74 6 96 7 rfl (by decide) (by decide) (by decide) (by decide)
theorem wIx_w {g : Nat → Int32} {n k w0 c w : Nat} (hw : w < c) (h18 : w0 + c ≤ 18) : wIx g n k w0 c = nI w ↔ hW g n k (w0 + w) = true := by
  unfold wIx hW
  rw [decide_eq_true_iff]
  by_cases y : tS g n k = 1 ∧ w0 ≤ tV g n k ∧ tV g n k < w0 + c
  · rw [if_pos y, nI_eq (by omega) (by omega)]
    constructor
    · intro z; exact ⟨y.1, by omega⟩
    · intro z; omega
  · rw [if_neg y]
    constructor
    · intro z
      exact absurd (show nI w < 0 by rw [← z]; decide) (nI_pos (by omega))
    · intro z; omega
set_option maxRecDepth 4000 in
theorem c_X8_takesNumber (l : Launch) (E : jE) (hB : RB g n m) (k lo hi : Nat) (hlo : lo ≤ 99) (hhi : hi ≤ 99)  : K_X8_takesNumber l E [.ref (ja E 60), .int (nI lo), .int (nI hi)] (rr g n m k S) (if numB g n k lo hi (-1) = true then nI (tV g n k) else -1) (if numB g n k lo hi (-1) = true then rr g n m (k + 1) S else rr g n m k S) := by
  refine CT_intro (own := RX8) (by decide +kernel) rfl (by simp [Value.category]) (Nat.le_of_ble_eq_true rfl) rfl (fun X C G => ?_)
  show J E X 0 [some (.ref (ja E 60)), some (.int (nI lo)), some (.int (nI hi)), none] [] (rr g n m k S)
  have hrl := rS_le g n (tB g n k)
  have hni := num_iff (g := g) (n := n) (k := k) (lo := lo) (x := -1) hhi rfl
  refine J_aload_n C (dA DX8_takesNumber_0 0 rfl) rfl ?_
  refine G_X8_token C wF_RX8_216 (dA DX8_takesNumber_0 1 rfl) ?_
  rw [show rr g n m k S 1859 = nI (rSS g n (tB g n k)) from t5_t]
  refine J_iconst (v := nI 2) C (dA DX8_takesNumber_0 2 rfl) (by decide) ?_
  refine J_icmp_ne_n (tgt := 29) C (by omega) (by decide) (dA DX8_takesNumber_0 3 rfl) (by decide) (fun h5 => ?_) (fun h5 => ?_)
  · refine J_iconst (v := (-1)) C (dA DX8_takesNumber_0 15 rfl) (by decide) ?_
    refine J_ist_3_4 C (dA DX8_takesNumber_0 16 rfl) rfl ?_
    refine J_iload_n C (dA DX8_takesNumber_0 17 rfl) rfl ?_
    refine J_if_lt (tgt := 39) C (dA DX8_takesNumber_0 18 rfl) (by decide) (fun h32 => ?_) (fun h32 => ?_)
    · refine J_iload_n C (dA DX8_takesNumber_0 21 rfl) rfl ?_
      have hb : ¬ numB g n k lo hi (-1) = true := fun z => by
        have z2 := hni.mp z
        exact h5 z2.1
      exact J_iret C G (dA DX8_takesNumber_0 22 rfl) ⟨oi (by rw [if_neg hb]), by rw [if_neg hb]⟩
    · exact absurd (show (-1 : Int32) < 0 by decide) h32
  · have hv9 := (num_v h5).2.1
    refine J_aload_n C (dA DX8_takesNumber_0 4 rfl) rfl ?_
    refine G_X8_value C wF_RX8_212 (dA DX8_takesNumber_0 5 rfl) ?_
    rw [show jmk (rr g n m k S 2006) (rr g n m k S 2007) = lN (rVV g n (tB g n k)) from t5_v]
    refine J_l2i_n C (dA DX8_takesNumber_0 6 rfl) ?_
    refine J_iload_n C (dA DX8_takesNumber_0 7 rfl) rfl ?_
    refine J_iload_n C (dA DX8_takesNumber_0 8 rfl) rfl ?_
    refine V_X8_in1 C (c_X8_in1n l E _ lo hi (by omega) (by omega)) wM_RX8_58 (by decide) (dA DX8_takesNumber_0 9 rfl) rfl (Nat.le_of_ble_eq_true rfl) ?_
    refine J_if_eq_b (tgt := 29) C (dA DX8_takesNumber_0 10 rfl) (by decide) (fun h18 => ?_) (fun h18 => ?_)
    · refine J_iconst (v := (-1)) C (dA DX8_takesNumber_0 15 rfl) (by decide) ?_
      refine J_ist_3_4 C (dA DX8_takesNumber_0 16 rfl) rfl ?_
      refine J_iload_n C (dA DX8_takesNumber_0 17 rfl) rfl ?_
      refine J_if_lt (tgt := 39) C (dA DX8_takesNumber_0 18 rfl) (by decide) (fun h32 => ?_) (fun h32 => ?_)
      · refine J_iload_n C (dA DX8_takesNumber_0 21 rfl) rfl ?_
        have hb : ¬ numB g n k lo hi (-1) = true := fun z => by
          have z2 := hni.mp z
          exact absurd (show inr (nI (rVV g n (tB g n k))) (lo : Int) (hi : Int) = true from decide_eq_true (by rw [tI (by omega)]; omega)) (by rw [h18]; decide)
        exact J_iret C G (dA DX8_takesNumber_0 22 rfl) ⟨oi (by rw [if_neg hb]), by rw [if_neg hb]⟩
      · exact absurd (show (-1 : Int32) < 0 by decide) h32
    · have hin := inr_t h18
      rw [tI (by omega)] at hin
      refine J_aload_n C (dA DX8_takesNumber_0 11 rfl) rfl ?_
      refine G_X8_value C wF_RX8_212 (dA DX8_takesNumber_0 12 rfl) ?_
      rw [show jmk (rr g n m k S 2006) (rr g n m k S 2007) = lN (rVV g n (tB g n k)) from t5_v]
      refine J_l2i_n C (dA DX8_takesNumber_0 13 rfl) ?_
      refine J_goto (tgt := 30) C (dA DX8_takesNumber_0 14 rfl) (by decide) ?_
      refine J_ist_3_4 C (dA DX8_takesNumber_0 16 rfl) rfl ?_
      refine J_iload_n C (dA DX8_takesNumber_0 17 rfl) rfl ?_
      refine J_if_lt_n (tgt := 39) C (by omega) (dA DX8_takesNumber_0 18 rfl) (by decide) (fun h32 => ?_) (fun h32 => ?_)
      · exfalso; omega
      · refine J_aload_n C (dA DX8_takesNumber_0 19 rfl) rfl ?_
        refine V_X8_nextToken C (c_nt l E hB k) wM_RX8_237 (by decide) (dA DX8_takesNumber_0 20 rfl) rfl (Nat.le_of_ble_eq_true rfl) ?_
        refine J_iload_n C (dA DX8_takesNumber_0 21 rfl) rfl ?_
        have hb : numB g n k lo hi (-1) = true := hni.mpr ⟨h5, by omega, by omega⟩
        have hv : tV g n k = rVV g n (tB g n k) := (num_v h5).2.2
        exact J_iret C G (dA DX8_takesNumber_0 22 rfl) ⟨oi (by rw [if_pos hb, hv]), by rw [if_pos hb]⟩
end PA
