/-- the reference's worth of letters, of digits -/
def svN (g : Nat → Int32) (b : Nat) : Nat → Nat
  | 0 => 0
  | k + 1 => if svN g b k ≤ 9999999999999 then svN g b k * 27 + nv (g (b + k)) - 96 else svN g b k
def dgR (g : Nat → Int32) (b : Nat) : Nat → Nat
  | 0 => 0
  | k + 1 => if dgR g b k ≤ 999 then dgR g b k * 10 + nv (g (b + k)) - 48 else dgR g b k
def rSS (g : Nat → Int32) (n b : Nat) : Nat := if oS g n b = 2 ∧ ¬ dgR g b (oE g n b - b) ≤ 999 then 4 else oS g n b
def rVV (g : Nat → Int32) (n b : Nat) : Nat := if oS g n b = 1 then svN g b (oE g n b - b) else if oS g n b = 2 then dgR g b (oE g n b - b) else 0
/-- the reference's token fields -/
def t5 (M : jM) (t b e : Int32) (v : Int64) : jM := upd (upd (upd (upd (upd M 1859 t) 1860 b) 1861 e) 2006 (jhi v)) 2007 (jlo v)
theorem t5_t {M : jM} {t b e : Int32} {v : Int64} : t5 M t b e v 1859 = t := by unfold t5; rw [pk_un (by decide), pk_un (by decide), pk_un (by decide), pk_un (by decide)]; exact pk_us
theorem t5_b {M : jM} {t b e : Int32} {v : Int64} : t5 M t b e v 1860 = b := by unfold t5; rw [pk_un (by decide), pk_un (by decide), pk_un (by decide)]; exact pk_us
theorem t5_e {M : jM} {t b e : Int32} {v : Int64} : t5 M t b e v 1861 = e := by unfold t5; rw [pk_un (by decide), pk_un (by decide)]; exact pk_us
theorem t5_v {M : jM} {t b e : Int32} {v : Int64} : jmk (t5 M t b e v 2006) (t5 M t b e v 2007) = v := by
  have h1 : t5 M t b e v 2006 = jhi v := by unfold t5; rw [pk_un (by decide)]; exact pk_us
  have h2 : t5 M t b e v 2007 = jlo v := by unfold t5; exact pk_us
  rw [h1, h2, jmk_hl]
theorem t5_o {M : jM} {t b e : Int32} {v : Int64} {a : Nat} (h : a < 1859 ∨ (1862 ≤ a ∧ a < 2006) ∨ 2008 ≤ a) : t5 M t b e v a = M a := by
  unfold t5; rw [pk_un (by omega), pk_un (by omega), pk_un (by omega), pk_un (by omega), pk_un (by omega)]
theorem t5_x {M M' : jM} {t b e : Int32} {v : Int64} (h1 : M' 1859 = t) (h2 : M' 1860 = b) (h3 : M' 1861 = e) (h4 : M' 2006 = jhi v) (h5 : M' 2007 = jlo v) (h6 : ∀ a, a ≠ 1859 → a ≠ 1860 → a ≠ 1861 → a ≠ 2006 → a ≠ 2007 → M' a = M a) : M' = t5 M t b e v := by
  funext a
  unfold t5 upd
  by_cases e1 : a = 2007
  · subst e1; simp [h5]
  · by_cases e2 : a = 2006
    · subst e2; simp [h4]
    · by_cases e3 : a = 1861
      · subst e3; simp [h3]
      · by_cases e4 : a = 1860
        · subst e4; simp [h2]
        · by_cases e5 : a = 1859
          · subst e5; simp [h1]
          · simp [e1, e2, e3, e4, e5]; exact h6 a e5 e4 e3 e2 e1
theorem bv_hi (x y : BitVec 32) (i : Nat) : (x ++ y).getLsbD (32 + i) = x.getLsbD i := by
  rw [BitVec.getLsbD_append, if_neg (by omega), show 32 + i - 32 = i by omega]
theorem bv_lo (x y : BitVec 32) (i : Nat) (hi : i < 32) : (x ++ y).getLsbD i = y.getLsbD i := by
  rw [BitVec.getLsbD_append, if_pos hi]
theorem jmk_hi (a b : Int32) : jhi (jmk a b) = a ∧ jlo (jmk a b) = b := by
  unfold jhi jlo jmk
  have e : (Int64.ofBitVec (a.toBitVec ++ b.toBitVec)).toBitVec = a.toBitVec ++ b.toBitVec := rfl
  rw [e]
  constructor
  · apply Int32.toBitVec_inj.mp
    show (a.toBitVec ++ b.toBitVec).extractLsb' 32 32 = a.toBitVec
    ext i hi
    rw [BitVec.getElem_extractLsb']
    exact (bv_hi _ _ i).trans (BitVec.getLsbD_eq_getElem hi)
  · apply Int32.toBitVec_inj.mp
    show (a.toBitVec ++ b.toBitVec).extractLsb' 0 32 = b.toBitVec
    ext i hi
    rw [BitVec.getElem_extractLsb', Nat.zero_add]
    exact (bv_lo _ _ i hi).trans (BitVec.getLsbD_eq_getElem hi)
theorem t5_id (M : jM) : t5 M (M 1859) (M 1860) (M 1861) (jmk (M 2006) (M 2007)) = M := (t5_x rfl rfl rfl (jmk_hi _ _).1.symm (jmk_hi _ _).2.symm (fun _ _ _ _ _ _ => rfl)).symm
theorem t5_ut {M : jM} {t b e x : Int32} {v : Int64} : upd (t5 M t b e v) 1859 x = t5 M x b e v := t5_x pk_us (by rw [pk_un (by decide), t5_b]) (by rw [pk_un (by decide), t5_e]) (by rw [pk_un (by decide)]; unfold t5; rw [pk_un (by decide)]; exact pk_us) (by rw [pk_un (by decide)]; unfold t5; exact pk_us) (fun a h1 h2 h3 h4 h5 => by rw [pk_un h1]; unfold t5; rw [pk_un h5, pk_un h4, pk_un h3, pk_un h2, pk_un h1])
theorem t5_ub {M : jM} {t b e x : Int32} {v : Int64} : upd (t5 M t b e v) 1860 x = t5 M t x e v := t5_x (by rw [pk_un (by decide), t5_t]) pk_us (by rw [pk_un (by decide), t5_e]) (by rw [pk_un (by decide)]; unfold t5; rw [pk_un (by decide)]; exact pk_us) (by rw [pk_un (by decide)]; unfold t5; exact pk_us) (fun a h1 h2 h3 h4 h5 => by rw [pk_un h2]; unfold t5; rw [pk_un h5, pk_un h4, pk_un h3, pk_un h2, pk_un h1])
theorem t5_ue {M : jM} {t b e x : Int32} {v : Int64} : upd (t5 M t b e v) 1861 x = t5 M t b x v := t5_x (by rw [pk_un (by decide), t5_t]) (by rw [pk_un (by decide), t5_b]) pk_us (by rw [pk_un (by decide)]; unfold t5; rw [pk_un (by decide)]; exact pk_us) (by rw [pk_un (by decide)]; unfold t5; exact pk_us) (fun a h1 h2 h3 h4 h5 => by rw [pk_un h3]; unfold t5; rw [pk_un h5, pk_un h4, pk_un h3, pk_un h2, pk_un h1])
theorem t5_uv {M : jM} {t b e : Int32} {v x : Int64} : upd (upd (t5 M t b e v) 2006 (jhi x)) 2007 (jlo x) = t5 M t b e x := t5_x (by rw [pk_un (by decide), pk_un (by decide), t5_t]) (by rw [pk_un (by decide), pk_un (by decide), t5_b]) (by rw [pk_un (by decide), pk_un (by decide), t5_e]) (by rw [pk_un (by decide)]; exact pk_us) pk_us (fun a h1 h2 h3 h4 h5 => by rw [pk_un h5, pk_un h4]; unfold t5; rw [pk_un h5, pk_un h4, pk_un h3, pk_un h2, pk_un h1])
theorem t5_t5 {M : jM} {t b e t' b' e' : Int32} {v v' : Int64} : t5 (t5 M t b e v) t' b' e' v' = t5 M t' b' e' v' := t5_x t5_t t5_b t5_e (by unfold t5; rw [pk_un (by decide)]; exact pk_us) (by unfold t5; exact pk_us) (fun a h1 h2 h3 h4 h5 => by unfold t5; rw [pk_un h5, pk_un h4, pk_un h3, pk_un h2, pk_un h1, pk_un h5, pk_un h4, pk_un h3, pk_un h2, pk_un h1])
section JP
variable {l : Launch} {E : jE} {X : jX} {own : String} {cc : ByteArray} {nL d : Nat} {pc : Nat} {lv : List (Option Value)} {st : List Value} {M : jM}
theorem P_X8_value (C : jK l E X own cc nL d) {i : Nat} {x : Int64} (hw : Cond.fieldLink own i "PondLensesModel" "value" "J" ∈ W0) (hd : decode cc pc = .ok (.putfield i, 3)) (k : J E X (pc + 3) lv st (upd (upd M 2006 (jhi x)) 2007 (jlo x))) : J E X pc lv (.long x :: .ref (ja E 60) :: st) M := J_putG C jL_X8 (T := TX8) (N := 24) (Cn := RX8) (ty := .long) (M' := upd (upd M 2006 (jhi x)) 2007 (jlo x)) inX8 tyX8_ok nmX8 rfl (j := 15) (by decide) rfl rfl (by decide +kernel) rfl rfl (by
  show Value.long x = Value.long (jmk (upd (upd M 2006 (jhi x)) 2007 (jlo x) 2006) (upd (upd M 2006 (jhi x)) 2007 (jlo x) 2007))
  rw [pk_un (by decide), pk_us, pk_us, jmk_hl]) (fun a ha => by rw [pk_un (fun z => ha (by rw [z]; decide +kernel)), pk_un (fun z => ha (by rw [z]; decide +kernel))]) (fun i q' h1 h2 => by rw [jin (jno (j := 15) (by decide +kernel)) i q' h1 h2, jin (jno (j := 15) (by decide +kernel)) i q' h1 h2]) hw hd k
end JP
theorem svN_le {g : Nat → Int32} {b : Nat} : ∀ k, (∀ j, j < k → isL (g (b + j)) = true) → svN g b k ≤ 270000000000000
  | 0, _ => Nat.zero_le _
  | k + 1, h => by
    have ih := svN_le k (fun j hj => h j (by omega))
    show (if svN g b k ≤ 9999999999999 then svN g b k * 27 + nv (g (b + k)) - 96 else svN g b k) ≤ _
    split
    · obtain ⟨q, hq, e⟩ := inr_of (b := 122) (x := g (b + k)) (by
        have := inr_t (h k (by omega))
        exact decide_eq_true ⟨by omega, by omega⟩)
      rw [e, nv_nI (by omega)]
      omega
    · exact ih
theorem dgR_le {g : Nat → Int32} {b : Nat} : ∀ k, (∀ j, j < k → isD (g (b + j)) = true) → dgR g b k ≤ 10000
  | 0, _ => Nat.zero_le _
  | k + 1, h => by
    have ih := dgR_le k (fun j hj => h j (by omega))
    show (if dgR g b k ≤ 999 then dgR g b k * 10 + nv (g (b + k)) - 48 else dgR g b k) ≤ _
    split
    · obtain ⟨q, hq, e⟩ := inr_of (b := 57) (x := g (b + k)) (by
        have := inr_t (h k (by omega))
        exact decide_eq_true ⟨by omega, by omega⟩)
      rw [e, nv_nI (by omega)]
      omega
    · exact ih
theorem dgC_R {g : Nat → Int32} {b : Nat} : ∀ k, (∀ j, j < k → isD (g (b + j)) = true) → dgC g b k = min (dgR g b k) 1000
  | 0, _ => rfl
  | k + 1, h => by
    have ih := dgC_R k (fun j hj => h j (by omega))
    obtain ⟨q, hq, e⟩ := inr_of (b := 57) (x := g (b + k)) (by
      have := inr_t (h k (by omega))
      exact decide_eq_true ⟨by omega, by omega⟩)
    have h48 : 48 ≤ q := by
      have := (inr_t (h k (by omega))).1
      rw [e, tI (by omega)] at this
      omega
    show min (dgC g b k * 10 + nv (g (b + k)) - 48) 1000 = min (if dgR g b k ≤ 999 then dgR g b k * 10 + nv (g (b + k)) - 48 else dgR g b k) 1000
    rw [ih, e, nv_nI (by omega)]
    split <;> omega
section PA
variable {M : jM}
set_option maxRecDepth 4000 in
theorem c_X8_isLetter (l : Launch) (E : jE) (x : Int32)  : K_X8_isLetter l E [.int x] M (jb (isL x)) (M) := by
  refine CT_intro (own := RX8) (by decide +kernel) rfl (by simp [Value.category]) (Nat.le_of_ble_eq_true rfl) rfl (fun X C G => ?_)
  show J E X 0 [some (.int x)] [] M
  refine J_iload_n C (dA DX8_isLetter_0 0 rfl) rfl ?_
  refine J_bipush (v := nI 97) C (dA DX8_isLetter_0 1 rfl) (by decide) ?_
  refine J_bipush (v := nI 122) C (dA DX8_isLetter_0 2 rfl) (by decide) ?_
  refine V_X8_in1 C (c_X8_in1n l E x 97 122 (by decide) (by decide)) wM_RX8_58 (by decide) (dA DX8_isLetter_0 3 rfl) rfl (Nat.le_of_ble_eq_true rfl) ?_
  exact J_zret C G (jb_z _) (dA DX8_isLetter_0 4 rfl) ⟨rfl, rfl⟩
set_option maxRecDepth 4000 in
theorem c_X8_isDigit (l : Launch) (E : jE) (x : Int32)  : K_X8_isDigit l E [.int x] M (jb (isD x)) (M) := by
  refine CT_intro (own := RX8) (by decide +kernel) rfl (by simp [Value.category]) (Nat.le_of_ble_eq_true rfl) rfl (fun X C G => ?_)
  show J E X 0 [some (.int x)] [] M
  refine J_iload_n C (dA DX8_isDigit_0 0 rfl) rfl ?_
  refine J_bipush (v := nI 48) C (dA DX8_isDigit_0 1 rfl) (by decide) ?_
  refine J_bipush (v := nI 57) C (dA DX8_isDigit_0 2 rfl) (by decide) ?_
  refine V_X8_in1 C (c_X8_in1n l E x 48 57 (by decide) (by decide)) wM_RX8_58 (by decide) (dA DX8_isDigit_0 3 rfl) rfl (Nat.le_of_ble_eq_true rfl) ?_
  exact J_zret C G (jb_z _) (dA DX8_isDigit_0 4 rfl) ⟨rfl, rfl⟩
set_option maxRecDepth 4000 in
theorem c_X8_nextToken (l : Launch) (E : jE) (g : Nat → Int32) (n p : Nat) (hn : n ≤ 120) (hp : p ≤ n) (e0 : M 1858 = nI n) (e1 : M 1861 = nI p) (hg : ∀ j, j < n → M (1525 + j) = g j)  : K_X8_nextToken l E [.ref (ja E 60)] M (t5 M (nI (rSS g n (tkB g n p))) (nI (tkB g n p)) (nI (oE g n (tkB g n p))) (lN (rVV g n (tkB g n p)))) := by
  refine CT_intro (own := RX8) (by decide +kernel) rfl (by simp [Value.category]) (Nat.le_of_ble_eq_true rfl) rfl (fun X C G => ?_)
  show J E X 0 [some (.ref (ja E 60))] [] M
  have hbn : tkB g n p ≤ n := runE_le hp
  generalize hb : tkB g n p = b at hbn G
  have letters : ∀ t0, b < n → isL (g b) = true → t0 = nI 1 → ∀ f e, n - e ≤ f → b ≤ e → e ≤ n → (∀ j, b + j < e → isL (g (b + j)) = true) → runE isL g n e = oE g n b → J E X 98 [some (.ref (ja E 60))] [] (t5 M t0 (nI b) (nI e) (lN (svN g b (e - b)))) := by
    intro t0 hlt hl ht0 f
    subst ht0
    have hS : oS g n b = 1 := by unfold oS; rw [if_pos hlt, if_pos hl]
    have hrS : rSS g n b = 1 := by unfold rSS; rw [if_neg (by omega), hS]
    have hrV : rVV g n b = svN g b (oE g n b - b) := by unfold rVV; rw [if_pos hS]
    rw [hrS, hrV] at G
    induction f with
    | zero =>
      intro e hf hbe hen hall hr
      obtain rfl : n = e := by omega
      rw [runE_e (Nat.le_refl _)] at hr
      rw [← hr] at G
      refine J_aload_n C (dA DX8_nextToken_0 49 rfl) rfl ?_
      refine G_X8_ended C wF_RX8_206 (dA DX8_nextToken_0 50 rfl) ?_
      rw [t5_e]
      refine J_aload_n C (dA DX8_nextToken_0 51 rfl) rfl ?_
      refine G_X8_taped C wF_RX8_203 (dA DX8_nextToken_0 52 rfl) ?_
      rw [t5_o (by decide), e0]
      refine J_icmp_ge_n (tgt := 337) C (by omega) (by omega) (dA DX8_nextToken_0 53 rfl) (by decide) (fun h106 => ?_) (fun h106 => ?_)
      · exact J_vret C G (dA DX8_nextToken_1 49 rfl) ⟨rfl, rfl⟩
      · exfalso; omega
    | succ f ih =>
      intro e hf hbe hen hall hr
      have hsl := svN_le (g := g) (b := b) (e - b) (fun j hj => hall j (by omega))
      refine J_aload_n C (dA DX8_nextToken_0 49 rfl) rfl ?_
      refine G_X8_ended C wF_RX8_206 (dA DX8_nextToken_0 50 rfl) ?_
      rw [t5_e]
      refine J_aload_n C (dA DX8_nextToken_0 51 rfl) rfl ?_
      refine G_X8_taped C wF_RX8_203 (dA DX8_nextToken_0 52 rfl) ?_
      rw [t5_o (by decide), e0]
      refine J_icmp_ge_n (tgt := 337) C (by omega) (by omega) (dA DX8_nextToken_0 53 rfl) (by decide) (fun h106 => ?_) (fun h106 => ?_)
      · obtain rfl : n = e := by omega
        rw [runE_e (Nat.le_refl _)] at hr
        rw [← hr] at G
        exact J_vret C G (dA DX8_nextToken_1 49 rfl) ⟨rfl, rfl⟩
      · refine J_aload_n C (dA DX8_nextToken_0 54 rfl) rfl ?_
        refine G_X8_tape C wF_RX8_25 (dA DX8_nextToken_0 55 rfl) ?_
        refine J_aload_n C (dA DX8_nextToken_0 56 rfl) rfl ?_
        refine G_X8_ended C wF_RX8_206 (dA DX8_nextToken_0 57 rfl) ?_
        rw [t5_e]
        refine R_1 C (hk := rfl) rfl (by omega) (dA DX8_nextToken_0 58 rfl) ?_
        rw [t5_o (by omega), hg e (by omega)]
        refine V_X8_isLetter C (c_X8_isLetter l E _) wM_RX8_219 (by decide) (dA DX8_nextToken_0 59 rfl) rfl (Nat.le_of_ble_eq_true rfl) ?_
        refine J_if_eq_b (tgt := 337) C (dA DX8_nextToken_0 60 rfl) (by decide) (fun h121 => ?_) (fun h121 => ?_)
        · try have g121 := inr_t h121
          try have g121 := inr_f h121
          rw [runE_n (by omega) h121] at hr
          rw [← hr] at G
          exact J_vret C G (dA DX8_nextToken_1 49 rfl) ⟨rfl, rfl⟩
        · try have g121 := inr_t h121
          try have g121 := inr_f h121
          obtain ⟨q, hq, eq⟩ := inr_of (b := 122) (x := g e) (by have := inr_t h121; exact decide_eq_true ⟨by omega, by omega⟩)
          have hq97 : 97 ≤ q := by
            have := (inr_t h121).1
            rw [eq, tI (by omega)] at this
            omega
          have hall2 : ∀ j, b + j < e + 1 → isL (g (b + j)) = true := fun j hj => by
            rcases Nat.lt_or_ge (b + j) e with z | z
            · exact hall j z
            · rw [show b + j = e by omega]; exact h121
          have hs : svN g b (e + 1 - b) = if svN g b (e - b) ≤ 9999999999999 then svN g b (e - b) * 27 + q - 96 else svN g b (e - b) := by
            rw [show e + 1 - b = (e - b) + 1 by omega]
            show (if svN g b (e - b) ≤ 9999999999999 then svN g b (e - b) * 27 + nv (g (b + (e - b))) - 96 else svN g b (e - b)) = _
            rw [show b + (e - b) = e by omega, eq, nv_nI (by omega)]
          have hih := ih (e + 1) (by omega) (by omega) (by omega) hall2 (by rw [← runE_y (by omega) h121]; exact hr)
          rw [hs] at hih
          refine J_aload_n C (dA DX8_nextToken_0 61 rfl) rfl ?_
          refine J_aload_n C (dA DX8_nextToken_0 62 rfl) rfl ?_
          refine G_X8_value C wF_RX8_212 (dA DX8_nextToken_0 63 rfl) ?_
          rw [t5_v]
          refine J_ldc2 (v := lN 9999999999999) C wKL_RX8_222 (dA DX8_nextToken_0 64 rfl) ?_
          refine J_lcmp C (dA DX8_nextToken_0 65 rfl) ?_
          refine J_if_le (tgt := 143) C (dA DX8_nextToken_0 66 rfl) (by decide) (fun h133 => ?_) (fun h133 => ?_)
          · refine J_aload_n C (dA DX8_nextToken_0 70 rfl) rfl ?_
            refine G_X8_value C wF_RX8_212 (dA DX8_nextToken_0 71 rfl) ?_
            rw [t5_v]
            refine J_ldc2 (v := lN 27) C wKL_RX8_224 (dA DX8_nextToken_0 72 rfl) ?_
            refine J_lmul_n C (dA DX8_nextToken_0 73 rfl) ?_
            refine J_aload_n C (dA DX8_nextToken_0 74 rfl) rfl ?_
            refine G_X8_tape C wF_RX8_25 (dA DX8_nextToken_0 75 rfl) ?_
            refine J_aload_n C (dA DX8_nextToken_0 76 rfl) rfl ?_
            refine G_X8_ended C wF_RX8_206 (dA DX8_nextToken_0 77 rfl) ?_
            rw [t5_e]
            refine R_1 C (hk := rfl) rfl (by omega) (dA DX8_nextToken_0 78 rfl) ?_
            rw [t5_o (by omega), hg e (by omega)]
            rw [eq]
            refine J_i2l_n C (by omega) (dA DX8_nextToken_0 79 rfl) ?_
            refine J_ladd_n C (dA DX8_nextToken_0 80 rfl) ?_
            refine J_ldc2 (v := lN 96) C wKL_RX8_226 (dA DX8_nextToken_0 81 rfl) ?_
            refine J_lsub_n C (by omega) (dA DX8_nextToken_0 82 rfl) ?_
            refine P_X8_value C wF_RX8_212 (dA DX8_nextToken_0 83 rfl) ?_
            rw [t5_uv]
            refine J_aload_n C (dA DX8_nextToken_0 84 rfl) rfl ?_
            refine J_dup C (dA DX8_nextToken_0 85 rfl) rfl ?_
            refine G_X8_ended C wF_RX8_206 (dA DX8_nextToken_0 86 rfl) ?_
            rw [t5_e]
            refine J_iconst (v := nI 1) C (dA DX8_nextToken_0 87 rfl) (by decide) ?_
            first | refine J_iadd_n C (dA DX8_nextToken_0 88 rfl) ?_ | refine J_iadd C (dA DX8_nextToken_0 88 rfl) ?_
            refine P_X8_ended C wF_RX8_206 (dA DX8_nextToken_0 89 rfl) ?_
            refine J_goto (tgt := 98) C (dA DX8_nextToken_0 90 rfl) (by decide) ?_
            rw [t5_ue]
            rw [if_pos ((pk_lLE (by omega) (by decide)).mp ((lg_cmp_le _ _).mp h133))] at hih
            exact hih
          · refine J_aload_n C (dA DX8_nextToken_0 67 rfl) rfl ?_
            refine G_X8_value C wF_RX8_212 (dA DX8_nextToken_0 68 rfl) ?_
            rw [t5_v]
            refine J_goto (tgt := 166) C (dA DX8_nextToken_0 69 rfl) (by decide) ?_
            refine P_X8_value C wF_RX8_212 (dA DX8_nextToken_0 83 rfl) ?_
            rw [t5_uv]
            refine J_aload_n C (dA DX8_nextToken_0 84 rfl) rfl ?_
            refine J_dup C (dA DX8_nextToken_0 85 rfl) rfl ?_
            refine G_X8_ended C wF_RX8_206 (dA DX8_nextToken_0 86 rfl) ?_
            rw [t5_e]
            refine J_iconst (v := nI 1) C (dA DX8_nextToken_0 87 rfl) (by decide) ?_
            first | refine J_iadd_n C (dA DX8_nextToken_0 88 rfl) ?_ | refine J_iadd C (dA DX8_nextToken_0 88 rfl) ?_
            refine P_X8_ended C wF_RX8_206 (dA DX8_nextToken_0 89 rfl) ?_
            refine J_goto (tgt := 98) C (dA DX8_nextToken_0 90 rfl) (by decide) ?_
            rw [t5_ue]
            rw [if_neg (fun z => h133 ((lg_cmp_le _ _).mpr ((pk_lLE (by omega) (by decide)).mpr z)))] at hih
            exact hih
  have digits : ∀ t0, b < n → isL (g b) = false → isD (g b) = true → ∀ f e, n - e ≤ f → b ≤ e → e ≤ n → (∀ j, b + j < e → isD (g (b + j)) = true) → runE isD g n e = oE g n b → J E X 197 [some (.ref (ja E 60))] [] (t5 M t0 (nI b) (nI e) (lN (dgR g b (e - b)))) := by
    intro t0 hlt hl hd f
    have hS : oS g n b = 2 := by unfold oS; rw [if_pos hlt, if_neg (by rw [hl]; decide), if_pos hd]
    have hrV : rVV g n b = dgR g b (oE g n b - b) := by unfold rVV; rw [if_neg (by omega), if_pos hS]
    have hrS : rSS g n b = if dgR g b (oE g n b - b) ≤ 999 then 2 else 4 := by
      unfold rSS
      by_cases z : dgR g b (oE g n b - b) ≤ 999
      · rw [if_neg (fun y => y.2 z), if_pos z, hS]
      · rw [if_pos ⟨hS, z⟩, if_neg z]
    rw [hrS, hrV] at G
    have last : (∀ j, b + j < oE g n b → isD (g (b + j)) = true) → b ≤ oE g n b → J E X 281 [some (.ref (ja E 60))] [] (t5 M t0 (nI b) (nI (oE g n b)) (lN (dgR g b (oE g n b - b)))) := by
      intro hall hbe
      have hle := dgR_le (g := g) (b := b) (oE g n b - b) (fun j hj => hall j (by omega))
      refine J_aload_n C (dA DX8_nextToken_1 20 rfl) rfl ?_
      refine J_aload_n C (dA DX8_nextToken_1 21 rfl) rfl ?_
      refine G_X8_value C wF_RX8_212 (dA DX8_nextToken_1 22 rfl) ?_
      rw [t5_v]
      refine J_ldc2 (v := lN 999) C wKL_RX8_231 (dA DX8_nextToken_1 23 rfl) ?_
      refine J_lcmp C (dA DX8_nextToken_1 24 rfl) ?_
      refine J_if_le (tgt := 297) C (dA DX8_nextToken_1 25 rfl) (by decide) (fun h290 => ?_) (fun h290 => ?_)
      · refine J_iconst (v := nI 2) C (dA DX8_nextToken_1 28 rfl) (by decide) ?_
        refine P_X8_token C wF_RX8_216 (dA DX8_nextToken_1 29 rfl) ?_
        rw [t5_ut]
        refine J_goto (tgt := 337) C (dA DX8_nextToken_1 30 rfl) (by decide) ?_
        exact J_vret C G (dA DX8_nextToken_1 49 rfl) ⟨rfl, by rw [if_pos ((pk_lLE (by omega) (by decide)).mp ((lg_cmp_le _ _).mp h290))]⟩
      · refine J_iconst (v := nI 4) C (dA DX8_nextToken_1 26 rfl) (by decide) ?_
        refine J_goto (tgt := 298) C (dA DX8_nextToken_1 27 rfl) (by decide) ?_
        refine P_X8_token C wF_RX8_216 (dA DX8_nextToken_1 29 rfl) ?_
        rw [t5_ut]
        refine J_goto (tgt := 337) C (dA DX8_nextToken_1 30 rfl) (by decide) ?_
        exact J_vret C G (dA DX8_nextToken_1 49 rfl) ⟨rfl, by rw [if_neg (fun z => h290 ((lg_cmp_le _ _).mpr ((pk_lLE (by omega) (by decide)).mpr z)))]⟩
    induction f with
    | zero =>
      intro e hf hbe hen hall hr
      obtain rfl : n = e := by omega
      rw [runE_e (Nat.le_refl _)] at hr
      rw [← hr] at last
      refine J_aload_n C (dA DX8_nextToken_0 98 rfl) rfl ?_
      refine G_X8_ended C wF_RX8_206 (dA DX8_nextToken_0 99 rfl) ?_
      rw [t5_e]
      refine J_aload_n C (dA DX8_nextToken_0 100 rfl) rfl ?_
      refine G_X8_taped C wF_RX8_203 (dA DX8_nextToken_0 101 rfl) ?_
      rw [t5_o (by decide), e0]
      refine J_icmp_ge_n (tgt := 281) C (by omega) (by omega) (dA DX8_nextToken_0 102 rfl) (by decide) (fun h205 => ?_) (fun h205 => ?_)
      · exact last hall hbe
      · exfalso; omega
    | succ f ih =>
      intro e hf hbe hen hall hr
      have hsl := dgR_le (g := g) (b := b) (e - b) (fun j hj => hall j (by omega))
      refine J_aload_n C (dA DX8_nextToken_0 98 rfl) rfl ?_
      refine G_X8_ended C wF_RX8_206 (dA DX8_nextToken_0 99 rfl) ?_
      rw [t5_e]
      refine J_aload_n C (dA DX8_nextToken_0 100 rfl) rfl ?_
      refine G_X8_taped C wF_RX8_203 (dA DX8_nextToken_0 101 rfl) ?_
      rw [t5_o (by decide), e0]
      refine J_icmp_ge_n (tgt := 281) C (by omega) (by omega) (dA DX8_nextToken_0 102 rfl) (by decide) (fun h205 => ?_) (fun h205 => ?_)
      · obtain rfl : n = e := by omega
        rw [runE_e (Nat.le_refl _)] at hr
        rw [← hr] at last
        exact last hall hbe
      · refine J_aload_n C (dA DX8_nextToken_0 103 rfl) rfl ?_
        refine G_X8_tape C wF_RX8_25 (dA DX8_nextToken_0 104 rfl) ?_
        refine J_aload_n C (dA DX8_nextToken_0 105 rfl) rfl ?_
        refine G_X8_ended C wF_RX8_206 (dA DX8_nextToken_0 106 rfl) ?_
        rw [t5_e]
        refine R_1 C (hk := rfl) rfl (by omega) (dA DX8_nextToken_0 107 rfl) ?_
        rw [t5_o (by omega), hg e (by omega)]
        refine V_X8_isDigit C (c_X8_isDigit l E _) wM_RX8_228 (by decide) (dA DX8_nextToken_0 108 rfl) rfl (Nat.le_of_ble_eq_true rfl) ?_
        refine J_if_eq_b (tgt := 281) C (dA DX8_nextToken_0 109 rfl) (by decide) (fun h220 => ?_) (fun h220 => ?_)
        · try have g220 := inr_t h220
          try have g220 := inr_f h220
          rw [runE_n (by omega) h220] at hr
          rw [← hr] at last
          exact last hall hbe
        · try have g220 := inr_t h220
          try have g220 := inr_f h220
          obtain ⟨q, hq, eq⟩ := inr_of (b := 57) (x := g e) (by have := inr_t h220; exact decide_eq_true ⟨by omega, by omega⟩)
          have hq48 : 48 ≤ q := by
            have := (inr_t h220).1
            rw [eq, tI (by omega)] at this
            omega
          have hall2 : ∀ j, b + j < e + 1 → isD (g (b + j)) = true := fun j hj => by
            rcases Nat.lt_or_ge (b + j) e with z | z
            · exact hall j z
            · rw [show b + j = e by omega]; exact h220
          have hs : dgR g b (e + 1 - b) = if dgR g b (e - b) ≤ 999 then dgR g b (e - b) * 10 + q - 48 else dgR g b (e - b) := by
            rw [show e + 1 - b = (e - b) + 1 by omega]
            show (if dgR g b (e - b) ≤ 999 then dgR g b (e - b) * 10 + nv (g (b + (e - b))) - 48 else dgR g b (e - b)) = _
            rw [show b + (e - b) = e by omega, eq, nv_nI (by omega)]
          have hih := ih (e + 1) (by omega) (by omega) (by omega) hall2 (by rw [← runE_y (by omega) h220]; exact hr)
          rw [hs] at hih
          refine J_aload_n C (dA DX8_nextToken_0 110 rfl) rfl ?_
          refine J_aload_n C (dA DX8_nextToken_0 111 rfl) rfl ?_
          refine G_X8_value C wF_RX8_212 (dA DX8_nextToken_0 112 rfl) ?_
          rw [t5_v]
          refine J_ldc2 (v := lN 999) C wKL_RX8_231 (dA DX8_nextToken_0 113 rfl) ?_
          refine J_lcmp C (dA DX8_nextToken_0 114 rfl) ?_
          refine J_if_le (tgt := 242) C (dA DX8_nextToken_0 115 rfl) (by decide) (fun h232 => ?_) (fun h232 => ?_)
          · refine J_aload_n C (dA DX8_nextToken_0 119 rfl) rfl ?_
            refine G_X8_value C wF_RX8_212 (dA DX8_nextToken_1 0 rfl) ?_
            rw [t5_v]
            refine J_ldc2 (v := lN 10) C wKL_RX8_233 (dA DX8_nextToken_1 1 rfl) ?_
            refine J_lmul_n C (dA DX8_nextToken_1 2 rfl) ?_
            refine J_aload_n C (dA DX8_nextToken_1 3 rfl) rfl ?_
            refine G_X8_tape C wF_RX8_25 (dA DX8_nextToken_1 4 rfl) ?_
            refine J_aload_n C (dA DX8_nextToken_1 5 rfl) rfl ?_
            refine G_X8_ended C wF_RX8_206 (dA DX8_nextToken_1 6 rfl) ?_
            rw [t5_e]
            refine R_1 C (hk := rfl) rfl (by omega) (dA DX8_nextToken_1 7 rfl) ?_
            rw [t5_o (by omega), hg e (by omega)]
            rw [eq]
            refine J_i2l_n C (by omega) (dA DX8_nextToken_1 8 rfl) ?_
            refine J_ladd_n C (dA DX8_nextToken_1 9 rfl) ?_
            refine J_ldc2 (v := lN 48) C wKL_RX8_235 (dA DX8_nextToken_1 10 rfl) ?_
            refine J_lsub_n C (by omega) (dA DX8_nextToken_1 11 rfl) ?_
            refine P_X8_value C wF_RX8_212 (dA DX8_nextToken_1 12 rfl) ?_
            rw [t5_uv]
            refine J_aload_n C (dA DX8_nextToken_1 13 rfl) rfl ?_
            refine J_dup C (dA DX8_nextToken_1 14 rfl) rfl ?_
            refine G_X8_ended C wF_RX8_206 (dA DX8_nextToken_1 15 rfl) ?_
            rw [t5_e]
            refine J_iconst (v := nI 1) C (dA DX8_nextToken_1 16 rfl) (by decide) ?_
            first | refine J_iadd_n C (dA DX8_nextToken_1 17 rfl) ?_ | refine J_iadd C (dA DX8_nextToken_1 17 rfl) ?_
            refine P_X8_ended C wF_RX8_206 (dA DX8_nextToken_1 18 rfl) ?_
            refine J_goto (tgt := 197) C (dA DX8_nextToken_1 19 rfl) (by decide) ?_
            rw [t5_ue]
            rw [if_pos ((pk_lLE (by omega) (by decide)).mp ((lg_cmp_le _ _).mp h232))] at hih
            exact hih
          · refine J_aload_n C (dA DX8_nextToken_0 116 rfl) rfl ?_
            refine G_X8_value C wF_RX8_212 (dA DX8_nextToken_0 117 rfl) ?_
            rw [t5_v]
            refine J_goto (tgt := 265) C (dA DX8_nextToken_0 118 rfl) (by decide) ?_
            refine P_X8_value C wF_RX8_212 (dA DX8_nextToken_1 12 rfl) ?_
            rw [t5_uv]
            refine J_aload_n C (dA DX8_nextToken_1 13 rfl) rfl ?_
            refine J_dup C (dA DX8_nextToken_1 14 rfl) rfl ?_
            refine G_X8_ended C wF_RX8_206 (dA DX8_nextToken_1 15 rfl) ?_
            rw [t5_e]
            refine J_iconst (v := nI 1) C (dA DX8_nextToken_1 16 rfl) (by decide) ?_
            first | refine J_iadd_n C (dA DX8_nextToken_1 17 rfl) ?_ | refine J_iadd C (dA DX8_nextToken_1 17 rfl) ?_
            refine P_X8_ended C wF_RX8_206 (dA DX8_nextToken_1 18 rfl) ?_
            refine J_goto (tgt := 197) C (dA DX8_nextToken_1 19 rfl) (by decide) ?_
            rw [t5_ue]
            rw [if_neg (fun z => h232 ((lg_cmp_le _ _).mpr ((pk_lLE (by omega) (by decide)).mpr z)))] at hih
            exact hih
  have mid : ∀ t0 e0' v0, J E X 46 [some (.ref (ja E 60))] [] (t5 M t0 (nI b) e0' v0) := by
    intro t0 e0' v0
    refine J_aload_n C (dA DX8_nextToken_0 23 rfl) rfl ?_
    refine J_aload_n C (dA DX8_nextToken_0 24 rfl) rfl ?_
    refine G_X8_begun C wF_RX8_209 (dA DX8_nextToken_0 25 rfl) ?_
    rw [t5_b]
    refine P_X8_ended C wF_RX8_206 (dA DX8_nextToken_0 26 rfl) ?_
    rw [t5_ue]
    refine J_aload_n C (dA DX8_nextToken_0 27 rfl) rfl ?_
    refine J_lconst (v := lN 0) C (dA DX8_nextToken_0 28 rfl) (by decide) ?_
    refine P_X8_value C wF_RX8_212 (dA DX8_nextToken_0 29 rfl) ?_
    rw [t5_uv]
    refine J_aload_n C (dA DX8_nextToken_0 30 rfl) rfl ?_
    refine G_X8_begun C wF_RX8_209 (dA DX8_nextToken_0 31 rfl) ?_
    rw [t5_b]
    refine J_aload_n C (dA DX8_nextToken_0 32 rfl) rfl ?_
    refine G_X8_taped C wF_RX8_203 (dA DX8_nextToken_0 33 rfl) ?_
    rw [t5_o (by decide), e0]
    refine J_icmp_ne_n (tgt := 78) C (by omega) (by omega) (dA DX8_nextToken_0 34 rfl) (by decide) (fun h67 => ?_) (fun h67 => ?_)
    · have h67' : b < n := by omega
      refine J_aload_n C (dA DX8_nextToken_0 39 rfl) rfl ?_
      refine G_X8_tape C wF_RX8_25 (dA DX8_nextToken_0 40 rfl) ?_
      refine J_aload_n C (dA DX8_nextToken_0 41 rfl) rfl ?_
      refine G_X8_begun C wF_RX8_209 (dA DX8_nextToken_0 42 rfl) ?_
      rw [t5_b]
      refine R_1 C (hk := rfl) rfl (by omega) (dA DX8_nextToken_0 43 rfl) ?_
      rw [t5_o (by omega), hg b (by omega)]
      refine V_X8_isLetter C (c_X8_isLetter l E _) wM_RX8_219 (by decide) (dA DX8_nextToken_0 44 rfl) rfl (Nat.le_of_ble_eq_true rfl) ?_
      refine J_if_eq_b (tgt := 182) C (dA DX8_nextToken_0 45 rfl) (by decide) (fun h90 => ?_) (fun h90 => ?_)
      · refine J_aload_n C (dA DX8_nextToken_0 91 rfl) rfl ?_
        refine G_X8_tape C wF_RX8_25 (dA DX8_nextToken_0 92 rfl) ?_
        refine J_aload_n C (dA DX8_nextToken_0 93 rfl) rfl ?_
        refine G_X8_begun C wF_RX8_209 (dA DX8_nextToken_0 94 rfl) ?_
        rw [t5_b]
        refine R_1 C (hk := rfl) rfl (by omega) (dA DX8_nextToken_0 95 rfl) ?_
        rw [t5_o (by omega), hg b (by omega)]
        refine V_X8_isDigit C (c_X8_isDigit l E _) wM_RX8_228 (by decide) (dA DX8_nextToken_0 96 rfl) rfl (Nat.le_of_ble_eq_true rfl) ?_
        refine J_if_eq_b (tgt := 304) C (dA DX8_nextToken_0 97 rfl) (by decide) (fun h194 => ?_) (fun h194 => ?_)
        · refine J_aload_n C (dA DX8_nextToken_1 31 rfl) rfl ?_
          refine J_aload_n C (dA DX8_nextToken_1 32 rfl) rfl ?_
          refine G_X8_tape C wF_RX8_25 (dA DX8_nextToken_1 33 rfl) ?_
          refine J_aload_n C (dA DX8_nextToken_1 34 rfl) rfl ?_
          refine G_X8_begun C wF_RX8_209 (dA DX8_nextToken_1 35 rfl) ?_
          rw [t5_b]
          refine R_1 C (hk := rfl) rfl (by omega) (dA DX8_nextToken_1 36 rfl) ?_
          rw [t5_o (by omega), hg b (by omega)]
          refine J_bipush (v := nI 59) C (dA DX8_nextToken_1 37 rfl) (by decide) ?_
          refine J_icmp_ne (tgt := 323) C (dA DX8_nextToken_1 38 rfl) (by decide) (fun h316 => ?_) (fun h316 => ?_)
          · refine J_iconst (v := nI 4) C (dA DX8_nextToken_1 41 rfl) (by decide) ?_
            refine P_X8_token C wF_RX8_216 (dA DX8_nextToken_1 42 rfl) ?_
            rw [t5_ut]
            refine J_aload_n C (dA DX8_nextToken_1 43 rfl) rfl ?_
            refine J_dup C (dA DX8_nextToken_1 44 rfl) rfl ?_
            refine G_X8_ended C wF_RX8_206 (dA DX8_nextToken_1 45 rfl) ?_
            rw [t5_e]
            refine J_iconst (v := nI 1) C (dA DX8_nextToken_1 46 rfl) (by decide) ?_
            first | refine J_iadd_n C (dA DX8_nextToken_1 47 rfl) ?_ | refine J_iadd C (dA DX8_nextToken_1 47 rfl) ?_
            refine P_X8_ended C wF_RX8_206 (dA DX8_nextToken_1 48 rfl) ?_
            rw [t5_ue]
            have hS : oS g n b = 4 := by unfold oS; rw [if_pos h67', if_neg (by rw [h90]; decide), if_neg (by rw [h194]; decide), if_neg h316]
            have hrS : rSS g n b = 4 := by unfold rSS; rw [if_neg (by omega), hS]
            have hrV : rVV g n b = 0 := by unfold rVV; rw [if_neg (by omega), if_neg (by omega)]
            have hE : oE g n b = b + 1 := by unfold oE; rw [if_pos h67', if_neg (by rw [h90]; decide), if_neg (by rw [h194]; decide)]
            rw [hrS, hrV, hE] at G
            exact J_vret C G (dA DX8_nextToken_1 49 rfl) ⟨rfl, rfl⟩
          · refine J_iconst (v := nI 3) C (dA DX8_nextToken_1 39 rfl) (by decide) ?_
            refine J_goto (tgt := 324) C (dA DX8_nextToken_1 40 rfl) (by decide) ?_
            refine P_X8_token C wF_RX8_216 (dA DX8_nextToken_1 42 rfl) ?_
            rw [t5_ut]
            refine J_aload_n C (dA DX8_nextToken_1 43 rfl) rfl ?_
            refine J_dup C (dA DX8_nextToken_1 44 rfl) rfl ?_
            refine G_X8_ended C wF_RX8_206 (dA DX8_nextToken_1 45 rfl) ?_
            rw [t5_e]
            refine J_iconst (v := nI 1) C (dA DX8_nextToken_1 46 rfl) (by decide) ?_
            first | refine J_iadd_n C (dA DX8_nextToken_1 47 rfl) ?_ | refine J_iadd C (dA DX8_nextToken_1 47 rfl) ?_
            refine P_X8_ended C wF_RX8_206 (dA DX8_nextToken_1 48 rfl) ?_
            rw [t5_ue]
            have hS : oS g n b = 3 := by unfold oS; rw [if_pos h67', if_neg (by rw [h90]; decide), if_neg (by rw [h194]; decide), if_pos h316]
            have hrS : rSS g n b = 3 := by unfold rSS; rw [if_neg (by omega), hS]
            have hrV : rVV g n b = 0 := by unfold rVV; rw [if_neg (by omega), if_neg (by omega)]
            have hE : oE g n b = b + 1 := by unfold oE; rw [if_pos h67', if_neg (by rw [h90]; decide), if_neg (by rw [h194]; decide)]
            rw [hrS, hrV, hE] at G
            exact J_vret C G (dA DX8_nextToken_1 49 rfl) ⟨rfl, rfl⟩
        · have hE : oE g n b = runE isD g n b := by unfold oE; rw [if_pos h67', if_neg (by rw [h90]; decide), if_pos h194, runE_y h67' h194]
          have h := digits t0 h67' h90 h194 n b (by omega) (Nat.le_refl _) hbn (fun j hj => by omega) hE.symm
          rw [Nat.sub_self] at h
          exact h
      · refine J_aload_n C (dA DX8_nextToken_0 46 rfl) rfl ?_
        refine J_iconst (v := nI 1) C (dA DX8_nextToken_0 47 rfl) (by decide) ?_
        refine P_X8_token C wF_RX8_216 (dA DX8_nextToken_0 48 rfl) ?_
        rw [t5_ut]
        have hE : oE g n b = runE isL g n b := by unfold oE; rw [if_pos h67', if_pos h90, runE_y h67' h90]
        have h := letters (nI 1) h67' h90 rfl n b (by omega) (Nat.le_refl _) hbn (fun j hj => by omega) hE.symm
        rw [Nat.sub_self] at h
        exact h
    · refine J_aload_n C (dA DX8_nextToken_0 35 rfl) rfl ?_
      refine J_iconst (v := nI 0) C (dA DX8_nextToken_0 36 rfl) (by decide) ?_
      refine P_X8_token C wF_RX8_216 (dA DX8_nextToken_0 37 rfl) ?_
      rw [t5_ut]
      refine J_goto (tgt := 337) C (dA DX8_nextToken_0 38 rfl) (by decide) ?_
      
      have hS : oS g n b = 0 := oS_0.mpr (by omega)
      have hrS : rSS g n b = 0 := by unfold rSS; rw [if_neg (by omega), hS]
      have hrV : rVV g n b = 0 := by unfold rVV; rw [if_neg (by omega), if_neg (by omega)]
      have hE : oE g n b = b := by unfold oE; rw [if_neg (by omega)]
      rw [hrS, hrV, hE] at G
      exact J_vret C G (dA DX8_nextToken_1 49 rfl) ⟨rfl, rfl⟩
  have loop : ∀ f q t0 e0' v0, n - q ≤ f → q ≤ n → tkB g n q = b → J E X 8 [some (.ref (ja E 60))] [] (t5 M t0 (nI q) e0' v0) := by
    intro f
    induction f with
    | zero =>
      intro q t0 e0' v0 hf hq hqb
      obtain rfl : n = q := by omega
      have hb2 : n = b := by rw [← hqb]; exact (runE_e (Nat.le_refl _)).symm
      refine J_aload_n C (dA DX8_nextToken_0 4 rfl) rfl ?_
      refine G_X8_begun C wF_RX8_209 (dA DX8_nextToken_0 5 rfl) ?_
      rw [t5_b]
      refine J_aload_n C (dA DX8_nextToken_0 6 rfl) rfl ?_
      refine G_X8_taped C wF_RX8_203 (dA DX8_nextToken_0 7 rfl) ?_
      rw [t5_o (by decide), e0]
      refine J_icmp_ge_n (tgt := 46) C (by omega) (by omega) (dA DX8_nextToken_0 8 rfl) (by decide) (fun h16 => ?_) (fun h16 => ?_)
      · rw [hb2]
        exact mid t0 e0' v0
      · exfalso; omega
    | succ f ih =>
      intro q t0 e0' v0 hf hq hqb
      refine J_aload_n C (dA DX8_nextToken_0 4 rfl) rfl ?_
      refine G_X8_begun C wF_RX8_209 (dA DX8_nextToken_0 5 rfl) ?_
      rw [t5_b]
      refine J_aload_n C (dA DX8_nextToken_0 6 rfl) rfl ?_
      refine G_X8_taped C wF_RX8_203 (dA DX8_nextToken_0 7 rfl) ?_
      rw [t5_o (by decide), e0]
      refine J_icmp_ge_n (tgt := 46) C (by omega) (by omega) (dA DX8_nextToken_0 8 rfl) (by decide) (fun h16 => ?_) (fun h16 => ?_)
      · obtain rfl : n = q := by omega
        have hb2 : n = b := by rw [← hqb]; exact (runE_e (Nat.le_refl _)).symm
        rw [hb2]
        exact mid t0 e0' v0
      · refine J_aload_n C (dA DX8_nextToken_0 9 rfl) rfl ?_
        refine G_X8_tape C wF_RX8_25 (dA DX8_nextToken_0 10 rfl) ?_
        refine J_aload_n C (dA DX8_nextToken_0 11 rfl) rfl ?_
        refine G_X8_begun C wF_RX8_209 (dA DX8_nextToken_0 12 rfl) ?_
        rw [t5_b]
        refine R_1 C (hk := rfl) rfl (by omega) (dA DX8_nextToken_0 13 rfl) ?_
        rw [t5_o (by omega), hg q (by omega)]
        refine J_bipush (v := nI 32) C (dA DX8_nextToken_0 14 rfl) (by decide) ?_
        refine J_icmp_ne (tgt := 46) C (dA DX8_nextToken_0 15 rfl) (by decide) (fun h30 => ?_) (fun h30 => ?_)
        · have hb2 : q = b := by rw [← hqb]; exact (runE_n (by omega) (decide_eq_false h30)).symm
          rw [hb2]
          exact mid t0 e0' v0
        · refine J_aload_n C (dA DX8_nextToken_0 16 rfl) rfl ?_
          refine J_dup C (dA DX8_nextToken_0 17 rfl) rfl ?_
          refine G_X8_begun C wF_RX8_209 (dA DX8_nextToken_0 18 rfl) ?_
          rw [t5_b]
          refine J_iconst (v := nI 1) C (dA DX8_nextToken_0 19 rfl) (by decide) ?_
          first | refine J_iadd_n C (dA DX8_nextToken_0 20 rfl) ?_ | refine J_iadd C (dA DX8_nextToken_0 20 rfl) ?_
          refine P_X8_begun C wF_RX8_209 (dA DX8_nextToken_0 21 rfl) ?_
          refine J_goto (tgt := 8) C (dA DX8_nextToken_0 22 rfl) (by decide) ?_
          rw [t5_ub]
          exact ih (q + 1) t0 e0' v0 (by omega) (by omega) (by rw [← hqb]; unfold tkB; rw [← runE_y (by omega) (decide_eq_true h30)])
  rw [show M = t5 M (M 1859) (M 1860) (M 1861) (jmk (M 2006) (M 2007)) from (t5_id M).symm]
  refine J_aload_n C (dA DX8_nextToken_0 0 rfl) rfl ?_
  refine J_aload_n C (dA DX8_nextToken_0 1 rfl) rfl ?_
  refine G_X8_ended C wF_RX8_206 (dA DX8_nextToken_0 2 rfl) ?_
  rw [t5_e, e1]
  refine P_X8_begun C wF_RX8_209 (dA DX8_nextToken_0 3 rfl) ?_
  rw [t5_ub]
  exact loop n p _ _ _ (by omega) hp hb
end PA
