theorem ff {P : Prop} (z : false = true) : P := absurd z (by decide)
abbrev pT := Bool × Nat × (Nat → Int32)
def hW (g : Nat → Int32) (n k w : Nat) : Bool := decide (tS g n k = 1 ∧ tV g n k = w)
def numB (g : Nat → Int32) (n k lo hi : Nat) (x : Int32) : Bool := decide (tS g n k = 2 ∧ lo ≤ tV g n k ∧ tV g n k ≤ hi ∧ ¬ nI (tV g n k) = x)
def lo6 (w : Nat) : Nat := if w = 1 then 1 else 0
def trX (w p : Nat) : Int32 := if w = 0 then nI p else -1
/-- one trait of a pond; c: the class lays the least where a number is wrong -/
def trY (c : Bool) (g : Nat → Int32) (n p w : Nat) (q : pT) : pT := if w = 3 then (true, q.2.1 + 1, upd q.2.2 (4 + 6 * p + w) (nI 1)) else if numB g n (q.2.1 + 1) (lo6 w) (mx6 w) (trX w p) = true then (true, q.2.1 + 2, upd q.2.2 (4 + 6 * p + w) (nI (tV g n (q.2.1 + 1)))) else (false, q.2.1 + 1, if c = true then upd q.2.2 (4 + 6 * p + w) (nI (lo6 w)) else q.2.2)
def trS (c : Bool) (g : Nat → Int32) (n p w : Nat) (q : pT) : pT := if q.1 = true ∧ hW g n q.2.1 (7 + w) = true then trY c g n p w q else q
def trN (c : Bool) (g : Nat → Int32) (n p : Nat) (q : pT) : Nat → pT
  | 0 => q
  | i + 1 => trS c g n p i (trN c g n p q i)
def pPond (c : Bool) (g : Nat → Int32) (n k : Nat) (S : Nat → Int32) : pT := if numB g n k 0 15 (-1) = true then trN c g n (tV g n k) (true, k + 1, S) 6 else (false, k, S)
def thI (g : Nat → Int32) (n k : Nat) : Bool × Nat × Nat := if hW g n (k + 1) 13 = true then (if numB g n (k + 2) 0 15 (-1) = true then (true, k + 3, tV g n (k + 2)) else (false, k + 2, 0)) else (true, k + 1, 0)
def thL (c : Bool) (g : Nat → Int32) (n : Nat) (r : Bool × Nat × Nat) : Bool × Nat × Nat := if r.1 = true ∧ hW g n r.2.1 14 = true then (if numB g n (r.2.1 + 1) 1 99 (-1) = true then (true, r.2.1 + 2, tV g n (r.2.1 + 1)) else (false, r.2.1 + 1, if c = true then 1 else 9)) else (r.1, r.2.1, 9)
def pThing (c : Bool) (g : Nat → Int32) (n k : Nat) (S : Nat → Int32) : pT := if iN S = 8 then (false, k, S) else ((thL c g n (thI g n k)).1, (thL c g n (thI g n k)).2.1, addS S (tV g n k) (thI g n k).2.2 (thL c g n (thI g n k)).2.2)
def pItem (c : Bool) (g : Nat → Int32) (n k : Nat) (S : Nat → Int32) : pT := if tS g n k = 1 ∧ tV g n k < 7 then pThing c g n k S else if hW g n k 15 = true then pPond c g n (k + 1) S else if hW g n k 16 = true then (true, k + 1, upd S 3 (nI 1)) else if hW g n k 17 = true then (true, k + 1, upd S 3 (nI 0)) else (false, k, S)
def pRd (c : Bool) (g : Nat → Int32) (n : Nat) : Nat → Nat → pT → pT × Nat
  | 0, it, q => (q, it)
  | f + 1, it, q => if q.1 = true ∧ tS g n q.2.1 = 3 then pRd c g n f (it + 1) (pItem c g n (q.2.1 + 1) q.2.2) else (q, it)
/-- how a text comes out: whether it is good, items, fault's place, the fen behind it -/
def pTx (c : Bool) (g : Nat → Int32) (n : Nat) (S : Nat → Int32) : pT × Nat := pRd c g n 121 1 (pItem c g n 0 S)
def txOK (g : Nat → Int32) (n : Nat) (r : pT × Nat) : Bool := r.1.1 && decide (tS g n r.1.2.1 = 0)
def aText (g : Nat → Int32) (n : Nat) (r : pT × Nat) : Int32 := if txOK g n r = true then nI r.2 else -1 - nI (tB g n r.1.2.1)
/-- well made: the place lies in the tokens; what is good keeps its bounds -/
def WQ (g : Nat → Int32) (n : Nat) (q : pT) : Prop := q.2.1 ≤ tK g n ∧ Can q.2.2 ∧ (q.1 = true → IS q.2.2)
theorem tk_s {g : Nat → Int32} {n k : Nat} (hn : n ≤ 120) (hk : k ≤ tK g n) (h : ¬ tS g n k = 0) : k + 1 ≤ tK g n := by
  have h0 := (tK_p (g := g) hn).2.1
  rcases Nat.eq_or_lt_of_le hk with z | z
  · rw [z] at h; exact absurd h0 h
  · exact z
theorem hW_s {g : Nat → Int32} {n k w : Nat} (hn : n ≤ 120) (hk : k ≤ tK g n) (h : hW g n k w = true) : k + 1 ≤ tK g n := tk_s hn hk (by have := (of_decide_eq_true h).1; omega)
theorem numB_s {g : Nat → Int32} {n k lo hi : Nat} {x : Int32} (hn : n ≤ 120) (hk : k ≤ tK g n) (h : numB g n k lo hi x = true) : k + 1 ≤ tK g n := tk_s hn hk (by have := (of_decide_eq_true h).1; omega)
theorem Can_u {S : Nat → Int32} {j : Nat} {x : Int32} (h : Can S) (hj : j < 134) : Can (upd S j x) := fun i hi => by rw [pk_un (by omega)]; exact h i hi
theorem mx6_le : ∀ w, w < 6 → mx6 w ≤ 99 ∧ lo6 w ≤ mx6 w := by decide
theorem WQ_trS {c : Bool} {g : Nat → Int32} {n p w : Nat} {q : pT} (hn : n ≤ 120) (hp : p < 16) (hw : w < 6) (h : WQ g n q) : WQ g n (trS c g n p w q) := by
  unfold trS
  by_cases e : q.1 = true ∧ hW g n q.2.1 (7 + w) = true
  · rw [if_pos e]
    have hk := hW_s hn h.1 e.2
    have hI := h.2.2 e.1
    unfold trY
    by_cases e3 : w = 3
    · rw [if_pos e3]
      refine ⟨hk, Can_u h.2.1 (by omega), fun _ => IS_u6 hI hp hw (by rw [e3]; decide) (fun z => by omega) (fun z => by omega)⟩
    · rw [if_neg e3]
      by_cases hb : numB g n (q.2.1 + 1) (lo6 w) (mx6 w) (trX w p) = true
      · rw [if_pos hb]
        have hk2 := numB_s hn hk hb
        obtain ⟨-, b1, b2, b3⟩ := of_decide_eq_true hb
        have hv := oV_le g n (tB g n (q.2.1 + 1))
        refine ⟨hk2, Can_u h.2.1 (by omega), fun _ => IS_u6 hI hp hw b2 (fun z e4 => b3 (by unfold trX; rw [if_pos z, e4])) (fun z => by unfold lo6 at b1; rw [if_pos z] at b1; exact b1)⟩
      · rw [if_neg hb]
        refine ⟨hk, ?_, fun z => ff z⟩
        show Can (if c = true then upd q.2.2 (4 + 6 * p + w) (nI (lo6 w)) else q.2.2)
        split
        · exact Can_u h.2.1 (by omega)
        · exact h.2.1
  · rw [if_neg e]; exact h
theorem WQ_trN {c : Bool} {g : Nat → Int32} {n p : Nat} {q : pT} (hn : n ≤ 120) (hp : p < 16) (h : WQ g n q) : ∀ i, i ≤ 6 → WQ g n (trN c g n p q i)
  | 0, _ => h
  | i + 1, hi => WQ_trS hn hp (by omega) (WQ_trN hn hp h i (by omega))
theorem trN_f {c : Bool} {g : Nat → Int32} {n p : Nat} {q : pT} (h : q.1 = false) : ∀ i, trN c g n p q i = q
  | 0 => rfl
  | i + 1 => by
    show trS c g n p i (trN c g n p q i) = q
    rw [trN_f h i]
    unfold trS
    rw [if_neg (fun z => by rw [h] at z; exact absurd z.1 (by decide))]
theorem WQ_pond {c : Bool} {g : Nat → Int32} {n k : Nat} {S : Nat → Int32} (hn : n ≤ 120) (hk : k ≤ tK g n) (hS : IS S) : WQ g n (pPond c g n k S) := by
  unfold pPond
  by_cases e : numB g n k 0 15 (-1) = true
  · rw [if_pos e]
    obtain ⟨-, -, b2, -⟩ := of_decide_eq_true e
    exact WQ_trN hn (by omega) ⟨numB_s hn hk e, hS.1, fun _ => hS⟩ 6 (by omega)
  · rw [if_neg e]; exact ⟨hk, hS.1, fun z => ff z⟩
theorem thI_b {g : Nat → Int32} {n k : Nat} (hn : n ≤ 120) (hk : k + 1 ≤ tK g n) : (thI g n k).2.1 ≤ tK g n ∧ (thI g n k).2.2 ≤ 15 ∧ k + 1 ≤ (thI g n k).2.1 := by
  unfold thI
  by_cases e : hW g n (k + 1) 13 = true
  · rw [if_pos e]
    have h1 := hW_s hn hk e
    by_cases e2 : numB g n (k + 2) 0 15 (-1) = true
    · rw [if_pos e2]
      obtain ⟨-, -, b2, -⟩ := of_decide_eq_true e2
      have h2 := numB_s hn h1 e2
      exact ⟨h2, b2, by show k + 1 ≤ k + 3; omega⟩
    · rw [if_neg e2]; exact ⟨h1, Nat.zero_le _, by show k + 1 ≤ k + 2; omega⟩
  · rw [if_neg e]; exact ⟨hk, Nat.zero_le _, Nat.le_refl _⟩
theorem thL_b {c : Bool} {g : Nat → Int32} {n : Nat} {r : Bool × Nat × Nat} (hn : n ≤ 120) (hr : r.2.1 ≤ tK g n) : (thL c g n r).2.1 ≤ tK g n ∧ (thL c g n r).2.2 ≤ 99 ∧ r.2.1 ≤ (thL c g n r).2.1 := by
  unfold thL
  by_cases e : r.1 = true ∧ hW g n r.2.1 14 = true
  · rw [if_pos e]
    have h1 := hW_s hn hr e.2
    by_cases e2 : numB g n (r.2.1 + 1) 1 99 (-1) = true
    · rw [if_pos e2]
      obtain ⟨-, -, b2, -⟩ := of_decide_eq_true e2
      exact ⟨numB_s hn h1 e2, b2, by show r.2.1 ≤ r.2.1 + 2; omega⟩
    · rw [if_neg e2]
      refine ⟨h1, ?_, by show r.2.1 ≤ r.2.1 + 1; omega⟩
      show (if c = true then 1 else 9) ≤ 99
      split <;> decide
  · rw [if_neg e]; exact ⟨hr, by show 9 ≤ 99; decide, Nat.le_refl _⟩
theorem WQ_thing {c : Bool} {g : Nat → Int32} {n k : Nat} {S : Nat → Int32} (hn : n ≤ 120) (hk : k ≤ tK g n) (h1 : tS g n k = 1) (h7 : tV g n k < 7) (hS : IS S) : WQ g n (pThing c g n k S) := by
  have hN := leN hS
  unfold pThing
  by_cases e : iN S = 8
  · rw [if_pos e]; exact ⟨hk, hS.1, fun z => ff z⟩
  · rw [if_neg e]
    obtain ⟨a1, a2, -⟩ := thI_b (g := g) hn (tk_s hn hk (by omega))
    obtain ⟨b1, b2, -⟩ := thL_b (c := c) hn a1
    have hA := (IS_add hS (by omega) (show tV g n k ≤ 6 by omega) a2 b2).1
    exact ⟨b1, hA.1, fun _ => hA⟩
theorem IS_rn {S : Nat → Int32} {v : Nat} (h : IS S) (hv : v ≤ 1) : IS (upd S 3 (nI v)) := IS_lo h (by decide) (fun z => absurd z (by decide)) (fun z => absurd z (by decide)) (fun _ => by rw [nv_nI (by omega)]; exact ⟨rfl, hv⟩)
theorem WQ_item {c : Bool} {g : Nat → Int32} {n k : Nat} {S : Nat → Int32} (hn : n ≤ 120) (hk : k ≤ tK g n) (hS : IS S) : WQ g n (pItem c g n k S) := by
  unfold pItem
  by_cases e : tS g n k = 1 ∧ tV g n k < 7
  · rw [if_pos e]; exact WQ_thing hn hk e.1 e.2 hS
  · rw [if_neg e]
    by_cases e15 : hW g n k 15 = true
    · rw [if_pos e15]; exact WQ_pond hn (hW_s hn hk e15) hS
    · rw [if_neg e15]
      by_cases e16 : hW g n k 16 = true
      · rw [if_pos e16]; exact ⟨hW_s hn hk e16, (IS_rn hS (by decide)).1, fun _ => IS_rn hS (by decide)⟩
      · rw [if_neg e16]
        by_cases e17 : hW g n k 17 = true
        · rw [if_pos e17]; exact ⟨hW_s hn hk e17, (IS_rn hS (by decide)).1, fun _ => IS_rn hS (by decide)⟩
        · rw [if_neg e17]; exact ⟨hk, hS.1, fun z => ff z⟩
theorem trS_k {c : Bool} {g : Nat → Int32} {n p w : Nat} {q : pT} : q.2.1 ≤ (trS c g n p w q).2.1 := by
  unfold trS
  split
  · unfold trY
    split
    · show q.2.1 ≤ q.2.1 + 1; omega
    · split
      · show q.2.1 ≤ q.2.1 + 2; omega
      · show q.2.1 ≤ q.2.1 + 1; omega
  · exact Nat.le_refl _
theorem trN_k {c : Bool} {g : Nat → Int32} {n p : Nat} {q : pT} : ∀ i, q.2.1 ≤ (trN c g n p q i).2.1
  | 0 => Nat.le_refl _
  | i + 1 => Nat.le_trans (trN_k i) trS_k
theorem item_k {c : Bool} {g : Nat → Int32} {n k : Nat} {S : Nat → Int32} (hn : n ≤ 120) (hk : k ≤ tK g n) (h : (pItem c g n k S).1 = true) : k + 1 ≤ (pItem c g n k S).2.1 := by
  unfold pItem at h ⊢
  by_cases e : tS g n k = 1 ∧ tV g n k < 7
  · rw [if_pos e] at h ⊢
    unfold pThing at h ⊢
    by_cases e8 : iN S = 8
    · rw [if_pos e8] at h; exact ff h
    · rw [if_neg e8]
      obtain ⟨a1, a2, a3⟩ := thI_b (g := g) hn (tk_s hn hk (by omega))
      obtain ⟨b1, b2, b3⟩ := thL_b (c := c) hn a1
      exact Nat.le_trans a3 b3
  · rw [if_neg e] at h ⊢
    by_cases e15 : hW g n k 15 = true
    · rw [if_pos e15] at h ⊢
      unfold pPond at h ⊢
      by_cases eb : numB g n (k + 1) 0 15 (-1) = true
      · rw [if_pos eb] at h ⊢
        exact Nat.le_trans (by show k + 1 ≤ k + 1 + 1; omega) (trN_k (c := c) (g := g) (n := n) (p := tV g n (k + 1)) (q := (true, k + 1 + 1, S)) 6)
      · rw [if_neg eb] at h; exact ff h
    · rw [if_neg e15] at h ⊢
      by_cases e16 : hW g n k 16 = true
      · rw [if_pos e16] at h ⊢; exact Nat.le_refl _
      · rw [if_neg e16] at h ⊢
        by_cases e17 : hW g n k 17 = true
        · rw [if_pos e17] at h ⊢; exact Nat.le_refl _
        · rw [if_neg e17] at h; exact ff h
/-- the two sides' readings -/
def QQ (q q' : pT) : Prop := q.1 = q'.1 ∧ q.2.1 = q'.2.1 ∧ (q.1 = true → q = q')
theorem QQ_rf (q : pT) : QQ q q := ⟨rfl, rfl, fun _ => rfl⟩
theorem QQ_trS {g : Nat → Int32} {n p w : Nat} {q q' : pT} (h : QQ q q') : QQ (trS true g n p w q) (trS false g n p w q') := by
  obtain ⟨h1, h2, h3⟩ := h
  unfold trS
  by_cases e : q.1 = true ∧ hW g n q.2.1 (7 + w) = true
  · have hq := h3 e.1
    rw [if_pos e, ← hq, if_pos e]
    unfold trY
    by_cases e3 : w = 3
    · rw [if_pos e3, if_pos e3]; exact QQ_rf _
    · rw [if_neg e3, if_neg e3]
      by_cases hb : numB g n (q.2.1 + 1) (lo6 w) (mx6 w) (trX w p) = true
      · rw [if_pos hb, if_pos hb]; exact QQ_rf _
      · rw [if_neg hb, if_neg hb]; exact ⟨rfl, rfl, fun z => ff z⟩
  · rw [if_neg e, if_neg (by rw [← h1, ← h2]; exact e)]; exact ⟨h1, h2, h3⟩
theorem QQ_trN {g : Nat → Int32} {n p : Nat} {q : pT} : ∀ i, QQ (trN true g n p q i) (trN false g n p q i)
  | 0 => QQ_rf _
  | i + 1 => QQ_trS (QQ_trN i)
theorem QQ_thing {g : Nat → Int32} {n k : Nat} {S : Nat → Int32} : QQ (pThing true g n k S) (pThing false g n k S) := by
  unfold pThing
  by_cases e : iN S = 8
  · rw [if_pos e, if_pos e]; exact QQ_rf _
  · rw [if_neg e, if_neg e]
    generalize thI g n k = r
    unfold thL
    by_cases e1 : r.1 = true ∧ hW g n r.2.1 14 = true
    · rw [if_pos e1, if_pos e1]
      by_cases e2 : numB g n (r.2.1 + 1) 1 99 (-1) = true
      · rw [if_pos e2, if_pos e2]; exact QQ_rf _
      · rw [if_neg e2, if_neg e2]; exact ⟨rfl, rfl, fun z => ff z⟩
    · rw [if_neg e1, if_neg e1]; exact QQ_rf _
theorem QQ_item {g : Nat → Int32} {n k : Nat} {S : Nat → Int32} : QQ (pItem true g n k S) (pItem false g n k S) := by
  unfold pItem
  by_cases e : tS g n k = 1 ∧ tV g n k < 7
  · rw [if_pos e, if_pos e]; exact QQ_thing
  · rw [if_neg e, if_neg e]
    by_cases e15 : hW g n k 15 = true
    · rw [if_pos e15, if_pos e15]
      unfold pPond
      by_cases eb : numB g n (k + 1) 0 15 (-1) = true
      · rw [if_pos eb, if_pos eb]; exact QQ_trN 6
      · rw [if_neg eb, if_neg eb]; exact QQ_rf _
    · rw [if_neg e15, if_neg e15]; exact QQ_rf _
theorem QQ_rd {g : Nat → Int32} {n : Nat} : ∀ (f it : Nat) (q q' : pT), QQ q q' → QQ (pRd true g n f it q).1 (pRd false g n f it q').1 ∧ (pRd true g n f it q).2 = (pRd false g n f it q').2
  | 0, it, q, q', h => ⟨h, rfl⟩
  | f + 1, it, q, q', h => by
    show QQ (if q.1 = true ∧ tS g n q.2.1 = 3 then pRd true g n f (it + 1) (pItem true g n (q.2.1 + 1) q.2.2) else (q, it)).1 (if q'.1 = true ∧ tS g n q'.2.1 = 3 then pRd false g n f (it + 1) (pItem false g n (q'.2.1 + 1) q'.2.2) else (q', it)).1 ∧ (if q.1 = true ∧ tS g n q.2.1 = 3 then pRd true g n f (it + 1) (pItem true g n (q.2.1 + 1) q.2.2) else (q, it)).2 = (if q'.1 = true ∧ tS g n q'.2.1 = 3 then pRd false g n f (it + 1) (pItem false g n (q'.2.1 + 1) q'.2.2) else (q', it)).2
    obtain ⟨h1, h2, h3⟩ := h
    by_cases e : q.1 = true ∧ tS g n q.2.1 = 3
    · have hq := h3 e.1
      rw [← hq, if_pos e, if_pos e]
      exact QQ_rd f (it + 1) _ _ QQ_item
    · rw [if_neg e, if_neg (by rw [← h1, ← h2]; exact e)]; exact ⟨⟨h1, h2, h3⟩, rfl⟩
theorem tx_eq {g : Nat → Int32} {n : Nat} {S : Nat → Int32} : aText g n (pTx true g n S) = aText g n (pTx false g n S) ∧ txOK g n (pTx true g n S) = txOK g n (pTx false g n S) ∧ (txOK g n (pTx true g n S) = true → (pTx true g n S).1.2.2 = (pTx false g n S).1.2.2) := by
  obtain ⟨⟨h1, h2, h3⟩, h4⟩ := QQ_rd (g := g) (n := n) 121 1 (pItem true g n 0 S) (pItem false g n 0 S) QQ_item
  have e : txOK g n (pTx true g n S) = txOK g n (pTx false g n S) := by unfold txOK pTx; rw [h1, h2]
  refine ⟨?_, e, fun z => ?_⟩
  · unfold aText
    rw [e]
    unfold pTx
    rw [h2, h4]
  · unfold txOK at z
    rw [Bool.and_eq_true] at z
    unfold pTx
    rw [h3 z.1]
/-! the class's memory while it reads -/
def rs (m : jM) (k : Nat) (fl : Int32) (S : Nat → Int32) : jM := upd (upd (lay (fb 1) m S) 543 fl) 544 (nI k)
theorem rs_544 {m : jM} {k : Nat} {fl : Int32} {S : Nat → Int32} : rs m k fl S 544 = nI k := pk_us
theorem rs_543 {m : jM} {k : Nat} {fl : Int32} {S : Nat → Int32} : rs m k fl S 543 = fl := by unfold rs; rw [pk_un (by decide)]; exact pk_us
theorem rs_o {m : jM} {k a : Nat} {fl : Int32} {S : Nat → Int32} (h : a < 134 ∨ (268 ≤ a ∧ a < 543) ∨ 545 ≤ a) : rs m k fl S a = m a := by
  have e : fb 1 = 134 := rfl
  unfold rs
  rw [pk_un (by omega), pk_un (by omega), lay_out (by omega)]
theorem rs_k {m : jM} {k k' : Nat} {fl : Int32} {S : Nat → Int32} : upd (rs m k fl S) 544 (nI k') = rs m k' fl S := by
  funext a
  unfold rs upd
  by_cases h : a = 544 <;> simp [h]
theorem rs_f {m : jM} {k : Nat} {fl fl' : Int32} {S : Nat → Int32} : upd (rs m k fl S) 543 fl' = rs m k fl' S := by
  funext a
  unfold rs upd
  by_cases h : a = 544
  · simp [h]
  · by_cases h2 : a = 543 <;> simp [h, h2]
theorem rs_lay {m : jM} {k : Nat} {fl : Int32} {S S' : Nat → Int32} : lay (fb 1) (rs m k fl S) S' = rs m k fl S' := by
  have e : fb 1 = 134 := rfl
  funext a
  unfold rs lay upd
  by_cases h : a = 544
  · subst h; simp [e]
  · by_cases h2 : a = 543
    · subst h2; simp [e]
    · simp [h, h2]
      split <;> rfl
theorem rs_vb {m : jM} {k : Nat} {fl : Int32} {S : Nat → Int32} (h : Can S) : vb (fb 1) (rs m k fl S) = S := by
  have e : fb 1 = 134 := rfl
  unfold rs
  rw [vb_upd_ne (by omega), vb_upd_ne (by omega), vb_lay h]
theorem rs_S {m : jM} {k j : Nat} {fl x : Int32} {S : Nat → Int32} (h : Can S) (hj : j < 134) : upd (rs m k fl S) (fb 1 + j) x = rs m k fl (upd S j x) := by
  rw [lay_upd hj, rs_vb h, rs_lay]
theorem rs_TK {g : Nat → Int32} {n k : Nat} {m : jM} {fl : Int32} {S : Nat → Int32} (h : TK g n m) : TK g n (rs m k fl S) := fun j hj => by
  obtain ⟨h1, h2, h3⟩ := h j hj
  exact ⟨by rw [rs_o (by omega)]; exact h1, by rw [rs_o (by omega)]; exact h2, fun z => by rw [rs_o (by omega)]; exact h3 z⟩
def flq (g : Nat → Int32) (n : Nat) (q : pT) : Int32 := if q.1 = true then -1 else nI (tB g n q.2.1)
def psM (g : Nat → Int32) (n : Nat) (m : jM) (q : pT) : jM := rs m q.2.1 (flq g n q) q.2.2
theorem flq_lt {g : Nat → Int32} {n : Nat} {q : pT} (hn : n ≤ 120) : decide ((flq g n q).toInt < 0) = q.1 := by
  have hb := tB_le g n q.2.1
  unfold flq
  by_cases e : q.1 = true
  · rw [if_pos e, e]; decide
  · rw [if_neg e, tI (by omega), Bool.eq_false_iff.mpr e]; exact decide_eq_false (by omega)
section PA
variable {M : jM} {g : Nat → Int32} {n : Nat}
set_option maxRecDepth 4000 in
theorem c_X6_begin (l : Launch) (E : jE) (hn : n ≤ 120) (hT : TK g n M) (k : Nat) (hk : k ≤ tK g n) (e4 : M 544 = nI k)  : K_X6_begin l E [.ref (ja E 45)] M (nI (tB g n k)) (M) := by
  refine CT_intro (own := RX6) (by decide +kernel) rfl (by simp [Value.category]) (Nat.le_of_ble_eq_true rfl) rfl (fun X C G => ?_)
  show J E X 0 [some (.ref (ja E 45))] [] M
  have hK := (tK_p (g := g) hn).1
  obtain ⟨t1, t2, t3⟩ := hT k hk
  have hSl := oS_le g n (tB g n k)
  have hVl := oV_le g n (tB g n k)
  have hSl : tS g n k ≤ 4 := hSl
  have hVl : tV g n k ≤ 1000 := hVl
  have hBl := tB_le g n k
  refine J_aload_n C (dA DX6_begin_0 0 rfl) rfl ?_
  refine G_X6_begins C wF_RX6_15 (dA DX6_begin_0 1 rfl) ?_
  refine J_aload_n C (dA DX6_begin_0 2 rfl) rfl ?_
  refine G_X6_at C wF_RX6_21 (dA DX6_begin_0 3 rfl) ?_
  rw [e4]
  refine R_1 C (hk := rfl) rfl (by omega) (dA DX6_begin_0 4 rfl) ?_
  rw [t2]
  exact J_iret C G (dA DX6_begin_0 5 rfl) ⟨rfl, rfl⟩
set_option maxRecDepth 4000 in
theorem c_X6_value (l : Launch) (E : jE) (hn : n ≤ 120) (hT : TK g n M) (k : Nat) (hk : k ≤ tK g n) (e4 : M 544 = nI k)  : K_X6_value l E [.ref (ja E 45)] M (M (787 + k)) (M) := by
  refine CT_intro (own := RX6) (by decide +kernel) rfl (by simp [Value.category]) (Nat.le_of_ble_eq_true rfl) rfl (fun X C G => ?_)
  show J E X 0 [some (.ref (ja E 45))] [] M
  have hK := (tK_p (g := g) hn).1
  obtain ⟨t1, t2, t3⟩ := hT k hk
  have hSl := oS_le g n (tB g n k)
  have hVl := oV_le g n (tB g n k)
  have hSl : tS g n k ≤ 4 := hSl
  have hVl : tV g n k ≤ 1000 := hVl
  have hBl := tB_le g n k
  refine J_aload_n C (dA DX6_value_0 0 rfl) rfl ?_
  refine G_X6_values C wF_RX6_18 (dA DX6_value_0 1 rfl) ?_
  refine J_aload_n C (dA DX6_value_0 2 rfl) rfl ?_
  refine G_X6_at C wF_RX6_21 (dA DX6_value_0 3 rfl) ?_
  rw [e4]
  refine R_1 C (hk := rfl) rfl (by omega) (dA DX6_value_0 4 rfl) ?_
  exact J_iret C G (dA DX6_value_0 5 rfl) ⟨rfl, rfl⟩
set_option maxRecDepth 4000 in
theorem c_X6_isSort (l : Launch) (E : jE) (hn : n ≤ 120) (hT : TK g n M) (k : Nat) (hk : k ≤ tK g n) (e4 : M 544 = nI k) (s : Nat) (hs : s < 5)  : K_X6_isSort l E [.ref (ja E 45), .int (nI s)] M (jb (decide (tS g n k = s))) (M) := by
  refine CT_intro (own := RX6) (by decide +kernel) rfl (by simp [Value.category]) (Nat.le_of_ble_eq_true rfl) rfl (fun X C G => ?_)
  show J E X 0 [some (.ref (ja E 45)), some (.int (nI s))] [] M
  have hK := (tK_p (g := g) hn).1
  obtain ⟨t1, t2, t3⟩ := hT k hk
  have hSl := oS_le g n (tB g n k)
  have hVl := oV_le g n (tB g n k)
  have hSl : tS g n k ≤ 4 := hSl
  have hVl : tV g n k ≤ 1000 := hVl
  have hBl := tB_le g n k
  refine J_aload_n C (dA DX6_isSort_0 0 rfl) rfl ?_
  refine G_X6_sorts C wF_RX6_11 (dA DX6_isSort_0 1 rfl) ?_
  refine J_aload_n C (dA DX6_isSort_0 2 rfl) rfl ?_
  refine G_X6_at C wF_RX6_21 (dA DX6_isSort_0 3 rfl) ?_
  rw [e4]
  refine R_1 C (hk := rfl) rfl (by omega) (dA DX6_isSort_0 4 rfl) ?_
  refine J_iload_n C (dA DX6_isSort_0 5 rfl) rfl ?_
  rw [t1]
  refine J_icmp_ne_n (tgt := 17) C (by omega) (by omega) (dA DX6_isSort_0 6 rfl) (by decide) (fun h10 => ?_) (fun h10 => ?_)
  · refine J_iconst (v := nI 0) C (dA DX6_isSort_0 9 rfl) (by decide) ?_
    first | exact J_zret C G rfl (dA DX6_isSort_0 10 rfl) ⟨oi (zt (by omega)), rfl⟩ | exact J_zret C G rfl (dA DX6_isSort_0 10 rfl) ⟨oi (zf (by omega)), rfl⟩
  · refine J_iconst (v := nI 1) C (dA DX6_isSort_0 7 rfl) (by decide) ?_
    refine J_goto (tgt := 18) C (dA DX6_isSort_0 8 rfl) (by decide) ?_
    first | exact J_zret C G rfl (dA DX6_isSort_0 10 rfl) ⟨oi (zt (by omega)), rfl⟩ | exact J_zret C G rfl (dA DX6_isSort_0 10 rfl) ⟨oi (zf (by omega)), rfl⟩
set_option maxRecDepth 4000 in
theorem c_X6_isWord (l : Launch) (E : jE) (hn : n ≤ 120) (hT : TK g n M) (k : Nat) (hk : k ≤ tK g n) (e4 : M 544 = nI k) (w : Nat) (hw : w < 1001)  : K_X6_isWord l E [.ref (ja E 45), .int (nI w)] M (jb (hW g n k w)) (M) := by
  refine CT_intro (own := RX6) (by decide +kernel) rfl (by simp [Value.category]) (Nat.le_of_ble_eq_true rfl) rfl (fun X C G => ?_)
  show J E X 0 [some (.ref (ja E 45)), some (.int (nI w))] [] M
  have hK := (tK_p (g := g) hn).1
  obtain ⟨t1, t2, t3⟩ := hT k hk
  have hSl := oS_le g n (tB g n k)
  have hVl := oV_le g n (tB g n k)
  have hSl : tS g n k ≤ 4 := hSl
  have hVl : tV g n k ≤ 1000 := hVl
  have hBl := tB_le g n k
  refine J_aload_n C (dA DX6_isWord_0 0 rfl) rfl ?_
  refine G_X6_sorts C wF_RX6_11 (dA DX6_isWord_0 1 rfl) ?_
  refine J_aload_n C (dA DX6_isWord_0 2 rfl) rfl ?_
  refine G_X6_at C wF_RX6_21 (dA DX6_isWord_0 3 rfl) ?_
  rw [e4]
  refine R_1 C (hk := rfl) rfl (by omega) (dA DX6_isWord_0 4 rfl) ?_
  refine J_iconst (v := nI 1) C (dA DX6_isWord_0 5 rfl) (by decide) ?_
  rw [t1]
  refine J_icmp_ne_n (tgt := 30) C (by omega) (by decide) (dA DX6_isWord_0 6 rfl) (by decide) (fun h10 => ?_) (fun h10 => ?_)
  · refine J_iconst (v := nI 0) C (dA DX6_isWord_0 16 rfl) (by decide) ?_
    exact J_zret C G rfl (dA DX6_isWord_0 17 rfl) ⟨oi (zf (fun z => by omega)), rfl⟩
  · refine J_aload_n C (dA DX6_isWord_0 7 rfl) rfl ?_
    refine G_X6_values C wF_RX6_18 (dA DX6_isWord_0 8 rfl) ?_
    refine J_aload_n C (dA DX6_isWord_0 9 rfl) rfl ?_
    refine G_X6_at C wF_RX6_21 (dA DX6_isWord_0 10 rfl) ?_
    rw [e4]
    refine R_1 C (hk := rfl) rfl (by omega) (dA DX6_isWord_0 11 rfl) ?_
    refine J_iload_n C (dA DX6_isWord_0 12 rfl) rfl ?_
    rw [t3 (Or.inl (by omega))]
    refine J_icmp_ne_n (tgt := 30) C (by omega) (by omega) (dA DX6_isWord_0 13 rfl) (by decide) (fun h23 => ?_) (fun h23 => ?_)
    · refine J_iconst (v := nI 0) C (dA DX6_isWord_0 16 rfl) (by decide) ?_
      exact J_zret C G rfl (dA DX6_isWord_0 17 rfl) ⟨oi (zf (fun z => by omega)), rfl⟩
    · refine J_iconst (v := nI 1) C (dA DX6_isWord_0 14 rfl) (by decide) ?_
      refine J_goto (tgt := 31) C (dA DX6_isWord_0 15 rfl) (by decide) ?_
      exact J_zret C G rfl (dA DX6_isWord_0 17 rfl) ⟨oi (zt ⟨by omega, by omega⟩), rfl⟩
set_option maxRecDepth 4000 in
theorem c_X6_advance (l : Launch) (E : jE) (hn : n ≤ 120) (hT : TK g n M) (k : Nat) (hk : k ≤ tK g n) (e4 : M 544 = nI k) (hz : ¬ tS g n k = 0)  : K_X6_advance l E [.ref (ja E 45)] M (upd M 544 (nI (k + 1))) := by
  refine CT_intro (own := RX6) (by decide +kernel) rfl (by simp [Value.category]) (Nat.le_of_ble_eq_true rfl) rfl (fun X C G => ?_)
  show J E X 0 [some (.ref (ja E 45))] [] M
  have hK := (tK_p (g := g) hn).1
  obtain ⟨t1, t2, t3⟩ := hT k hk
  have hSl := oS_le g n (tB g n k)
  have hVl := oV_le g n (tB g n k)
  have hSl : tS g n k ≤ 4 := hSl
  have hVl : tV g n k ≤ 1000 := hVl
  have hBl := tB_le g n k
  have hks := tk_s hn hk hz
  refine J_aload_n C (dA DX6_advance_0 0 rfl) rfl ?_
  refine G_X6_sorts C wF_RX6_11 (dA DX6_advance_0 1 rfl) ?_
  refine J_aload_n C (dA DX6_advance_0 2 rfl) rfl ?_
  refine G_X6_at C wF_RX6_21 (dA DX6_advance_0 3 rfl) ?_
  rw [e4]
  refine R_1 C (hk := rfl) rfl (by omega) (dA DX6_advance_0 4 rfl) ?_
  rw [t1]
  refine J_if_eq_n (tgt := 31) C (by omega) (dA DX6_advance_0 5 rfl) (by decide) (fun h9 => ?_) (fun h9 => ?_)
  · exact absurd h9 hz
  · refine J_aload_n C (dA DX6_advance_0 6 rfl) rfl ?_
    refine G_X6_at C wF_RX6_21 (dA DX6_advance_0 7 rfl) ?_
    refine J_bipush (v := nI 120) C (dA DX6_advance_0 8 rfl) (by decide) ?_
    rw [e4]
    refine J_icmp_ge_n (tgt := 31) C (by omega) (by omega) (dA DX6_advance_0 9 rfl) (by decide) (fun h18 => ?_) (fun h18 => ?_)
    · exfalso; omega
    · refine J_aload_n C (dA DX6_advance_0 10 rfl) rfl ?_
      refine J_dup C (dA DX6_advance_0 11 rfl) rfl ?_
      refine G_X6_at C wF_RX6_21 (dA DX6_advance_0 12 rfl) ?_
      rw [e4]
      refine J_iconst (v := nI 1) C (dA DX6_advance_0 13 rfl) (by decide) ?_
      first | refine J_iadd_n C (dA DX6_advance_0 14 rfl) ?_ | refine J_iadd C (dA DX6_advance_0 14 rfl) ?_
      refine P_X6_at C wF_RX6_21 (dA DX6_advance_0 15 rfl) ?_
      exact J_vret C G (dA DX6_advance_0 16 rfl) ⟨rfl, rfl⟩
set_option maxRecDepth 4000 in
theorem c_X5_hasWord (l : Launch) (E : jE) (hn : n ≤ 120) (hT : TK g n M) (k : Nat) (hk : k ≤ tK g n) (e4 : M 544 = nI k) (fl : Int32) (e3 : M 543 = fl) (w : Nat) (hw : w < 1001)  : K_X5_hasWord l E [.ref (ja E 44), .int (nI w)] M (jb (decide (fl.toInt < 0) && hW g n k w)) (M) := by
  refine CT_intro (own := RX5) (by decide +kernel) rfl (by simp [Value.category]) (Nat.le_of_ble_eq_true rfl) rfl (fun X C G => ?_)
  show J E X 0 [some (.ref (ja E 44)), some (.int (nI w))] [] M
  refine J_aload_n C (dA DX5_hasWord_0 0 rfl) rfl ?_
  refine G_X5_fault C wF_RX5_18 (dA DX5_hasWord_0 1 rfl) ?_
  rw [e3]
  refine J_if_ge_t (tgt := 22) C (dA DX5_hasWord_0 2 rfl) (by decide) (fun h4 => ?_) (fun h4 => ?_)
  · refine J_iconst (v := nI 0) C (dA DX5_hasWord_0 10 rfl) (by decide) ?_
    exact J_zret C G rfl (dA DX5_hasWord_0 11 rfl) ⟨oi (bt_f (by rw [decide_eq_false (show ¬ fl.toInt < 0 by omega), Bool.false_and])), rfl⟩
  · refine J_aload_n C (dA DX5_hasWord_0 3 rfl) rfl ?_
    refine G_X5_tokens C wF_RX5_12 (dA DX5_hasWord_0 4 rfl) ?_
    refine J_iload_n C (dA DX5_hasWord_0 5 rfl) rfl ?_
    refine V_X6_isWord C (c_X6_isWord l E hn hT k hk e4 w hw) wM_RX5_95 (by decide) (dA DX5_hasWord_0 6 rfl) rfl (Nat.le_of_ble_eq_true rfl) ?_
    refine J_if_eq_b (tgt := 22) C (dA DX5_hasWord_0 7 rfl) (by decide) (fun h15 => ?_) (fun h15 => ?_)
    · refine J_iconst (v := nI 0) C (dA DX5_hasWord_0 10 rfl) (by decide) ?_
      exact J_zret C G rfl (dA DX5_hasWord_0 11 rfl) ⟨oi (bt_f (by rw [h15, Bool.and_false])), rfl⟩
    · refine J_iconst (v := nI 1) C (dA DX5_hasWord_0 8 rfl) (by decide) ?_
      refine J_goto (tgt := 23) C (dA DX5_hasWord_0 9 rfl) (by decide) ?_
      exact J_zret C G rfl (dA DX5_hasWord_0 11 rfl) ⟨oi (bt_t (by rw [decide_eq_true h4, h15]; rfl)), rfl⟩
set_option maxRecDepth 4000 in
theorem c_X5_hasNumber (l : Launch) (E : jE) (hn : n ≤ 120) (hT : TK g n M) (k : Nat) (hk : k ≤ tK g n) (e4 : M 544 = nI k) (fl : Int32) (e3 : M 543 = fl)  : K_X5_hasNumber l E [.ref (ja E 44)] M (jb (decide (fl.toInt < 0) && decide (tS g n k = 2))) (M) := by
  refine CT_intro (own := RX5) (by decide +kernel) rfl (by simp [Value.category]) (Nat.le_of_ble_eq_true rfl) rfl (fun X C G => ?_)
  show J E X 0 [some (.ref (ja E 44))] [] M
  refine J_aload_n C (dA DX5_hasNumber_0 0 rfl) rfl ?_
  refine G_X5_fault C wF_RX5_18 (dA DX5_hasNumber_0 1 rfl) ?_
  rw [e3]
  refine J_if_ge_t (tgt := 22) C (dA DX5_hasNumber_0 2 rfl) (by decide) (fun h4 => ?_) (fun h4 => ?_)
  · refine J_iconst (v := nI 0) C (dA DX5_hasNumber_0 10 rfl) (by decide) ?_
    exact J_zret C G rfl (dA DX5_hasNumber_0 11 rfl) ⟨oi (bt_f (by rw [decide_eq_false (show ¬ fl.toInt < 0 by omega), Bool.false_and])), rfl⟩
  · refine J_aload_n C (dA DX5_hasNumber_0 3 rfl) rfl ?_
    refine G_X5_tokens C wF_RX5_12 (dA DX5_hasNumber_0 4 rfl) ?_
    refine J_iconst (v := nI 2) C (dA DX5_hasNumber_0 5 rfl) (by decide) ?_
    refine V_X6_isSort C (c_X6_isSort l E hn hT k hk e4 2 (by decide)) wM_RX5_37 (by decide) (dA DX5_hasNumber_0 6 rfl) rfl (Nat.le_of_ble_eq_true rfl) ?_
    refine J_if_eq_b (tgt := 22) C (dA DX5_hasNumber_0 7 rfl) (by decide) (fun h15 => ?_) (fun h15 => ?_)
    · refine J_iconst (v := nI 0) C (dA DX5_hasNumber_0 10 rfl) (by decide) ?_
      exact J_zret C G rfl (dA DX5_hasNumber_0 11 rfl) ⟨oi (bt_f (by rw [h15, Bool.and_false])), rfl⟩
    · refine J_iconst (v := nI 1) C (dA DX5_hasNumber_0 8 rfl) (by decide) ?_
      refine J_goto (tgt := 23) C (dA DX5_hasNumber_0 9 rfl) (by decide) ?_
      exact J_zret C G rfl (dA DX5_hasNumber_0 11 rfl) ⟨oi (bt_t (by rw [decide_eq_true h4, h15]; rfl)), rfl⟩
set_option maxRecDepth 4000 in
theorem c_X5_hasSign (l : Launch) (E : jE) (hn : n ≤ 120) (hT : TK g n M) (k : Nat) (hk : k ≤ tK g n) (e4 : M 544 = nI k) (fl : Int32) (e3 : M 543 = fl)  : K_X5_hasSign l E [.ref (ja E 44)] M (jb (decide (fl.toInt < 0) && decide (tS g n k = 3))) (M) := by
  refine CT_intro (own := RX5) (by decide +kernel) rfl (by simp [Value.category]) (Nat.le_of_ble_eq_true rfl) rfl (fun X C G => ?_)
  show J E X 0 [some (.ref (ja E 44))] [] M
  refine J_aload_n C (dA DX5_hasSign_0 0 rfl) rfl ?_
  refine G_X5_fault C wF_RX5_18 (dA DX5_hasSign_0 1 rfl) ?_
  rw [e3]
  refine J_if_ge_t (tgt := 22) C (dA DX5_hasSign_0 2 rfl) (by decide) (fun h4 => ?_) (fun h4 => ?_)
  · refine J_iconst (v := nI 0) C (dA DX5_hasSign_0 10 rfl) (by decide) ?_
    exact J_zret C G rfl (dA DX5_hasSign_0 11 rfl) ⟨oi (bt_f (by rw [decide_eq_false (show ¬ fl.toInt < 0 by omega), Bool.false_and])), rfl⟩
  · refine J_aload_n C (dA DX5_hasSign_0 3 rfl) rfl ?_
    refine G_X5_tokens C wF_RX5_12 (dA DX5_hasSign_0 4 rfl) ?_
    refine J_iconst (v := nI 3) C (dA DX5_hasSign_0 5 rfl) (by decide) ?_
    refine V_X6_isSort C (c_X6_isSort l E hn hT k hk e4 3 (by decide)) wM_RX5_37 (by decide) (dA DX5_hasSign_0 6 rfl) rfl (Nat.le_of_ble_eq_true rfl) ?_
    refine J_if_eq_b (tgt := 22) C (dA DX5_hasSign_0 7 rfl) (by decide) (fun h15 => ?_) (fun h15 => ?_)
    · refine J_iconst (v := nI 0) C (dA DX5_hasSign_0 10 rfl) (by decide) ?_
      exact J_zret C G rfl (dA DX5_hasSign_0 11 rfl) ⟨oi (bt_f (by rw [h15, Bool.and_false])), rfl⟩
    · refine J_iconst (v := nI 1) C (dA DX5_hasSign_0 8 rfl) (by decide) ?_
      refine J_goto (tgt := 23) C (dA DX5_hasSign_0 9 rfl) (by decide) ?_
      exact J_zret C G rfl (dA DX5_hasSign_0 11 rfl) ⟨oi (bt_t (by rw [decide_eq_true h4, h15]; rfl)), rfl⟩
set_option maxRecDepth 4000 in
theorem c_X5_hasKind (l : Launch) (E : jE) (hn : n ≤ 120) (hT : TK g n M) (k : Nat) (hk : k ≤ tK g n) (e4 : M 544 = nI k) (fl : Int32) (e3 : M 543 = fl)  : K_X5_hasKind l E [.ref (ja E 44)] M (jb (decide (fl.toInt < 0) && decide (tS g n k = 1 ∧ tV g n k < 7))) (M) := by
  refine CT_intro (own := RX5) (by decide +kernel) rfl (by simp [Value.category]) (Nat.le_of_ble_eq_true rfl) rfl (fun X C G => ?_)
  show J E X 0 [some (.ref (ja E 44))] [] M
  have hK := (tK_p (g := g) hn).1
  obtain ⟨t1, t2, t3⟩ := hT k hk
  have hSl := oS_le g n (tB g n k)
  have hVl := oV_le g n (tB g n k)
  have hSl : tS g n k ≤ 4 := hSl
  have hVl : tV g n k ≤ 1000 := hVl
  have hBl := tB_le g n k
  refine J_aload_n C (dA DX5_hasKind_0 0 rfl) rfl ?_
  refine G_X5_fault C wF_RX5_18 (dA DX5_hasKind_0 1 rfl) ?_
  rw [e3]
  refine J_if_ge_t (tgt := 34) C (dA DX5_hasKind_0 2 rfl) (by decide) (fun h4 => ?_) (fun h4 => ?_)
  · refine J_iconst (v := nI 0) C (dA DX5_hasKind_0 15 rfl) (by decide) ?_
    exact J_zret C G rfl (dA DX5_hasKind_0 16 rfl) ⟨oi (bt_f (by rw [decide_eq_false (show ¬ fl.toInt < 0 by omega), Bool.false_and])), rfl⟩
  · refine J_aload_n C (dA DX5_hasKind_0 3 rfl) rfl ?_
    refine G_X5_tokens C wF_RX5_12 (dA DX5_hasKind_0 4 rfl) ?_
    refine J_iconst (v := nI 1) C (dA DX5_hasKind_0 5 rfl) (by decide) ?_
    refine V_X6_isSort C (c_X6_isSort l E hn hT k hk e4 1 (by decide)) wM_RX5_37 (by decide) (dA DX5_hasKind_0 6 rfl) rfl (Nat.le_of_ble_eq_true rfl) ?_
    refine J_if_eq_b (tgt := 34) C (dA DX5_hasKind_0 7 rfl) (by decide) (fun h15 => ?_) (fun h15 => ?_)
    · refine J_iconst (v := nI 0) C (dA DX5_hasKind_0 15 rfl) (by decide) ?_
      exact J_zret C G rfl (dA DX5_hasKind_0 16 rfl) ⟨oi (bt_f (by rw [decide_eq_false (show ¬ (tS g n k = 1 ∧ tV g n k < 7) from fun z => of_decide_eq_false h15 z.1), Bool.and_false])), rfl⟩
    · have hs := of_decide_eq_true h15
      refine J_aload_n C (dA DX5_hasKind_0 8 rfl) rfl ?_
      refine G_X5_tokens C wF_RX5_12 (dA DX5_hasKind_0 9 rfl) ?_
      refine V_X6_value C (c_X6_value l E hn hT k hk e4) wM_RX5_64 (by decide) (dA DX5_hasKind_0 10 rfl) rfl (Nat.le_of_ble_eq_true rfl) ?_
      rw [t3 (Or.inl hs)]
      refine J_bipush (v := nI 7) C (dA DX5_hasKind_0 11 rfl) (by decide) ?_
      refine J_icmp_ge_n (tgt := 34) C (by omega) (by omega) (dA DX5_hasKind_0 12 rfl) (by decide) (fun h27 => ?_) (fun h27 => ?_)
      · refine J_iconst (v := nI 0) C (dA DX5_hasKind_0 15 rfl) (by decide) ?_
        exact J_zret C G rfl (dA DX5_hasKind_0 16 rfl) ⟨oi (bt_f (by rw [decide_eq_false (show ¬ (tS g n k = 1 ∧ tV g n k < 7) from fun z => by omega), Bool.and_false])), rfl⟩
      · refine J_iconst (v := nI 1) C (dA DX5_hasKind_0 13 rfl) (by decide) ?_
        refine J_goto (tgt := 35) C (dA DX5_hasKind_0 14 rfl) (by decide) ?_
        exact J_zret C G rfl (dA DX5_hasKind_0 16 rfl) ⟨oi (bt_t (by rw [decide_eq_true h4, decide_eq_true (show tS g n k = 1 ∧ tV g n k < 7 from ⟨hs, h27⟩)]; rfl)), rfl⟩
set_option maxRecDepth 4000 in
theorem c_X5_fail0 (l : Launch) (E : jE) (hn : n ≤ 120) (hT : TK g n M) (k : Nat) (hk : k ≤ tK g n) (e4 : M 544 = nI k) (e3 : M 543 = -1)  : K_X5_fail l E [.ref (ja E 44)] M (upd M 543 (nI (tB g n k))) := by
  refine CT_intro (own := RX5) (by decide +kernel) rfl (by simp [Value.category]) (Nat.le_of_ble_eq_true rfl) rfl (fun X C G => ?_)
  show J E X 0 [some (.ref (ja E 44))] [] M
  refine J_aload_n C (dA DX5_fail_0 0 rfl) rfl ?_
  refine G_X5_fault C wF_RX5_18 (dA DX5_fail_0 1 rfl) ?_
  rw [e3]
  refine J_if_ge (tgt := 18) C (dA DX5_fail_0 2 rfl) (by decide) (fun h4 => ?_) (fun h4 => ?_)
  · exact absurd h4 (by decide)
  · refine J_aload_n C (dA DX5_fail_0 3 rfl) rfl ?_
    refine J_aload_n C (dA DX5_fail_0 4 rfl) rfl ?_
    refine G_X5_tokens C wF_RX5_12 (dA DX5_fail_0 5 rfl) ?_
    refine V_X6_begin C (c_X6_begin l E hn hT k hk e4) wM_RX5_98 (by decide) (dA DX5_fail_0 6 rfl) rfl (Nat.le_of_ble_eq_true rfl) ?_
    refine P_X5_fault C wF_RX5_18 (dA DX5_fail_0 7 rfl) ?_
    exact J_vret C G (dA DX5_fail_0 8 rfl) ⟨rfl, rfl⟩
set_option maxRecDepth 4000 in
theorem c_X5_fail1 (l : Launch) (E : jE) (fl : Int32) (e3 : M 543 = fl) (h0 : 0 ≤ fl.toInt)  : K_X5_fail l E [.ref (ja E 44)] M (M) := by
  refine CT_intro (own := RX5) (by decide +kernel) rfl (by simp [Value.category]) (Nat.le_of_ble_eq_true rfl) rfl (fun X C G => ?_)
  show J E X 0 [some (.ref (ja E 44))] [] M
  refine J_aload_n C (dA DX5_fail_0 0 rfl) rfl ?_
  refine G_X5_fault C wF_RX5_18 (dA DX5_fail_0 1 rfl) ?_
  rw [e3]
  refine J_if_ge_t (tgt := 18) C (dA DX5_fail_0 2 rfl) (by decide) (fun h4 => ?_) (fun h4 => ?_)
  · exact J_vret C G (dA DX5_fail_0 8 rfl) ⟨rfl, rfl⟩
  · exfalso; omega
end PA
