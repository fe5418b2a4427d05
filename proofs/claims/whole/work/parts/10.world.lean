/-! THE WORLD: 75 cells, whose addresses are variables; what they hold lies in one flat memory M -/
abbrev jM : Type := Nat → Int32
/-- the classes' numbers and slots; the cells' addresses; the array types (int, char, int rows, Sheet); the static tables' addresses; the texts' and their rows' -/
abbrev jE : Type := (Nat → ClassId) × (Nat → Nat → Nat) × (Nat → Nat) × (Nat → ClassId) × (Nat → Nat) × (Nat → Nat) × (Nat → Nat)
def ja (E : jE) (k : Nat) : Nat := E.2.2.1 k
def jt (E : jE) (k : Nat) : Nat := E.2.2.2.2.1 k
abbrev jcl : List vw_C := [(RX0, TX0, 4), (RX1, TX1, 7), (RX2, TX2, 1), (RX3, TX3, 3), (RX4, TX4, 2), (RX5, TX5, 2), (RX6, TX6, 4), (RX7, TX7, 10), (RX8, TX8, 24)]
abbrev jty (E : jE) : List (ClassId × FieldType) := [(E.2.2.2.1 0, .int), (E.2.2.2.1 1, .char), (E.2.2.2.1 2, .array .int), (E.2.2.2.1 3, .object RX3)]
/-- a cell: a row of numbers (type, how many, first place, step), a row of cells (type, which), an object (number of its kind, fields: a cell, a place, two places for a long) -/
abbrev jd : Type := (Nat × Nat × Nat × Nat) ⊕ ((Nat × List Nat) ⊕ (Nat × List (Nat ⊕ (Nat ⊕ (Nat × Nat)))))
def jmk (a b : Int32) : Int64 := Int64.ofBitVec (a.toBitVec ++ b.toBitVec)
def jhi (x : Int64) : Int32 := Int32.ofBitVec (x.toBitVec.extractLsb' 32 32)
def jlo (x : Int64) : Int32 := Int32.ofBitVec (x.toBitVec.extractLsb' 0 32)
theorem jmk_hl (x : Int64) : jmk (jhi x) (jlo x) = x := by
  apply Int64.toBitVec_inj.mp
  show (x.toBitVec.extractLsb' 32 32 ++ x.toBitVec.extractLsb' 0 32) = x.toBitVec
  ext i hi
  simp only [BitVec.getElem_append, BitVec.getElem_extractLsb']
  by_cases h : i < 32
  · simp [h, BitVec.getLsbD_eq_getElem hi]
  · simp only [h, dite_false]
    rw [show 32 + (i - 32) = i by omega, BitVec.getLsbD_eq_getElem hi]
def jv (E : jE) (M : jM) : Nat ⊕ (Nat ⊕ (Nat × Nat)) → Value
  | .inl k => .ref (ja E k)
  | .inr (.inl a) => .int (M a)
  | .inr (.inr q) => .long (jmk (M q.1) (M q.2))
def jcA (M : jM) (n b s : Nat) : Nat → Int32 := fun i => if i < n then M (b + s * i) else 0
def jcR (E : jE) (ks : List Nat) : Nat → Option Nat := fun i => (ks[i]?).map (ja E)
def jc (E : jE) (M : jM) : jd → va_E
  | .inl d => .inl (E.2.2.2.1 d.1, d.2.1, .inl (jcA M d.2.1 d.2.2.1 d.2.2.2))
  | .inr (.inl d) => .inl (E.2.2.2.1 d.1, d.2.length, .inr (.inr (.inr (.inr (jcR E d.2)))))
  | .inr (.inr d) => .inr (d.1, d.2.map (jv E M))
def jL : List jd := [
  .inr (.inr (1, [.inl 1, .inl 8, .inl 12, .inr (.inl 1), .inr (.inl 3), .inr (.inl 0), .inr (.inl 2)])),
  .inr (.inl (2, [2, 3, 4, 5, 6, 7])),
  .inl (0, 16, 4, 6),
  .inl (0, 16, 5, 6),
  .inl (0, 16, 6, 6),
  .inl (0, 16, 7, 6),
  .inl (0, 16, 8, 6),
  .inl (0, 16, 9, 6),
  .inr (.inl (2, [9, 10, 11])),
  .inl (0, 8, 100, 3),
  .inl (0, 8, 101, 3),
  .inl (0, 8, 102, 3),
  .inl (0, 10, 124, 1),
  .inr (.inr (1, [.inl 14, .inl 21, .inl 25, .inr (.inl 135), .inr (.inl 137), .inr (.inl 134), .inr (.inl 136)])),
  .inr (.inl (2, [15, 16, 17, 18, 19, 20])),
  .inl (0, 16, 138, 6),
  .inl (0, 16, 139, 6),
  .inl (0, 16, 140, 6),
  .inl (0, 16, 141, 6),
  .inl (0, 16, 142, 6),
  .inl (0, 16, 143, 6),
  .inr (.inl (2, [22, 23, 24])),
  .inl (0, 8, 234, 3),
  .inl (0, 8, 235, 3),
  .inl (0, 8, 236, 3),
  .inl (0, 10, 258, 1),
  .inr (.inr (1, [.inl 27, .inl 34, .inl 38, .inr (.inl 269), .inr (.inl 271), .inr (.inl 268), .inr (.inl 270)])),
  .inr (.inl (2, [28, 29, 30, 31, 32, 33])),
  .inl (0, 16, 272, 6),
  .inl (0, 16, 273, 6),
  .inl (0, 16, 274, 6),
  .inl (0, 16, 275, 6),
  .inl (0, 16, 276, 6),
  .inl (0, 16, 277, 6),
  .inr (.inl (2, [35, 36, 37])),
  .inl (0, 8, 368, 3),
  .inl (0, 8, 369, 3),
  .inl (0, 8, 370, 3),
  .inl (0, 10, 392, 1),
  .inr (.inr (0, [.inr (.inl 402), .inr (.inl 403), .inr (.inl 404), .inr (.inl 405)])),
  .inr (.inr (2, [.inl 41])),
  .inl (0, 16, 406, 1),
  .inr (.inr (4, [.inl 43, .inr (.inl 422)])),
  .inl (0, 120, 423, 1),
  .inr (.inr (5, [.inl 45, .inr (.inl 543)])),
  .inr (.inr (6, [.inl 46, .inl 47, .inl 48, .inr (.inl 544)])),
  .inl (0, 121, 545, 1),
  .inl (0, 121, 666, 1),
  .inl (0, 121, 787, 1),
  .inr (.inl (3, [50, 51, 52, 53])),
  .inr (.inr (3, [.inl 54, .inr (.inl 908), .inr (.inl 909)])),
  .inr (.inr (3, [.inl 55, .inr (.inl 950), .inr (.inl 951)])),
  .inr (.inr (3, [.inl 56, .inr (.inl 992), .inr (.inl 993)])),
  .inr (.inr (3, [.inl 57, .inr (.inl 1034), .inr (.inl 1035)])),
  .inl (0, 40, 910, 1),
  .inl (0, 40, 952, 1),
  .inl (0, 40, 994, 1),
  .inl (0, 40, 1036, 1),
  .inl (0, 7, 1076, 1),
  .inr (.inr (7, [.inl 0, .inl 13, .inl 26, .inr (.inl 1083), .inl 39, .inl 40, .inl 42, .inl 44, .inl 49, .inl 58])),
  .inr (.inr (8, [.inl 61, .inl 62, .inl 63, .inr (.inl 1853), .inl 64, .inr (.inl 1854), .inr (.inl 1855), .inr (.inl 1856), .inr (.inl 1857), .inl 65, .inl 66, .inr (.inl 1858), .inr (.inl 1859), .inr (.inl 1860), .inr (.inl 1861), .inr (.inr (2006, 2007)), .inl 71, .inl 72, .inl 73, .inl 74, .inl 67, .inl 68, .inl 69, .inl 70])),
  .inl (0, 134, 1100, 1),
  .inl (0, 134, 1234, 1),
  .inl (0, 134, 1368, 1),
  .inl (0, 7, 1502, 1),
  .inl (0, 16, 1509, 1),
  .inl (0, 120, 1525, 1),
  .inl (0, 4, 1645, 1),
  .inl (0, 4, 1649, 1),
  .inl (0, 160, 1653, 1),
  .inl (0, 40, 1813, 1),
  .inl (1, 56, 1862, 1),
  .inl (1, 16, 1918, 1),
  .inl (1, 24, 1934, 1),
  .inl (1, 48, 1958, 1)]
def jW (E : jE) (M : jM) : va_W := jL.mapIdx (fun k d => (ja E k, jc E M d))
theorem jW_at {E : jE} {M : jM} {k : Nat} {d : jd} (h : jL[k]? = some d) : (jW E M)[k]? = some (ja E k, jc E M d) := by
  simp [jW, List.getElem?_mapIdx, h]
theorem jW_of {E : jE} {M : jM} {k : Nat} {q : Nat × va_E} (h : (jW E M)[k]? = some q) : ∃ d, jL[k]? = some d ∧ q = (ja E k, jc E M d) := by
  simp only [jW, List.getElem?_mapIdx] at h
  cases hd : jL[k]? with
  | none => simp [hd] at h
  | some d =>
    simp only [hd, Option.map_some, Option.some.injEq] at h
    exact ⟨d, rfl, h.symm⟩
/-- whose place a place is -/
def jown (a : Nat) : Nat := if a < 402 then (if a % 134 < 4 then 13 * (a / 134) else if a % 134 < 100 then 13 * (a / 134) + 2 + (a % 134 - 4) % 6 else if a % 134 < 124 then 13 * (a / 134) + 9 + (a % 134 - 100) % 3 else 13 * (a / 134) + 12) else if a < 406 then 39 else if a < 422 then 41 else if a < 423 then 42 else if a < 543 then 43 else if a < 544 then 44 else if a < 545 then 45 else if a < 666 then 46 else if a < 787 then 47 else if a < 908 then 48 else if a < 910 then 50 else if a < 950 then 54 else if a < 952 then 51 else if a < 992 then 55 else if a < 994 then 52 else if a < 1034 then 56 else if a < 1036 then 53 else if a < 1076 then 57 else if a < 1083 then 58 else if a < 1084 then 59 else if a < 1100 then 999 else if a < 1234 then 61 else if a < 1368 then 62 else if a < 1502 then 63 else if a < 1509 then 64 else if a < 1525 then 65 else if a < 1645 then 66 else if a < 1649 then 67 else if a < 1653 then 68 else if a < 1813 then 69 else if a < 1853 then 70 else if a < 1862 then 60 else if a < 1918 then 71 else if a < 1934 then 72 else if a < 1958 then 73 else if a < 2006 then 74 else if a < 2008 then 60 else 999
def jplS : Nat ⊕ (Nat ⊕ (Nat × Nat)) → List Nat
  | .inl _ => []
  | .inr (.inl a) => [a]
  | .inr (.inr q) => [q.1, q.2]
def jpl : jd → List Nat
  | .inl d => (List.range d.2.1).map (fun i => d.2.2.1 + d.2.2.2 * i)
  | .inr (.inl _) => []
  | .inr (.inr d) => d.2.flatMap jplS
theorem jown_all : (jL.zipIdx.all (fun q => (jpl q.1).all (fun a => jown a == q.2))) = true := by decide +kernel
theorem jown_of {k : Nat} {d : jd} (h : jL[k]? = some d) {a : Nat} (ha : a ∈ jpl d) : jown a = k := by
  have h1 := List.all_eq_true.mp jown_all (d, k) (List.mem_of_getElem? (i := k) (by simp [h]))
  have h2 := List.all_eq_true.mp h1 a ha
  simpa using h2
theorem jv_same {E : jE} {M M' : jM} {q : Nat ⊕ (Nat ⊕ (Nat × Nat))} (h : ∀ a ∈ jplS q, M' a = M a) : jv E M' q = jv E M q := by
  rcases q with k | a | ⟨a, b⟩
  · rfl
  · simp only [jv]; rw [h a (by simp [jplS])]
  · simp only [jv]; rw [h a (by simp [jplS]), h b (by simp [jplS])]
theorem jc_same {E : jE} {M M' : jM} {d : jd} (h : ∀ a ∈ jpl d, M' a = M a) : jc E M' d = jc E M d := by
  rcases d with ⟨t, n, b, s⟩ | ⟨t, ks⟩ | ⟨ci, sl⟩
  · have e : jcA M' n b s = jcA M n b s := by
      funext i
      unfold jcA
      by_cases hi : i < n
      · rw [if_pos hi, if_pos hi]
        exact h _ (List.mem_map.mpr ⟨i, List.mem_range.mpr hi, rfl⟩)
      · rw [if_neg hi, if_neg hi]
    simp only [jc, e]
  · rfl
  · have e : sl.map (jv E M') = sl.map (jv E M) := List.map_congr_left (fun q hq => jv_same (fun a ha => h a (List.mem_flatMap.mpr ⟨q, hq, ha⟩)))
    simp only [jc, e]
/-- a write to one cell's places changes that cell alone -/
theorem jW_set {E : jE} {M M' : jM} {k : Nat} {d : jd} (h : jL[k]? = some d) (hM : ∀ a, jown a ≠ k → M' a = M a) : (jW E M).set k (ja E k, jc E M' d) = jW E M' := by
  apply List.ext_getElem?
  intro j
  by_cases hj : k = j
  · subst hj
    rw [List.getElem?_set_self (List.getElem?_eq_some_iff.mp (jW_at (E := E) (M := M) h)).1, jW_at h]
  · rw [List.getElem?_set_ne hj]
    cases hd : jL[j]? with
    | none => simp [jW, List.getElem?_mapIdx, hd]
    | some d2 =>
      rw [jW_at hd, jW_at hd, jc_same (M := M) (M' := M') (fun a ha => hM a (by rw [jown_of hd ha]; exact fun z => hj z.symm))]
def jA (E : jE) (sz : Nat) : Nat → Prop := fun q => (∃ k, k < 75 ∧ q = ja E k) ∨ sz ≤ q
def jI (E : jE) : Prop := ∀ i j, i < 75 → j < 75 → ja E i = ja E j → i = j
theorem jL_len : jL.length = 75 := by decide +kernel
theorem jL_lt {k : Nat} {d : jd} (h : jL[k]? = some d) : k < 75 := by
  have := (List.getElem?_eq_some_iff.mp h).1
  rw [jL_len] at this
  exact this
theorem jD_of {E : jE} {A : Nat → Prop} {M : jM} (hI : jI E) (hA : ∀ k, k < 75 → A (ja E k)) : va_D A (jW E M) := by
  refine ⟨fun i j p q hi hj e => ?_, fun k q hk => ?_⟩
  · obtain ⟨d1, h1, rfl⟩ := jW_of hi
    obtain ⟨d2, h2, rfl⟩ := jW_of hj
    exact hI i j (jL_lt h1) (jL_lt h2) e
  · obtain ⟨d1, h1, rfl⟩ := jW_of hk
    exact hA k (jL_lt h1)
/-! the locals, place by place -/
def jlv : Nat → List (Option Value) → List (Nat × Value)
  | _, [] => []
  | i, none :: r => jlv (i + 1) r
  | i, some v :: r => (i, v) :: jlv (i + 1) r
theorem mem_jlv : ∀ (lv : List (Option Value)) (k : Nat) (q : Nat × Value), q ∈ jlv k lv ↔ ∃ j, lv[j]? = some (some q.2) ∧ q.1 = k + j
  | [], k, q => by simp [jlv]
  | none :: r, k, q => by
    simp only [jlv]
    rw [mem_jlv r (k + 1) q]
    constructor
    · rintro ⟨j, h1, h2⟩
      exact ⟨j + 1, by simpa using h1, by omega⟩
    · rintro ⟨j, h1, h2⟩
      cases j with
      | zero => simp at h1
      | succ j => exact ⟨j, by simpa using h1, by omega⟩
  | some v :: r, k, q => by
    simp only [jlv, List.mem_cons]
    rw [mem_jlv r (k + 1) q]
    constructor
    · rintro (h | ⟨j, h1, h2⟩)
      · subst h
        exact ⟨0, by simp, by simp⟩
      · exact ⟨j + 1, by simpa using h1, by omega⟩
    · rintro ⟨j, h1, h2⟩
      cases j with
      | zero =>
        simp at h1
        subst h1
        exact Or.inl (by cases q; simp_all)
      | succ j => exact Or.inr ⟨j, by simpa using h1, by omega⟩
theorem jget {ls : Array Slot} {n i : Nat} {lv : List (Option Value)} {v : Value} (h : lv_has ls n (jlv 0 lv)) (hi : lv[i]? = some (some v)) : ls[i]? = some (.val v) :=
  h.2.2 (i, v) ((mem_jlv lv 0 (i, v)).mpr ⟨i, hi, by simp⟩)
def jok (lv : List (Option Value)) : Nat → Bool
  | 0 => true
  | i + 1 => match lv[i]? with
    | some (some v) => v.category != 2
    | _ => true
theorem jset1 {ls : Array Slot} {n i : Nat} {lv : List (Option Value)} {v : Value} (hk : jok lv i = true) (h : lv_has ls n ((i, v) :: (jlv 0 lv).filter (fun q => !(q.1 == i) && !(q.1 + 1 == i && q.2.category == 2)))) : lv_has ls n (jlv 0 (lv.set i (some v))) := by
  refine ⟨h.1, h.2.1, fun q hq => h.2.2 q ?_⟩
  obtain ⟨j, h1, h2⟩ := (mem_jlv _ _ _).mp hq
  rw [Nat.zero_add] at h2
  subst h2
  by_cases hj : q.1 = i
  · have hl : i < lv.length := by
      have := (List.getElem?_eq_some_iff.mp h1).1
      rw [List.length_set, hj] at this
      exact this
    rw [hj, List.getElem?_set_self hl] at h1
    cases q
    simp at h1 hj
    subst h1; subst hj
    exact List.mem_cons_self
  · rw [List.getElem?_set_ne (fun z => hj z.symm)] at h1
    refine List.mem_cons_of_mem _ (List.mem_filter.mpr ⟨(mem_jlv _ _ _).mpr ⟨q.1, h1, by simp⟩, ?_⟩)
    by_cases hj1 : q.1 + 1 = i
    · subst hj1
      simp only [jok, h1] at hk
      simp at hk
      simp [hk]
    · simp [hj, hj1]
theorem jset2 {ls : Array Slot} {n i : Nat} {lv : List (Option Value)} {v : Value} (hk : jok lv i = true) (h : lv_has ls n ((i, v) :: (jlv 0 lv).filter (fun q => !(q.1 == i) && (!(q.1 == i + 1) && !(q.1 + 1 == i && q.2.category == 2))))) : lv_has ls n (jlv 0 ((lv.set i (some v)).set (i + 1) none)) := by
  refine ⟨h.1, h.2.1, fun q hq => h.2.2 q ?_⟩
  obtain ⟨j, h1, h2⟩ := (mem_jlv _ _ _).mp hq
  rw [Nat.zero_add] at h2
  subst h2
  have hj2 : q.1 ≠ i + 1 := by
    intro z
    have hl := (List.getElem?_eq_some_iff.mp h1).1
    rw [List.length_set, z] at hl
    rw [z, List.getElem?_set_self hl] at h1
    simp at h1
  rw [List.getElem?_set_ne (fun z => hj2 z.symm)] at h1
  by_cases hj : q.1 = i
  · have hl : i < lv.length := by
      have := (List.getElem?_eq_some_iff.mp h1).1
      rw [List.length_set, hj] at this
      exact this
    rw [hj, List.getElem?_set_self hl] at h1
    cases q
    simp at h1 hj
    subst h1; subst hj
    exact List.mem_cons_self
  · rw [List.getElem?_set_ne (fun z => hj z.symm)] at h1
    refine List.mem_cons_of_mem _ (List.mem_filter.mpr ⟨(mem_jlv _ _ _).mpr ⟨q.1, h1, by simp⟩, ?_⟩)
    by_cases hj1 : q.1 + 1 = i
    · subst hj1
      simp only [jok, h1] at hk
      simp at hk
      simp [hk]
      omega
    · simp [hj, hj1, hj2]
theorem jent : ∀ (vs : List Value) (k i : Nat), (∀ v ∈ vs, v.category = 1) → jlv i (vs.map some ++ List.replicate k none) = lv_args i vs
  | [], k, i, _ => by
    induction k generalizing i with
    | zero => rfl
    | succ k ih => simp only [List.map_nil, List.nil_append, List.replicate_succ, jlv, lv_args] at ih ⊢; exact ih (i + 1)
  | v :: vs, k, i, h => by
    have hv := h v List.mem_cons_self
    simp only [List.map_cons, List.cons_append, jlv, lv_args, hv]
    rw [jent vs k (i + 1) (fun w hw => h w (List.mem_cons_of_mem _ hw))]
    rfl
/-! what a machine's state gives beside the cells: static tables, texts, the words of nest mates -/
def jtN (k : Nat) : String := match k with
  | 0 => "POND_LEAST"
  | 1 => "POND_MOST"
  | 2 => "THING_LEAST"
  | 3 => "THING_MOST"
  | _ => "KINDS_OF"
def jtV (k : Nat) : List Int32 := match k with
  | 0 => [0, 1, 0, 0, 0, 0]
  | 1 => [15, 9, 3, 1, 15, 99]
  | 2 => [0, 0, 1]
  | 3 => [6, 15, 99]
  | _ => [127, 66, 28, 24, 16, 32, 64]
def jNF : List Cond := [.fieldLinkNest RX1 42 RX7 "KINDS_OF" "[I" RX7, .fieldLinkNest RX5 68 RX7 "THING_LEAST" "[I" RX7, .fieldLinkNest RX5 72 RX7 "THING_MOST" "[I" RX7, .fieldLinkNest RX5 86 RX7 "POND_LEAST" "[I" RX7, .fieldLinkNest RX5 89 RX7 "POND_MOST" "[I" RX7]
def jsB : List (List Int32) := [[116, 104, 105, 110, 103], [102, 105, 115, 104], [100, 117, 99, 107], [102, 114, 111, 103], [104, 101, 114, 111, 110], [99, 111, 114, 107], [112, 105, 107, 101], [115, 104, 111, 119, 115], [115, 105, 122, 101], [116, 117, 114, 110, 101, 100], [102, 108, 105, 112, 112, 101, 100], [100, 105, 116, 99, 104], [100, 101, 112, 116, 104], [105, 110], [108, 111, 110, 103], [112, 111, 110, 100], [114, 97, 105, 110], [100, 114, 121]]
def jsT : List (Nat × String) := [(95, "thing"), (61, "fish"), (63, "duck"), (65, "frog"), (67, "heron"), (69, "cork"), (71, "pike"), (73, "shows"), (75, "size"), (77, "turned"), (79, "flipped"), (81, "ditch"), (83, "depth"), (85, "in"), (87, "long"), (89, "pond"), (91, "rain"), (93, "dry")]
def jF (E : jE) (A : Nat → Prop) (U : State) (H : Heap) : Prop :=
  (∀ k, k < 5 → va_Z RX7 (jtN k) "[I" (.ref (jt E k)) A U H ∧ va_T .int (jt E k) (jtV k).length (fun j => .int ((jtV k).getD j 0)) A U H) ∧
  (∀ w ∈ jNF, va_Nw w U) ∧
  vk_S 18 (jsB.map List.length) jsB E.2.2.2.2.2.1 E.2.2.2.2.2.2 A U H ∧
  (∀ i, i < 18 → vk_R RX6 ((jsT.getD i (0, "")).1) ((jsT.getD i (0, "")).2) (E.2.2.2.2.2.1 i) U) ∧
  va_Z "java/lang/String" "COMPACT_STRINGS" "Z" (.int 1) A U H ∧
  va_Zq "jdk/internal/util/Preconditions" "SIOOBE_FORMATTER" "Ljava/util/function/BiFunction;" A U H
theorem jNw {w : Cond} (hw : w ∈ jNF) {s U : State} (hW : s.WarmedH U.vm) (h : va_Nw w s) : va_Nw w U := by
  simp only [jNF, List.mem_cons, List.not_mem_nil, or_false] at hw
  rcases hw with rfl | rfl | rfl | rfl | rfl <;> exact va_Nw.warmF hW h
theorem jF.go {E : jE} {A B : Nat → Prop} {s U : State} {H0 H : Heap} {locs : List Loc} (h : jF E A s H0) (hS : va_S A H0 H locs) (hAB : ∀ q, B q → A q) (hW : s.WarmedH U.vm) : jF E B U H := by
  obtain ⟨h1, h2, h3, h4, h5, h6⟩ := h
  have hq := hS.2.1
  have hv := hW.alike
  refine ⟨fun k hk => ⟨va_Z.moved hv (((h1 k hk).1.kept hq).narrow hAB), va_T.moved hv (((h1 k hk).2.kept hq).narrow hAB)⟩, fun w hw => jNw hw hW (h2 w hw), vk_S.moved hv ((h3.kept hq).narrow hAB), fun i hi => (h4 i hi).warm hW, va_Z.moved hv ((h5.kept hq).narrow hAB), va_Zq.moved hv ((h6.kept hq).narrow hAB)⟩
theorem jF.blind {E : jE} {A : Nat → Prop} {U : State} {H : Heap} (g : JFrame) (mk : MethodId) (a : Array Value) (h : jF E A U H) : jF E A (U.calling g mk a) H := by
  obtain ⟨h1, h2, h3, h4, h5, h6⟩ := h
  have hv : U.vm.Alike (U.calling g mk a).vm := Vm.Alike.refl U.vm
  refine ⟨fun k hk => ⟨va_Z.moved hv (h1 k hk).1, va_T.moved hv (h1 k hk).2⟩, fun w hw => va_Nw.same (u := U) (U := U.calling g mk a) ?_ rfl (h2 w hw), vk_S.moved hv h3, fun i hi => (h4 i hi).same rfl, va_Z.moved hv h5, va_Zq.moved hv h6⟩
  simp only [jNF, List.mem_cons, List.not_mem_nil, or_false] at hw
  rcases hw with rfl | rfl | rfl | rfl | rfl <;> rfl
