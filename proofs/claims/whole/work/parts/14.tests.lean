section JT
variable {l : Launch} {E : jE} {X : jX} {own : String} {cc : ByteArray} {nL d : Nat} {pc : Nat} {lv : List (Option Value)} {st : List Value} {M : jM}
theorem oi {v v' : Int32} (h : v = v') : some (Value.int v) = some (Value.int v') := by rw [h]
theorem zt {p : Prop} [Decidable p] (h : p) : nI 1 = jb (decide p) := by simp [jb, h]; rfl
theorem zf {p : Prop} [Decidable p] (h : ¬ p) : nI 0 = jb (decide p) := by simp [jb, h]; rfl
theorem bt_t {b : Bool} (h : b = true) : nI 1 = jb b := by rw [h]; rfl
theorem bt_f {b : Bool} (h : b = false) : nI 0 = jb b := by rw [h]; rfl
theorem toNI {x : Int32} {n : Nat} (h0 : 0 ≤ x.toInt) (h1 : x.toInt < n) : ∃ j : Nat, j < n ∧ x = nI j := by
  have hx := Int32.toInt_lt x
  refine ⟨x.toInt.toNat, by omega, Int32.toInt_inj.mp ?_⟩
  rw [nI_toInt (by omega)]
  omega
theorem tI {n : Nat} (h : n < 2 ^ 31) : (nI n).toInt = (n : Int) := nI_toInt h
theorem t0 : (0 : Int32).toInt = 0 := by decide
/-- a number in bounds, as a test -/
def inr (x : Int32) (a b : Int) : Bool := decide (a ≤ x.toInt ∧ x.toInt ≤ b)
theorem inr_t {x : Int32} {a b : Int} (h : inr x a b = true) : a ≤ x.toInt ∧ x.toInt ≤ b := of_decide_eq_true h
theorem inr_f {x : Int32} {a b : Int} (h : inr x a b = false) : ¬ (a ≤ x.toInt ∧ x.toInt ≤ b) := of_decide_eq_false h
theorem inr_n {n : Nat} {a b : Int} (h : n < 2 ^ 31) : inr (nI n) a b = decide (a ≤ (n : Int) ∧ (n : Int) ≤ b) := by unfold inr; rw [tI h]
theorem inr_of {x : Int32} {b : Nat} (h : inr x 0 b = true) : ∃ j : Nat, j ≤ b ∧ x = nI j := by
  have h1 := inr_t h
  obtain ⟨j, hj, e⟩ := toNI (n := b + 1) h1.1 (by omega)
  exact ⟨j, by omega, e⟩
theorem J_icmp_eq_c (C : jK l E X own cc nL d) {x : Int32} {b : Nat} (hb : b < 2 ^ 31) {off : Int} {tgt : Nat} (hd : decode cc pc = .ok (.if_icmp .eq off, 3)) (ht : (pc : Int) + off = (tgt : Int)) (kt : x.toInt = (b : Int) → J E X tgt lv st M) (kf : ¬ x.toInt = (b : Int) → J E X (pc + 3) lv st M) : J E X pc lv (.int (nI b) :: .int x :: st) M := by
  refine J_icmp_eq C hd ht (fun z => kt ?_) (fun z => kf ?_) <;> simp only [← Int32.toInt_inj, Int32.lt_iff_toInt_lt, Int32.le_iff_toInt_le, tI hb] at z <;> first | exact z | omega
theorem J_icmp_eq_t (C : jK l E X own cc nL d) {x y : Int32} {off : Int} {tgt : Nat} (hd : decode cc pc = .ok (.if_icmp .eq off, 3)) (ht : (pc : Int) + off = (tgt : Int)) (kt : x.toInt = y.toInt → J E X tgt lv st M) (kf : ¬ x.toInt = y.toInt → J E X (pc + 3) lv st M) : J E X pc lv (.int y :: .int x :: st) M := by
  refine J_icmp_eq C hd ht (fun z => kt ?_) (fun z => kf ?_) <;> simp only [← Int32.toInt_inj, Int32.lt_iff_toInt_lt, Int32.le_iff_toInt_le] at z <;> first | exact z | omega
theorem J_if_eq_t (C : jK l E X own cc nL d) {x : Int32} {off : Int} {tgt : Nat} (hd : decode cc pc = .ok (.ifCond .eq off, 3)) (ht : (pc : Int) + off = (tgt : Int)) (kt : x.toInt = 0 → J E X tgt lv st M) (kf : ¬ x.toInt = 0 → J E X (pc + 3) lv st M) : J E X pc lv (.int x :: st) M := by
  refine J_if_eq C hd ht (fun z => kt ?_) (fun z => kf ?_) <;> simp only [← Int32.toInt_inj, Int32.lt_iff_toInt_lt, Int32.le_iff_toInt_le, t0] at z <;> first | exact z | omega
theorem J_icmp_ne_c (C : jK l E X own cc nL d) {x : Int32} {b : Nat} (hb : b < 2 ^ 31) {off : Int} {tgt : Nat} (hd : decode cc pc = .ok (.if_icmp .ne off, 3)) (ht : (pc : Int) + off = (tgt : Int)) (kt : ¬ x.toInt = (b : Int) → J E X tgt lv st M) (kf : x.toInt = (b : Int) → J E X (pc + 3) lv st M) : J E X pc lv (.int (nI b) :: .int x :: st) M := by
  refine J_icmp_ne C hd ht (fun z => kt ?_) (fun z => kf ?_) <;> simp only [← Int32.toInt_inj, Int32.lt_iff_toInt_lt, Int32.le_iff_toInt_le, tI hb] at z <;> first | exact z | omega
theorem J_icmp_ne_t (C : jK l E X own cc nL d) {x y : Int32} {off : Int} {tgt : Nat} (hd : decode cc pc = .ok (.if_icmp .ne off, 3)) (ht : (pc : Int) + off = (tgt : Int)) (kt : ¬ x.toInt = y.toInt → J E X tgt lv st M) (kf : x.toInt = y.toInt → J E X (pc + 3) lv st M) : J E X pc lv (.int y :: .int x :: st) M := by
  refine J_icmp_ne C hd ht (fun z => kt ?_) (fun z => kf ?_) <;> simp only [← Int32.toInt_inj, Int32.lt_iff_toInt_lt, Int32.le_iff_toInt_le] at z <;> first | exact z | omega
theorem J_if_ne_t (C : jK l E X own cc nL d) {x : Int32} {off : Int} {tgt : Nat} (hd : decode cc pc = .ok (.ifCond .ne off, 3)) (ht : (pc : Int) + off = (tgt : Int)) (kt : ¬ x.toInt = 0 → J E X tgt lv st M) (kf : x.toInt = 0 → J E X (pc + 3) lv st M) : J E X pc lv (.int x :: st) M := by
  refine J_if_ne C hd ht (fun z => kt ?_) (fun z => kf ?_) <;> simp only [← Int32.toInt_inj, Int32.lt_iff_toInt_lt, Int32.le_iff_toInt_le, t0] at z <;> first | exact z | omega
theorem J_icmp_lt_c (C : jK l E X own cc nL d) {x : Int32} {b : Nat} (hb : b < 2 ^ 31) {off : Int} {tgt : Nat} (hd : decode cc pc = .ok (.if_icmp .lt off, 3)) (ht : (pc : Int) + off = (tgt : Int)) (kt : x.toInt < (b : Int) → J E X tgt lv st M) (kf : (b : Int) ≤ x.toInt → J E X (pc + 3) lv st M) : J E X pc lv (.int (nI b) :: .int x :: st) M := by
  refine J_icmp_lt C hd ht (fun z => kt ?_) (fun z => kf ?_) <;> simp only [← Int32.toInt_inj, Int32.lt_iff_toInt_lt, Int32.le_iff_toInt_le, tI hb] at z <;> first | exact z | omega
theorem J_icmp_lt_t (C : jK l E X own cc nL d) {x y : Int32} {off : Int} {tgt : Nat} (hd : decode cc pc = .ok (.if_icmp .lt off, 3)) (ht : (pc : Int) + off = (tgt : Int)) (kt : x.toInt < y.toInt → J E X tgt lv st M) (kf : y.toInt ≤ x.toInt → J E X (pc + 3) lv st M) : J E X pc lv (.int y :: .int x :: st) M := by
  refine J_icmp_lt C hd ht (fun z => kt ?_) (fun z => kf ?_) <;> simp only [← Int32.toInt_inj, Int32.lt_iff_toInt_lt, Int32.le_iff_toInt_le] at z <;> first | exact z | omega
theorem J_if_lt_t (C : jK l E X own cc nL d) {x : Int32} {off : Int} {tgt : Nat} (hd : decode cc pc = .ok (.ifCond .lt off, 3)) (ht : (pc : Int) + off = (tgt : Int)) (kt : x.toInt < 0 → J E X tgt lv st M) (kf : 0 ≤ x.toInt → J E X (pc + 3) lv st M) : J E X pc lv (.int x :: st) M := by
  refine J_if_lt C hd ht (fun z => kt ?_) (fun z => kf ?_) <;> simp only [← Int32.toInt_inj, Int32.lt_iff_toInt_lt, Int32.le_iff_toInt_le, t0] at z <;> first | exact z | omega
theorem J_icmp_ge_c (C : jK l E X own cc nL d) {x : Int32} {b : Nat} (hb : b < 2 ^ 31) {off : Int} {tgt : Nat} (hd : decode cc pc = .ok (.if_icmp .ge off, 3)) (ht : (pc : Int) + off = (tgt : Int)) (kt : (b : Int) ≤ x.toInt → J E X tgt lv st M) (kf : x.toInt < (b : Int) → J E X (pc + 3) lv st M) : J E X pc lv (.int (nI b) :: .int x :: st) M := by
  refine J_icmp_ge C hd ht (fun z => kt ?_) (fun z => kf ?_) <;> simp only [← Int32.toInt_inj, Int32.lt_iff_toInt_lt, Int32.le_iff_toInt_le, tI hb] at z <;> first | exact z | omega
theorem J_icmp_ge_t (C : jK l E X own cc nL d) {x y : Int32} {off : Int} {tgt : Nat} (hd : decode cc pc = .ok (.if_icmp .ge off, 3)) (ht : (pc : Int) + off = (tgt : Int)) (kt : y.toInt ≤ x.toInt → J E X tgt lv st M) (kf : x.toInt < y.toInt → J E X (pc + 3) lv st M) : J E X pc lv (.int y :: .int x :: st) M := by
  refine J_icmp_ge C hd ht (fun z => kt ?_) (fun z => kf ?_) <;> simp only [← Int32.toInt_inj, Int32.lt_iff_toInt_lt, Int32.le_iff_toInt_le] at z <;> first | exact z | omega
theorem J_if_ge_t (C : jK l E X own cc nL d) {x : Int32} {off : Int} {tgt : Nat} (hd : decode cc pc = .ok (.ifCond .ge off, 3)) (ht : (pc : Int) + off = (tgt : Int)) (kt : 0 ≤ x.toInt → J E X tgt lv st M) (kf : x.toInt < 0 → J E X (pc + 3) lv st M) : J E X pc lv (.int x :: st) M := by
  refine J_if_ge C hd ht (fun z => kt ?_) (fun z => kf ?_) <;> simp only [← Int32.toInt_inj, Int32.lt_iff_toInt_lt, Int32.le_iff_toInt_le, t0] at z <;> first | exact z | omega
theorem J_icmp_gt_c (C : jK l E X own cc nL d) {x : Int32} {b : Nat} (hb : b < 2 ^ 31) {off : Int} {tgt : Nat} (hd : decode cc pc = .ok (.if_icmp .gt off, 3)) (ht : (pc : Int) + off = (tgt : Int)) (kt : (b : Int) < x.toInt → J E X tgt lv st M) (kf : x.toInt ≤ (b : Int) → J E X (pc + 3) lv st M) : J E X pc lv (.int (nI b) :: .int x :: st) M := by
  refine J_icmp_gt C hd ht (fun z => kt ?_) (fun z => kf ?_) <;> simp only [← Int32.toInt_inj, Int32.lt_iff_toInt_lt, Int32.le_iff_toInt_le, tI hb] at z <;> first | exact z | omega
theorem J_icmp_gt_t (C : jK l E X own cc nL d) {x y : Int32} {off : Int} {tgt : Nat} (hd : decode cc pc = .ok (.if_icmp .gt off, 3)) (ht : (pc : Int) + off = (tgt : Int)) (kt : y.toInt < x.toInt → J E X tgt lv st M) (kf : x.toInt ≤ y.toInt → J E X (pc + 3) lv st M) : J E X pc lv (.int y :: .int x :: st) M := by
  refine J_icmp_gt C hd ht (fun z => kt ?_) (fun z => kf ?_) <;> simp only [← Int32.toInt_inj, Int32.lt_iff_toInt_lt, Int32.le_iff_toInt_le] at z <;> first | exact z | omega
theorem J_if_gt_t (C : jK l E X own cc nL d) {x : Int32} {off : Int} {tgt : Nat} (hd : decode cc pc = .ok (.ifCond .gt off, 3)) (ht : (pc : Int) + off = (tgt : Int)) (kt : 0 < x.toInt → J E X tgt lv st M) (kf : x.toInt ≤ 0 → J E X (pc + 3) lv st M) : J E X pc lv (.int x :: st) M := by
  refine J_if_gt C hd ht (fun z => kt ?_) (fun z => kf ?_) <;> simp only [← Int32.toInt_inj, Int32.lt_iff_toInt_lt, Int32.le_iff_toInt_le, t0] at z <;> first | exact z | omega
theorem J_icmp_le_c (C : jK l E X own cc nL d) {x : Int32} {b : Nat} (hb : b < 2 ^ 31) {off : Int} {tgt : Nat} (hd : decode cc pc = .ok (.if_icmp .le off, 3)) (ht : (pc : Int) + off = (tgt : Int)) (kt : x.toInt ≤ (b : Int) → J E X tgt lv st M) (kf : (b : Int) < x.toInt → J E X (pc + 3) lv st M) : J E X pc lv (.int (nI b) :: .int x :: st) M := by
  refine J_icmp_le C hd ht (fun z => kt ?_) (fun z => kf ?_) <;> simp only [← Int32.toInt_inj, Int32.lt_iff_toInt_lt, Int32.le_iff_toInt_le, tI hb] at z <;> first | exact z | omega
theorem J_icmp_le_t (C : jK l E X own cc nL d) {x y : Int32} {off : Int} {tgt : Nat} (hd : decode cc pc = .ok (.if_icmp .le off, 3)) (ht : (pc : Int) + off = (tgt : Int)) (kt : x.toInt ≤ y.toInt → J E X tgt lv st M) (kf : y.toInt < x.toInt → J E X (pc + 3) lv st M) : J E X pc lv (.int y :: .int x :: st) M := by
  refine J_icmp_le C hd ht (fun z => kt ?_) (fun z => kf ?_) <;> simp only [← Int32.toInt_inj, Int32.lt_iff_toInt_lt, Int32.le_iff_toInt_le] at z <;> first | exact z | omega
theorem J_if_le_t (C : jK l E X own cc nL d) {x : Int32} {off : Int} {tgt : Nat} (hd : decode cc pc = .ok (.ifCond .le off, 3)) (ht : (pc : Int) + off = (tgt : Int)) (kt : x.toInt ≤ 0 → J E X tgt lv st M) (kf : 0 < x.toInt → J E X (pc + 3) lv st M) : J E X pc lv (.int x :: st) M := by
  refine J_if_le C hd ht (fun z => kt ?_) (fun z => kf ?_) <;> simp only [← Int32.toInt_inj, Int32.lt_iff_toInt_lt, Int32.le_iff_toInt_le, t0] at z <;> first | exact z | omega
end JT
