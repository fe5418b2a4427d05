abbrev jX : Type := Program × Launch × Env × Room × State × MethodId × Array Value × List Frame × Method × Code × Nat × Nat × (State → Prop) × (Nat → Prop)
abbrev xp (X : jX) : Program := X.1
abbrev xl (X : jX) : Launch := X.2.1
abbrev xe (X : jX) : Env := X.2.2.1
abbrev xR (X : jX) : Room := X.2.2.2.1
abbrev xs (X : jX) : State := X.2.2.2.2.1
abbrev xm (X : jX) : MethodId := X.2.2.2.2.2.1
abbrev xa (X : jX) : Array Value := X.2.2.2.2.2.2.1
abbrev xb (X : jX) : List Frame := X.2.2.2.2.2.2.2.1
abbrev xt (X : jX) : Method := X.2.2.2.2.2.2.2.2.1
abbrev xc (X : jX) : Code := X.2.2.2.2.2.2.2.2.2.1
abbrev xk (X : jX) : Nat := X.2.2.2.2.2.2.2.2.2.2.1
abbrev xn (X : jX) : Nat := X.2.2.2.2.2.2.2.2.2.2.2.1
abbrev xQ (X : jX) : State → Prop := X.2.2.2.2.2.2.2.2.2.2.2.2.1
abbrev xA (X : jX) : Nat → Prop := X.2.2.2.2.2.2.2.2.2.2.2.2.2
abbrev xW (X : jX) (H : Heap) (locs : List Loc) (g : JFrame) : Prop := W (xp X) (xl X) (xe X) (xR X) (xs X) (xm X) (xa X) (xb X) (xt X) (xc X) H locs (xk X) (xn X) (xQ X) g
/-- from here, with these locals, this stack, this memory, the machine comes to the end that X names -/
def J (E : jE) (X : jX) (pc : Nat) (lv : List (Option Value)) (st : List Value) (M : jM) : Prop := ∀ (H : Heap) (locs : List Loc) (ls : Array Slot), va_P (E.1, E.2.1) jcl (jW E M) H → va_S (xA X) (xs X).heap H locs → lv_has ls lv.length (jlv 0 lv) → xW X H locs (F0 (xm X) pc ls st)
/-- what holds all along one method's body -/
def jK (l : Launch) (E : jE) (X : jX) (own : String) (cc : ByteArray) (nL d : Nat) : Prop :=
  CallFix (xp X) (xm X) (xc X) cc nL (xs X) (xa X) W0 own ∧ va_K (E.1, E.2.1) jcl (jty E) (xs X) ∧ jF E (xA X) (xs X) (xs X).heap ∧ jI E ∧ (∀ k, k < 75 → xA X (ja E k)) ∧ (∀ q, (xs X).heap.size ≤ q → xA X q) ∧ d ≤ (xR X).frames ∧ 38 * d ≤ (xR X).locals ∧ xk X ≤ (xR X).cells ∧ xn X ≤ (xR X).slots ∧ xl X = l
def jQ (E : jE) (sz : Nat) (Post : Option Value → jM → Prop) : Array Value → State → Outcome → State → Prop := fun _ st oc t => (∃ (r : Option Value) (M' : jM), oc = .returned r ∧ Post r M' ∧ va_P (E.1, E.2.1) jcl (jW E M') t.heap) ∧ va_F (jA E sz) st t
def jB (E : jE) (sz : Nat) (M : jM) (U : State) : Prop := U.heap.size = sz ∧ va_P (E.1, E.2.1) jcl (jW E M) U.heap ∧ va_K (E.1, E.2.1) jcl (jty E) U ∧ jF E (jA E sz) U U.heap ∧ jI E
abbrev jw (y : MethodName) (b : ByteArray) (n : Nat) (ret : Option FieldType) : List Cond := Cond.code y b n ret :: W0
abbrev jr (d : Nat) : Room := { frames := d, cells := 0, slots := 0, locals := 38 * d }
/-- a method's contract, at arguments and a memory -/
def CT (l : Launch) (E : jE) (d : Nat) (y : MethodName) (b : ByteArray) (n : Nat) (ret : Option FieldType) (as : List Value) (M : jM) (Post : Option Value → jM → Prop) : Prop := ∀ sz : Nat, Met l y (jw y b n ret) (jr d) (va_Pc as (jB E sz M)) (jQ E sz Post) 0 0 (jA E sz)
def jR (E : jE) (X : jX) (Post : Option Value → jM → Prop) (ret : Option FieldType) : Prop := xQ X = MQ (xb X) (jQ E (xs X).heap.size Post) (xa X) (xs X) 0 0 (xA X) ∧ xA X = jA E (xs X).heap.size ∧ xk X = 0 ∧ xn X = 0 ∧ (xt X).sig.returnType = ret ∧ (xt X).locks = false
theorem good_W0 {w : Cond} (h : w ∈ W0) : w ∈ W0 ∧ ((w.onTables && w.keeps) = true ∨ ∃ ty, w = .arrayClass ty) := ⟨h, good_of_word (W0_good w h)⟩
theorem CT_intro {l : Launch} {E : jE} {d : Nat} {y : MethodName} {b : ByteArray} {n : Nat} {ret : Option FieldType} {as : List Value} {M : jM} {Post : Option Value → jM → Prop} {own : String} (hy : plainFor y = true) (hc : y.cls = own) (h1 : ∀ v ∈ as, v.category = 1) (h2 : (lg_sl as).length ≤ n) (h3 : (as.map some ++ List.replicate (n - as.length) none).length = n)
    (body : ∀ X : jX, jK l E X own b n d → jR E X Post ret → J E X 0 (as.map some ++ List.replicate (n - as.length) none) [] M) : CT l E d y b n ret as M Post := by
  intro sz
  refine va_MetF (cc := b) (maxL := n) (ret := ret) hy rfl ?_
  intro p e s m args below meth c s₁ B hml hv
  obtain ⟨rfl, hsz, hP, hK, hF, hI⟩ := hv
  have hx := B.exec
  have hb := B.bytes
  have hr := B.returns
  have hts := atoms_spec (ws := jw y b n ret) B.pre
  have hown : s.vm.findClass own = some m.cls := hc ▸ findClass_of_methodNamed B.named
  have hlocks := B.notSynchronized
  subst hsz
  have hl := lv_entry as (n := n) h2
  rw [lg_entry_eq]
  generalize (lg_sl as ++ List.replicate (n - (lg_sl as).length) Slot.unset).toArray = ls at hl ⊢
  have hX := body (p, l, e, (headSpec (jw y b n ret) (jr d)).room, s, m, as.toArray, below, meth, c, 0, 0, MQ below (jQ E s.heap.size Post) as.toArray s 0 0 (jA E s.heap.size), jA E s.heap.size)
    ⟨⟨hx, hb, hml, hown, fun w hw => hts w (List.mem_cons_of_mem _ hw)⟩, hK, hF, hI, fun k hk => Or.inl ⟨k, hk, rfl⟩, fun q hq => Or.inr hq, Nat.le_refl d, Nat.le_refl _, Nat.zero_le _, Nat.zero_le _, rfl⟩ ⟨rfl, rfl, rfl, rfl, hr, hlocks⟩
  exact hX s.heap [] ls hP va_S.rf (by rw [h3, jent as _ 0 h1]; exact hl)
section JR
variable {l : Launch} {E : jE} {X : jX} {own : String} {cc : ByteArray} {nL d : Nat} {pc : Nat} {lv : List (Option Value)} {st : List Value} {M : jM}

theorem J_iconst (C : jK l E X own cc nL d) {n : Int} {v : Int32} (hd : decode cc pc = .ok (.iconst n, 1)) (hv : Int32.ofInt n = v) (k : J E X (pc + 1) lv (.int v :: st) M) : J E X pc lv (st) M :=
  fun H locs ls hP hS hl => lv_iconst C.1.1 C.1.2.1 hd hv (k H locs ls hP hS hl)
theorem J_bipush (C : jK l E X own cc nL d) {n : Int} {v : Int32} (hd : decode cc pc = .ok (.bipush n, 2)) (hv : (Int8.ofInt n).toInt32 = v) (k : J E X (pc + 2) lv (.int v :: st) M) : J E X pc lv (st) M :=
  fun H locs ls hP hS hl => lv_bipush C.1.1 C.1.2.1 hd hv (k H locs ls hP hS hl)
theorem J_sipush (C : jK l E X own cc nL d) {n : Int} {v : Int32} (hd : decode cc pc = .ok (.sipush n, 3)) (hv : (Int16.ofInt n).toInt32 = v) (k : J E X (pc + 3) lv (.int v :: st) M) : J E X pc lv (st) M :=
  fun H locs ls hP hS hl => lv_sipush C.1.1 C.1.2.1 hd hv (k H locs ls hP hS hl)
theorem J_lconst (C : jK l E X own cc nL d) {n : Fin 2} {v : Int64} (hd : decode cc pc = .ok (.lconst n, 1)) (hv : Int64.ofNat (n : Nat) = v) (k : J E X (pc + 1) lv (.long v :: st) M) : J E X pc lv (st) M :=
  fun H locs ls hP hS hl => lv_lconst C.1.1 C.1.2.1 hd hv (k H locs ls hP hS hl)
theorem J_iload_n (C : jK l E X own cc nL d) {i : Fin 4} {x : Int32} (hd : decode cc pc = .ok (.iload_n i, 1)) (h : lv[(i : Nat)]? = some (some (.int x))) (k : J E X (pc + 1) lv (.int x :: st) M) : J E X pc lv (st) M :=
  fun H locs ls hP hS hl => lv_iload_n C.1.1 C.1.2.1 hd rfl (jget hl h) (k H locs ls hP hS hl)
theorem J_iload (C : jK l E X own cc nL d) {i : Nat} {x : Int32} (hd : decode cc pc = .ok (.iload i, 2)) (h : lv[i]? = some (some (.int x))) (k : J E X (pc + 2) lv (.int x :: st) M) : J E X pc lv (st) M :=
  fun H locs ls hP hS hl => lv_iload C.1.1 C.1.2.1 hd (jget hl h) (k H locs ls hP hS hl)
theorem J_lload_n (C : jK l E X own cc nL d) {i : Fin 4} {x : Int64} (hd : decode cc pc = .ok (.lload_n i, 1)) (h : lv[(i : Nat)]? = some (some (.long x))) (k : J E X (pc + 1) lv (.long x :: st) M) : J E X pc lv (st) M :=
  fun H locs ls hP hS hl => lv_lload_n C.1.1 C.1.2.1 hd rfl (jget hl h) (k H locs ls hP hS hl)
theorem J_lload (C : jK l E X own cc nL d) {i : Nat} {x : Int64} (hd : decode cc pc = .ok (.lload i, 2)) (h : lv[i]? = some (some (.long x))) (k : J E X (pc + 2) lv (.long x :: st) M) : J E X pc lv (st) M :=
  fun H locs ls hP hS hl => lv_lload C.1.1 C.1.2.1 hd (jget hl h) (k H locs ls hP hS hl)
theorem J_aload_n (C : jK l E X own cc nL d) {i : Fin 4} {x : Nat} (hd : decode cc pc = .ok (.aload_n i, 1)) (h : lv[(i : Nat)]? = some (some (.ref x))) (k : J E X (pc + 1) lv (.ref x :: st) M) : J E X pc lv (st) M :=
  fun H locs ls hP hS hl => lv_aload_n C.1.1 C.1.2.1 hd rfl (jget hl h) (k H locs ls hP hS hl)
theorem J_aload (C : jK l E X own cc nL d) {i : Nat} {x : Nat} (hd : decode cc pc = .ok (.aload i, 2)) (h : lv[i]? = some (some (.ref x))) (k : J E X (pc + 2) lv (.ref x :: st) M) : J E X pc lv (st) M :=
  fun H locs ls hP hS hl => lv_aload C.1.1 C.1.2.1 hd (jget hl h) (k H locs ls hP hS hl)
theorem J_istore_n (C : jK l E X own cc nL d) {i : Fin 4} {x : Int32} (hd : decode cc pc = .ok (.istore_n i, 1)) (hk : jok lv i = true) (hn : (i : Nat) < lv.length) (k : J E X (pc + 1) (lv.set i (some (.int x))) st M) : J E X pc lv (.int x :: st) M :=
  fun H locs ls hP hS hl => lv_istore_n C.1.1 C.1.2.1 hd rfl hl hn rfl (fun ls2 hl2 => k H locs ls2 hP hS (by rw [List.length_set]; exact jset1 hk hl2))
theorem J_istore (C : jK l E X own cc nL d) {i : Nat} {x : Int32} (hd : decode cc pc = .ok (.istore i, 2)) (hk : jok lv i = true) (hn : i < lv.length) (k : J E X (pc + 2) (lv.set i (some (.int x))) st M) : J E X pc lv (.int x :: st) M :=
  fun H locs ls hP hS hl => lv_istore C.1.1 C.1.2.1 hd hl hn rfl (fun ls2 hl2 => k H locs ls2 hP hS (by rw [List.length_set]; exact jset1 hk hl2))
theorem J_astore_n (C : jK l E X own cc nL d) {i : Fin 4} {x : Nat} (hd : decode cc pc = .ok (.astore_n i, 1)) (hk : jok lv i = true) (hn : (i : Nat) < lv.length) (k : J E X (pc + 1) (lv.set i (some (.ref x))) st M) : J E X pc lv (.ref x :: st) M :=
  fun H locs ls hP hS hl => lv_astore_n C.1.1 C.1.2.1 hd rfl hl hn rfl (fun ls2 hl2 => k H locs ls2 hP hS (by rw [List.length_set]; exact jset1 hk hl2))
theorem J_astore (C : jK l E X own cc nL d) {i : Nat} {x : Nat} (hd : decode cc pc = .ok (.astore i, 2)) (hk : jok lv i = true) (hn : i < lv.length) (k : J E X (pc + 2) (lv.set i (some (.ref x))) st M) : J E X pc lv (.ref x :: st) M :=
  fun H locs ls hP hS hl => lv_astore C.1.1 C.1.2.1 hd hl hn rfl (fun ls2 hl2 => k H locs ls2 hP hS (by rw [List.length_set]; exact jset1 hk hl2))
theorem J_lstore_n (C : jK l E X own cc nL d) {i : Fin 4} {x : Int64} (hd : decode cc pc = .ok (.lstore_n i, 1)) (hk : jok lv i = true) (hn : (i : Nat) + 1 < lv.length) (k : J E X (pc + 1) ((lv.set i (some (.long x))).set (i + 1) none) st M) : J E X pc lv (.long x :: st) M :=
  fun H locs ls hP hS hl => lv_lstore_n C.1.1 C.1.2.1 hd rfl hl hn rfl (fun ls2 hl2 => k H locs ls2 hP hS (by rw [List.length_set, List.length_set]; exact jset2 hk hl2))
theorem J_lstore (C : jK l E X own cc nL d) {i : Nat} {x : Int64} (hd : decode cc pc = .ok (.lstore i, 2)) (hk : jok lv i = true) (hn : i + 1 < lv.length) (k : J E X (pc + 2) ((lv.set i (some (.long x))).set (i + 1) none) st M) : J E X pc lv (.long x :: st) M :=
  fun H locs ls hP hS hl => lv_lstore C.1.1 C.1.2.1 hd hl hn rfl (fun ls2 hl2 => k H locs ls2 hP hS (by rw [List.length_set, List.length_set]; exact jset2 hk hl2))
theorem J_iinc (C : jK l E X own cc nL d) {i : Nat} {n : Int} {x v : Int32} (hd : decode cc pc = .ok (.iinc i n, 3)) (h : lv[i]? = some (some (.int x))) (hv : x + Int32.ofInt n = v) (hk : jok lv i = true) (k : J E X (pc + 3) (lv.set i (some (.int v))) st M) : J E X pc lv st M := by
  intro H locs ls hP hS hl
  obtain ⟨q, hq⟩ := List.getElem?_of_mem ((mem_jlv lv 0 (i, .int x)).mpr ⟨i, h, by simp⟩)
  exact lv_iinc C.1.1 C.1.2.1 hd hl hq hv (List.getElem?_eq_some_iff.mp h).1 rfl (fun ls2 hl2 => k H locs ls2 hP hS (by rw [List.length_set]; exact jset1 hk hl2))
theorem J_iadd (C : jK l E X own cc nL d) {x y : Int32} (hd : decode cc pc = .ok (.iadd, 1)) (k : J E X (pc + 1) lv (.int (x + y) :: st) M) : J E X pc lv (.int y :: .int x :: st) M :=
  fun H locs ls hP hS hl => lv_iadd C.1.1 C.1.2.1 hd (k H locs ls hP hS hl)
theorem J_isub (C : jK l E X own cc nL d) {x y : Int32} (hd : decode cc pc = .ok (.isub, 1)) (k : J E X (pc + 1) lv (.int (x - y) :: st) M) : J E X pc lv (.int y :: .int x :: st) M :=
  fun H locs ls hP hS hl => lv_isub C.1.1 C.1.2.1 hd (k H locs ls hP hS hl)
theorem J_imul (C : jK l E X own cc nL d) {x y : Int32} (hd : decode cc pc = .ok (.imul, 1)) (k : J E X (pc + 1) lv (.int (x * y) :: st) M) : J E X pc lv (.int y :: .int x :: st) M :=
  fun H locs ls hP hS hl => lv_imul C.1.1 C.1.2.1 hd (k H locs ls hP hS hl)
theorem J_iand (C : jK l E X own cc nL d) {x y : Int32} (hd : decode cc pc = .ok (.iand, 1)) (k : J E X (pc + 1) lv (.int (x &&& y) :: st) M) : J E X pc lv (.int y :: .int x :: st) M :=
  fun H locs ls hP hS hl => lv_iand C.1.1 C.1.2.1 hd (k H locs ls hP hS hl)
theorem J_ior (C : jK l E X own cc nL d) {x y : Int32} (hd : decode cc pc = .ok (.ior, 1)) (k : J E X (pc + 1) lv (.int (x ||| y) :: st) M) : J E X pc lv (.int y :: .int x :: st) M :=
  fun H locs ls hP hS hl => lv_ior C.1.1 C.1.2.1 hd (k H locs ls hP hS hl)
theorem J_ixor (C : jK l E X own cc nL d) {x y : Int32} (hd : decode cc pc = .ok (.ixor, 1)) (k : J E X (pc + 1) lv (.int (x ^^^ y) :: st) M) : J E X pc lv (.int y :: .int x :: st) M :=
  fun H locs ls hP hS hl => lv_ixor C.1.1 C.1.2.1 hd (k H locs ls hP hS hl)
theorem J_ishl (C : jK l E X own cc nL d) {x y : Int32} (hd : decode cc pc = .ok (.ishl, 1)) (k : J E X (pc + 1) lv (.int (x <<< (y &&& 31)) :: st) M) : J E X pc lv (.int y :: .int x :: st) M :=
  fun H locs ls hP hS hl => lv_ishl C.1.1 C.1.2.1 hd (k H locs ls hP hS hl)
theorem J_ishr (C : jK l E X own cc nL d) {x y : Int32} (hd : decode cc pc = .ok (.ishr, 1)) (k : J E X (pc + 1) lv (.int (x >>> (y &&& 31)) :: st) M) : J E X pc lv (.int y :: .int x :: st) M :=
  fun H locs ls hP hS hl => lv_ishr C.1.1 C.1.2.1 hd (k H locs ls hP hS hl)
theorem J_idiv (C : jK l E X own cc nL d) {x y : Int32} (hd : decode cc pc = .ok (.idiv, 1)) (hne : ¬ y = 0) (k : J E X (pc + 1) lv (.int (x / y) :: st) M) : J E X pc lv (.int y :: .int x :: st) M :=
  fun H locs ls hP hS hl => lv_idiv C.1.1 C.1.2.1 hd hne (k H locs ls hP hS hl)
theorem J_irem (C : jK l E X own cc nL d) {x y : Int32} (hd : decode cc pc = .ok (.irem, 1)) (hne : ¬ y = 0) (k : J E X (pc + 1) lv (.int (x - x / y * y) :: st) M) : J E X pc lv (.int y :: .int x :: st) M :=
  fun H locs ls hP hS hl => lv_irem C.1.1 C.1.2.1 hd hne (k H locs ls hP hS hl)
theorem J_ineg (C : jK l E X own cc nL d) {x : Int32} (hd : decode cc pc = .ok (.ineg, 1)) (k : J E X (pc + 1) lv (.int (-x) :: st) M) : J E X pc lv (.int x :: st) M :=
  fun H locs ls hP hS hl => lv_ineg C.1.1 C.1.2.1 hd (k H locs ls hP hS hl)
theorem J_iushr (C : jK l E X own cc nL d) {x y : Int32} (hd : decode cc pc = .ok (.iushr, 1)) (k : J E X (pc + 1) lv (.int ((x.toUInt32 >>> (y.toUInt32 &&& Int32.toUInt32 31)).toInt32) :: st) M) : J E X pc lv (.int y :: .int x :: st) M :=
  fun H locs ls hP hS hl => lv_iushr C.1.1 C.1.2.1 hd rfl (k H locs ls hP hS hl)
theorem J_ladd (C : jK l E X own cc nL d) {x y : Int64} (hd : decode cc pc = .ok (.ladd, 1)) (k : J E X (pc + 1) lv (.long (x + y) :: st) M) : J E X pc lv (.long y :: .long x :: st) M :=
  fun H locs ls hP hS hl => lv_ladd C.1.1 C.1.2.1 hd (k H locs ls hP hS hl)
theorem J_lsub (C : jK l E X own cc nL d) {x y : Int64} (hd : decode cc pc = .ok (.lsub, 1)) (k : J E X (pc + 1) lv (.long (x - y) :: st) M) : J E X pc lv (.long y :: .long x :: st) M :=
  fun H locs ls hP hS hl => lv_lsub C.1.1 C.1.2.1 hd (k H locs ls hP hS hl)
theorem J_lmul (C : jK l E X own cc nL d) {x y : Int64} (hd : decode cc pc = .ok (.lmul, 1)) (k : J E X (pc + 1) lv (.long (x * y) :: st) M) : J E X pc lv (.long y :: .long x :: st) M :=
  fun H locs ls hP hS hl => lv_lmul C.1.1 C.1.2.1 hd (k H locs ls hP hS hl)
theorem J_land (C : jK l E X own cc nL d) {x y : Int64} (hd : decode cc pc = .ok (.land, 1)) (k : J E X (pc + 1) lv (.long (x &&& y) :: st) M) : J E X pc lv (.long y :: .long x :: st) M :=
  fun H locs ls hP hS hl => lv_land C.1.1 C.1.2.1 hd (k H locs ls hP hS hl)
theorem J_ldiv (C : jK l E X own cc nL d) {x y : Int64} (hd : decode cc pc = .ok (.ldiv, 1)) (hne : ¬ y = 0) (k : J E X (pc + 1) lv (.long (x / y) :: st) M) : J E X pc lv (.long y :: .long x :: st) M :=
  fun H locs ls hP hS hl => lv_ldiv C.1.1 C.1.2.1 hd hne (k H locs ls hP hS hl)
theorem J_lrem (C : jK l E X own cc nL d) {x y : Int64} (hd : decode cc pc = .ok (.lrem, 1)) (hne : ¬ y = 0) (k : J E X (pc + 1) lv (.long (x - x / y * y) :: st) M) : J E X pc lv (.long y :: .long x :: st) M :=
  fun H locs ls hP hS hl => lv_lrem C.1.1 C.1.2.1 hd hne (k H locs ls hP hS hl)
theorem J_i2l (C : jK l E X own cc nL d) {x : Int32} (hd : decode cc pc = .ok (.i2l, 1)) (k : J E X (pc + 1) lv (.long x.toInt64 :: st) M) : J E X pc lv (.int x :: st) M :=
  fun H locs ls hP hS hl => lv_i2l C.1.1 C.1.2.1 hd rfl (k H locs ls hP hS hl)
theorem J_l2i (C : jK l E X own cc nL d) {x : Int64} (hd : decode cc pc = .ok (.l2i, 1)) (k : J E X (pc + 1) lv (.int x.toInt32 :: st) M) : J E X pc lv (.long x :: st) M :=
  fun H locs ls hP hS hl => lv_l2i C.1.1 C.1.2.1 hd rfl (k H locs ls hP hS hl)
theorem J_i2b (C : jK l E X own cc nL d) {x : Int32} (hd : decode cc pc = .ok (.i2b, 1)) (k : J E X (pc + 1) lv (.int x.toInt8.toInt32 :: st) M) : J E X pc lv (.int x :: st) M :=
  fun H locs ls hP hS hl => lv_i2b C.1.1 C.1.2.1 hd rfl (k H locs ls hP hS hl)
theorem J_i2s (C : jK l E X own cc nL d) {x : Int32} (hd : decode cc pc = .ok (.i2s, 1)) (k : J E X (pc + 1) lv (.int x.toInt16.toInt32 :: st) M) : J E X pc lv (.int x :: st) M :=
  fun H locs ls hP hS hl => lv_i2s C.1.1 C.1.2.1 hd rfl (k H locs ls hP hS hl)
theorem J_lcmp (C : jK l E X own cc nL d) {x y : Int64} (hd : decode cc pc = .ok (.lcmp, 1)) (k : J E X (pc + 1) lv (.int (lg_cmp x y) :: st) M) : J E X pc lv (.long y :: .long x :: st) M :=
  fun H locs ls hP hS hl => W.lcmp C.1.1 C.1.2.1 hd (k H locs ls hP hS hl)
theorem J_dup (C : jK l E X own cc nL d) {v : Value} (hd : decode cc pc = .ok (.dup, 1)) (hc : v.category = 1) (k : J E X (pc + 1) lv (v :: v :: st) M) : J E X pc lv (v :: st) M :=
  fun H locs ls hP hS hl => lv_dup C.1.1 C.1.2.1 hd hc (k H locs ls hP hS hl)
theorem J_pop (C : jK l E X own cc nL d) {v : Value} (hd : decode cc pc = .ok (.pop, 1)) (hc : v.category = 1) (k : J E X (pc + 1) lv (st) M) : J E X pc lv (v :: st) M :=
  fun H locs ls hP hS hl => lv_pop C.1.1 C.1.2.1 hd hc (k H locs ls hP hS hl)
theorem J_dup_x1 (C : jK l E X own cc nL d) {v w : Value} (hd : decode cc pc = .ok (.dup_x1, 1)) (hc : v.category = 1) (hc2 : w.category = 1) (k : J E X (pc + 1) lv (v :: w :: v :: st) M) : J E X pc lv (v :: w :: st) M :=
  fun H locs ls hP hS hl => lv_dup_x1 C.1.1 C.1.2.1 hd hc hc2 (k H locs ls hP hS hl)
theorem J_dup2 (C : jK l E X own cc nL d) {v w : Value} (hd : decode cc pc = .ok (.dup2, 1)) (hc : v.category = 1) (hc2 : w.category = 1) (k : J E X (pc + 1) lv (v :: w :: v :: w :: st) M) : J E X pc lv (v :: w :: st) M :=
  fun H locs ls hP hS hl => lv_dup2_11 C.1.1 C.1.2.1 hd hc hc2 (k H locs ls hP hS hl)
theorem J_if_eq (C : jK l E X own cc nL d) {x : Int32} {off : Int} {tgt : Nat} (hd : decode cc pc = .ok (.ifCond .eq off, 3)) (ht : (pc : Int) + off = (tgt : Int)) (kt : x = 0 → J E X tgt lv st M) (kf : ¬ x = 0 → J E X (pc + 3) lv st M) : J E X pc lv (.int x :: st) M :=
  fun H locs ls hP hS hl => lv_if_eq C.1.1 C.1.2.1 hd ht (fun z => kt z H locs ls hP hS hl) (fun z => kf z H locs ls hP hS hl)
theorem J_icmp_eq (C : jK l E X own cc nL d) {x y : Int32} {off : Int} {tgt : Nat} (hd : decode cc pc = .ok (.if_icmp .eq off, 3)) (ht : (pc : Int) + off = (tgt : Int)) (kt : x = y → J E X tgt lv st M) (kf : ¬ x = y → J E X (pc + 3) lv st M) : J E X pc lv (.int y :: .int x :: st) M :=
  fun H locs ls hP hS hl => lv_icmp_eq C.1.1 C.1.2.1 hd ht (fun z => kt z H locs ls hP hS hl) (fun z => kf z H locs ls hP hS hl)
theorem J_if_ne (C : jK l E X own cc nL d) {x : Int32} {off : Int} {tgt : Nat} (hd : decode cc pc = .ok (.ifCond .ne off, 3)) (ht : (pc : Int) + off = (tgt : Int)) (kt : ¬ x = 0 → J E X tgt lv st M) (kf : x = 0 → J E X (pc + 3) lv st M) : J E X pc lv (.int x :: st) M :=
  fun H locs ls hP hS hl => lv_if_ne C.1.1 C.1.2.1 hd ht (fun z => kt z H locs ls hP hS hl) (fun z => kf z H locs ls hP hS hl)
theorem J_icmp_ne (C : jK l E X own cc nL d) {x y : Int32} {off : Int} {tgt : Nat} (hd : decode cc pc = .ok (.if_icmp .ne off, 3)) (ht : (pc : Int) + off = (tgt : Int)) (kt : ¬ x = y → J E X tgt lv st M) (kf : x = y → J E X (pc + 3) lv st M) : J E X pc lv (.int y :: .int x :: st) M :=
  fun H locs ls hP hS hl => lv_icmp_ne C.1.1 C.1.2.1 hd ht (fun z => kt z H locs ls hP hS hl) (fun z => kf z H locs ls hP hS hl)
theorem J_if_lt (C : jK l E X own cc nL d) {x : Int32} {off : Int} {tgt : Nat} (hd : decode cc pc = .ok (.ifCond .lt off, 3)) (ht : (pc : Int) + off = (tgt : Int)) (kt : x < 0 → J E X tgt lv st M) (kf : ¬ x < 0 → J E X (pc + 3) lv st M) : J E X pc lv (.int x :: st) M :=
  fun H locs ls hP hS hl => lv_if_lt C.1.1 C.1.2.1 hd ht (fun z => kt z H locs ls hP hS hl) (fun z => kf z H locs ls hP hS hl)
theorem J_icmp_lt (C : jK l E X own cc nL d) {x y : Int32} {off : Int} {tgt : Nat} (hd : decode cc pc = .ok (.if_icmp .lt off, 3)) (ht : (pc : Int) + off = (tgt : Int)) (kt : x < y → J E X tgt lv st M) (kf : ¬ x < y → J E X (pc + 3) lv st M) : J E X pc lv (.int y :: .int x :: st) M :=
  fun H locs ls hP hS hl => lv_icmp_lt C.1.1 C.1.2.1 hd ht (fun z => kt z H locs ls hP hS hl) (fun z => kf z H locs ls hP hS hl)
theorem J_if_ge (C : jK l E X own cc nL d) {x : Int32} {off : Int} {tgt : Nat} (hd : decode cc pc = .ok (.ifCond .ge off, 3)) (ht : (pc : Int) + off = (tgt : Int)) (kt : 0 ≤ x → J E X tgt lv st M) (kf : ¬ 0 ≤ x → J E X (pc + 3) lv st M) : J E X pc lv (.int x :: st) M :=
  fun H locs ls hP hS hl => lv_if_ge C.1.1 C.1.2.1 hd ht (fun z => kt z H locs ls hP hS hl) (fun z => kf z H locs ls hP hS hl)
theorem J_icmp_ge (C : jK l E X own cc nL d) {x y : Int32} {off : Int} {tgt : Nat} (hd : decode cc pc = .ok (.if_icmp .ge off, 3)) (ht : (pc : Int) + off = (tgt : Int)) (kt : y ≤ x → J E X tgt lv st M) (kf : ¬ y ≤ x → J E X (pc + 3) lv st M) : J E X pc lv (.int y :: .int x :: st) M :=
  fun H locs ls hP hS hl => lv_icmp_ge C.1.1 C.1.2.1 hd ht (fun z => kt z H locs ls hP hS hl) (fun z => kf z H locs ls hP hS hl)
theorem J_if_gt (C : jK l E X own cc nL d) {x : Int32} {off : Int} {tgt : Nat} (hd : decode cc pc = .ok (.ifCond .gt off, 3)) (ht : (pc : Int) + off = (tgt : Int)) (kt : 0 < x → J E X tgt lv st M) (kf : ¬ 0 < x → J E X (pc + 3) lv st M) : J E X pc lv (.int x :: st) M :=
  fun H locs ls hP hS hl => lv_if_gt C.1.1 C.1.2.1 hd ht (fun z => kt z H locs ls hP hS hl) (fun z => kf z H locs ls hP hS hl)
theorem J_icmp_gt (C : jK l E X own cc nL d) {x y : Int32} {off : Int} {tgt : Nat} (hd : decode cc pc = .ok (.if_icmp .gt off, 3)) (ht : (pc : Int) + off = (tgt : Int)) (kt : y < x → J E X tgt lv st M) (kf : ¬ y < x → J E X (pc + 3) lv st M) : J E X pc lv (.int y :: .int x :: st) M :=
  fun H locs ls hP hS hl => lv_icmp_gt C.1.1 C.1.2.1 hd ht (fun z => kt z H locs ls hP hS hl) (fun z => kf z H locs ls hP hS hl)
theorem J_if_le (C : jK l E X own cc nL d) {x : Int32} {off : Int} {tgt : Nat} (hd : decode cc pc = .ok (.ifCond .le off, 3)) (ht : (pc : Int) + off = (tgt : Int)) (kt : x ≤ 0 → J E X tgt lv st M) (kf : ¬ x ≤ 0 → J E X (pc + 3) lv st M) : J E X pc lv (.int x :: st) M :=
  fun H locs ls hP hS hl => lv_if_le C.1.1 C.1.2.1 hd ht (fun z => kt z H locs ls hP hS hl) (fun z => kf z H locs ls hP hS hl)
theorem J_icmp_le (C : jK l E X own cc nL d) {x y : Int32} {off : Int} {tgt : Nat} (hd : decode cc pc = .ok (.if_icmp .le off, 3)) (ht : (pc : Int) + off = (tgt : Int)) (kt : x ≤ y → J E X tgt lv st M) (kf : ¬ x ≤ y → J E X (pc + 3) lv st M) : J E X pc lv (.int y :: .int x :: st) M :=
  fun H locs ls hP hS hl => lv_icmp_le C.1.1 C.1.2.1 hd ht (fun z => kt z H locs ls hP hS hl) (fun z => kf z H locs ls hP hS hl)
theorem J_goto (C : jK l E X own cc nL d) {off : Int} {tgt : Nat} (hd : decode cc pc = .ok (.goto off, 3)) (ht : (pc : Int) + off = (tgt : Int)) (k : J E X tgt lv st M) : J E X pc lv st M :=
  fun H locs ls hP hS hl => lv_goto C.1.1 C.1.2.1 hd ht (k H locs ls hP hS hl)
theorem J_tabIn (C : jK l E X own cc nL d) {dflt lo hi : Int} {offs : Array Int} {len : Nat} {x : Int32} {off : Int} {tgt : Nat} (hd : decode cc pc = .ok (.tableswitch dflt lo hi offs, len)) (h1 : ¬ x.toInt < lo) (h2 : ¬ hi < x.toInt) (ho : offs[(x.toInt - lo).toNat]? = some off) (ht : (pc : Int) + off = (tgt : Int)) (k : J E X tgt lv st M) : J E X pc lv (.int x :: st) M :=
  fun H locs ls hP hS hl => lv_tableIn C.1.1 C.1.2.1 hd h1 h2 ho ht (k H locs ls hP hS hl)
theorem J_tabOut (C : jK l E X own cc nL d) {dflt lo hi : Int} {offs : Array Int} {len : Nat} {x : Int32} {tgt : Nat} (hd : decode cc pc = .ok (.tableswitch dflt lo hi offs, len)) (h : x.toInt < lo ∨ hi < x.toInt) (ht : (pc : Int) + dflt = (tgt : Int)) (k : J E X tgt lv st M) : J E X pc lv (.int x :: st) M :=
  fun H locs ls hP hS hl => lv_tableOut C.1.1 C.1.2.1 hd h ht (k H locs ls hP hS hl)
theorem J_lookup (C : jK l E X own cc nL d) {dflt : Int} {ps : Array (Int × Int)} {len : Nat} {x : Int32} {off : Int} {tgt : Nat} (hd : decode cc pc = .ok (.lookupswitch dflt ps, len)) (hp : (ps.toList.zip (ps.toList.drop 1)).all (fun (a, next) => a.1 < next.1) = true) (ho : Op.lookupswitch.offset ps.toList dflt x.toInt = off) (ht : (pc : Int) + off = (tgt : Int)) (k : J E X tgt lv st M) : J E X pc lv (.int x :: st) M :=
  fun H locs ls hP hS hl => lv_lookup C.1.1 C.1.2.1 hd hp ho ht (k H locs ls hP hS hl)
theorem J_ldc (C : jK l E X own cc nL d) {i : Nat} {v : Int32} (hw : Cond.constant own i v ∈ W0) (hd : decode cc pc = .ok (.ldc i, 2)) (k : J E X (pc + 2) lv (.int v :: st) M) : J E X pc lv st M :=
  fun H locs ls hP hS hl => lv_ldc C.1.1 C.1.2.1 C.1.2.2.2.1 (C.1.2.2.2.2 _ hw) hd (k H locs ls hP hS hl)
theorem J_ldc2 (C : jK l E X own cc nL d) {i : Nat} {v : Int64} (hw : Cond.constantLong own i v ∈ W0) (hd : decode cc pc = .ok (.ldc2_w i, 3)) (k : J E X (pc + 3) lv (.long v :: st) M) : J E X pc lv st M :=
  fun H locs ls hP hS hl => lv_ldc2 C.1.1 C.1.2.1 C.1.2.2.2.1 (C.1.2.2.2.2 _ hw) hd (k H locs ls hP hS hl)
theorem j_ix {i : Int32} {j n : Nat} (h : i = nI j) (hj : j < n) (hn : n < 2 ^ 31) : vp_in i n ∧ i.toNatClampNeg = j := by
  subst h
  exact ⟨vp_in_nI hj hn, nI_clamp (by omega)⟩
theorem J_iald (C : jK l E X own cc nL d) {k n b s j : Nat} {i : Int32} (hk : jL[k]? = some (.inl (0, n, b, s))) (hi : i = nI j) (hj : j < n) (hd : decode cc pc = .ok (.iaload, 1)) (kk : J E X (pc + 1) lv (.int (M (b + s * j)) :: st) M) (hn : n < 1000 := by decide) : J E X pc lv (.int i :: .ref (ja E k) :: st) M := by
  intro H locs ls hP hS hl
  obtain ⟨h1, h2⟩ := j_ix hi hj (by omega)
  have e : jcA M n b s i.toNatClampNeg = M (b + s * j) := by rw [h2]; exact if_pos hj
  exact va_iald C.1.1 C.1.2.1 C.2.1 hP k 0 (jW_at hk) rfl h1 hd (by rw [e]; exact kk H locs ls hP hS hl)
theorem J_cald (C : jK l E X own cc nL d) {k n b s j : Nat} {i : Int32} (hk : jL[k]? = some (.inl (1, n, b, s))) (hi : i = nI j) (hj : j < n) (hd : decode cc pc = .ok (.caload, 1)) (kk : J E X (pc + 1) lv (.int (M (b + s * j)) :: st) M) (hn : n < 1000 := by decide) : J E X pc lv (.int i :: .ref (ja E k) :: st) M := by
  intro H locs ls hP hS hl
  obtain ⟨h1, h2⟩ := j_ix hi hj (by omega)
  have e : jcA M n b s i.toNatClampNeg = M (b + s * j) := by rw [h2]; exact if_pos hj
  exact va_cald C.1.1 C.1.2.1 C.2.1 hP k 1 (jW_at hk) rfl h1 hd (by rw [e]; exact kk H locs ls hP hS hl)
theorem jcA_upd {n b s j : Nat} {x : Int32} (hj : j < n) (hs : 0 < s) : upd (jcA M n b s) j x = jcA (upd M (b + s * j) x) n b s := by
  funext q
  unfold upd jcA
  by_cases hq : q = j
  · subst hq
    simp [hj]
  · have : ¬ b + s * q = b + s * j := fun z => hq (Nat.eq_of_mul_eq_mul_left hs (by omega))
    rw [if_neg hq]
    show _ = if q < n then (if b + s * q = b + s * j then x else M (b + s * q)) else 0
    rw [if_neg this]
theorem J_iast (C : jK l E X own cc nL d) {k n b s j : Nat} {i x : Int32} (hk : jL[k]? = some (.inl (0, n, b, s))) (hi : i = nI j) (hj : j < n) (hd : decode cc pc = .ok (.iastore, 1)) (kk : J E X (pc + 1) lv st (upd M (b + s * j) x)) (hn : n < 1000 := by decide) (hs : 0 < s := by decide) : J E X pc lv (.int x :: .int i :: .ref (ja E k) :: st) M := by
  intro H locs ls hP hS hl
  obtain ⟨h1, h2⟩ := j_ix hi hj (by omega)
  refine va_iast C.1.1 C.1.2.1 C.2.1 hP (jD_of C.2.2.2.1 C.2.2.2.2.1) hS k 0 (jW_at hk) rfl h1 hd (fun H1 locs1 hP1 _ hS1 => ?_)
  have e : (jW E M).set k (ja E k, .inl (E.2.2.2.1 0, n, .inl (upd (jcA M n b s) i.toNatClampNeg x))) = jW E (upd M (b + s * j) x) := by
    have h := jW_set (E := E) (M := M) (M' := upd M (b + s * j) x) hk (fun a ha => pk_un (fun z => ha (by rw [z]; exact jown_of hk (List.mem_map.mpr ⟨j, List.mem_range.mpr hj, rfl⟩))))
    rw [h2, jcA_upd hj hs]
    exact h
  exact kk H1 locs1 ls (e ▸ hP1) hS1 hl
theorem J_aald (C : jK l E X own cc nL d) {k t j q : Nat} {ks : List Nat} {i : Int32} {ty : FieldType} {cA : ClassId} (hk : jL[k]? = some (.inr (.inl (t, ks)))) (ht : (jty E)[t]? = some (E.2.2.2.1 t, ty)) (hr : ty.isReference = true) (hi : i = nI j) (hq : ks[j]? = some q) (hd : decode cc pc = .ok (.aaload, 1)) (kk : J E X (pc + 1) lv (.ref (ja E q) :: st) M) (hn : ks.length < 1000 := by decide) : J E X pc lv (.int i :: .ref (ja E k) :: st) M := by
  intro H locs ls hP hS hl
  have hj : j < ks.length := (List.getElem?_eq_some_iff.mp hq).1
  obtain ⟨h1, h2⟩ := j_ix hi hj (by omega)
  have hlt : i.toNatClampNeg < ks.length := by rw [h2]; exact hj
  have e : va_rf (jcR E ks i.toNatClampNeg) = .ref (ja E q) := by rw [h2]; simp [jcR, hq, va_rf]
  have hat := hP k _ (jW_at hk)
  exact W.aald (v := va_rf (jcR E ks i.toNatClampNeg)) (ty := ty) C.1.1 C.1.2.1 hat ((C.2.1.2 t _ ht).1 ks.length (fun j => va_rf (jcR E ks j))) hr (fun q => by cases q) (by show ¬ (i < 0 ∨ (arrV _ _ _).slots.size ≤ _); rw [arrV_size]; exact h1) (by show (arrV _ _ _).slots[_]? = _; rw [arrV_read _ _ hlt]) rfl rfl hd (by rw [e]; exact kk H locs ls hP hS hl)
theorem J_alen (C : jK l E X own cc nL d) {k t n b s : Nat} {ty : FieldType} (hk : jL[k]? = some (.inl (t, n, b, s))) (ht : (jty E)[t]? = some (E.2.2.2.1 t, ty)) (hd : decode cc pc = .ok (.arraylength, 1)) (kk : J E X (pc + 1) lv (.int (nI n) :: st) M) : J E X pc lv (.ref (ja E k) :: st) M :=
  fun H locs ls hP hS hl => va_alen C.1.1 C.1.2.1 C.2.1 hP k t (jW_at hk) ht rfl hd (kk H locs ls hP hS hl)
theorem J_get (C : jK l E X own cc nL d) {k ci j i N : Nat} {T : u_T} {Cn : String} {sl : List (Nat ⊕ (Nat ⊕ (Nat × Nat)))} {q : Nat ⊕ (Nat ⊕ (Nat × Nat))} (hk : jL[k]? = some (.inr (.inr (ci, sl)))) (hin : ∀ w ∈ u_ws Cn T N, w ∈ W0) (hc : jcl[ci]? = some (Cn, T, N)) (hj : j < N) (hq : sl[j]? = some q) (hw : Cond.fieldLink own i (T j).1 (T j).2.1 (T j).2.2.1 ∈ W0) (hd : decode cc pc = .ok (.getfield i, 3)) (kk : J E X (pc + 3) lv (jv E M q :: st) M) : J E X pc lv (.ref (ja E k) :: st) M :=
  fun H locs ls hP hS hl => va_get (D := (E.1, E.2.1)) (ci := ci) (v := jv E M q) (C := Cn) (T := T) (N := N) C.1.1 C.1.2.1 C.1.2.2.2.2 hin C.1.2.2.2.1 C.2.1 hP k (jW_at hk) hc j hj (C.1.2.2.2.2 _ hw) (fun _ h9 => h9) (by simp [hq]) hd (kk H locs ls hP hS hl)
theorem jv_set {sl : List (Nat ⊕ (Nat ⊕ (Nat × Nat)))} {j : Nat} {q : Nat ⊕ (Nat ⊕ (Nat × Nat))} {M' : jM} (hq : sl[j]? = some q) (hM : ∀ i q', sl[i]? = some q' → i ≠ j → jv E M' q' = jv E M q') : (sl.map (jv E M)).set j (jv E M' q) = sl.map (jv E M') := by
  apply List.ext_getElem?
  intro i
  by_cases hi : j = i
  · subst hi
    rw [List.getElem?_set_self (by rw [List.length_map]; exact (List.getElem?_eq_some_iff.mp hq).1)]
    simp [hq]
  · rw [List.getElem?_set_ne hi, List.getElem?_map, List.getElem?_map]
    cases h : sl[i]? with
    | none => rfl
    | some q' => simp only [Option.map_some]; rw [hM i q' h (fun z => hi z.symm)]
/-- what is stored at a place of an object changes that place alone -/
theorem J_putG (C : jK l E X own cc nL d) {k ci j i N : Nat} {T : u_T} {ty0 : Nat → FieldType} {ty : FieldType} {Cn : String} {sl : List (Nat ⊕ (Nat ⊕ (Nat × Nat)))} {q : Nat ⊕ (Nat ⊕ (Nat × Nat))} {M' : jM} {v : Value} (hk : jL[k]? = some (.inr (.inr (ci, sl)))) (hin : ∀ w ∈ u_ws Cn T N, w ∈ W0) (hty : ∀ k, k < N → parseFieldDescriptor (T k).2.2.1 = some (ty0 k)) (hnm : ∀ a, a < N → ∀ b, b < N → a ≠ b → (T a).2.1 ≠ (T b).2.1) (hc : jcl[ci]? = some (Cn, T, N)) (hj : j < N) (hq : sl[j]? = some q) (hfin : (T j).2.2.2 = false) (hpd : parseFieldDescriptor (T j).2.2.1 = some ty) (hn : narrow ty v = v) (hfit : fits ty v = true) (hv : v = jv E M' q) (hM : ∀ a, jown a ≠ k → M' a = M a) (hM2 : ∀ i q', sl[i]? = some q' → i ≠ j → jv E M' q' = jv E M q') (hw : Cond.fieldLink own i (T j).1 (T j).2.1 (T j).2.2.1 ∈ W0) (hd : decode cc pc = .ok (.putfield i, 3)) (kk : J E X (pc + 3) lv st M') : J E X pc lv (v :: .ref (ja E k) :: st) M := by
  intro H locs ls hP hS hl
  refine va_put (D := (E.1, E.2.1)) (ci := ci) (v := v) (ty := ty) (C := Cn) (T := T) (N := N) C.1.1 C.1.2.1 C.1.2.2.2.2 hin ty0 hty hnm C.1.2.2.2.1 C.2.1 hP (jD_of C.2.2.2.1 C.2.2.2.2.1) hS k (jW_at hk) hc j hj (C.1.2.2.2.2 _ hw) (fun _ h9 => h9) hfin hpd hn hfit (by rw [List.length_map]; exact (List.getElem?_eq_some_iff.mp hq).1) hd (fun H1 locs1 hP1 _ hS1 => ?_)
  have e : (jW E M).set k (ja E k, .inr (ci, (sl.map (jv E M)).set j v)) = jW E M' := by
    have h := jW_set (E := E) (M := M) (M' := M') hk hM
    rw [hv, jv_set hq hM2]
    exact h
  exact kk H1 locs1 ls (e ▸ hP1) hS1 hl
theorem J_iret (C : jK l E X own cc nL d) {Post : Option Value → jM → Prop} (G : jR E X Post (some .int)) {v : Int32} (hd : decode cc pc = .ok (.ireturn, 1)) (hp : Post (some (.int v)) M) : J E X pc lv [.int v] M := by
  intro H locs ls hP hS hl
  obtain ⟨p, l', e, R, s, m, args, below, meth, c, cells, slots, Q, A⟩ := X
  obtain ⟨hQ, hA, hk, hn, hr, hlk⟩ := G
  dsimp only [xQ, xA, xk, xn, xb, xa, xs, xt] at hQ hA hk hn hr hlk hS
  subst hQ; subst hA; subst hk; subst hn
  exact W.iret (v := v) C.1.1 C.1.2.1 hr (fun t ht hW => ⟨⟨_, M, rfl, hp, by rw [ht]; exact hP⟩, hS.F ht⟩) hS.2.2 hd hlk
theorem J_zret (C : jK l E X own cc nL d) {Post : Option Value → jM → Prop} {ty : FieldType} (G : jR E X Post (some ty)) {v : Int32} (hn0 : narrow ty (.int v) = .int v) (hd : decode cc pc = .ok (.ireturn, 1)) (hp : Post (some (.int v)) M) : J E X pc lv [.int v] M := by
  intro H locs ls hP hS hl
  obtain ⟨p, l', e, R, s, m, args, below, meth, c, cells, slots, Q, A⟩ := X
  obtain ⟨hQ, hA, hk, hn, hr, hlk⟩ := G
  dsimp only [xQ, xA, xk, xn, xb, xa, xs, xt] at hQ hA hk hn hr hlk hS
  subst hQ; subst hA; subst hk; subst hn
  exact W.zret (v := v) C.1.1 C.1.2.1 hr hn0 (fun t ht hW => ⟨⟨_, M, rfl, hp, by rw [ht]; exact hP⟩, hS.F ht⟩) hS.2.2 hd hlk
theorem J_lret (C : jK l E X own cc nL d) {Post : Option Value → jM → Prop} (G : jR E X Post (some .long)) {v : Int64} (hd : decode cc pc = .ok (.lreturn, 1)) (hp : Post (some (.long v)) M) : J E X pc lv [.long v] M := by
  intro H locs ls hP hS hl
  obtain ⟨p, l', e, R, s, m, args, below, meth, c, cells, slots, Q, A⟩ := X
  obtain ⟨hQ, hA, hk, hn, hr, hlk⟩ := G
  dsimp only [xQ, xA, xk, xn, xb, xa, xs, xt] at hQ hA hk hn hr hlk hS
  subst hQ; subst hA; subst hk; subst hn
  exact W.lret (v := v) C.1.1 C.1.2.1 hr (fun t ht hW => ⟨⟨_, M, rfl, hp, by rw [ht]; exact hP⟩, hS.F ht⟩) hS.2.2 hd hlk
theorem J_vret (C : jK l E X own cc nL d) {Post : Option Value → jM → Prop} (G : jR E X Post none) (hd : decode cc pc = .ok (.return_, 1)) (hp : Post none M) : J E X pc lv [] M := by
  intro H locs ls hP hS hl
  obtain ⟨p, l', e, R, s, m, args, below, meth, c, cells, slots, Q, A⟩ := X
  obtain ⟨hQ, hA, hk, hn, hr, hlk⟩ := G
  dsimp only [xQ, xA, xk, xn, xb, xa, xs, xt] at hQ hA hk hn hr hlk hS
  subst hQ; subst hA; subst hk; subst hn
  exact W.vret C.1.1 C.1.2.1 hr (fun t ht hW => ⟨⟨_, M, rfl, hp, by rw [ht]; exact hP⟩, hS.F ht⟩) hS.2.2 hd hlk
theorem J_aret (C : jK l E X own cc nL d) {Post : Option Value → jM → Prop} {n : String} (G : jR E X Post (some (.object n))) {a : Nat} (hd : decode cc pc = .ok (.areturn, 1)) (hp : Post (some (.ref a)) M) : J E X pc lv [.ref a] M := by
  intro H locs ls hP hS hl
  obtain ⟨p, l', e, R, s, m, args, below, meth, c, cells, slots, Q, A⟩ := X
  obtain ⟨hQ, hA, hk, hn, hr, hlk⟩ := G
  dsimp only [xQ, xA, xk, xn, xb, xa, xs, xt] at hQ hA hk hn hr hlk hS
  subst hQ; subst hA; subst hk; subst hn
  exact W.aret (v := .ref a) C.1.1 C.1.2.1 hr (Or.inl ⟨n, rfl⟩) (Or.inr ⟨a, rfl⟩) (fun t ht hW => ⟨⟨_, M, rfl, hp, by rw [ht]; exact hP⟩, hS.F ht⟩) hS.2.2 hd hlk
theorem J_run (C : jK l E X own cc nL d) {Post : Option Value → jM → Prop} {a : Array Value} {st0 : List Value} (hr : ∀ (H : Heap) (locs : List Loc) (ls : Array Slot), va_P (E.1, E.2.1) jcl (jW E M) H → va_S (xA X) (xs X).heap H locs → lv_has ls lv.length (jlv 0 lv) → va_Run (xp X) (xl X) (xe X) (xR X) (xs X) (xm X) (xa X) (xb X) (xt X) (xc X) H locs (xk X) (xn X) 0 0 (F0 (xm X) pc ls st0) st (jQ E H.size Post a) (jA E H.size))
    (kk : ∀ r M', Post r M' → J E X (pc + 3) lv (r.toList ++ st) M') : J E X pc lv st0 M := by
  intro H locs ls hP hS hl T hT Y
  obtain ⟨v, st₀, t, T', L, h0, X', hL, e1, e2, ⟨⟨r, M', hv, hp, hPt⟩, hz, hk⟩, sg⟩ := hr H locs ls hP hS hl T hT Y
  cases hv
  rw [h0] at hz hk
  have hsub : ∀ q, jA E H.size q → xA X q := by
    intro q hq
    rcases hq with ⟨k, hk', rfl⟩ | hq
    · exact C.2.2.2.2.1 k hk'
    · exact C.2.2.2.2.2.1 q (Nat.le_trans hS.1 hq)
  obtain ⟨t2, a1, b1⟩ := kk _ M' hp T'.heap (locs ++ L) ls (by rw [e1]; exact hPt)
    ⟨Nat.le_trans hS.1 (by rw [e1]; exact hz), fun q h1 h2 => by rw [e1, hk q (Nat.lt_of_lt_of_le h1 hS.1) (fun z => h2 (hsub q z))]; exact hS.2.1 q h1 h2, fun q hq => by
      rcases List.mem_append.mp hq with h | h
      · exact hS.2.2 q h
      · exact hsub _ (hL q h)⟩ hl T' rfl X'
  exact ⟨t2, sg t2 a1, b1⟩
theorem jB_blind {sz : Nat} {as : List Value} : FrameBlind (va_Pc as (jB E sz M)) := by
  intro a U g mk h
  obtain ⟨h0, h1, h2, h3, h4, h5⟩ := h
  exact ⟨h0, h1, h2, va_K.moved (u := U) (U := U.calling g mk a) (Vm.Alike.refl U.vm) h3, jF.blind g mk a h4, h5⟩
theorem jB_of (C : jK l E X own cc nL d) {H : Heap} {locs : List Loc} (hP : va_P (E.1, E.2.1) jcl (jW E M) H) (hS : va_S (xA X) (xs X).heap H locs) {U : State} (hU : U.heap = H) (hW : (xs X).WarmedH U.vm) : jB E H.size M U := by
  refine ⟨by rw [hU], by rw [hU]; exact hP, va_K.moved hW.alike C.2.1, ?_, C.2.2.2.1⟩
  rw [hU]
  refine jF.go C.2.2.1 hS (fun q hq => ?_) hW
  rcases hq with ⟨k, hk', rfl⟩ | hq
  · exact C.2.2.2.2.1 k hk'
  · exact C.2.2.2.2.2.1 q (Nat.le_trans hS.1 hq)
/-- what a call of y by its own name needs: y's code, its kind, how many arguments -/
def jy (y : MethodName) (b : ByteArray) (n : Nat) (ret : Option FieldType) (ar : Nat) : Prop := Cond.code y b n ret ∈ W0 ∧ Cond.initialized y.cls ∈ W0 ∧ (y.cls ≠ "java/lang/invoke/MethodHandle" ∧ y.cls ≠ "java/lang/invoke/VarHandle" ∧ (parseMethodDescriptor y.desc).map (fun d => d.parameters.length) = some ar) ∧ n ≤ 19
theorem J_callV (C : jK l E X own cc nL d) {y : MethodName} {b : ByteArray} {n : Nat} {ret : Option FieldType} {d' k ci i N : Nat} {T : u_T} {Cn : String} {sl : List (Nat ⊕ (Nat ⊕ (Nat × Nat)))} {As st0 : List Value} {Post : Option Value → jM → Prop} (hM : CT l E d' y b n ret (.ref (ja E k) :: As) M Post) (hy : jy y b n ret As.length) (hi : Cond.instanceMethod y ∈ W0) (he : Cond.selects Cn y y ∈ W0) (hyc : y.cls = Cn) (hw : Cond.methodLink own i y ∈ W0) (hk : jL[k]? = some (.inr (.inr (ci, sl)))) (hc : jcl[ci]? = some (Cn, T, N)) (hdd : d' < d) (hd : decode cc pc = .ok (.invokevirtual i, 3)) (hn : lv.length = nL) (hs : st0 = As.reverse ++ .ref (ja E k) :: st) (hcat : (st.map fun v => v.category).sum ≤ 8) (kk : ∀ r M', Post r M' → J E X (pc + 3) lv (r.toList ++ st) M') : J E X pc lv st0 M := by
  subst hs
  subst hyc
  refine J_run C (a := (Value.ref (ja E k) :: As).toArray) (fun H locs ls hP hS hl => ?_) kk
  have hxl : xl X = l := C.2.2.2.2.2.2.2.2.2.2
  have hG : GoodIn W0 (wsV own i y.cls y (jw y b n ret)) := by
    intro w hw'
    simp only [wsV, jw, List.mem_append, List.mem_cons, List.not_mem_nil, or_false] at hw'
    rcases hw' with (rfl | rfl | rfl | rfl) | rfl | h
    · exact good_W0 hw
    · exact good_W0 hi
    · exact good_W0 he
    · exact good_W0 hy.2.1
    · exact good_W0 hy.1
    · exact good_W0 h
  refine va_runV (As := As) (rest := st) C.1 (hxl ▸ hM H.size) (cwV As.length C.1.2.2.2.2 hG rfl rfl rfl ⟨rfl, hy.2.2.1⟩ ⟨?_, ?_⟩) ⟨jB_blind, va_recv (q0 := k) C.2.1 hP hc (jW_at hk), fun U hU hW => ⟨rfl, jB_of C hP hS hU hW⟩⟩ rfl rfl (hl.1.trans hn) rfl (lv_room hcat) hd ⟨C.2.2.2.2.2.2.2.2.1, C.2.2.2.2.2.2.2.2.2.1⟩
  · have := C.2.2.2.2.2.2.1
    show d' + 1 ≤ _
    omega
  · have h1 := C.2.2.2.2.2.2.2.1
    have h2 := hy.2.2.2
    show 8 + (n + 11) + 38 * d' ≤ _
    omega
theorem J_callS (C : jK l E X own cc nL d) {y : MethodName} {b : ByteArray} {n : Nat} {ret : Option FieldType} {d' i : Nat} {As st0 : List Value} {Post : Option Value → jM → Prop} (hM : CT l E d' y b n ret As M Post) (hy : jy y b n ret As.length) (hi : Cond.static y ∈ W0) (hw : Cond.methodLink own i y ∈ W0) (hdd : d' < d) (hd : decode cc pc = .ok (.invokestatic i, 3)) (hn : lv.length = nL) (hs : st0 = As.reverse ++ st) (hcat : (st.map fun v => v.category).sum ≤ 8) (kk : ∀ r M', Post r M' → J E X (pc + 3) lv (r.toList ++ st) M') : J E X pc lv st0 M := by
  subst hs
  refine J_run C (a := As.toArray) (fun H locs ls hP hS hl => ?_) kk
  have hxl : xl X = l := C.2.2.2.2.2.2.2.2.2.2
  have hG : GoodIn W0 (va_wsS own i y (jw y b n ret)) := by
    intro w hw'
    simp only [va_wsS, jw, List.mem_append, List.mem_cons, List.not_mem_nil, or_false] at hw'
    rcases hw' with (rfl | rfl | rfl) | rfl | h
    · exact good_W0 hw
    · exact good_W0 hi
    · exact good_W0 hy.2.1
    · exact good_W0 hy.1
    · exact good_W0 h
  refine va_runS (As := As) (rest := st) C.1 (hxl ▸ hM H.size) (va_cwS As.length C.1.2.2.2.2 hG rfl rfl rfl hy.2.2.1 ⟨?_, ?_⟩) ⟨jB_blind, fun U hU hW => ⟨rfl, jB_of C hP hS hU hW⟩⟩ rfl rfl (hl.1.trans hn) rfl (lv_room hcat) hd ⟨C.2.2.2.2.2.2.2.2.1, C.2.2.2.2.2.2.2.2.2.1⟩
  · have := C.2.2.2.2.2.2.1
    show d' + 1 ≤ _
    omega
  · have h1 := C.2.2.2.2.2.2.2.1
    have h2 := hy.2.2.2
    show 8 + (n + 11) + 38 * d' ≤ _
    omega
end JR
