abbrev nty (τ : Nat → ClassId) : List (ClassId × FieldType) := [(τ 0, .int), (τ 1, .char), (τ 2, .array .int), (τ 3, .object RX3)]
def nNs : List (String × Nat × MethodName) := [(RX7, 28, yX0_init), (RX7, 35, yX2_init), (RX7, 42, yX4_init), (RX7, 49, yX5_init), (RX5, 11, yX6_init), (RX7, 56, yX3_init)]
def NF (U : State) : Prop := va_AOA .int U ∧ va_AO RX3 U ∧ ∀ q ∈ nNs, va_Nw (.methodLinkNest q.1 q.2.1 q.2.2 RX7) U
theorem NF.warm {s U : State} (hW : s.WarmedH U.vm) (h : NF s) : NF U := ⟨va_AOA.moved hW.alike h.1, va_AO.moved hW.alike h.2.1, fun q hq => va_Nw.warmM hW (h.2.2 q hq)⟩
theorem NF.blind {U : State} (g : JFrame) (mk : MethodId) (a : Array Value) (h : NF U) : NF (U.calling g mk a) := ⟨va_AOA.moved (u := U) (U := U.calling g mk a) (Vm.Alike.refl U.vm) h.1, va_AO.moved (u := U) (U := U.calling g mk a) (Vm.Alike.refl U.vm) h.2.1, fun q hq => va_Nw.same (u := U) (U := U.calling g mk a) rfl rfl (h.2.2 q hq)⟩
/-- what holds all along a body that makes cells -/
def nK (l : Launch) (D : va_G) (τ : Nat → ClassId) (X : jX) (own : String) (cc : ByteArray) (nL d mc ms : Nat) : Prop :=
  CallFix (xp X) (xm X) (xc X) cc nL (xs X) (xa X) W0 own ∧ va_K D jcl (nty τ) (xs X) ∧ NF (xs X) ∧ (∀ q, (xs X).heap.size ≤ q → xA X q) ∧ d ≤ (xR X).frames ∧ 38 * d ≤ (xR X).locals ∧ mc ≤ (xR X).cells ∧ ms ≤ (xR X).slots ∧ xl X = l
def NJ (D : va_G) (X : jX) (k n pc : Nat) (lv : List (Option Value)) (st : List Value) (ws : va_W) : Prop := ∀ (H : Heap) (locs : List Loc) (ls : Array Slot), va_P D jcl ws H → va_D (xA X) ws → va_S (xA X) (xs X).heap H locs → lv_has ls lv.length (jlv 0 lv) → W (xp X) (xl X) (xe X) (xR X) (xs X) (xm X) (xa X) (xb X) (xt X) (xc X) H locs k n (xQ X) (F0 (xm X) pc ls st)
def NB (D : va_G) (τ : Nat → ClassId) (ws : va_W) (sz : Nat) (U : State) : Prop := U.heap.size = sz ∧ va_P D jcl ws U.heap ∧ va_D (va_A ws sz) ws ∧ va_K D jcl (nty τ) U ∧ NF U
def NQ (D : va_G) (ws : va_W) (sz : Nat) (Post : va_W → Prop) : Array Value → State → Outcome → State → Prop := fun _ st oc t => (∃ ws' : va_W, oc = .returned none ∧ Post ws' ∧ va_P D jcl ws' t.heap ∧ va_D (va_A ws sz) ws') ∧ va_F (va_A ws sz) st t
abbrev nr (d mc ms : Nat) : Room := { frames := d, cells := mc, slots := ms, locals := 38 * d }
def CN (l : Launch) (D : va_G) (τ : Nat → ClassId) (d mc ms : Nat) (y : MethodName) (b : ByteArray) (n : Nat) (as : List Value) (ws : va_W) (Post : va_W → Prop) : Prop := ∀ sz : Nat, Met l y (jw y b n none) (nr d mc ms) (va_Pc as (NB D τ ws sz)) (NQ D ws sz Post) mc ms (va_A ws sz)
def nR (D : va_G) (X : jX) (ws : va_W) (Post : va_W → Prop) (mc ms : Nat) : Prop := xQ X = MQ (xb X) (NQ D ws (xs X).heap.size Post) (xa X) (xs X) mc ms (xA X) ∧ xA X = va_A ws (xs X).heap.size ∧ (xt X).sig.returnType = none ∧ (xt X).locks = false
theorem CN_intro {l : Launch} {D : va_G} {τ : Nat → ClassId} {d mc ms : Nat} {y : MethodName} {b : ByteArray} {n : Nat} {as : List Value} {ws : va_W} {Post : va_W → Prop} {own : String} (hy : plainFor y = true) (hc : y.cls = own) (h1 : ∀ v ∈ as, v.category = 1) (h2 : (lg_sl as).length ≤ n) (h3 : (as.map some ++ List.replicate (n - as.length) none).length = n)
    (body : ∀ X : jX, nK l D τ X own b n d mc ms → nR D X ws Post mc ms → (xt X).name = y.name → NJ D X 0 0 0 (as.map some ++ List.replicate (n - as.length) none) [] ws) : CN l D τ d mc ms y b n as ws Post := by
  intro sz
  refine va_MetF (cc := b) (maxL := n) (ret := none) hy rfl ?_
  intro p e s m args below meth c s₁ B hml hv
  obtain ⟨rfl, hsz, hP, hD, hK, hF⟩ := hv
  have hx := B.exec
  have hb := B.bytes
  have hr := B.returns
  have hts := atoms_spec (ws := jw y b n none) B.pre
  have hown : s.vm.findClass own = some m.cls := hc ▸ findClass_of_methodNamed B.named
  have hlocks := B.notSynchronized
  have hnm : meth.name = y.name := (name_of_methodNamed B.named B.method).1
  subst hsz
  have hl := lv_entry as (n := n) h2
  rw [lg_entry_eq]
  generalize (lg_sl as ++ List.replicate (n - (lg_sl as).length) Slot.unset).toArray = ls at hl ⊢
  have hX := body (p, l, e, (headSpec (jw y b n none) (nr d mc ms)).room, s, m, as.toArray, below, meth, c, 0, 0, MQ below (NQ D ws s.heap.size Post) as.toArray s mc ms (va_A ws s.heap.size), va_A ws s.heap.size)
    ⟨⟨hx, hb, hml, hown, fun w hw => hts w (List.mem_cons_of_mem _ hw)⟩, hK, hF, fun q hq => Or.inr hq, Nat.le_refl d, Nat.le_refl _, Nat.le_refl _, Nat.le_refl _, rfl⟩ ⟨rfl, rfl, hr, hlocks⟩ hnm
  exact hX s.heap [] ls hP hD va_S.rf (by rw [h3, jent as _ 0 h1]; exact hl)
section NR
variable {l : Launch} {D : va_G} {τ : Nat → ClassId} {X : jX} {own : String} {cc : ByteArray} {nL d mc ms : Nat} {k n pc : Nat} {lv : List (Option Value)} {st : List Value} {ws : va_W}
theorem N_iconst (C : nK l D τ X own cc nL d mc ms) {i : Int} {v : Int32} (hd : decode cc pc = .ok (.iconst i, 1)) (hv : Int32.ofInt i = v) (kk : NJ D X k n (pc + 1) lv (.int v :: st) ws) : NJ D X k n pc lv st ws :=
  fun H locs ls hP hD hS hl => lv_iconst C.1.1 C.1.2.1 hd hv (kk H locs ls hP hD hS hl)
theorem N_bipush (C : nK l D τ X own cc nL d mc ms) {i : Int} {v : Int32} (hd : decode cc pc = .ok (.bipush i, 2)) (hv : (Int8.ofInt i).toInt32 = v) (kk : NJ D X k n (pc + 2) lv (.int v :: st) ws) : NJ D X k n pc lv st ws :=
  fun H locs ls hP hD hS hl => lv_bipush C.1.1 C.1.2.1 hd hv (kk H locs ls hP hD hS hl)
theorem N_sipush (C : nK l D τ X own cc nL d mc ms) {i : Int} {v : Int32} (hd : decode cc pc = .ok (.sipush i, 3)) (hv : (Int16.ofInt i).toInt32 = v) (kk : NJ D X k n (pc + 3) lv (.int v :: st) ws) : NJ D X k n pc lv st ws :=
  fun H locs ls hP hD hS hl => lv_sipush C.1.1 C.1.2.1 hd hv (kk H locs ls hP hD hS hl)
theorem N_aload_n (C : nK l D τ X own cc nL d mc ms) {i : Fin 4} {x : Nat} (hd : decode cc pc = .ok (.aload_n i, 1)) (h : lv[(i : Nat)]? = some (some (.ref x))) (kk : NJ D X k n (pc + 1) lv (.ref x :: st) ws) : NJ D X k n pc lv st ws :=
  fun H locs ls hP hD hS hl => lv_aload_n C.1.1 C.1.2.1 hd rfl (jget hl h) (kk H locs ls hP hD hS hl)
theorem N_iload_n (C : nK l D τ X own cc nL d mc ms) {i : Fin 4} {x : Int32} (hd : decode cc pc = .ok (.iload_n i, 1)) (h : lv[(i : Nat)]? = some (some (.int x))) (kk : NJ D X k n (pc + 1) lv (.int x :: st) ws) : NJ D X k n pc lv st ws :=
  fun H locs ls hP hD hS hl => lv_iload_n C.1.1 C.1.2.1 hd rfl (jget hl h) (kk H locs ls hP hD hS hl)
theorem N_istore_n (C : nK l D τ X own cc nL d mc ms) {i : Fin 4} {x : Int32} (hd : decode cc pc = .ok (.istore_n i, 1)) (hk : jok lv i = true) (hn : (i : Nat) < lv.length) (kk : NJ D X k n (pc + 1) (lv.set i (some (.int x))) st ws) : NJ D X k n pc lv (.int x :: st) ws :=
  fun H locs ls hP hD hS hl => lv_istore_n C.1.1 C.1.2.1 hd rfl hl hn rfl (fun ls2 hl2 => kk H locs ls2 hP hD hS (by rw [List.length_set]; exact jset1 hk hl2))
theorem N_astore_n (C : nK l D τ X own cc nL d mc ms) {i : Fin 4} {x : Nat} (hd : decode cc pc = .ok (.astore_n i, 1)) (hk : jok lv i = true) (hn : (i : Nat) < lv.length) (kk : NJ D X k n (pc + 1) (lv.set i (some (.ref x))) st ws) : NJ D X k n pc lv (.ref x :: st) ws :=
  fun H locs ls hP hD hS hl => lv_astore_n C.1.1 C.1.2.1 hd rfl hl hn rfl (fun ls2 hl2 => kk H locs ls2 hP hD hS (by rw [List.length_set]; exact jset1 hk hl2))
theorem N_iinc (C : nK l D τ X own cc nL d mc ms) {i : Nat} {q : Int} {x v : Int32} (hd : decode cc pc = .ok (.iinc i q, 3)) (h : lv[i]? = some (some (.int x))) (hv : x + Int32.ofInt q = v) (hk : jok lv i = true) (kk : NJ D X k n (pc + 3) (lv.set i (some (.int v))) st ws) : NJ D X k n pc lv st ws := by
  intro H locs ls hP hD hS hl
  obtain ⟨j, hj⟩ := List.getElem?_of_mem ((mem_jlv lv 0 (i, .int x)).mpr ⟨i, h, by simp⟩)
  exact lv_iinc C.1.1 C.1.2.1 hd hl hj hv (List.getElem?_eq_some_iff.mp h).1 rfl (fun ls2 hl2 => kk H locs ls2 hP hD hS (by rw [List.length_set]; exact jset1 hk hl2))
theorem N_iadd (C : nK l D τ X own cc nL d mc ms) {a b : Nat} (hd : decode cc pc = .ok (.iadd, 1)) (kk : NJ D X k n (pc + 1) lv (.int (nI (a + b)) :: st) ws) : NJ D X k n pc lv (.int (nI b) :: .int (nI a) :: st) ws :=
  fun H locs ls hP hD hS hl => lv_iadd C.1.1 C.1.2.1 hd (by rw [nI_add]; exact kk H locs ls hP hD hS hl)
theorem N_imul (C : nK l D τ X own cc nL d mc ms) {a b : Nat} (hd : decode cc pc = .ok (.imul, 1)) (kk : NJ D X k n (pc + 1) lv (.int (nI (a * b)) :: st) ws) : NJ D X k n pc lv (.int (nI b) :: .int (nI a) :: st) ws :=
  fun H locs ls hP hD hS hl => lv_imul C.1.1 C.1.2.1 hd (by rw [show nI a * nI b = nI (a * b) from (Int32.ofNat_mul a b).symm]; exact kk H locs ls hP hD hS hl)
theorem N_irem (C : nK l D τ X own cc nL d mc ms) {a b : Nat} (ha : a < 2 ^ 31) (hb : 0 < b) (hb2 : b < 2 ^ 31) (hd : decode cc pc = .ok (.irem, 1)) (kk : NJ D X k n (pc + 1) lv (.int (nI (a % b)) :: st) ws) : NJ D X k n pc lv (.int (nI b) :: .int (nI a) :: st) ws :=
  fun H locs ls hP hD hS hl => lv_irem C.1.1 C.1.2.1 hd (nI_ne0 hb hb2) (by rw [pk_rem ha hb hb2]; exact kk H locs ls hP hD hS hl)
theorem N_dup (C : nK l D τ X own cc nL d mc ms) {v : Value} (hd : decode cc pc = .ok (.dup, 1)) (hv : v.category = 1) (kk : NJ D X k n (pc + 1) lv (v :: v :: st) ws) : NJ D X k n pc lv (v :: st) ws :=
  fun H locs ls hP hD hS hl => lv_dup C.1.1 C.1.2.1 hd hv (kk H locs ls hP hD hS hl)
theorem N_goto (C : nK l D τ X own cc nL d mc ms) {off : Int} {tgt : Nat} (hd : decode cc pc = .ok (.goto off, 3)) (ht : (pc : Int) + off = (tgt : Int)) (kk : NJ D X k n tgt lv st ws) : NJ D X k n pc lv st ws :=
  fun H locs ls hP hD hS hl => lv_goto C.1.1 C.1.2.1 hd ht (kk H locs ls hP hD hS hl)
theorem N_icmp_ge (C : nK l D τ X own cc nL d mc ms) {a b : Nat} (ha : a < 2 ^ 31) (hb : b < 2 ^ 31) {off : Int} {tgt : Nat} (hd : decode cc pc = .ok (.if_icmp .ge off, 3)) (ht : (pc : Int) + off = (tgt : Int)) (kt : b ≤ a → NJ D X k n tgt lv st ws) (kf : a < b → NJ D X k n (pc + 3) lv st ws) : NJ D X k n pc lv (.int (nI b) :: .int (nI a) :: st) ws :=
  fun H locs ls hP hD hS hl => lv_icmp_ge C.1.1 C.1.2.1 hd ht (fun z => kt ((nI_leI hb ha).mp z) H locs ls hP hD hS hl) (fun z => kf (by
    rcases Nat.lt_or_ge a b with w | w
    · exact w
    · exact absurd ((nI_leI hb ha).mpr w) z) H locs ls hP hD hS hl)
theorem N_objInit (C : nK l D τ X own cc nL d mc ms) {i a : Nat} (hw : Cond.methodLink own i objectInit ∈ W0) (hi : Cond.instanceMethod objectInit ∈ W0) (hc : Cond.code objectInit ⟨#[0xb1]⟩ 1 none ∈ W0) (hd : decode cc pc = .ok (.invokespecial i, 3)) (hn : lv.length = nL) (h1 : 1 ≤ d) (kk : NJ D X k n (pc + 3) lv [] ws) : NJ D X k n pc lv [.ref a] ws := by
  intro H locs ls hP hD hS hl
  have g1 := C.2.2.2.2.1
  have g2 := C.2.2.2.2.2.1
  refine W.objInit C.1.1 C.1.2.1 C.1.2.2.2.1 (C.1.2.2.2.2 _ hw) (C.1.2.2.2.2 _ hi) (C.1.2.2.2.2 _ hc) rfl (by rw [C.1.2.2.1]; exact hl.1.trans hn) rfl hd (by omega) (by show 2 * 0 + 0 + 12 ≤ _; omega) ?_
  exact W.eq (g2 := F0 (xm X) (pc + 3) ls []) rfl (kk H locs ls hP hD hS hl)
theorem N_get (C : nK l D τ X own cc nL d mc ms) {q0 ci j i N a : Nat} {T : u_T} {Cn : String} {fs : List Value} {v : Value} (he : ws[q0]? = some (a, .inr (ci, fs))) (hin : ∀ w ∈ u_ws Cn T N, w ∈ W0) (hc : jcl[ci]? = some (Cn, T, N)) (hj : j < N) (hv : fs[j]? = some v) (hw : Cond.fieldLink own i (T j).1 (T j).2.1 (T j).2.2.1 ∈ W0) (hd : decode cc pc = .ok (.getfield i, 3)) (kk : NJ D X k n (pc + 3) lv (v :: st) ws) : NJ D X k n pc lv (.ref a :: st) ws :=
  fun H locs ls hP hD hS hl => va_get (ci := ci) (v := v) (C := Cn) (T := T) (N := N) C.1.1 C.1.2.1 C.1.2.2.2.2 hin C.1.2.2.2.1 C.2.1 hP q0 he hc j hj (C.1.2.2.2.2 _ hw) (fun _ h9 => h9) hv hd (kk H locs ls hP hD hS hl)
theorem N_put (C : nK l D τ X own cc nL d mc ms) {q0 ci j i N a : Nat} {T : u_T} {ty0 : Nat → FieldType} {ty : FieldType} {Cn : String} {fs : List Value} {v : Value} (he : ws[q0]? = some (a, .inr (ci, fs))) (hin : ∀ w ∈ u_ws Cn T N, w ∈ W0) (hty : ∀ k, k < N → parseFieldDescriptor (T k).2.2.1 = some (ty0 k)) (hnm : ∀ a, a < N → ∀ b, b < N → a ≠ b → (T a).2.1 ≠ (T b).2.1) (hc : jcl[ci]? = some (Cn, T, N)) (hj : j < N) (hw : Cond.fieldLink own i (T j).1 (T j).2.1 (T j).2.2.1 ∈ W0) (hfin : (T j).2.2.2 = false) (hpd : parseFieldDescriptor (T j).2.2.1 = some ty) (hn : narrow ty v = v) (hfit : fits ty v = true) (hl0 : j < fs.length) (hd : decode cc pc = .ok (.putfield i, 3)) (kk : NJ D X k n (pc + 3) lv st (ws.set q0 (a, .inr (ci, fs.set j v)))) : NJ D X k n pc lv (v :: .ref a :: st) ws :=
  fun H locs ls hP hD hS hl => va_put (ci := ci) (v := v) (ty := ty) (C := Cn) (T := T) (N := N) C.1.1 C.1.2.1 C.1.2.2.2.2 hin ty0 hty hnm C.1.2.2.2.1 C.2.1 hP hD hS q0 he hc j hj (C.1.2.2.2.2 _ hw) (fun _ h9 => h9) hfin hpd hn hfit hl0 hd (fun H1 locs1 hP1 hD1 hS1 => kk H1 locs1 ls hP1 hD1 hS1 hl)
theorem N_putF (C : nK l D τ X own cc nL d mc ms) (hin2 : (xt X).name = "<init>") {q0 ci j i N a : Nat} {T : u_T} {ty0 : Nat → FieldType} {ty : FieldType} {Cn : String} {fs : List Value} {v : Value} (he : ws[q0]? = some (a, .inr (ci, fs))) (hin : ∀ w ∈ u_ws Cn T N, w ∈ W0) (hty : ∀ k, k < N → parseFieldDescriptor (T k).2.2.1 = some (ty0 k)) (hnm : ∀ a, a < N → ∀ b, b < N → a ≠ b → (T a).2.1 ≠ (T b).2.1) (hc : jcl[ci]? = some (Cn, T, N)) (hj : j < N) (hw : Cond.fieldLink own i (T j).1 (T j).2.1 (T j).2.2.1 ∈ W0) (hfin : (T j).2.2.2 = true) (hdecl : (T j).1 = own) (hpd : parseFieldDescriptor (T j).2.2.1 = some ty) (hn : narrow ty v = v) (hfit : fits ty v = true) (hl0 : j < fs.length) (hd : decode cc pc = .ok (.putfield i, 3)) (kk : NJ D X k n (pc + 3) lv st (ws.set q0 (a, .inr (ci, fs.set j v)))) : NJ D X k n pc lv (v :: .ref a :: st) ws :=
  fun H locs ls hP hD hS hl => va_putF (ci := ci) (v := v) (ty := ty) (C := Cn) (T := T) (N := N) C.1.1 C.1.2.1 C.1.2.2.2.2 hin ty0 hty hnm C.1.2.2.2.1 C.2.1 hP hD hS q0 he hc j hj (C.1.2.2.2.2 _ hw) (fun _ h9 => h9) hfin hin2 hdecl hpd hn hfit hl0 hd (fun H1 locs1 hP1 hD1 hS1 => kk H1 locs1 ls hP1 hD1 hS1 hl)
theorem N_iast (C : nK l D τ X own cc nL d mc ms) {q0 N j a : Nat} {f : Nat → Int32} {x : Int32} (he : ws[q0]? = some (a, .inl (τ 0, N, .inl f))) (hj : j < N) (hN : N < 1000) (hd : decode cc pc = .ok (.iastore, 1)) (kk : NJ D X k n (pc + 1) lv st (ws.set q0 (a, .inl (τ 0, N, .inl (upd f j x))))) : NJ D X k n pc lv (.int x :: .int (nI j) :: .ref a :: st) ws := by
  intro H locs ls hP hD hS hl
  obtain ⟨h1, h2⟩ := j_ix (i := nI j) rfl hj (by omega)
  refine va_iast C.1.1 C.1.2.1 C.2.1 hP hD hS q0 0 he rfl h1 hd (fun H1 locs1 hP1 hD1 hS1 => ?_)
  rw [h2] at hP1 hD1
  exact kk H1 locs1 ls hP1 hD1 hS1 hl
theorem N_cast (C : nK l D τ X own cc nL d mc ms) {q0 N j a y : Nat} {f : Nat → Int32} (he : ws[q0]? = some (a, .inl (τ 1, N, .inl f))) (hj : j < N) (hN : N < 1000) (hy : y < 65536) (hd : decode cc pc = .ok (.castore, 1)) (kk : NJ D X k n (pc + 1) lv st (ws.set q0 (a, .inl (τ 1, N, .inl (upd f j (nI y)))))) : NJ D X k n pc lv (.int (nI y) :: .int (nI j) :: .ref a :: st) ws := by
  intro H locs ls hP hD hS hl
  obtain ⟨h1, h2⟩ := j_ix (i := nI j) rfl hj (by omega)
  have e : vp_nar .char (nI y) = nI y := by
    have h := (pk_charN hy).1
    simp [vp_nar, h]
  refine va_cast C.1.1 C.1.2.1 C.2.1 hP hD hS q0 1 he rfl h1 hd (fun H1 locs1 hP1 hD1 hS1 => ?_)
  rw [h2, e] at hP1 hD1
  exact kk H1 locs1 ls hP1 hD1 hS1 hl
theorem N_aald (C : nK l D τ X own cc nL d mc ms) {q0 N j a r : Nat} {f : Nat → Option Nat} (he : ws[q0]? = some (a, .inl (τ 2, N, .inr (.inr (.inr (.inr f)))))) (hj : j < N) (hN : N < 1000) (hr : f j = some r) (hd : decode cc pc = .ok (.aaload, 1)) (kk : NJ D X k n (pc + 1) lv (.ref r :: st) ws) : NJ D X k n pc lv (.int (nI j) :: .ref a :: st) ws := by
  intro H locs ls hP hD hS hl
  obtain ⟨h1, h2⟩ := j_ix (i := nI j) rfl hj (by omega)
  exact W.aald (v := .ref r) (ty := .array .int) C.1.1 C.1.2.1 (hP q0 _ he) ((C.2.1.2 2 _ rfl).1 N (fun j => va_rf (f j))) rfl (fun q => by cases q) (by show ¬ (nI j < 0 ∨ (arrV _ _ _).slots.size ≤ _); rw [arrV_size]; exact h1) (by show (arrV _ _ _).slots[_]? = _; rw [h2, arrV_read _ _ hj, hr]; rfl) rfl rfl hd (kk H locs ls hP hD hS hl)
theorem N_aast (C : nK l D τ X own cc nL d mc ms) {q0 qk N j a v : Nat} {vs : List Value} {f : Nat → Option Nat} (he : ws[q0]? = some (a, .inl (τ 3, N, .inr (.inr (.inr (.inr f)))))) (hv : ws[qk]? = some (v, .inr (3, vs))) (hj : j < N) (hN : N < 1000) (hd : decode cc pc = .ok (.aastore, 1)) (kk : NJ D X k n (pc + 1) lv st (ws.set q0 (a, .inl (τ 3, N, .inr (.inr (.inr (.inr (va_up f j (some v)))))))) ) : NJ D X k n pc lv (.ref v :: .int (nI j) :: .ref a :: st) ws := by
  intro H locs ls hP hD hS hl
  obtain ⟨h1, h2⟩ := j_ix (i := nI j) rfl hj (by omega)
  refine va_astq C.1.1 C.1.2.1 C.2.1 hP hD hS q0 3 qk 3 (r := (RX3, TX3, 3)) he rfl hv rfl h1 hd (fun H1 locs1 hP1 hD1 hS1 => ?_)
  rw [h2] at hP1 hD1
  exact kk H1 locs1 ls hP1 hD1 hS1 hl
theorem N_new (C : nK l D τ X own cc nL d mc ms) {ci i N : Nat} {T : u_T} {ty : Nat → FieldType} {Cn : String} {fs : List Value} (hin : ∀ w ∈ u_ws Cn T N, w ∈ W0) (hty : ∀ k, k < N → parseFieldDescriptor (T k).2.2.1 = some (ty k)) (hc : jcl[ci]? = some (Cn, T, N)) (hcl : Cond.classLink own i Cn ∈ W0) (hit : Cond.instantiable Cn N ∈ W0) (hini : Cond.initialized Cn ∈ W0) (hfs : ∀ j, j < N → defaultValue (ty j) = vp_V fs j) (h1 : k + 1 ≤ mc) (h2 : n + N ≤ ms) (hd : decode cc pc = .ok (.new i, 3)) (kk : ∀ q, NJ D X (k + 1) (n + N) (pc + 3) lv (.ref q :: st) (ws ++ [(q, .inr (ci, fs))])) : NJ D X k n pc lv st ws :=
  fun H locs ls hP hD hS hl => va_new (T := T) (N := N) C.1.1 C.1.2.1 C.1.2.2.2.2 hin ty hty C.1.2.2.2.1 (C.1.2.2.2.2 _ hcl) (C.1.2.2.2.2 _ hit) (C.1.2.2.2.2 _ hini) C.2.1 hP hD hS C.2.2.2.1 hc hfs (Nat.le_trans h1 C.2.2.2.2.2.2.1) (Nat.le_trans h2 C.2.2.2.2.2.2.2.1) hd (fun q H1 hP1 hD1 hS1 => kk q H1 locs ls hP1 hD1 hS1 hl)
theorem cA_eq {U : State} {c c' : ClassId} {nm : String} (h : U.vm.findClass nm = some c) (h' : U.vm.findClass nm = some c') : c = c' := Option.some.inj (h.symm.trans h')
theorem N_newi (C : nK l D τ X own cc nL d mc ms) {N : Nat} (f : Nat → Int32) (hf : ∀ i, i < N → f i = 0) (hN : N < 1000) (ha : Cond.arrayClass .int ∈ W0) (h1 : k + 1 ≤ mc) (h2 : n + N ≤ ms) (hd : decode cc pc = .ok (.newarray .int, 2)) (kk : ∀ q, NJ D X (k + 1) (n + N) (pc + 2) lv (.ref q :: st) (ws ++ [(q, .inl (τ 0, N, .inl f))])) : NJ D X k n pc lv (.int (nI N) :: st) ws := by
  intro H locs ls hP hD hS hl
  refine va_newa (atype := .int) (ty := .int) (a0 := (N, .inl f)) (N' := N) C.1.1 C.1.2.1 (C.1.2.2.2.2 _ ha) rfl C.2.1 hP hD hS C.2.2.2.1 (fun cA => ?_) (nI_pos (by omega)) (nI_clamp (by omega)) (by show N * 4 ≤ _; omega) (Nat.le_trans h1 C.2.2.2.2.2.2.1) (Nat.le_trans h2 C.2.2.2.2.2.2.2.1) hd (fun q cA H1 hK1 hP1 hD1 hS1 => ?_)
  · show arrV cA N (fun j => .int (f j)) = arrV cA N (fun _ => .int 0)
    unfold arrV
    congr 1
    apply Array.ext
    · simp
    · intro i hi hi2
      simp at hi
      simp [hf i hi]
  · have e : cA = τ 0 := cA_eq (hK1.2 4 (cA, .int) rfl).2 (C.2.1.2 0 _ rfl).2
    rw [e] at hP1 hD1
    exact kk q H1 locs ls hP1 hD1 hS1 hl
theorem N_newc (C : nK l D τ X own cc nL d mc ms) {N : Nat} (f : Nat → Int32) (hf : ∀ i, i < N → f i = 0) (hN : N < 1000) (ha : Cond.arrayClass .char ∈ W0) (h1 : k + 1 ≤ mc) (h2 : n + N ≤ ms) (hd : decode cc pc = .ok (.newarray .char, 2)) (kk : ∀ q, NJ D X (k + 1) (n + N) (pc + 2) lv (.ref q :: st) (ws ++ [(q, .inl (τ 1, N, .inl f))])) : NJ D X k n pc lv (.int (nI N) :: st) ws := by
  intro H locs ls hP hD hS hl
  refine va_newa (atype := .char) (ty := .char) (a0 := (N, .inl f)) (N' := N) C.1.1 C.1.2.1 (C.1.2.2.2.2 _ ha) rfl C.2.1 hP hD hS C.2.2.2.1 (fun cA => ?_) (nI_pos (by omega)) (nI_clamp (by omega)) (by show N * 2 ≤ _; omega) (Nat.le_trans h1 C.2.2.2.2.2.2.1) (Nat.le_trans h2 C.2.2.2.2.2.2.2.1) hd (fun q cA H1 hK1 hP1 hD1 hS1 => ?_)
  · show arrV cA N (fun j => .int (f j)) = arrV cA N (fun _ => .int 0)
    unfold arrV
    congr 1
    apply Array.ext
    · simp
    · intro i hi hi2
      simp at hi
      simp [hf i hi]
  · have e : cA = τ 1 := cA_eq (hK1.2 4 (cA, .char) rfl).2 (C.2.1.2 1 _ rfl).2
    rw [e] at hP1 hD1
    exact kk q H1 locs ls hP1 hD1 hS1 hl
theorem N_newq (C : nK l D τ X own cc nL d mc ms) {N i : Nat} (hN : N < 1000) (hcl : Cond.classLink own i RX3 ∈ W0) (h1 : k + 1 ≤ mc) (h2 : n + N ≤ ms) (hd : decode cc pc = .ok (.anewarray i, 3)) (kk : ∀ q, NJ D X (k + 1) (n + N) (pc + 3) lv (.ref q :: st) (ws ++ [(q, .inl (τ 3, N, .inr (.inr (.inr (.inr (fun _ => none))))))])) : NJ D X k n pc lv (.int (nI N) :: st) ws := by
  intro H locs ls hP hD hS hl
  refine va_newq (N' := N) C.1.1 C.1.2.1 C.1.2.2.2.1 (C.1.2.2.2.2 _ hcl) C.2.2.1.2.1 C.2.1 hP hD hS C.2.2.2.1 (nI_pos (by omega)) (nI_clamp (by omega)) (by omega) (Nat.le_trans h1 C.2.2.2.2.2.2.1) (Nat.le_trans h2 C.2.2.2.2.2.2.2.1) hd (fun q cA H1 hK1 hP1 hD1 hS1 => ?_)
  obtain ⟨-, -, -, -, -, h4⟩ := (hK1.2 4 (cA, .object RX3) rfl).2
  obtain ⟨-, -, -, -, -, h5⟩ := (C.2.1.2 3 _ rfl).2
  have e : cA = τ 3 := cA_eq h4 h5
  rw [e] at hP1 hD1
  exact kk q H1 locs ls hP1 hD1 hS1 hl
def rfs (N : Nat) (r : Nat → Nat) : Nat → Option Nat := fun i => if i < N then some (r i) else none
theorem vr_const (L : List Nat) (e : va_E) : va_pl L (vr_up (fun _ => e) L e) = L.map (fun a => (a, e)) := by
  unfold va_pl
  apply List.map_congr_left
  intro a _
  unfold vr_up
  split <;> rfl
theorem fm_of {α β : Type} {f : α → Option β} : ∀ {l : List α} {w : List β}, l.map f = w.map some → l.filterMap f = w
  | [], [], _ => rfl
  | [], _ :: _, h => by simp at h
  | _ :: _, [], h => by simp at h
  | a :: l, b :: w, h => by
    simp only [List.map_cons, List.cons.injEq] at h
    rw [List.filterMap_cons, h.1, fm_of h.2]
theorem N_mna (C : nK l D τ X own cc nL d mc ms) {N K i : Nat} (f : Nat → Int32) (hf : ∀ i, i < K → f i = 0) (hN : N < 1000) (hK0 : K < 1000) (hcl : Cond.classLink own i "[[I" ∈ W0) (ha : Cond.arrayClass .int ∈ W0) (h1 : k + (1 + N) ≤ mc) (h2 : n + (N + N * K) ≤ ms) (hd : decode cc pc = .ok (.multianewarray i 2, 4)) (kk : ∀ (q : Nat) (r : Nat → Nat), NJ D X (k + 1 + N) (n + N + N * K) (pc + 4) lv (.ref q :: st) ((ws ++ [(q, .inl (τ 2, N, .inr (.inr (.inr (.inr (rfs N r))))))]) ++ (List.range N).map (fun j => (r j, .inl (τ 0, K, .inl f))))) : NJ D X k n pc lv (.int (nI K) :: .int (nI N) :: st) ws := by
  intro H locs ls hP hD hS hl
  have hmul : N * K ≤ 1000 * 1000 := Nat.mul_le_mul (by omega) (by omega)
  refine va_mna (X := ws) (L := []) (f := fun _ => .inl (τ 0, (K, .inl f))) (ty := .int) (cy := τ 0) (N' := N) (K' := K) (z := (K, .inl f)) C.1.1 C.1.2.1 C.1.2.2.2.1 (C.1.2.2.2.2 _ hcl) C.2.2.1.1 (C.1.2.2.2.2 _ ha) (C.2.1.2 0 _ rfl).2 C.2.1 (by simpa [va_pl] using hP) (by simpa [va_pl] using hD) hS C.2.2.2.1 (nI_pos (by omega)) (nI_pos (by omega)) (nI_clamp (by omega)) (nI_clamp (by omega)) (by omega) (by show K * 4 ≤ _; omega) (by omega) rfl rfl (Nat.le_trans h1 C.2.2.2.2.2.2.1) (Nat.le_trans h2 C.2.2.2.2.2.2.2.1) (fun c => ?_) hd (fun q r cA H1 _ _ hK1 hP1 hD1 hS1 => ?_)
  · show ({ cls := c, slots := Array.replicate K (.int 0), vm := .none } : Cell) = arrV c K (fun j => .int (f j))
    rw [arrV_new]
    unfold arrV
    congr 1
    apply Array.ext
    · simp
    · intro i hi hi2
      simp at hi
      simp [hf i hi]
  · have e : cA = τ 2 := cA_eq (hK1.2 4 (cA, .array .int) rfl).2 (C.2.1.2 2 _ rfl).2
    have e2 : va_pl ([] ++ (List.range N).map r) (vr_up (fun _ => .inl (τ 0, (K, .inl f))) ((List.range N).map r) (.inl (τ 0, (K, .inl f)))) = (List.range N).map (fun j => (r j, .inl (τ 0, K, .inl f))) := by
      rw [List.nil_append, vr_const, List.map_map]
      rfl
    rw [e, e2] at hP1 hD1
    exact kk q r H1 locs ls hP1 hD1 hS1 hl
theorem nB_blind {D : va_G} {τ : Nat → ClassId} {ws : va_W} {sz : Nat} {as : List Value} : FrameBlind (va_Pc as (NB D τ ws sz)) := by
  intro a U g mk h
  obtain ⟨h0, h1, h2, h3, h4, h5⟩ := h
  exact ⟨h0, h1, h2, h3, va_K.moved (u := U) (U := U.calling g mk a) (Vm.Alike.refl U.vm) h4, NF.blind g mk a h5⟩
theorem N_run (C : nK l D τ X own cc nL d mc ms) {wc wr : va_W} {mc' ms' : Nat} {Post : va_W → Prop} {a : Array Value} {st0 : List Value} (isC isR : List Nat) (hC : isC.map (fun i => ws[i]?) = wc.map some) (hR : isR.map (fun i => ws[i]?) = wr.map some) (hn : va_nd isR = true) (hdis : ∀ i ∈ isR, i ∉ isC)
    (hr : ∀ (H : Heap) (locs : List Loc) (ls : Array Slot), va_P D jcl ws H → va_D (xA X) ws → va_S (xA X) (xs X).heap H locs → lv_has ls lv.length (jlv 0 lv) → va_Run (xp X) (xl X) (xe X) (xR X) (xs X) (xm X) (xa X) (xb X) (xt X) (xc X) H locs k n mc' ms' (F0 (xm X) pc ls st0) st (NQ D wc H.size Post a) (va_A wc H.size))
    (kk : ∀ ws', Post ws' → NJ D X (k + mc') (n + ms') (pc + 3) lv st (wr ++ ws')) : NJ D X k n pc lv st0 ws := by
  intro H locs ls hP hD hS hl T hT Y
  obtain ⟨v, st₀, t, T', L, h0, X', hL, e1, e2, ⟨⟨ws', hv, hp, hP1, hD1⟩, hz, hk⟩, sg⟩ := hr H locs ls hP hD hS hl T hT Y
  cases hv
  rw [h0] at hz hk
  have hF := va_free hD hS C.2.2.2.1 isC hC
  have hj := va_join (H1 := T'.heap) hP hD isC isR hC hR hn hdis (fun q h1 h2 => by rw [e1]; exact hk q h1 h2) hF (by rw [e1]; exact hP1) hD1
  obtain ⟨t2, a1, b1⟩ := kk ws' hp T'.heap (locs ++ L) ls hj.1 hj.2
    ⟨Nat.le_trans hS.1 (by rw [e1]; exact hz), fun q h1 h2 => by rw [e1, hk q (Nat.lt_of_lt_of_le h1 hS.1) (fun z => h2 (hF q z))]; exact hS.2.1 q h1 h2, fun q hq => by
      rcases List.mem_append.mp hq with h | h
      · exact hS.2.2 q h
      · exact hF _ (hL q h)⟩ hl T' rfl X'
  exact ⟨t2, sg t2 a1, b1⟩
theorem nB_of (C : nK l D τ X own cc nL d mc ms) {wc : va_W} {H : Heap} (isC : List Nat) (hC : isC.map (fun i => ws[i]?) = wc.map some) (hnd : va_nd isC = true) (hP : va_P D jcl ws H) (hD : va_D (xA X) ws) {U : State} (hU : U.heap = H) (hW : (xs X).WarmedH U.vm) : NB D τ wc H.size U := by
  refine ⟨by rw [hU], ?_, (hD.sub isC hnd hC).self, va_K.moved hW.alike C.2.1, NF.warm hW C.2.2.1⟩
  rw [hU]
  exact hP.sub isC (fm_of hC)
theorem N_callI (C : nK l D τ X own cc nL d mc ms) {y : MethodName} {b : ByteArray} {nn d' mc' ms' i a : Nat} {wc wr : va_W} {Post : va_W → Prop} (isC isR : List Nat) (hC : isC.map (fun i => ws[i]?) = wc.map some) (hnc : va_nd isC = true) (hR : isR.map (fun i => ws[i]?) = wr.map some) (hnr : va_nd isR = true) (hdis : ∀ i ∈ isR, i ∉ isC) (hM : CN l D τ d' mc' ms' y b nn [.ref a] wc Post) (hy : jy y b nn none 0) (hi : Cond.instanceMethod y ∈ W0) (hnm : y.name = "<init>") (hw : Cond.methodLink own i y ∈ W0) (hdd : d' < d) (hd : decode cc pc = .ok (.invokespecial i, 3)) (hn : lv.length = nL) (hcat : (st.map fun v => v.category).sum ≤ 8) (h1 : k + mc' ≤ mc) (h2 : n + ms' ≤ ms) (kk : ∀ ws', Post ws' → NJ D X (k + mc') (n + ms') (pc + 3) lv st (wr ++ ws')) : NJ D X k n pc lv (.ref a :: st) ws := by
  refine N_run C (a := ([Value.ref a] : List Value).toArray) isC isR hC hR hnr hdis (fun H locs ls hP hD hS hl => ?_) kk
  have hxl : xl X = l := C.2.2.2.2.2.2.2.2
  have hG : GoodIn W0 (jw y b nn none) := by
    intro w hw'
    simp only [jw, List.mem_cons] at hw'
    rcases hw' with rfl | h
    · exact good_W0 hy.1
    · exact good_W0 h
  refine va_runI (As := []) (rest := st) C.1 (hxl ▸ hM H.size) (cwI 0 C.1.2.2.2.2 hG rfl rfl rfl (C.1.2.2.2.2 _ hy.2.1) (C.1.2.2.2.2 _ hw) (C.1.2.2.2.2 _ hi) hnm hy.2.2.1 ⟨?_, ?_⟩) ⟨nB_blind, fun U hU hW => ⟨rfl, nB_of C isC hC hnc hP hD hU hW⟩⟩ rfl rfl (hl.1.trans hn) rfl (lv_room hcat) hd ⟨Nat.le_trans h1 C.2.2.2.2.2.2.1, Nat.le_trans h2 C.2.2.2.2.2.2.2.1⟩
  · have := C.2.2.2.2.1
    show d' + 1 ≤ _
    omega
  · have g1 := C.2.2.2.2.2.1
    have g2 := hy.2.2.2
    show 8 + (nn + 11) + 38 * d' ≤ _
    omega
theorem N_callN (C : nK l D τ X own cc nL d mc ms) {y : MethodName} {b : ByteArray} {nn d' mc' ms' i a : Nat} {wc wr : va_W} {Post : va_W → Prop} (isC isR : List Nat) (hC : isC.map (fun i => ws[i]?) = wc.map some) (hnc : va_nd isC = true) (hR : isR.map (fun i => ws[i]?) = wr.map some) (hnr : va_nd isR = true) (hdis : ∀ i ∈ isR, i ∉ isC) (hM : CN l D τ d' mc' ms' y b nn [.ref a] wc Post) (hy : jy y b nn none 0) (hi : Cond.instanceMethod y ∈ W0) (hnm : y.name = "<init>") (hw : (own, i, y) ∈ nNs) (hdd : d' < d) (hd : decode cc pc = .ok (.invokespecial i, 3)) (hn : lv.length = nL) (hcat : (st.map fun v => v.category).sum ≤ 8) (h1 : k + mc' ≤ mc) (h2 : n + ms' ≤ ms) (kk : ∀ ws', Post ws' → NJ D X (k + mc') (n + ms') (pc + 3) lv st (wr ++ ws')) : NJ D X k n pc lv (.ref a :: st) ws := by
  refine N_run C (a := ([Value.ref a] : List Value).toArray) isC isR hC hR hnr hdis (fun H locs ls hP hD hS hl => ?_) kk
  have hxl : xl X = l := C.2.2.2.2.2.2.2.2
  have hG : GoodIn W0 (jw y b nn none) := by
    intro w hw'
    simp only [jw, List.mem_cons] at hw'
    rcases hw' with rfl | h
    · exact good_W0 hy.1
    · exact good_W0 h
  refine va_runIN (host := RX7) (As := []) (rest := st) C.1 (hxl ▸ hM H.size) ⟨va_cnB 0 C.1.2.2.2.2 hG rfl rfl rfl (C.2.2.1.2.2 (own, i, y) hw) (C.1.2.2.2.2 _ hy.2.1) hy.2.2.1 ⟨?_, ?_⟩, hnm, C.1.2.2.2.2 _ hi⟩ ⟨nB_blind, fun U hU hW => ⟨rfl, nB_of C isC hC hnc hP hD hU hW⟩⟩ rfl rfl (hl.1.trans hn) rfl (lv_room hcat) hd ⟨Nat.le_trans h1 C.2.2.2.2.2.2.1, Nat.le_trans h2 C.2.2.2.2.2.2.2.1⟩
  · have := C.2.2.2.2.1
    show d' + 1 ≤ _
    omega
  · have g1 := C.2.2.2.2.2.1
    have g2 := hy.2.2.2
    show 8 + (nn + 11) + 38 * d' ≤ _
    omega
theorem N_callV (C : nK l D τ X own cc nL d mc ms) {y : MethodName} {b : ByteArray} {nn d' mc' ms' i a q0 ci N : Nat} {T : u_T} {Cn : String} {fs : List Value} {As : List Value} {wc wr : va_W} {Post : va_W → Prop} {st0 : List Value} (isC isR : List Nat) (hC : isC.map (fun i => ws[i]?) = wc.map some) (hnc : va_nd isC = true) (hR : isR.map (fun i => ws[i]?) = wr.map some) (hnr : va_nd isR = true) (hdis : ∀ i ∈ isR, i ∉ isC) (hM : CN l D τ d' mc' ms' y b nn (.ref a :: As) wc Post) (hy : jy y b nn none As.length) (hi : Cond.instanceMethod y ∈ W0) (he : Cond.selects Cn y y ∈ W0) (hyc : y.cls = Cn) (hw : Cond.methodLink own i y ∈ W0) (hq : ws[q0]? = some (a, .inr (ci, fs))) (hc : jcl[ci]? = some (Cn, T, N)) (hdd : d' < d) (hd : decode cc pc = .ok (.invokevirtual i, 3)) (hn : lv.length = nL) (hs : st0 = As.reverse ++ .ref a :: st) (hcat : (st.map fun v => v.category).sum ≤ 8) (h1 : k + mc' ≤ mc) (h2 : n + ms' ≤ ms) (kk : ∀ ws', Post ws' → NJ D X (k + mc') (n + ms') (pc + 3) lv st (wr ++ ws')) : NJ D X k n pc lv st0 ws := by
  subst hs
  subst hyc
  refine N_run C (a := (Value.ref a :: As).toArray) isC isR hC hR hnr hdis (fun H locs ls hP hD hS hl => ?_) kk
  have hxl : xl X = l := C.2.2.2.2.2.2.2.2
  have hG : GoodIn W0 (wsV own i y.cls y (jw y b nn none)) := by
    intro w hw'
    simp only [wsV, jw, List.mem_append, List.mem_cons, List.not_mem_nil, or_false] at hw'
    rcases hw' with (rfl | rfl | rfl | rfl) | rfl | h
    · exact good_W0 hw
    · exact good_W0 hi
    · exact good_W0 he
    · exact good_W0 hy.2.1
    · exact good_W0 hy.1
    · exact good_W0 h
  refine va_runV (As := As) (rest := st) C.1 (hxl ▸ hM H.size) (cwV As.length C.1.2.2.2.2 hG rfl rfl rfl ⟨rfl, hy.2.2.1⟩ ⟨?_, ?_⟩) ⟨nB_blind, va_recv (q0 := q0) C.2.1 hP hc hq, fun U hU hW => ⟨rfl, nB_of C isC hC hnc hP hD hU hW⟩⟩ rfl rfl (hl.1.trans hn) rfl (lv_room hcat) hd ⟨Nat.le_trans h1 C.2.2.2.2.2.2.1, Nat.le_trans h2 C.2.2.2.2.2.2.2.1⟩
  · have := C.2.2.2.2.1
    show d' + 1 ≤ _
    omega
  · have g1 := C.2.2.2.2.2.1
    have g2 := hy.2.2.2
    show 8 + (nn + 11) + 38 * d' ≤ _
    omega
theorem N_vret (C : nK l D τ X own cc nL d mc ms) {w0 : va_W} {Post : va_W → Prop} (G : nR D X w0 Post mc ms) (hd : decode cc pc = .ok (.return_, 1)) (hk : k = mc) (hn : n = ms) (hp : Post ws) : NJ D X k n pc lv [] ws := by
  intro H locs ls hP hD hS hl
  obtain ⟨p, l', e, R, s, m, args, below, meth, c, cells, slots, Q, A⟩ := X
  obtain ⟨hQ, hA, hr, hlk⟩ := G
  dsimp only [xQ, xA, xb, xa, xs, xt] at hQ hA hr hlk hS hD
  subst hQ; subst hA; subst hk; subst hn
  exact W.vret C.1.1 C.1.2.1 hr (fun t ht hW => ⟨⟨ws, rfl, hp, by rw [ht]; exact hP, hD⟩, hS.F ht⟩) hS.2.2 hd hlk
end NR
set_option maxRecDepth 100000 in
theorem wA_int : Cond.arrayClass .int ∈ W0 := W0_t (i := 67) rfl (by decide +kernel)
set_option maxRecDepth 100000 in
theorem wA_char : Cond.arrayClass .char ∈ W0 := W0_t (i := 898) rfl (by decide +kernel)
