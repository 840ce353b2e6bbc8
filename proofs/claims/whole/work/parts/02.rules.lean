/-- an int that tells a Bool -/
def bI (b : Bool) : Int32 := if b then 1 else 0
theorem bI_0 (b : Bool) : bI b = 0 ↔ b = false := by cases b <;> decide
theorem bI_n0 (b : Bool) : ¬ bI b = 0 ↔ b = true := by cases b <;> decide
theorem bI_narrow (b : Bool) : narrow .boolean (.int (bI b)) = .int (bI b) := by cases b <;> rfl
theorem arrV_congr {cA : ClassId} {n : Nat} {f g : Nat → Int32} (h : ∀ j, j < n → g j = f j) : arrV cA n (fun j => .int (g j)) = arrV cA n (fun j => .int (f j)) := by
  unfold arrV
  congr 1
  apply Array.ext
  · simp
  · intro i h1 h2
    simp at h1
    simp [h i (by simpa using h1)]
/-! ===== contracts and rows with heap, locals' array and written places hidden ===== -/
abbrev xG : Type := va_G × ClassId × ClassId
abbrev xTY (G : xG) : List (ClassId × FieldType) := [(G.2.1, .int), (G.2.2, .object RX0)]
abbrev xL : Type := List (Nat × Value)
/-- what stays, of a launch: classes, arrays, links to nest mates -/
def xK (G : xG) (U : State) : Prop := va_K G.1 vwCl (xTY G) U ∧ ∀ q ∈ xNest, va_Nw (.methodLinkNest q.1 q.2.1 q.2.2.1 q.2.2.2) U
theorem xK.call {G : xG} {U : State} {g : JFrame} {mk : MethodId} {a : Array Value} (h : xK G U) : xK G (U.calling g mk a) :=
  ⟨va_K.moved (u := U) (U := U.calling g mk a) (Vm.Alike.refl U.vm) h.1, fun q hq => va_Nw.same (u := U) (U := U.calling g mk a) rfl rfl (h.2 q hq)⟩
theorem xK.warm {G : xG} {s U : State} (hW : s.WarmedH U.vm) (h : xK G s) : xK G U := ⟨va_K.moved hW.alike h.1, fun q hq => va_Nw.warmM hW (h.2 q hq)⟩
/-- what a method wants beside (statics, constant texts): of an area that may be written, and a state -/
abbrev xE : Type := (Nat → Prop) → State → Prop
def xEok (E : xE) : Prop := (∀ (A : Nat → Prop) (U : State) (g : JFrame) (mk : MethodId) (a : Array Value), E A U → E A (U.calling g mk a)) ∧
  ∀ (A A1 : Nat → Prop) (s U : State), s.WarmedH U.vm → (∀ q : Nat, q < s.heap.size → ¬ A q → U.heap[q]? = s.heap[q]?) → (∀ q, A1 q → A q) → E A s → E A1 U
def xE0 : xE := fun _ _ => True
theorem xE0_ok : xEok xE0 := ⟨fun _ _ _ _ _ _ => trivial, fun _ _ _ _ _ _ _ _ => trivial⟩
def xQ (r : Option Value) (B : State → Prop) (A : Nat → Prop) : Array Value → State → Outcome → State → Prop := fun _ st oc t => (oc = .returned r ∧ B t) ∧ va_F A st t
abbrev xRm (fr lo mc ms : Nat) : Room := { frames := fr, cells := mc, slots := ms, locals := lo }
/-- what an answer must be for a return type -/
def xOK (ret : Option FieldType) : Option Value → Prop
  | none => ret = none
  | some (.int i) => ∃ ty, ret = some ty ∧ narrow ty (.int i) = .int i
  | some (.long _) => ret = some .long
  | some (.ref _) => ∃ n, ret = some (.object n)
  | some .null => ∃ n, ret = some (.object n)
  | _ => False
/-- A CONTRACT: arguments av, world w; it answers r, in a world of which Fin holds -/
def xM (l : Launch) (G : xG) (E : xE) (y : MethodName) (cc : ByteArray) (n : Nat) (ret : Option FieldType) (fr lo mc ms : Nat) (av : List Value) (w : va_W) (r : Option Value) (Fin : va_W → Prop) : Prop :=
  ∀ sz : Nat, Met l y (.code y cc n ret :: wU) (xRm fr lo mc ms) (va_Pc av (fun U => U.heap.size = sz ∧ va_P G.1 vwCl w U.heap ∧ xK G U ∧ va_D (fun _ => True) w ∧ E (va_A w sz) U))
    (xQ r (fun t => ∃ w1, Fin w1 ∧ va_P G.1 vwCl w1 t.heap ∧ va_D (va_A w sz) w1) (va_A w sz)) mc ms (va_A w sz)
abbrev xKt : Type := va_W → Nat → Nat → Nat → xL → List Value → Prop
/-- the walk's judgement: heap, places written and the locals' array are hidden -/
def xW (p : Program) (l : Launch) (e : Env) (R : Room) (s : State) (m : MethodId) (args : Array Value) (below : List Frame) (meth : Method) (c : Code) (Q : State → Prop) (G : xG) (A : Nat → Prop) (nL : Nat) : xKt := fun ws k z pc lv st =>
  ∀ (H : Heap) (locs : List Loc) (ls : Array Slot), va_P G.1 vwCl ws H → va_D A ws → va_S A s.heap H locs → lv_has ls nL lv → W p l e R s m args below meth c H locs k z Q (F0 m pc ls st)
/-- the opcode that gives an answer back -/
def xRetOp (cc : ByteArray) (pc : Nat) : Option Value → Prop
  | none => decode cc pc = .ok (.return_, 1)
  | some (.int _) => decode cc pc = .ok (.ireturn, 1)
  | some (.long _) => decode cc pc = .ok (.lreturn, 1)
  | some (.ref _) => decode cc pc = .ok (.areturn, 1)
  | some .null => decode cc pc = .ok (.areturn, 1)
  | _ => False
/-- where a walk stands: its method, what stays, and when it may end (Z) -/
def xR (l : Launch) (G : xG) (E : xE) (own nm : String) (cc : ByteArray) (nL : Nat) (R : Room) (Z : Option Value → va_W → Nat → Nat → Prop) (K : xKt) : Prop :=
  ∃ (p : Program) (e : Env) (s : State) (m : MethodId) (args : Array Value) (below : List Frame) (meth : Method) (c : Code) (Q : State → Prop) (A : Nat → Prop),
    p.tables.exec = Jvm.exec ∧ c.code = cc ∧ c.maxLocals = nL ∧ s.vm.findClass own = some m.cls ∧ (∀ w ∈ wU, w.before args s = true) ∧ xK G s ∧ E A s ∧ (∀ q, s.heap.size ≤ q → A q) ∧ meth.name = nm ∧
    K = xW p l e R s m args below meth c Q G A nL ∧
    ∀ (v : Option Value) (ws : va_W) (k z pc : Nat) (lv : xL), Z v ws k z → xRetOp cc pc v → K ws k z pc lv v.toList
def xZ (r : Option Value) (Fin : va_W → Prop) (mc ms : Nat) : Option Value → va_W → Nat → Nat → Prop := fun v ws k z => v = r ∧ Fin ws ∧ k ≤ mc ∧ z ≤ ms
set_option maxHeartbeats 4000000 in
theorem x_entry {l : Launch} {G : xG} {E : xE} {y : MethodName} {cc : ByteArray} {n : Nat} {ret : Option FieldType} {fr lo mc ms : Nat} {av : List Value} {w : va_W} {r : Option Value} {Fin : va_W → Prop} {lv : xL}
    (hy : plainName y.cls = true) (hlen : (lg_sl av).length ≤ n) (hlv : lv_args 0 av = lv) (hret : xOK ret r)
    (body : ∀ K : xKt, xR l G E y.cls y.name cc n (xRm fr lo mc ms) (xZ r Fin mc ms) K → K w 0 0 0 lv []) : xM l G E y cc n ret fr lo mc ms av w r Fin := by
  intro sz
  refine Met.ofW (cc := cc) (maxL := n) (ret := ret) hy rfl ?_
  intro p e s m args below meth c s₁ B hml hv
  obtain ⟨rfl, hsz, hP, hK, hD0, hE⟩ := hv
  have hts := atoms_spec (ws := .code y cc n ret :: wU) B.pre
  have hown : s.vm.findClass y.cls = some m.cls := findClass_of_methodNamed B.named
  subst hsz
  have hD := hD0.self (sz := s.heap.size)
  have hA : ∀ q : Nat, s.heap.size ≤ q → va_A w s.heap.size q := fun q h => Or.inr h
  have hl := lv_entry av (n := n) hlen
  rw [lg_entry_eq]
  have hr := B.returns
  have hlocks := B.notSynchronized
  have hb := B.bytes
  have hx := B.exec
  refine body (xW p l e (xRm fr lo mc ms) s m av.toArray below meth c (MQ below (xQ r (fun t => ∃ w1, Fin w1 ∧ va_P G.1 vwCl w1 t.heap ∧ va_D (va_A w s.heap.size) w1) (va_A w s.heap.size)) av.toArray s mc ms (va_A w s.heap.size)) G (va_A w s.heap.size) n)
    ⟨p, e, s, m, av.toArray, below, meth, c, _, va_A w s.heap.size, hx, hb, hml, hown, fun w hw => hts w (List.mem_cons_of_mem _ hw), hK, hE, hA, (name_of_methodNamed B.named B.method).1, rfl, ?_⟩ s.heap [] _ hP hD va_S.rf (hlv ▸ hl)
  intro v ws k z pc lv' hZ hop H locs ls hP1 hD1 hS1 hl1
  obtain ⟨rfl, hF, hk, hz⟩ := hZ
  refine W.widen (k := mc) (n := ms) hk hz ?_
  have hq : ∀ t : State, t.heap = H → s.WarmedH t.vm → xQ v (fun t => ∃ w1, Fin w1 ∧ va_P G.1 vwCl w1 t.heap ∧ va_D (va_A w s.heap.size) w1) (va_A w s.heap.size) av.toArray s (.returned v) t :=
    fun t ht hW => ⟨⟨rfl, ws, hF, by rw [ht]; exact hP1, hD1⟩, hS1.F ht⟩
  match v, hret, hop, hq with
  | none, hret, hop, hq => exact W.vret hx hb (by rw [hr]; exact hret) hq hS1.2.2 hop
  | some (.int i), hret, hop, hq =>
    obtain ⟨ty, h1, h2⟩ := hret
    exact W.zret hx hb (by rw [hr]; exact h1) h2 hq hS1.2.2 hop
  | some (.long i), hret, hop, hq => exact W.lret hx hb (by rw [hr]; exact hret) hq hS1.2.2 hop
  | some (.ref i), hret, hop, hq =>
    obtain ⟨nn, h1⟩ := hret
    exact W.aret hx hb (by rw [hr]; exact h1) (Or.inl ⟨nn, rfl⟩) (Or.inr ⟨i, rfl⟩) hq hS1.2.2 hop
  | some .null, hret, hop, hq =>
    obtain ⟨nn, h1⟩ := hret
    exact W.aret hx hb (by rw [hr]; exact h1) (Or.inl ⟨nn, rfl⟩) (Or.inl rfl) hq hS1.2.2 hop
section XR
variable {l : Launch} {G : xG} {E : xE} {own nm : String} {cc : ByteArray} {nL : Nat} {R : Room} {Z : Option Value → va_W → Nat → Nat → Prop} {K : xKt} {ws : va_W} {k z pc : Nat} {lv : xL} {st : List Value}

theorem x_iconst {n : Int} {v : Int32} (X : xR l G E own nm cc nL R Z K) (hdg : decode cc pc = .ok (.iconst n, 1)) (hv : Int32.ofInt n = v) (kk : K ws k z (pc + 1) lv (.int v :: st)) : K ws k z pc lv (st) := by
  obtain ⟨p, e, s, m, args, below, meth, c, Q, A, hx, hb, hml, hown, hts, hK, hE, hA, hnm, rfl, hZ⟩ := X
  intro H locs ls hP hD hS hl
  exact lv_iconst hx hb hdg hv (kk H locs ls hP hD hS hl)

theorem x_bipush {n : Int} {v : Int32} (X : xR l G E own nm cc nL R Z K) (hdg : decode cc pc = .ok (.bipush n, 2)) (hv : (Int8.ofInt n).toInt32 = v) (kk : K ws k z (pc + 2) lv (.int v :: st)) : K ws k z pc lv (st) := by
  obtain ⟨p, e, s, m, args, below, meth, c, Q, A, hx, hb, hml, hown, hts, hK, hE, hA, hnm, rfl, hZ⟩ := X
  intro H locs ls hP hD hS hl
  exact lv_bipush hx hb hdg hv (kk H locs ls hP hD hS hl)

theorem x_sipush {n : Int} {v : Int32} (X : xR l G E own nm cc nL R Z K) (hdg : decode cc pc = .ok (.sipush n, 3)) (hv : (Int16.ofInt n).toInt32 = v) (kk : K ws k z (pc + 3) lv (.int v :: st)) : K ws k z pc lv (st) := by
  obtain ⟨p, e, s, m, args, below, meth, c, Q, A, hx, hb, hml, hown, hts, hK, hE, hA, hnm, rfl, hZ⟩ := X
  intro H locs ls hP hD hS hl
  exact lv_sipush hx hb hdg hv (kk H locs ls hP hD hS hl)

theorem x_lconst {n : Fin 2} {v : Int64} (X : xR l G E own nm cc nL R Z K) (hdg : decode cc pc = .ok (.lconst n, 1)) (hv : Int64.ofNat (n : Nat) = v) (kk : K ws k z (pc + 1) lv (.long v :: st)) : K ws k z pc lv (st) := by
  obtain ⟨p, e, s, m, args, below, meth, c, Q, A, hx, hb, hml, hown, hts, hK, hE, hA, hnm, rfl, hZ⟩ := X
  intro H locs ls hP hD hS hl
  exact lv_lconst hx hb hdg hv (kk H locs ls hP hD hS hl)

theorem x_null  (X : xR l G E own nm cc nL R Z K) (hdg : decode cc pc = .ok (.aconst_null, 1)) (kk : K ws k z (pc + 1) lv (.null :: st)) : K ws k z pc lv (st) := by
  obtain ⟨p, e, s, m, args, below, meth, c, Q, A, hx, hb, hml, hown, hts, hK, hE, hA, hnm, rfl, hZ⟩ := X
  intro H locs ls hP hD hS hl
  exact lv_null hx hb hdg (kk H locs ls hP hD hS hl)

theorem x_ldc {index : Nat} {v : Int32} (X : xR l G E own nm cc nL R Z K) (hc : Cond.constant own index v ∈ wU) (hdg : decode cc pc = .ok (.ldc index, 2)) (kk : K ws k z (pc + 2) lv (.int v :: st)) : K ws k z pc lv (st) := by
  obtain ⟨p, e, s, m, args, below, meth, c, Q, A, hx, hb, hml, hown, hts, hK, hE, hA, hnm, rfl, hZ⟩ := X
  intro H locs ls hP hD hS hl
  exact lv_ldc hx hb hown (hts _ hc) hdg (kk H locs ls hP hD hS hl)

theorem x_ldcw {index : Nat} {v : Int32} (X : xR l G E own nm cc nL R Z K) (hc : Cond.constant own index v ∈ wU) (hdg : decode cc pc = .ok (.ldc_w index, 3)) (kk : K ws k z (pc + 3) lv (.int v :: st)) : K ws k z pc lv (st) := by
  obtain ⟨p, e, s, m, args, below, meth, c, Q, A, hx, hb, hml, hown, hts, hK, hE, hA, hnm, rfl, hZ⟩ := X
  intro H locs ls hP hD hS hl
  exact lv_ldcw hx hb hown (hts _ hc) hdg (kk H locs ls hP hD hS hl)

theorem x_ldc2 {index : Nat} {v : Int64} (X : xR l G E own nm cc nL R Z K) (hc : Cond.constantLong own index v ∈ wU) (hdg : decode cc pc = .ok (.ldc2_w index, 3)) (kk : K ws k z (pc + 3) lv (.long v :: st)) : K ws k z pc lv (st) := by
  obtain ⟨p, e, s, m, args, below, meth, c, Q, A, hx, hb, hml, hown, hts, hK, hE, hA, hnm, rfl, hZ⟩ := X
  intro H locs ls hP hD hS hl
  exact lv_ldc2 hx hb hown (hts _ hc) hdg (kk H locs ls hP hD hS hl)

theorem x_iloadn {k0 : Fin 4} {x : Int32} (X : xR l G E own nm cc nL R Z K) (hdg : decode cc pc = .ok (.iload_n k0, 1)) (j : Nat) (hj : lv[j]? = some ((k0 : Nat), .int x)) (kk : K ws k z (pc + 1) lv (.int x :: st)) : K ws k z pc lv (st) := by
  obtain ⟨p, e, s, m, args, below, meth, c, Q, A, hx, hb, hml, hown, hts, hK, hE, hA, hnm, rfl, hZ⟩ := X
  intro H locs ls hP hD hS hl
  exact lv_iload_n hx hb hdg rfl (lv_at hl j hj) (kk H locs ls hP hD hS hl)

theorem x_iload {i : Nat} {x : Int32} (X : xR l G E own nm cc nL R Z K) (hdg : decode cc pc = .ok (.iload i, 2)) (j : Nat) (hj : lv[j]? = some (i, .int x)) (kk : K ws k z (pc + 2) lv (.int x :: st)) : K ws k z pc lv (st) := by
  obtain ⟨p, e, s, m, args, below, meth, c, Q, A, hx, hb, hml, hown, hts, hK, hE, hA, hnm, rfl, hZ⟩ := X
  intro H locs ls hP hD hS hl
  exact lv_iload hx hb hdg (lv_at hl j hj) (kk H locs ls hP hD hS hl)

theorem x_istoren {k0 : Fin 4} {x : Int32} {lv' : xL} (X : xR l G E own nm cc nL R Z K) (hdg : decode cc pc = .ok (.istore_n k0, 1)) (hn : (k0 : Nat) < nL) (hl' : ((k0 : Nat), Value.int x) :: lv.filter (fun q => !(q.1 == (k0 : Nat)) && !(q.1 + 1 == (k0 : Nat) && q.2.category == 2)) = lv') (kk : K ws k z (pc + 1) lv' st) : K ws k z pc lv (.int x :: st) := by
  obtain ⟨p, e, s, m, args, below, meth, c, Q, A, hx, hb, hml, hown, hts, hK, hE, hA, hnm, rfl, hZ⟩ := X
  intro H locs ls hP hD hS hl
  exact lv_istore_n hx hb hdg rfl hl hn hl' (fun ls1 h1 => kk H locs ls1 hP hD hS h1)

theorem x_istore {i : Nat} {x : Int32} {lv' : xL} (X : xR l G E own nm cc nL R Z K) (hdg : decode cc pc = .ok (.istore i, 2)) (hn : i < nL) (hl' : (i, Value.int x) :: lv.filter (fun q => !(q.1 == i) && !(q.1 + 1 == i && q.2.category == 2)) = lv') (kk : K ws k z (pc + 2) lv' st) : K ws k z pc lv (.int x :: st) := by
  obtain ⟨p, e, s, m, args, below, meth, c, Q, A, hx, hb, hml, hown, hts, hK, hE, hA, hnm, rfl, hZ⟩ := X
  intro H locs ls hP hD hS hl
  exact lv_istore hx hb hdg hl hn hl' (fun ls1 h1 => kk H locs ls1 hP hD hS h1)

theorem x_lloadn {k0 : Fin 4} {x : Int64} (X : xR l G E own nm cc nL R Z K) (hdg : decode cc pc = .ok (.lload_n k0, 1)) (j : Nat) (hj : lv[j]? = some ((k0 : Nat), .long x)) (kk : K ws k z (pc + 1) lv (.long x :: st)) : K ws k z pc lv (st) := by
  obtain ⟨p, e, s, m, args, below, meth, c, Q, A, hx, hb, hml, hown, hts, hK, hE, hA, hnm, rfl, hZ⟩ := X
  intro H locs ls hP hD hS hl
  exact lv_lload_n hx hb hdg rfl (lv_at hl j hj) (kk H locs ls hP hD hS hl)

theorem x_lload {i : Nat} {x : Int64} (X : xR l G E own nm cc nL R Z K) (hdg : decode cc pc = .ok (.lload i, 2)) (j : Nat) (hj : lv[j]? = some (i, .long x)) (kk : K ws k z (pc + 2) lv (.long x :: st)) : K ws k z pc lv (st) := by
  obtain ⟨p, e, s, m, args, below, meth, c, Q, A, hx, hb, hml, hown, hts, hK, hE, hA, hnm, rfl, hZ⟩ := X
  intro H locs ls hP hD hS hl
  exact lv_lload hx hb hdg (lv_at hl j hj) (kk H locs ls hP hD hS hl)

theorem x_lstoren {k0 : Fin 4} {x : Int64} {lv' : xL} (X : xR l G E own nm cc nL R Z K) (hdg : decode cc pc = .ok (.lstore_n k0, 1)) (hn : (k0 : Nat) + 1 < nL) (hl' : ((k0 : Nat), Value.long x) :: lv.filter (fun q => !(q.1 == (k0 : Nat)) && (!(q.1 == (k0 : Nat) + 1) && !(q.1 + 1 == (k0 : Nat) && q.2.category == 2))) = lv') (kk : K ws k z (pc + 1) lv' st) : K ws k z pc lv (.long x :: st) := by
  obtain ⟨p, e, s, m, args, below, meth, c, Q, A, hx, hb, hml, hown, hts, hK, hE, hA, hnm, rfl, hZ⟩ := X
  intro H locs ls hP hD hS hl
  exact lv_lstore_n hx hb hdg rfl hl hn hl' (fun ls1 h1 => kk H locs ls1 hP hD hS h1)

theorem x_lstore {i : Nat} {x : Int64} {lv' : xL} (X : xR l G E own nm cc nL R Z K) (hdg : decode cc pc = .ok (.lstore i, 2)) (hn : i + 1 < nL) (hl' : (i, Value.long x) :: lv.filter (fun q => !(q.1 == i) && (!(q.1 == i + 1) && !(q.1 + 1 == i && q.2.category == 2))) = lv') (kk : K ws k z (pc + 2) lv' st) : K ws k z pc lv (.long x :: st) := by
  obtain ⟨p, e, s, m, args, below, meth, c, Q, A, hx, hb, hml, hown, hts, hK, hE, hA, hnm, rfl, hZ⟩ := X
  intro H locs ls hP hD hS hl
  exact lv_lstore hx hb hdg hl hn hl' (fun ls1 h1 => kk H locs ls1 hP hD hS h1)

theorem x_aloadn {k0 : Fin 4} {x : Nat} (X : xR l G E own nm cc nL R Z K) (hdg : decode cc pc = .ok (.aload_n k0, 1)) (j : Nat) (hj : lv[j]? = some ((k0 : Nat), .ref x)) (kk : K ws k z (pc + 1) lv (.ref x :: st)) : K ws k z pc lv (st) := by
  obtain ⟨p, e, s, m, args, below, meth, c, Q, A, hx, hb, hml, hown, hts, hK, hE, hA, hnm, rfl, hZ⟩ := X
  intro H locs ls hP hD hS hl
  exact lv_aload_n hx hb hdg rfl (lv_at hl j hj) (kk H locs ls hP hD hS hl)

theorem x_aload {i : Nat} {x : Nat} (X : xR l G E own nm cc nL R Z K) (hdg : decode cc pc = .ok (.aload i, 2)) (j : Nat) (hj : lv[j]? = some (i, .ref x)) (kk : K ws k z (pc + 2) lv (.ref x :: st)) : K ws k z pc lv (st) := by
  obtain ⟨p, e, s, m, args, below, meth, c, Q, A, hx, hb, hml, hown, hts, hK, hE, hA, hnm, rfl, hZ⟩ := X
  intro H locs ls hP hD hS hl
  exact lv_aload hx hb hdg (lv_at hl j hj) (kk H locs ls hP hD hS hl)

theorem x_astoren {k0 : Fin 4} {x : Nat} {lv' : xL} (X : xR l G E own nm cc nL R Z K) (hdg : decode cc pc = .ok (.astore_n k0, 1)) (hn : (k0 : Nat) < nL) (hl' : ((k0 : Nat), Value.ref x) :: lv.filter (fun q => !(q.1 == (k0 : Nat)) && !(q.1 + 1 == (k0 : Nat) && q.2.category == 2)) = lv') (kk : K ws k z (pc + 1) lv' st) : K ws k z pc lv (.ref x :: st) := by
  obtain ⟨p, e, s, m, args, below, meth, c, Q, A, hx, hb, hml, hown, hts, hK, hE, hA, hnm, rfl, hZ⟩ := X
  intro H locs ls hP hD hS hl
  exact lv_astore_n hx hb hdg rfl hl hn hl' (fun ls1 h1 => kk H locs ls1 hP hD hS h1)

theorem x_astore {i : Nat} {x : Nat} {lv' : xL} (X : xR l G E own nm cc nL R Z K) (hdg : decode cc pc = .ok (.astore i, 2)) (hn : i < nL) (hl' : (i, Value.ref x) :: lv.filter (fun q => !(q.1 == i) && !(q.1 + 1 == i && q.2.category == 2)) = lv') (kk : K ws k z (pc + 2) lv' st) : K ws k z pc lv (.ref x :: st) := by
  obtain ⟨p, e, s, m, args, below, meth, c, Q, A, hx, hb, hml, hown, hts, hK, hE, hA, hnm, rfl, hZ⟩ := X
  intro H locs ls hP hD hS hl
  exact lv_astore hx hb hdg hl hn hl' (fun ls1 h1 => kk H locs ls1 hP hD hS h1)

theorem x_iinc {i : Nat} {n : Int} {x v : Int32} {lv' : xL} (X : xR l G E own nm cc nL R Z K) (hdg : decode cc pc = .ok (.iinc i n, 3)) (j : Nat) (hj : lv[j]? = some (i, .int x)) (hv : x + Int32.ofInt n = v) (hn : i < nL) (hl' : (i, Value.int v) :: lv.filter (fun q => !(q.1 == i) && !(q.1 + 1 == i && q.2.category == 2)) = lv') (kk : K ws k z (pc + 3) lv' st) : K ws k z pc lv st := by
  obtain ⟨p, e, s, m, args, below, meth, c, Q, A, hx, hb, hml, hown, hts, hK, hE, hA, hnm, rfl, hZ⟩ := X
  intro H locs ls hP hD hS hl
  exact lv_iinc hx hb hdg hl hj hv hn hl' (fun ls1 h1 => kk H locs ls1 hP hD hS h1)

theorem x_iadd {x y v : Int32} (X : xR l G E own nm cc nL R Z K) (hdg : decode cc pc = .ok (.iadd, 1)) (hv : x + y = v) (kk : K ws k z (pc + 1) lv (.int v :: st)) : K ws k z pc lv (.int y :: .int x :: st) := by
  obtain ⟨p, e, s, m, args, below, meth, c, Q, A, hx, hb, hml, hown, hts, hK, hE, hA, hnm, rfl, hZ⟩ := X
  intro H locs ls hP hD hS hl
  exact lv_iadd hx hb hdg (hv ▸ (kk H locs ls hP hD hS hl))

theorem x_isub {x y v : Int32} (X : xR l G E own nm cc nL R Z K) (hdg : decode cc pc = .ok (.isub, 1)) (hv : x - y = v) (kk : K ws k z (pc + 1) lv (.int v :: st)) : K ws k z pc lv (.int y :: .int x :: st) := by
  obtain ⟨p, e, s, m, args, below, meth, c, Q, A, hx, hb, hml, hown, hts, hK, hE, hA, hnm, rfl, hZ⟩ := X
  intro H locs ls hP hD hS hl
  exact lv_isub hx hb hdg (hv ▸ (kk H locs ls hP hD hS hl))

theorem x_imul {x y v : Int32} (X : xR l G E own nm cc nL R Z K) (hdg : decode cc pc = .ok (.imul, 1)) (hv : x * y = v) (kk : K ws k z (pc + 1) lv (.int v :: st)) : K ws k z pc lv (.int y :: .int x :: st) := by
  obtain ⟨p, e, s, m, args, below, meth, c, Q, A, hx, hb, hml, hown, hts, hK, hE, hA, hnm, rfl, hZ⟩ := X
  intro H locs ls hP hD hS hl
  exact lv_imul hx hb hdg (hv ▸ (kk H locs ls hP hD hS hl))

theorem x_iand {x y v : Int32} (X : xR l G E own nm cc nL R Z K) (hdg : decode cc pc = .ok (.iand, 1)) (hv : x &&& y = v) (kk : K ws k z (pc + 1) lv (.int v :: st)) : K ws k z pc lv (.int y :: .int x :: st) := by
  obtain ⟨p, e, s, m, args, below, meth, c, Q, A, hx, hb, hml, hown, hts, hK, hE, hA, hnm, rfl, hZ⟩ := X
  intro H locs ls hP hD hS hl
  exact lv_iand hx hb hdg (hv ▸ (kk H locs ls hP hD hS hl))

theorem x_ior {x y v : Int32} (X : xR l G E own nm cc nL R Z K) (hdg : decode cc pc = .ok (.ior, 1)) (hv : x ||| y = v) (kk : K ws k z (pc + 1) lv (.int v :: st)) : K ws k z pc lv (.int y :: .int x :: st) := by
  obtain ⟨p, e, s, m, args, below, meth, c, Q, A, hx, hb, hml, hown, hts, hK, hE, hA, hnm, rfl, hZ⟩ := X
  intro H locs ls hP hD hS hl
  exact lv_ior hx hb hdg (hv ▸ (kk H locs ls hP hD hS hl))

theorem x_ixor {x y v : Int32} (X : xR l G E own nm cc nL R Z K) (hdg : decode cc pc = .ok (.ixor, 1)) (hv : x ^^^ y = v) (kk : K ws k z (pc + 1) lv (.int v :: st)) : K ws k z pc lv (.int y :: .int x :: st) := by
  obtain ⟨p, e, s, m, args, below, meth, c, Q, A, hx, hb, hml, hown, hts, hK, hE, hA, hnm, rfl, hZ⟩ := X
  intro H locs ls hP hD hS hl
  exact lv_ixor hx hb hdg (hv ▸ (kk H locs ls hP hD hS hl))

theorem x_idiv {x y v : Int32} (X : xR l G E own nm cc nL R Z K) (hdg : decode cc pc = .ok (.idiv, 1)) (hne : ¬ y = 0) (hv : x / y = v) (kk : K ws k z (pc + 1) lv (.int v :: st)) : K ws k z pc lv (.int y :: .int x :: st) := by
  obtain ⟨p, e, s, m, args, below, meth, c, Q, A, hx, hb, hml, hown, hts, hK, hE, hA, hnm, rfl, hZ⟩ := X
  intro H locs ls hP hD hS hl
  exact lv_idiv hx hb hdg hne (hv ▸ (kk H locs ls hP hD hS hl))

theorem x_irem {x y v : Int32} (X : xR l G E own nm cc nL R Z K) (hdg : decode cc pc = .ok (.irem, 1)) (hne : ¬ y = 0) (hv : x - x / y * y = v) (kk : K ws k z (pc + 1) lv (.int v :: st)) : K ws k z pc lv (.int y :: .int x :: st) := by
  obtain ⟨p, e, s, m, args, below, meth, c, Q, A, hx, hb, hml, hown, hts, hK, hE, hA, hnm, rfl, hZ⟩ := X
  intro H locs ls hP hD hS hl
  exact lv_irem hx hb hdg hne (hv ▸ (kk H locs ls hP hD hS hl))

theorem x_ladd {x y v : Int64} (X : xR l G E own nm cc nL R Z K) (hdg : decode cc pc = .ok (.ladd, 1)) (hv : x + y = v) (kk : K ws k z (pc + 1) lv (.long v :: st)) : K ws k z pc lv (.long y :: .long x :: st) := by
  obtain ⟨p, e, s, m, args, below, meth, c, Q, A, hx, hb, hml, hown, hts, hK, hE, hA, hnm, rfl, hZ⟩ := X
  intro H locs ls hP hD hS hl
  exact lv_ladd hx hb hdg (hv ▸ (kk H locs ls hP hD hS hl))

theorem x_lsub {x y v : Int64} (X : xR l G E own nm cc nL R Z K) (hdg : decode cc pc = .ok (.lsub, 1)) (hv : x - y = v) (kk : K ws k z (pc + 1) lv (.long v :: st)) : K ws k z pc lv (.long y :: .long x :: st) := by
  obtain ⟨p, e, s, m, args, below, meth, c, Q, A, hx, hb, hml, hown, hts, hK, hE, hA, hnm, rfl, hZ⟩ := X
  intro H locs ls hP hD hS hl
  exact lv_lsub hx hb hdg (hv ▸ (kk H locs ls hP hD hS hl))

theorem x_lmul {x y v : Int64} (X : xR l G E own nm cc nL R Z K) (hdg : decode cc pc = .ok (.lmul, 1)) (hv : x * y = v) (kk : K ws k z (pc + 1) lv (.long v :: st)) : K ws k z pc lv (.long y :: .long x :: st) := by
  obtain ⟨p, e, s, m, args, below, meth, c, Q, A, hx, hb, hml, hown, hts, hK, hE, hA, hnm, rfl, hZ⟩ := X
  intro H locs ls hP hD hS hl
  exact lv_lmul hx hb hdg (hv ▸ (kk H locs ls hP hD hS hl))

theorem x_ldiv {x y v : Int64} (X : xR l G E own nm cc nL R Z K) (hdg : decode cc pc = .ok (.ldiv, 1)) (hne : ¬ y = 0) (hv : x / y = v) (kk : K ws k z (pc + 1) lv (.long v :: st)) : K ws k z pc lv (.long y :: .long x :: st) := by
  obtain ⟨p, e, s, m, args, below, meth, c, Q, A, hx, hb, hml, hown, hts, hK, hE, hA, hnm, rfl, hZ⟩ := X
  intro H locs ls hP hD hS hl
  exact lv_ldiv hx hb hdg hne (hv ▸ (kk H locs ls hP hD hS hl))

theorem x_lrem {x y v : Int64} (X : xR l G E own nm cc nL R Z K) (hdg : decode cc pc = .ok (.lrem, 1)) (hne : ¬ y = 0) (hv : x - x / y * y = v) (kk : K ws k z (pc + 1) lv (.long v :: st)) : K ws k z pc lv (.long y :: .long x :: st) := by
  obtain ⟨p, e, s, m, args, below, meth, c, Q, A, hx, hb, hml, hown, hts, hK, hE, hA, hnm, rfl, hZ⟩ := X
  intro H locs ls hP hD hS hl
  exact lv_lrem hx hb hdg hne (hv ▸ (kk H locs ls hP hD hS hl))

theorem x_ineg {x v : Int32} (X : xR l G E own nm cc nL R Z K) (hdg : decode cc pc = .ok (.ineg, 1)) (hv : -x = v) (kk : K ws k z (pc + 1) lv (.int v :: st)) : K ws k z pc lv (.int x :: st) := by
  obtain ⟨p, e, s, m, args, below, meth, c, Q, A, hx, hb, hml, hown, hts, hK, hE, hA, hnm, rfl, hZ⟩ := X
  intro H locs ls hP hD hS hl
  exact lv_ineg hx hb hdg (hv ▸ (kk H locs ls hP hD hS hl))

theorem x_i2l {x : Int32} {v : Int64} (X : xR l G E own nm cc nL R Z K) (hdg : decode cc pc = .ok (.i2l, 1)) (hv : x.toInt64 = v) (kk : K ws k z (pc + 1) lv (.long v :: st)) : K ws k z pc lv (.int x :: st) := by
  obtain ⟨p, e, s, m, args, below, meth, c, Q, A, hx, hb, hml, hown, hts, hK, hE, hA, hnm, rfl, hZ⟩ := X
  intro H locs ls hP hD hS hl
  exact lv_i2l hx hb hdg hv (kk H locs ls hP hD hS hl)

theorem x_l2i {x : Int64} {v : Int32} (X : xR l G E own nm cc nL R Z K) (hdg : decode cc pc = .ok (.l2i, 1)) (hv : x.toInt32 = v) (kk : K ws k z (pc + 1) lv (.int v :: st)) : K ws k z pc lv (.long x :: st) := by
  obtain ⟨p, e, s, m, args, below, meth, c, Q, A, hx, hb, hml, hown, hts, hK, hE, hA, hnm, rfl, hZ⟩ := X
  intro H locs ls hP hD hS hl
  exact lv_l2i hx hb hdg hv (kk H locs ls hP hD hS hl)

theorem x_iushr {x y v : Int32} (X : xR l G E own nm cc nL R Z K) (hdg : decode cc pc = .ok (.iushr, 1)) (hv : (x.toUInt32 >>> (y.toUInt32 &&& Int32.toUInt32 31)).toInt32 = v) (kk : K ws k z (pc + 1) lv (.int v :: st)) : K ws k z pc lv (.int y :: .int x :: st) := by
  obtain ⟨p, e, s, m, args, below, meth, c, Q, A, hx, hb, hml, hown, hts, hK, hE, hA, hnm, rfl, hZ⟩ := X
  intro H locs ls hP hD hS hl
  exact lv_iushr hx hb hdg hv (kk H locs ls hP hD hS hl)

theorem x_lcmp {x y : Int64} (X : xR l G E own nm cc nL R Z K) (hdg : decode cc pc = .ok (.lcmp, 1)) (kk : K ws k z (pc + 1) lv (.int (lg_cmp x y) :: st)) : K ws k z pc lv (.long y :: .long x :: st) := by
  obtain ⟨p, e, s, m, args, below, meth, c, Q, A, hx, hb, hml, hown, hts, hK, hE, hA, hnm, rfl, hZ⟩ := X
  intro H locs ls hP hD hS hl
  exact W.lcmp hx hb hdg (kk H locs ls hP hD hS hl)

theorem x_dup {va : Value} (X : xR l G E own nm cc nL R Z K) (hdg : decode cc pc = .ok (.dup, 1)) (hva : va.category = 1) (kk : K ws k z (pc + 1) lv (va :: va :: st)) : K ws k z pc lv (va :: st) := by
  obtain ⟨p, e, s, m, args, below, meth, c, Q, A, hx, hb, hml, hown, hts, hK, hE, hA, hnm, rfl, hZ⟩ := X
  intro H locs ls hP hD hS hl
  exact lv_dup hx hb hdg hva (kk H locs ls hP hD hS hl)

theorem x_pop {va : Value} (X : xR l G E own nm cc nL R Z K) (hdg : decode cc pc = .ok (.pop, 1)) (hva : va.category = 1) (kk : K ws k z (pc + 1) lv (st)) : K ws k z pc lv (va :: st) := by
  obtain ⟨p, e, s, m, args, below, meth, c, Q, A, hx, hb, hml, hown, hts, hK, hE, hA, hnm, rfl, hZ⟩ := X
  intro H locs ls hP hD hS hl
  exact lv_pop hx hb hdg hva (kk H locs ls hP hD hS hl)

theorem x_dup_x1 {va vb : Value} (X : xR l G E own nm cc nL R Z K) (hdg : decode cc pc = .ok (.dup_x1, 1)) (hva : va.category = 1) (hvb : vb.category = 1) (kk : K ws k z (pc + 1) lv (va :: vb :: va :: st)) : K ws k z pc lv (va :: vb :: st) := by
  obtain ⟨p, e, s, m, args, below, meth, c, Q, A, hx, hb, hml, hown, hts, hK, hE, hA, hnm, rfl, hZ⟩ := X
  intro H locs ls hP hD hS hl
  exact lv_dup_x1 hx hb hdg hva hvb (kk H locs ls hP hD hS hl)

theorem x_dup2 {va vb : Value} (X : xR l G E own nm cc nL R Z K) (hdg : decode cc pc = .ok (.dup2, 1)) (hva : va.category = 1) (hvb : vb.category = 1) (kk : K ws k z (pc + 1) lv (va :: vb :: va :: vb :: st)) : K ws k z pc lv (va :: vb :: st) := by
  obtain ⟨p, e, s, m, args, below, meth, c, Q, A, hx, hb, hml, hown, hts, hK, hE, hA, hnm, rfl, hZ⟩ := X
  intro H locs ls hP hD hS hl
  exact lv_dup2_11 hx hb hdg hva hvb (kk H locs ls hP hD hS hl)

theorem x_goto {off : Int} (tgt : Nat) (X : xR l G E own nm cc nL R Z K) (hdg : decode cc pc = .ok (.goto off, 3)) (ht : (pc : Int) + off = (tgt : Int)) (kk : K ws k z tgt lv st) : K ws k z pc lv st := by
  obtain ⟨p, e, s, m, args, below, meth, c, Q, A, hx, hb, hml, hown, hts, hK, hE, hA, hnm, rfl, hZ⟩ := X
  intro H locs ls hP hD hS hl
  exact lv_goto hx hb hdg ht (kk H locs ls hP hD hS hl)

theorem x_icmp_eq {x y : Int32} {off : Int} (tgt : Nat) (X : xR l G E own nm cc nL R Z K) (hdg : decode cc pc = .ok (.if_icmp .eq off, 3)) (ht : (pc : Int) + off = (tgt : Int)) (kt : x = y → K ws k z tgt lv st) (kf : ¬ x = y → K ws k z (pc + 3) lv st) : K ws k z pc lv (.int y :: .int x :: st) := by
  obtain ⟨p, e, s, m, args, below, meth, c, Q, A, hx, hb, hml, hown, hts, hK, hE, hA, hnm, rfl, hZ⟩ := X
  intro H locs ls hP hD hS hl
  exact lv_icmp_eq hx hb hdg ht (fun h => kt h H locs ls hP hD hS hl) (fun h => kf h H locs ls hP hD hS hl)

theorem x_if_eq {x : Int32} {off : Int} (tgt : Nat) (X : xR l G E own nm cc nL R Z K) (hdg : decode cc pc = .ok (.ifCond .eq off, 3)) (ht : (pc : Int) + off = (tgt : Int)) (kt : x = 0 → K ws k z tgt lv st) (kf : ¬ x = 0 → K ws k z (pc + 3) lv st) : K ws k z pc lv (.int x :: st) := by
  obtain ⟨p, e, s, m, args, below, meth, c, Q, A, hx, hb, hml, hown, hts, hK, hE, hA, hnm, rfl, hZ⟩ := X
  intro H locs ls hP hD hS hl
  exact lv_if_eq hx hb hdg ht (fun h => kt h H locs ls hP hD hS hl) (fun h => kf h H locs ls hP hD hS hl)

theorem x_icmp_eq_n {a b : Nat} {off : Int} (tgt : Nat) (X : xR l G E own nm cc nL R Z K) (hdg : decode cc pc = .ok (.if_icmp .eq off, 3)) (ht : (pc : Int) + off = (tgt : Int)) (ha : a < 2 ^ 31) (hb : b < 2 ^ 31) (kt : a = b → K ws k z tgt lv st) (kf : a ≠ b → K ws k z (pc + 3) lv st) : K ws k z pc lv (.int (nI b) :: .int (nI a) :: st) :=
  x_icmp_eq tgt X hdg ht (fun h => kt ((nI_eq ha hb).mp h)) (fun h => kf (fun q => h ((nI_eq ha hb).mpr q)))

theorem x_if_eq_n {a : Nat} {off : Int} (tgt : Nat) (X : xR l G E own nm cc nL R Z K) (hdg : decode cc pc = .ok (.ifCond .eq off, 3)) (ht : (pc : Int) + off = (tgt : Int)) (ha : a < 2 ^ 31) (kt : a = 0 → K ws k z tgt lv st) (kf : a ≠ 0 → K ws k z (pc + 3) lv st) : K ws k z pc lv (.int (nI a) :: st) := by
  have hb : (0 : Nat) < 2 ^ 31 := by decide
  refine x_if_eq tgt X hdg ht (fun h => kt ?_) (fun h => kf ?_)
  · rw [← nI_0] at h; exact (nI_eq ha hb).mp h
  · rw [← nI_0] at h; exact fun q => h ((nI_eq ha hb).mpr q)

theorem x_icmp_ne {x y : Int32} {off : Int} (tgt : Nat) (X : xR l G E own nm cc nL R Z K) (hdg : decode cc pc = .ok (.if_icmp .ne off, 3)) (ht : (pc : Int) + off = (tgt : Int)) (kt : ¬ x = y → K ws k z tgt lv st) (kf : x = y → K ws k z (pc + 3) lv st) : K ws k z pc lv (.int y :: .int x :: st) := by
  obtain ⟨p, e, s, m, args, below, meth, c, Q, A, hx, hb, hml, hown, hts, hK, hE, hA, hnm, rfl, hZ⟩ := X
  intro H locs ls hP hD hS hl
  exact lv_icmp_ne hx hb hdg ht (fun h => kt h H locs ls hP hD hS hl) (fun h => kf h H locs ls hP hD hS hl)

theorem x_if_ne {x : Int32} {off : Int} (tgt : Nat) (X : xR l G E own nm cc nL R Z K) (hdg : decode cc pc = .ok (.ifCond .ne off, 3)) (ht : (pc : Int) + off = (tgt : Int)) (kt : ¬ x = 0 → K ws k z tgt lv st) (kf : x = 0 → K ws k z (pc + 3) lv st) : K ws k z pc lv (.int x :: st) := by
  obtain ⟨p, e, s, m, args, below, meth, c, Q, A, hx, hb, hml, hown, hts, hK, hE, hA, hnm, rfl, hZ⟩ := X
  intro H locs ls hP hD hS hl
  exact lv_if_ne hx hb hdg ht (fun h => kt h H locs ls hP hD hS hl) (fun h => kf h H locs ls hP hD hS hl)

theorem x_icmp_ne_n {a b : Nat} {off : Int} (tgt : Nat) (X : xR l G E own nm cc nL R Z K) (hdg : decode cc pc = .ok (.if_icmp .ne off, 3)) (ht : (pc : Int) + off = (tgt : Int)) (ha : a < 2 ^ 31) (hb : b < 2 ^ 31) (kt : a ≠ b → K ws k z tgt lv st) (kf : a = b → K ws k z (pc + 3) lv st) : K ws k z pc lv (.int (nI b) :: .int (nI a) :: st) :=
  x_icmp_ne tgt X hdg ht (fun h => kt (fun q => h ((nI_eq ha hb).mpr q))) (fun h => kf ((nI_eq ha hb).mp h))

theorem x_if_ne_n {a : Nat} {off : Int} (tgt : Nat) (X : xR l G E own nm cc nL R Z K) (hdg : decode cc pc = .ok (.ifCond .ne off, 3)) (ht : (pc : Int) + off = (tgt : Int)) (ha : a < 2 ^ 31) (kt : a ≠ 0 → K ws k z tgt lv st) (kf : a = 0 → K ws k z (pc + 3) lv st) : K ws k z pc lv (.int (nI a) :: st) := by
  have hb : (0 : Nat) < 2 ^ 31 := by decide
  refine x_if_ne tgt X hdg ht (fun h => kt ?_) (fun h => kf ?_)
  · rw [← nI_0] at h; exact fun q => h ((nI_eq ha hb).mpr q)
  · rw [← nI_0] at h; exact (nI_eq ha hb).mp h

theorem x_icmp_lt {x y : Int32} {off : Int} (tgt : Nat) (X : xR l G E own nm cc nL R Z K) (hdg : decode cc pc = .ok (.if_icmp .lt off, 3)) (ht : (pc : Int) + off = (tgt : Int)) (kt : x < y → K ws k z tgt lv st) (kf : ¬ x < y → K ws k z (pc + 3) lv st) : K ws k z pc lv (.int y :: .int x :: st) := by
  obtain ⟨p, e, s, m, args, below, meth, c, Q, A, hx, hb, hml, hown, hts, hK, hE, hA, hnm, rfl, hZ⟩ := X
  intro H locs ls hP hD hS hl
  exact lv_icmp_lt hx hb hdg ht (fun h => kt h H locs ls hP hD hS hl) (fun h => kf h H locs ls hP hD hS hl)

theorem x_if_lt {x : Int32} {off : Int} (tgt : Nat) (X : xR l G E own nm cc nL R Z K) (hdg : decode cc pc = .ok (.ifCond .lt off, 3)) (ht : (pc : Int) + off = (tgt : Int)) (kt : x < 0 → K ws k z tgt lv st) (kf : ¬ x < 0 → K ws k z (pc + 3) lv st) : K ws k z pc lv (.int x :: st) := by
  obtain ⟨p, e, s, m, args, below, meth, c, Q, A, hx, hb, hml, hown, hts, hK, hE, hA, hnm, rfl, hZ⟩ := X
  intro H locs ls hP hD hS hl
  exact lv_if_lt hx hb hdg ht (fun h => kt h H locs ls hP hD hS hl) (fun h => kf h H locs ls hP hD hS hl)

theorem x_icmp_lt_n {a b : Nat} {off : Int} (tgt : Nat) (X : xR l G E own nm cc nL R Z K) (hdg : decode cc pc = .ok (.if_icmp .lt off, 3)) (ht : (pc : Int) + off = (tgt : Int)) (ha : a < 2 ^ 31) (hb : b < 2 ^ 31) (kt : a < b → K ws k z tgt lv st) (kf : b ≤ a → K ws k z (pc + 3) lv st) : K ws k z pc lv (.int (nI b) :: .int (nI a) :: st) :=
  x_icmp_lt tgt X hdg ht (fun h => kt ((nI_ltI ha hb).mp h)) (fun h => kf (Nat.not_lt.mp (fun q => h ((nI_ltI ha hb).mpr q))))

theorem x_if_lt_n {a : Nat} {off : Int} (tgt : Nat) (X : xR l G E own nm cc nL R Z K) (hdg : decode cc pc = .ok (.ifCond .lt off, 3)) (ht : (pc : Int) + off = (tgt : Int)) (ha : a < 2 ^ 31) (kt : a < 0 → K ws k z tgt lv st) (kf : 0 ≤ a → K ws k z (pc + 3) lv st) : K ws k z pc lv (.int (nI a) :: st) := by
  have hb : (0 : Nat) < 2 ^ 31 := by decide
  refine x_if_lt tgt X hdg ht (fun h => kt ?_) (fun h => kf ?_)
  · rw [← nI_0] at h; exact (nI_ltI ha hb).mp h
  · rw [← nI_0] at h; exact Nat.not_lt.mp (fun q => h ((nI_ltI ha hb).mpr q))

theorem x_icmp_ge {x y : Int32} {off : Int} (tgt : Nat) (X : xR l G E own nm cc nL R Z K) (hdg : decode cc pc = .ok (.if_icmp .ge off, 3)) (ht : (pc : Int) + off = (tgt : Int)) (kt : y ≤ x → K ws k z tgt lv st) (kf : ¬ y ≤ x → K ws k z (pc + 3) lv st) : K ws k z pc lv (.int y :: .int x :: st) := by
  obtain ⟨p, e, s, m, args, below, meth, c, Q, A, hx, hb, hml, hown, hts, hK, hE, hA, hnm, rfl, hZ⟩ := X
  intro H locs ls hP hD hS hl
  exact lv_icmp_ge hx hb hdg ht (fun h => kt h H locs ls hP hD hS hl) (fun h => kf h H locs ls hP hD hS hl)

theorem x_if_ge {x : Int32} {off : Int} (tgt : Nat) (X : xR l G E own nm cc nL R Z K) (hdg : decode cc pc = .ok (.ifCond .ge off, 3)) (ht : (pc : Int) + off = (tgt : Int)) (kt : 0 ≤ x → K ws k z tgt lv st) (kf : ¬ 0 ≤ x → K ws k z (pc + 3) lv st) : K ws k z pc lv (.int x :: st) := by
  obtain ⟨p, e, s, m, args, below, meth, c, Q, A, hx, hb, hml, hown, hts, hK, hE, hA, hnm, rfl, hZ⟩ := X
  intro H locs ls hP hD hS hl
  exact lv_if_ge hx hb hdg ht (fun h => kt h H locs ls hP hD hS hl) (fun h => kf h H locs ls hP hD hS hl)

theorem x_icmp_ge_n {a b : Nat} {off : Int} (tgt : Nat) (X : xR l G E own nm cc nL R Z K) (hdg : decode cc pc = .ok (.if_icmp .ge off, 3)) (ht : (pc : Int) + off = (tgt : Int)) (ha : a < 2 ^ 31) (hb : b < 2 ^ 31) (kt : b ≤ a → K ws k z tgt lv st) (kf : a < b → K ws k z (pc + 3) lv st) : K ws k z pc lv (.int (nI b) :: .int (nI a) :: st) :=
  x_icmp_ge tgt X hdg ht (fun h => kt ((nI_leI hb ha).mp h)) (fun h => kf (Nat.not_le.mp (fun q => h ((nI_leI hb ha).mpr q))))

theorem x_if_ge_n {a : Nat} {off : Int} (tgt : Nat) (X : xR l G E own nm cc nL R Z K) (hdg : decode cc pc = .ok (.ifCond .ge off, 3)) (ht : (pc : Int) + off = (tgt : Int)) (ha : a < 2 ^ 31) (kt : 0 ≤ a → K ws k z tgt lv st) (kf : a < 0 → K ws k z (pc + 3) lv st) : K ws k z pc lv (.int (nI a) :: st) := by
  have hb : (0 : Nat) < 2 ^ 31 := by decide
  refine x_if_ge tgt X hdg ht (fun h => kt ?_) (fun h => kf ?_)
  · rw [← nI_0] at h; exact (nI_leI hb ha).mp h
  · rw [← nI_0] at h; exact Nat.not_le.mp (fun q => h ((nI_leI hb ha).mpr q))

theorem x_icmp_gt {x y : Int32} {off : Int} (tgt : Nat) (X : xR l G E own nm cc nL R Z K) (hdg : decode cc pc = .ok (.if_icmp .gt off, 3)) (ht : (pc : Int) + off = (tgt : Int)) (kt : y < x → K ws k z tgt lv st) (kf : ¬ y < x → K ws k z (pc + 3) lv st) : K ws k z pc lv (.int y :: .int x :: st) := by
  obtain ⟨p, e, s, m, args, below, meth, c, Q, A, hx, hb, hml, hown, hts, hK, hE, hA, hnm, rfl, hZ⟩ := X
  intro H locs ls hP hD hS hl
  exact lv_icmp_gt hx hb hdg ht (fun h => kt h H locs ls hP hD hS hl) (fun h => kf h H locs ls hP hD hS hl)

theorem x_if_gt {x : Int32} {off : Int} (tgt : Nat) (X : xR l G E own nm cc nL R Z K) (hdg : decode cc pc = .ok (.ifCond .gt off, 3)) (ht : (pc : Int) + off = (tgt : Int)) (kt : 0 < x → K ws k z tgt lv st) (kf : ¬ 0 < x → K ws k z (pc + 3) lv st) : K ws k z pc lv (.int x :: st) := by
  obtain ⟨p, e, s, m, args, below, meth, c, Q, A, hx, hb, hml, hown, hts, hK, hE, hA, hnm, rfl, hZ⟩ := X
  intro H locs ls hP hD hS hl
  exact lv_if_gt hx hb hdg ht (fun h => kt h H locs ls hP hD hS hl) (fun h => kf h H locs ls hP hD hS hl)

theorem x_icmp_gt_n {a b : Nat} {off : Int} (tgt : Nat) (X : xR l G E own nm cc nL R Z K) (hdg : decode cc pc = .ok (.if_icmp .gt off, 3)) (ht : (pc : Int) + off = (tgt : Int)) (ha : a < 2 ^ 31) (hb : b < 2 ^ 31) (kt : b < a → K ws k z tgt lv st) (kf : a ≤ b → K ws k z (pc + 3) lv st) : K ws k z pc lv (.int (nI b) :: .int (nI a) :: st) :=
  x_icmp_gt tgt X hdg ht (fun h => kt ((nI_ltI hb ha).mp h)) (fun h => kf (Nat.not_lt.mp (fun q => h ((nI_ltI hb ha).mpr q))))

theorem x_if_gt_n {a : Nat} {off : Int} (tgt : Nat) (X : xR l G E own nm cc nL R Z K) (hdg : decode cc pc = .ok (.ifCond .gt off, 3)) (ht : (pc : Int) + off = (tgt : Int)) (ha : a < 2 ^ 31) (kt : 0 < a → K ws k z tgt lv st) (kf : a ≤ 0 → K ws k z (pc + 3) lv st) : K ws k z pc lv (.int (nI a) :: st) := by
  have hb : (0 : Nat) < 2 ^ 31 := by decide
  refine x_if_gt tgt X hdg ht (fun h => kt ?_) (fun h => kf ?_)
  · rw [← nI_0] at h; exact (nI_ltI hb ha).mp h
  · rw [← nI_0] at h; exact Nat.not_lt.mp (fun q => h ((nI_ltI hb ha).mpr q))

theorem x_icmp_le {x y : Int32} {off : Int} (tgt : Nat) (X : xR l G E own nm cc nL R Z K) (hdg : decode cc pc = .ok (.if_icmp .le off, 3)) (ht : (pc : Int) + off = (tgt : Int)) (kt : x ≤ y → K ws k z tgt lv st) (kf : ¬ x ≤ y → K ws k z (pc + 3) lv st) : K ws k z pc lv (.int y :: .int x :: st) := by
  obtain ⟨p, e, s, m, args, below, meth, c, Q, A, hx, hb, hml, hown, hts, hK, hE, hA, hnm, rfl, hZ⟩ := X
  intro H locs ls hP hD hS hl
  exact lv_icmp_le hx hb hdg ht (fun h => kt h H locs ls hP hD hS hl) (fun h => kf h H locs ls hP hD hS hl)

theorem x_if_le {x : Int32} {off : Int} (tgt : Nat) (X : xR l G E own nm cc nL R Z K) (hdg : decode cc pc = .ok (.ifCond .le off, 3)) (ht : (pc : Int) + off = (tgt : Int)) (kt : x ≤ 0 → K ws k z tgt lv st) (kf : ¬ x ≤ 0 → K ws k z (pc + 3) lv st) : K ws k z pc lv (.int x :: st) := by
  obtain ⟨p, e, s, m, args, below, meth, c, Q, A, hx, hb, hml, hown, hts, hK, hE, hA, hnm, rfl, hZ⟩ := X
  intro H locs ls hP hD hS hl
  exact lv_if_le hx hb hdg ht (fun h => kt h H locs ls hP hD hS hl) (fun h => kf h H locs ls hP hD hS hl)

theorem x_icmp_le_n {a b : Nat} {off : Int} (tgt : Nat) (X : xR l G E own nm cc nL R Z K) (hdg : decode cc pc = .ok (.if_icmp .le off, 3)) (ht : (pc : Int) + off = (tgt : Int)) (ha : a < 2 ^ 31) (hb : b < 2 ^ 31) (kt : a ≤ b → K ws k z tgt lv st) (kf : b < a → K ws k z (pc + 3) lv st) : K ws k z pc lv (.int (nI b) :: .int (nI a) :: st) :=
  x_icmp_le tgt X hdg ht (fun h => kt ((nI_leI ha hb).mp h)) (fun h => kf (Nat.not_le.mp (fun q => h ((nI_leI ha hb).mpr q))))

theorem x_if_le_n {a : Nat} {off : Int} (tgt : Nat) (X : xR l G E own nm cc nL R Z K) (hdg : decode cc pc = .ok (.ifCond .le off, 3)) (ht : (pc : Int) + off = (tgt : Int)) (ha : a < 2 ^ 31) (kt : a ≤ 0 → K ws k z tgt lv st) (kf : 0 < a → K ws k z (pc + 3) lv st) : K ws k z pc lv (.int (nI a) :: st) := by
  have hb : (0 : Nat) < 2 ^ 31 := by decide
  refine x_if_le tgt X hdg ht (fun h => kt ?_) (fun h => kf ?_)
  · rw [← nI_0] at h; exact (nI_leI ha hb).mp h
  · rw [← nI_0] at h; exact Nat.not_le.mp (fun q => h ((nI_leI ha hb).mpr q))

theorem x_ifeq_b {b : Bool} {off : Int} (tgt : Nat) (X : xR l G E own nm cc nL R Z K) (hdg : decode cc pc = .ok (.ifCond .eq off, 3)) (ht : (pc : Int) + off = (tgt : Int)) (kt : b = false → K ws k z tgt lv st) (kf : b = true → K ws k z (pc + 3) lv st) : K ws k z pc lv (.int (bI b) :: st) :=
  x_if_eq tgt X hdg ht (fun h => kt ((bI_0 b).mp h)) (fun h => kf ((bI_n0 b).mp h))
theorem x_ifne_b {b : Bool} {off : Int} (tgt : Nat) (X : xR l G E own nm cc nL R Z K) (hdg : decode cc pc = .ok (.ifCond .ne off, 3)) (ht : (pc : Int) + off = (tgt : Int)) (kt : b = true → K ws k z tgt lv st) (kf : b = false → K ws k z (pc + 3) lv st) : K ws k z pc lv (.int (bI b) :: st) :=
  x_if_ne tgt X hdg ht (fun h => kt ((bI_n0 b).mp h)) (fun h => kf ((bI_0 b).mp h))
theorem x_ifnonnull {x : Nat} {off : Int} (tgt : Nat) (X : xR l G E own nm cc nL R Z K) (hdg : decode cc pc = .ok (.ifnonnull off, 3)) (ht : (pc : Int) + off = (tgt : Int)) (kk : K ws k z tgt lv st) : K ws k z pc lv (.ref x :: st) := by
  obtain ⟨p, e, s, m, args, below, meth, c, Q, A, hx, hb, hml, hown, hts, hK, hE, hA, hnm, rfl, hZ⟩ := X
  intro H locs ls hP hD hS hl
  exact lv_ifnonnull hx hb hdg ht (kk H locs ls hP hD hS hl)

theorem x_lookup {dflt : Int} {ps : Array (Int × Int)} {len : Nat} {x : Int32} {off : Int} (tgt : Nat) (X : xR l G E own nm cc nL R Z K) (hdg : decode cc pc = .ok (.lookupswitch dflt ps, len)) (hp : (ps.toList.zip (ps.toList.drop 1)).all (fun (a, next) => a.1 < next.1) = true) (ho : Op.lookupswitch.offset ps.toList dflt x.toInt = off) (ht : (pc : Int) + off = (tgt : Int)) (kk : K ws k z tgt lv st) : K ws k z pc lv (.int x :: st) := by
  obtain ⟨p, e, s, m, args, below, meth, c, Q, A, hx, hb, hml, hown, hts, hK, hE, hA, hnm, rfl, hZ⟩ := X
  intro H locs ls hP hD hS hl
  exact lv_lookup hx hb hdg hp ho ht (kk H locs ls hP hD hS hl)

theorem x_tableOut {dflt lo hi : Int} {offs : Array Int} {len : Nat} {x : Int32} (tgt : Nat) (X : xR l G E own nm cc nL R Z K) (hdg : decode cc pc = .ok (.tableswitch dflt lo hi offs, len)) (h : x.toInt < lo ∨ hi < x.toInt) (ht : (pc : Int) + dflt = (tgt : Int)) (kk : K ws k z tgt lv st) : K ws k z pc lv (.int x :: st) := by
  obtain ⟨p, e, s, m, args, below, meth, c, Q, A, hx, hb, hml, hown, hts, hK, hE, hA, hnm, rfl, hZ⟩ := X
  intro H locs ls hP hD hS hl
  exact lv_tableOut hx hb hdg h ht (kk H locs ls hP hD hS hl)

theorem x_tableIn {dflt lo hi : Int} {offs : Array Int} {len : Nat} {x : Int32} {off : Int} (tgt : Nat) (X : xR l G E own nm cc nL R Z K) (hdg : decode cc pc = .ok (.tableswitch dflt lo hi offs, len)) (h1 : ¬ x.toInt < lo) (h2 : ¬ hi < x.toInt) (ho : offs[(x.toInt - lo).toNat]? = some off) (ht : (pc : Int) + off = (tgt : Int)) (kk : K ws k z tgt lv st) : K ws k z pc lv (.int x :: st) := by
  obtain ⟨p, e, s, m, args, below, meth, c, Q, A, hx, hb, hml, hown, hts, hK, hE, hA, hnm, rfl, hZ⟩ := X
  intro H locs ls hP hD hS hl
  exact lv_tableIn hx hb hdg h1 h2 ho ht (kk H locs ls hP hD hS hl)

theorem x_ret {v : Value} (X : xR l G E own nm cc nL R Z K) (hop : xRetOp cc pc (some v)) (hz : Z (some v) ws k z) : K ws k z pc lv [v] := by
  obtain ⟨p, e, s, m, args, below, meth, c, Q, A, hx, hb, hml, hown, hts, hK, hE, hA, hnm, rfl, hZ⟩ := X
  exact hZ (some v) ws k z pc lv hz hop
theorem x_retv (X : xR l G E own nm cc nL R Z K) (hop : xRetOp cc pc none) (hz : Z none ws k z) : K ws k z pc lv [] := by
  obtain ⟨p, e, s, m, args, below, meth, c, Q, A, hx, hb, hml, hown, hts, hK, hE, hA, hnm, rfl, hZ⟩ := X
  exact hZ none ws k z pc lv hz hop
theorem x_world {ws' : va_W} (he : ws = ws') (kk : K ws' k z pc lv st) : K ws k z pc lv st := he ▸ kk
theorem x_lv {lv' : xL} (X : xR l G E own nm cc nL R Z K) (is : List Nat) (he : lv_pick lv is = lv') (kk : K ws k z pc lv' st) : K ws k z pc lv st := by
  obtain ⟨p, e, s, m, args, below, meth, c, Q, A, hx, hb, hml, hown, hts, hK, hE, hA, hnm, rfl, hZ⟩ := X
  intro H locs ls hP hD hS hl
  exact kk H locs ls hP hD hS (lv_sub hl is he)
theorem x_int {x y : Int32} (he : x = y) (kk : K ws k z pc lv (.int y :: st)) : K ws k z pc lv (.int x :: st) := he ▸ kk
theorem x_long {x y : Int64} (he : x = y) (kk : K ws k z pc lv (.long y :: st)) : K ws k z pc lv (.long x :: st) := he ▸ kk
/-- the int rows of a world agree where they are read -/
theorem x_row {q0 a n : Nat} {cA : ClassId} {f g : Nat → Int32} (X : xR l G E own nm cc nL R Z K) (h0 : ws[q0]? = some (a, .inl (cA, n, .inl f))) (hfg : ∀ j, j < n → f j = g j) (kk : K (ws.set q0 (a, .inl (cA, n, .inl g))) k z pc lv st) : K ws k z pc lv st := by
  obtain ⟨p, e, s, m, args, below, meth, c, Q, A, hx, hb, hml, hown, hts, hK, hE, hA, hnm, rfl, hZ⟩ := X
  intro H locs ls hP hD hS hl
  have e : va_at G.1 vwCl (a, .inl (cA, n, .inl g)) H := by
    have h1 := hP q0 _ h0
    have e2 : vp_cell cA (n, .inl g) = vp_cell cA (n, .inl f) := by
      rw [vp_cell_i, vp_cell_i]
      exact arrV_congr (fun j hj => by rw [hfg j hj])
    show H[a]? = some (vp_cell cA (n, .inl g))
    rw [e2]
    exact h1
  exact kk H locs ls (hP.set hD h0 e (fun _ _ => rfl)) (hD.set h0) hS hl

theorem x_get {C : String} {T : u_T} {N ci idx a : Nat} {fs : List Value} {v : Value} (X : xR l G E own nm cc nL R Z K) (hin : ∀ w ∈ u_ws C T N, w ∈ wU) (q0 : Nat) (he : ws[q0]? = some (a, .inr (ci, fs))) (hc : vwCl[ci]? = some (C, T, N)) (i : Nat) (hi : i < N) (hlk : Cond.fieldLink own idx C (T i).2.1 (T i).2.2.1 ∈ wU) (h1 : (T i).1 = C) (hv : fs[i]? = some v) (hdg : decode cc pc = .ok (.getfield idx, 3)) (kk : K ws k z (pc + 3) lv (v :: st)) : K ws k z pc lv (.ref a :: st) := by
  obtain ⟨p, e, s, m, args, below, meth, c, Q, A, hx, hb, hml, hown, hts, hK, hE, hA, hnm, rfl, hZ⟩ := X
  intro H locs ls hP hD hS hl
  exact va_get (D := G.1) hx hb hts hin hown hK.1 hP q0 he hc i hi (hts _ hlk) (fun _ h9 => by rw [h1] at h9; exact h9) hv hdg (kk H locs ls hP hD hS hl)
theorem x_put {C : String} {T : u_T} {N ci idx a : Nat} {fs : List Value} {v : Value} {ws' : va_W} {ty0 : Nat → FieldType} {ty : FieldType} (X : xR l G E own nm cc nL R Z K) (hin : ∀ w ∈ u_ws C T N, w ∈ wU) (hty : ∀ k, k < N → parseFieldDescriptor (T k).2.2.1 = some (ty0 k)) (hnm2 : ∀ a, a < N → ∀ b, b < N → a ≠ b → (T a).2.1 ≠ (T b).2.1) (q0 : Nat) (he : ws[q0]? = some (a, .inr (ci, fs))) (hc : vwCl[ci]? = some (C, T, N)) (i : Nat) (hi : i < N) (hlk : Cond.fieldLink own idx C (T i).2.1 (T i).2.2.1 ∈ wU) (h1 : (T i).1 = C) (hfin : (T i).2.2.2 = false) (hd : parseFieldDescriptor (T i).2.2.1 = some ty) (hn : narrow ty v = v) (hfit : fits ty v = true) (hlf : i < fs.length) (hws : ws.set q0 (a, .inr (ci, fs.set i v)) = ws') (hdg : decode cc pc = .ok (.putfield idx, 3)) (kk : K ws' k z (pc + 3) lv st) : K ws k z pc lv (v :: .ref a :: st) := by
  subst hws
  obtain ⟨p, e, s, m, args, below, meth, c, Q, A, hx, hb, hml, hown, hts, hK, hE, hA, hnm, rfl, hZ⟩ := X
  intro H locs ls hP hD hS hl
  exact va_put (D := G.1) hx hb hts hin ty0 hty hnm2 hown hK.1 hP hD hS q0 he hc i hi (hts _ hlk) (fun _ h9 => by rw [h1] at h9; exact h9) hfin hd hn hfit hlf hdg (fun H1 locs1 hP1 hD1 hS1 => kk H1 locs1 ls hP1 hD1 hS1 hl)
theorem x_putF {C : String} {T : u_T} {N ci idx a : Nat} {fs : List Value} {v : Value} {ws' : va_W} {ty0 : Nat → FieldType} {ty : FieldType} (X : xR l G E own "<init>" cc nL R Z K) (hin : ∀ w ∈ u_ws C T N, w ∈ wU) (hty : ∀ k, k < N → parseFieldDescriptor (T k).2.2.1 = some (ty0 k)) (hnm2 : ∀ a, a < N → ∀ b, b < N → a ≠ b → (T a).2.1 ≠ (T b).2.1) (q0 : Nat) (he : ws[q0]? = some (a, .inr (ci, fs))) (hc : vwCl[ci]? = some (C, T, N)) (i : Nat) (hi : i < N) (hlk : Cond.fieldLink own idx C (T i).2.1 (T i).2.2.1 ∈ wU) (h1 : (T i).1 = C) (h1o : (T i).1 = own) (hfin : (T i).2.2.2 = true) (hd : parseFieldDescriptor (T i).2.2.1 = some ty) (hn : narrow ty v = v) (hfit : fits ty v = true) (hlf : i < fs.length) (hws : ws.set q0 (a, .inr (ci, fs.set i v)) = ws') (hdg : decode cc pc = .ok (.putfield idx, 3)) (kk : K ws' k z (pc + 3) lv st) : K ws k z pc lv (v :: .ref a :: st) := by
  subst hws
  obtain ⟨p, e, s, m, args, below, meth, c, Q, A, hx, hb, hml, hown, hts, hK, hE, hA, hnm, rfl, hZ⟩ := X
  intro H locs ls hP hD hS hl
  exact va_putF (D := G.1) hx hb hts hin ty0 hty hnm2 hown hK.1 hP hD hS q0 he hc i hi (hts _ hlk) (fun _ h9 => by rw [h1] at h9; exact h9) hfin hnm h1o hd hn hfit hlf hdg (fun H1 locs1 hP1 hD1 hS1 => kk H1 locs1 ls hP1 hD1 hS1 hl)
theorem x_iald {a n : Nat} {f : Nat → Int32} {i : Int32} (X : xR l G E own nm cc nL R Z K) (q0 : Nat) (ha : ws[q0]? = some (a, .inl (G.2.1, n, .inl f))) (hin : vp_in i n) (hdg : decode cc pc = .ok (.iaload, 1)) (kk : K ws k z (pc + 1) lv (.int (f i.toNatClampNeg) :: st)) : K ws k z pc lv (.int i :: .ref a :: st) := by
  obtain ⟨p, e, s, m, args, below, meth, c, Q, A, hx, hb, hml, hown, hts, hK, hE, hA, hnm, rfl, hZ⟩ := X
  intro H locs ls hP hD hS hl
  exact va_iald hx hb hK.1 hP q0 0 ha rfl hin hdg (kk H locs ls hP hD hS hl)
theorem x_iald_n {a n j : Nat} {f : Nat → Int32} {v : Int32} (X : xR l G E own nm cc nL R Z K) (q0 : Nat) (ha : ws[q0]? = some (a, .inl (G.2.1, n, .inl f))) (hj : j < n) (hn : n < 2 ^ 31) (hv : f j = v) (hdg : decode cc pc = .ok (.iaload, 1)) (kk : K ws k z (pc + 1) lv (.int v :: st)) : K ws k z pc lv (.int (nI j) :: .ref a :: st) :=
  x_iald X q0 ha (vp_in_nI hj hn) hdg (by rw [nI_clamp (Nat.lt_trans hj hn), hv]; exact kk)
theorem x_iast {a n : Nat} {f : Nat → Int32} {i x : Int32} {ws' : va_W} (X : xR l G E own nm cc nL R Z K) (q0 : Nat) (ha : ws[q0]? = some (a, .inl (G.2.1, n, .inl f))) (hin : vp_in i n) (hws : ws.set q0 (a, .inl (G.2.1, n, .inl (upd f i.toNatClampNeg x))) = ws') (hdg : decode cc pc = .ok (.iastore, 1)) (kk : K ws' k z (pc + 1) lv st) : K ws k z pc lv (.int x :: .int i :: .ref a :: st) := by
  subst hws
  obtain ⟨p, e, s, m, args, below, meth, c, Q, A, hx, hb, hml, hown, hts, hK, hE, hA, hnm, rfl, hZ⟩ := X
  intro H locs ls hP hD hS hl
  exact va_iast hx hb hK.1 hP hD hS q0 0 ha rfl hin hdg (fun H1 locs1 hP1 hD1 hS1 => kk H1 locs1 ls hP1 hD1 hS1 hl)
theorem x_iast_n {a n j : Nat} {f g : Nat → Int32} {x : Int32} {ws' : va_W} (X : xR l G E own nm cc nL R Z K) (q0 : Nat) (ha : ws[q0]? = some (a, .inl (G.2.1, n, .inl f))) (hj : j < n) (hn : n < 2 ^ 31) (hg : upd f j x = g) (hws : ws.set q0 (a, .inl (G.2.1, n, .inl g)) = ws') (hdg : decode cc pc = .ok (.iastore, 1)) (kk : K ws' k z (pc + 1) lv st) : K ws k z pc lv (.int x :: .int (nI j) :: .ref a :: st) :=
  x_iast X q0 ha (vp_in_nI hj hn) (by rw [nI_clamp (Nat.lt_trans hj hn), hg]; exact hws) hdg kk
theorem x_alen {a n : Nat} {f : Nat → Int32} (X : xR l G E own nm cc nL R Z K) (q0 : Nat) (ha : ws[q0]? = some (a, .inl (G.2.1, n, .inl f))) (hdg : decode cc pc = .ok (.arraylength, 1)) (kk : K ws k z (pc + 1) lv (.int (nI n) :: st)) : K ws k z pc lv (.ref a :: st) := by
  obtain ⟨p, e, s, m, args, below, meth, c, Q, A, hx, hb, hml, hown, hts, hK, hE, hA, hnm, rfl, hZ⟩ := X
  intro H locs ls hP hD hS hl
  exact va_alen hx hb hK.1 hP q0 0 ha rfl rfl hdg (kk H locs ls hP hD hS hl)
theorem x_alenq {a n : Nat} {f : Nat → Option Nat} (X : xR l G E own nm cc nL R Z K) (q0 : Nat) (ha : ws[q0]? = some (a, .inl (G.2.2, n, .inr (.inr (.inr (.inr f)))))) (hdg : decode cc pc = .ok (.arraylength, 1)) (kk : K ws k z (pc + 1) lv (.int (nI n) :: st)) : K ws k z pc lv (.ref a :: st) := by
  obtain ⟨p, e, s, m, args, below, meth, c, Q, A, hx, hb, hml, hown, hts, hK, hE, hA, hnm, rfl, hZ⟩ := X
  intro H locs ls hP hD hS hl
  exact va_alen hx hb hK.1 hP q0 1 ha rfl rfl hdg (kk H locs ls hP hD hS hl)
theorem x_aald_n {a n j : Nat} {f : Nat → Option Nat} {v : Value} (X : xR l G E own nm cc nL R Z K) (q0 : Nat) (ha : ws[q0]? = some (a, .inl (G.2.2, n, .inr (.inr (.inr (.inr f)))))) (hj : j < n) (hn : n < 2 ^ 31) (hv : va_rf (f j) = v) (hdg : decode cc pc = .ok (.aaload, 1)) (kk : K ws k z (pc + 1) lv (v :: st)) : K ws k z pc lv (.int (nI j) :: .ref a :: st) := by
  subst hv
  obtain ⟨p, e, s, m, args, below, meth, c, Q, A, hx, hb, hml, hown, hts, hK, hE, hA, hnm, rfl, hZ⟩ := X
  intro H locs ls hP hD hS hl
  refine va_aldq hx hb hK.1 hP q0 1 ha rfl (vp_in_nI hj hn) hdg ?_
  rw [nI_clamp (Nat.lt_trans hj hn)]
  exact kk H locs ls hP hD hS hl

end XR
