/-! ===== more rows; ranges; the worlds of the class ===== -/
def inR (x : Int32) (n : Nat) : Bool := decide (0 ≤ x) && decide (x < nI n)
theorem inR_nat {x : Int32} {n : Nat} (h : inR x n = true) (hn : n < 2 ^ 31) : ∃ j : Nat, j < n ∧ x = nI j := by
  simp only [inR, Bool.and_eq_true, decide_eq_true_eq] at h
  obtain ⟨j, hj, e⟩ := nI_of (x := x) (fun q => by
    have h1 := Int32.le_iff_toInt_le.mp h.1
    have h2 := Int32.lt_iff_toInt_lt.mp q
    omega)
  subst e
  exact ⟨j, (nI_ltI hj hn).mp h.2, rfl⟩
theorem inR_of {j n : Nat} (h : j < n) (hn : n < 2 ^ 31) : inR (nI j) n = true := by
  simp only [inR, Bool.and_eq_true, decide_eq_true_eq]
  exact ⟨nI_pos' (Nat.lt_trans h hn), (nI_ltI (Nat.lt_trans h hn) hn).mpr h⟩
theorem inR_ge {x : Int32} {n : Nat} (h : nI n ≤ x) : inR x n = false := by
  simp only [inR, Bool.and_eq_false_iff, decide_eq_false_iff_not]
  exact Or.inr (Int32.not_lt.mpr h)
theorem inR_neg {x : Int32} {n : Nat} (h : x < 0) : inR x n = false := by
  simp only [inR, Bool.and_eq_false_iff, decide_eq_false_iff_not]
  exact Or.inl (Int32.not_le.mpr h)
theorem inR_in {x : Int32} {n : Nat} (h0 : ¬ x < 0) (h : ¬ nI n ≤ x) : inR x n = true := by
  simp only [inR, Bool.and_eq_true, decide_eq_true_eq]
  exact ⟨Int32.not_lt.mp h0, Int32.not_le.mp h⟩
theorem inR_le {x : Int32} {n : Nat} (hn : n + 1 < 2 ^ 31) (h0 : ¬ x < 0) (h : x ≤ nI n) : inR x (n + 1) = true := by
  refine inR_in h0 (fun q => ?_)
  have h1 := Int32.le_iff_toInt_le.mp q
  have h2 := Int32.le_iff_toInt_le.mp h
  rw [nI_toInt hn] at h1
  rw [nI_toInt (by omega)] at h2
  omega
theorem inR_gt {x : Int32} {n : Nat} (hn : n + 1 < 2 ^ 31) (h : nI n < x) : inR x (n + 1) = false := by
  refine inR_ge ?_
  have h1 := Int32.lt_iff_toInt_lt.mp h
  rw [nI_toInt (by omega)] at h1
  rw [Int32.le_iff_toInt_le, nI_toInt hn]
  omega
theorem ret_i {a b : Int32} (h : a = b) : some (Value.int a) = some (Value.int b) := congrArg (fun x => some (Value.int x)) h
theorem ret_l {a b : Int64} (h : a = b) : some (Value.long a) = some (Value.long b) := congrArg (fun x => some (Value.long x)) h
/-! the worlds -/
/-- pieces of a world, side by side -/
def xJ : List va_W → va_W
  | [] => []
  | [a] => a
  | a :: b :: l => a ++ xJ (b :: l)
abbrev wIA (G : xG) (a n : Nat) (f : Nat → Int32) : va_W := [(a, .inl (G.2.1, n, .inl f))]
abbrev wQA (G : xG) (a n : Nat) (f : Nat → Option Nat) : va_W := [(a, .inl (G.2.2, n, .inr (.inr (.inr (.inr f)))))]
abbrev wCh (G : xG) (a : Nat → Nat) (np nq : Nat) (kd mi vi li : Nat → Int32) : va_W := [(a 0, .inr (0, [.int (nI np), .int (nI nq), .ref (a 1), .ref (a 2), .ref (a 3), .ref (a 4)])), (a 1, .inl (G.2.1, 6, .inl kd)), (a 2, .inl (G.2.1, 6, .inl mi)), (a 3, .inl (G.2.1, 30, .inl vi)), (a 4, .inl (G.2.1, 25, .inl li))]
abbrev wSg (G : xG) (a : Nat → Nat) (th sa : Nat → Int32) (ns : Nat) : va_W := [(a 0, .inr (2, [.ref (a 1), .ref (a 2), .int (nI ns)])), (a 1, .inl (G.2.1, 6, .inl th)), (a 2, .inl (G.2.1, 6, .inl sa))]
abbrev wTx (G : xG) (a : Nat → Nat) (le : Nat → Int32) (nl : Nat) (nu : Nat → Int32) (nc : Nat) : va_W := [(a 0, .inr (3, [.ref (a 1), .int (nI nl), .ref (a 2), .int (nI nc)])), (a 1, .inl (G.2.1, 200, .inl le)), (a 2, .inl (G.2.1, 3, .inl nu))]
section XR
variable {l : Launch} {G : xG} {E : xE} {own nm : String} {cc : ByteArray} {nL : Nat} {R : Room} {Z : Option Value → va_W → Nat → Nat → Prop} {K : xKt} {ws : va_W} {k z pc : Nat} {lv : xL} {st : List Value}
theorem x_ishl {x y v : Int32} (X : xR l G E own nm cc nL R Z K) (hdg : decode cc pc = .ok (.ishl, 1)) (hv : x <<< (y &&& 31) = v) (kk : K ws k z (pc + 1) lv (.int v :: st)) : K ws k z pc lv (.int y :: .int x :: st) := by
  obtain ⟨p, e, s, m, args, below, meth, c, Q, A, hx, hb, hml, hown, hts, hK, hE, hA, hnm, rfl, hZ⟩ := X
  intro H locs ls hP hD hS hl
  exact lv_ishl hx hb hdg (hv ▸ (kk H locs ls hP hD hS hl))
theorem x_ishr {x y v : Int32} (X : xR l G E own nm cc nL R Z K) (hdg : decode cc pc = .ok (.ishr, 1)) (hv : x >>> (y &&& 31) = v) (kk : K ws k z (pc + 1) lv (.int v :: st)) : K ws k z pc lv (.int y :: .int x :: st) := by
  obtain ⟨p, e, s, m, args, below, meth, c, Q, A, hx, hb, hml, hown, hts, hK, hE, hA, hnm, rfl, hZ⟩ := X
  intro H locs ls hP hD hS hl
  exact lv_ishr hx hb hdg (hv ▸ (kk H locs ls hP hD hS hl))
theorem x_min {idx : Nat} {x y v : Int32} (X : xR l G E own nm cc nL R Z K) (hlk : Cond.methodLink own idx Lib.Math.min.name ∈ wU) (hfr : 1 ≤ R.frames) (hlo : (st.map fun v => v.category).sum + 13 ≤ R.locals) (hcz : k ≤ R.cells ∧ z ≤ R.slots) (hv : (if y < x then y else x) = v) (hdg : decode cc pc = .ok (.invokestatic idx, 3)) (kk : K ws k z (pc + 3) lv (.int v :: st)) : K ws k z pc lv (.int y :: .int x :: st) := by
  subst hv
  obtain ⟨p, e, s, m, args, below, meth, c, Q, A, hx, hb, hml, hown, hts, hK, hE, hA, hnm, rfl, hZ⟩ := X
  intro H locs ls hP hD hS hl
  exact va_mmin hx hb (hml.trans hl.1.symm) hown (hts _ hlk) (hts _ wst_min) (hts _ wi_J9) (hts _ wco_min) hfr hlo hcz.1 hcz.2 hdg (kk H locs ls hP hD hS hl)
theorem x_max {idx : Nat} {x y v : Int32} (X : xR l G E own nm cc nL R Z K) (hlk : Cond.methodLink own idx Lib.Math.max.name ∈ wU) (hfr : 1 ≤ R.frames) (hlo : (st.map fun v => v.category).sum + 13 ≤ R.locals) (hcz : k ≤ R.cells ∧ z ≤ R.slots) (hv : (if x < y then y else x) = v) (hdg : decode cc pc = .ok (.invokestatic idx, 3)) (kk : K ws k z (pc + 3) lv (.int v :: st)) : K ws k z pc lv (.int y :: .int x :: st) := by
  subst hv
  obtain ⟨p, e, s, m, args, below, meth, c, Q, A, hx, hb, hml, hown, hts, hK, hE, hA, hnm, rfl, hZ⟩ := X
  intro H locs ls hP hD hS hl
  exact va_mmax hx hb (hml.trans hl.1.symm) hown (hts _ hlk) (hts _ wst_max) (hts _ wi_J9) (hts _ wco_max) hfr hlo hcz.1 hcz.2 hdg (kk H locs ls hP hD hS hl)
theorem x_copy_n {idx a a0 n0 n1 sp dp n : Nat} {f g : Nat → Int32} {ws' : va_W} (X : xR l G E own nm cc nL R Z K) (hlk : Cond.methodLink own idx arraycopyName ∈ wU) (q0 q1 : Nat) (ha0 : ws[q0]? = some (a0, .inl (G.2.1, n0, .inl f))) (ha1 : ws[q1]? = some (a, .inl (G.2.1, n1, .inl g))) (h1 : sp < 2 ^ 31) (h2 : dp < 2 ^ 31) (h3 : n < 2 ^ 31) (h4 : sp + n ≤ n0) (h5 : dp + n ≤ n1)
    (hfr : 1 ≤ R.frames) (hlo : (st.map fun v => v.category).sum + (nativeFrameWords "java/lang/System" "arraycopy" 5 + 11) ≤ R.locals) (hws : ws.set q1 (a, .inl (G.2.1, n1, .inl (va_cpy f g sp dp n))) = ws') (hdg : decode cc pc = .ok (.invokestatic idx, 3)) (kk : K ws' k z (pc + 3) lv st) : K ws k z pc lv (.int (nI n) :: .int (nI dp) :: .ref a :: .int (nI sp) :: .ref a0 :: st) := by
  subst hws
  obtain ⟨p, e, s, m, args, below, meth, c, Q, A, hx, hb, hml, hown, hts, hK, hE, hA, hnm, rfl, hZ⟩ := X
  intro H locs ls hP hD hS hl
  refine va_copyi hx hb (hml.trans hl.1.symm) hown (hts _ hlk) (hts _ wna_arraycopy) (hts _ wst_arraycopy) (hts _ wi_J10) hK.1 hP hD hS q0 q1 0 0 (ty := .int) ha0 ha1 rfl rfl rfl (nI_pos h1) (nI_pos h2) (nI_pos h3) (by rw [nI_clamp h1, nI_clamp h3]; exact h4) (by rw [nI_clamp h2, nI_clamp h3]; exact h5) (fun _ _ => rfl) hfr hlo hdg ?_
  rw [nI_clamp h1, nI_clamp h2, nI_clamp h3]
  exact fun H1 locs1 hP1 hD1 hS1 => kk H1 locs1 ls hP1 hD1 hS1 hl
theorem x_objInit {idx a : Nat} (X : xR l G E own nm cc nL R Z K) (hlk : Cond.methodLink own idx objectInit ∈ wU) (hfr : 1 ≤ R.frames) (hlo : (st.map fun v => v.category).sum + 12 ≤ R.locals) (hdg : decode cc pc = .ok (.invokespecial idx, 3)) (kk : K ws k z (pc + 3) lv st) : K ws k z pc lv (.ref a :: st) := by
  obtain ⟨p, e, s, m, args, below, meth, c, Q, A, hx, hb, hml, hown, hts, hK, hE, hA, hnm, rfl, hZ⟩ := X
  intro H locs ls hP hD hS hl
  exact W.objInit hx hb hown (hts _ hlk) (hts _ win_Obj) (hts _ wco_Obj) rfl (by rw [hml]; exact hl.1) rfl hdg hfr (by show 2 * 0 + _ + 12 ≤ _; omega) (kk H locs ls hP hD hS hl)
end XR
