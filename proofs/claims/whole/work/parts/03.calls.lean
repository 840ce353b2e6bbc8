/-! ===== calls: the callee's world is a part of ours, by its places; it comes back in its place ===== -/
theorem good_wU {ws : List Cond} (h : ∀ w ∈ ws, w ∈ wU) : GoodIn wU ws := fun w hw => ⟨h w hw, good_of_word (wU_good w (h w hw))⟩
def x_put_ws (ws : va_W) : List Nat → va_W → va_W
  | i :: is, q :: qs => x_put_ws (ws.set i q) is qs
  | _, _ => ws
theorem x_put_at : ∀ (is : List Nat) (w1 ws : va_W) (k : Nat) (q : Nat × va_E), is.length = w1.length → (x_put_ws ws is w1)[k]? = some q → (ws[k]? = some q ∧ k ∉ is) ∨ ∃ j : Nat, is[j]? = some k ∧ w1[j]? = some q := by
  intro is
  induction is with
  | nil =>
    intro w1 ws k q hl h
    cases w1 with
    | nil => exact Or.inl ⟨h, List.not_mem_nil⟩
    | cons a b => simp at hl
  | cons i is ih =>
    intro w1 ws k q hl h
    cases w1 with
    | nil => simp at hl
    | cons q0 w1 =>
      rcases ih w1 (ws.set i q0) k q (by simpa using hl) h with ⟨h1, h2⟩ | ⟨j, h1, h2⟩
      · by_cases hk : k = i
        · subst hk
          have hlt : k < ws.length := by
            have := (List.getElem?_eq_some_iff.mp h1).1
            simpa using this
          rw [List.getElem?_set_self hlt] at h1
          exact Or.inr ⟨0, rfl, h1⟩
        · rw [List.getElem?_set_ne (fun e => hk e.symm)] at h1
          exact Or.inl ⟨h1, fun h => by rcases List.mem_cons.mp h with h | h; exact hk h; exact h2 h⟩
      · exact Or.inr ⟨j + 1, h1, h2⟩
theorem x_map_at {is : List Nat} {ws wc : va_W} (hC : is.map (fun i => ws[i]?) = wc.map some) {j i : Nat} (hj : is[j]? = some i) : ∃ q, wc[j]? = some q ∧ ws[i]? = some q := by
  have h1 : (is.map (fun i => ws[i]?))[j]? = some (ws[i]?) := by rw [List.getElem?_map, hj]; rfl
  rw [hC, List.getElem?_map] at h1
  cases hq : wc[j]? with
  | none => rw [hq] at h1; cases h1
  | some q => rw [hq] at h1; exact ⟨q, rfl, (Option.some.inj h1).symm⟩
theorem x_map_back {is : List Nat} {ws wc : va_W} (hC : is.map (fun i => ws[i]?) = wc.map some) {j : Nat} {q : Nat × va_E} (hq : wc[j]? = some q) : ∃ i, is[j]? = some i ∧ ws[i]? = some q := by
  have h1 : (is.map (fun i => ws[i]?))[j]? = some (some q) := by rw [hC, List.getElem?_map, hq]; rfl
  rw [List.getElem?_map] at h1
  cases hi : is[j]? with
  | none => rw [hi] at h1; cases h1
  | some i => rw [hi] at h1; exact ⟨i, rfl, Option.some.inj h1⟩
theorem x_upd {D : va_G} {cl : List vw_C} {ws wc w1 : va_W} {A : Nat → Prop} {H H1 : Heap} (hP : va_P D cl ws H) (hD : va_D A ws) (is : List Nat) (hC : is.map (fun i => ws[i]?) = wc.map some) (hlen : is.length = w1.length) (hadr : w1.map Prod.fst = wc.map Prod.fst)
    (hk : ∀ q : Nat, q < H.size → ¬ va_A wc H.size q → H1[q]? = H[q]?) (hP1 : va_P D cl w1 H1) : va_P D cl (x_put_ws ws is w1) H1 ∧ va_D A (x_put_ws ws is w1) := by
  have key : ∀ (k : Nat) (q : Nat × va_E), (x_put_ws ws is w1)[k]? = some q → ∃ q0, ws[k]? = some q0 ∧ q0.1 = q.1 := by
    intro k q hq
    rcases x_put_at is w1 ws k q hlen hq with ⟨h1, -⟩ | ⟨j, h1, h2⟩
    · exact ⟨q, h1, rfl⟩
    · obtain ⟨q', h3, h4⟩ := x_map_at hC h1
      refine ⟨q', h4, ?_⟩
      have e : (w1.map Prod.fst)[j]? = (wc.map Prod.fst)[j]? := by rw [hadr]
      rw [List.getElem?_map, List.getElem?_map, h2, h3] at e
      exact (Option.some.inj e).symm
  refine ⟨fun k q hq => ?_, fun i j a b ha hb hab => ?_, fun k q hq => ?_⟩
  · rcases x_put_at is w1 ws k q hlen hq with ⟨h1, h2⟩ | ⟨j, -, h2⟩
    · have hlt := (hP k q h1).lt
      refine (hP k q h1).kept (hk q.1 hlt ?_)
      rintro (⟨j, e, h⟩ | h)
      · obtain ⟨i, h3, h4⟩ := x_map_back hC h
        have : k = i := hD.1 k i q (q.1, e) h1 h4 rfl
        subst this
        exact h2 (List.mem_of_getElem? h3)
      · omega
    · exact hP1 j q h2
  · obtain ⟨a0, g1, g2⟩ := key i a ha
    obtain ⟨b0, g3, g4⟩ := key j b hb
    exact hD.1 i j a0 b0 g1 g3 (g2.trans (hab.trans g4.symm))
  · obtain ⟨q0, g1, g2⟩ := key k q hq
    rw [← g2]
    exact hD.2 k q0 g1
theorem x_put_self : ∀ (is : List Nat) (ws wc : va_W), is.map (fun i => ws[i]?) = wc.map some → x_put_ws ws is wc = ws := by
  intro is
  induction is with
  | nil =>
    intro ws wc h
    cases wc <;> rfl
  | cons i is ih =>
    intro ws wc h
    cases wc with
    | nil => rfl
    | cons q wc =>
      simp only [List.map_cons, List.cons.injEq] at h
      have hi : i < ws.length := (List.getElem?_eq_some_iff.mp h.1).1
      have e : ws.set i q = ws := by
        apply List.ext_getElem?
        intro k
        by_cases hk : k = i
        · subst hk
          rw [List.getElem?_set_self hi, h.1]
        · rw [List.getElem?_set_ne (fun e => hk e.symm)]
      show x_put_ws (ws.set i q) is wc = ws
      rw [e]
      exact ih ws wc h.2
theorem x_fm {is : List Nat} {ws wc : va_W} (hC : is.map (fun i => ws[i]?) = wc.map some) : is.filterMap (fun i => ws[i]?) = wc := by
  induction is generalizing wc with
  | nil => cases wc with
    | nil => rfl
    | cons a b => cases hC
  | cons i is ih =>
    cases wc with
    | nil => cases hC
    | cons q wc =>
      simp only [List.map_cons, List.cons.injEq] at hC
      rw [List.filterMap_cons, hC.1, ih hC.2]
/-- what a call's words are -/
abbrev xCd (y : MethodName) (n : Nat) : Prop := y.cls ≠ "java/lang/invoke/MethodHandle" ∧ y.cls ≠ "java/lang/invoke/VarHandle" ∧ (parseMethodDescriptor y.desc).map (fun d => d.parameters.length) = some n
section XC
variable {p : Program} {l : Launch} {e : Env} {R : Room} {s : State} {m : MethodId} {args : Array Value} {below : List Frame} {meth : Method} {c : Code} {H : Heap} {locs : List Loc} {k z : Nat} {Q : State → Prop}
variable {pc : Nat} {ls : Array Slot} {rest st0 : List Value} {a : Array Value} {A0 A1 : Nat → Prop} {H0 : Heap} {mc ms : Nat} {free : Addr → Prop}
theorem x_go {r : Option Value} {B : State → Prop} (hr : va_Run p l e R s m args below meth c H locs k z mc ms (F0 m pc ls st0) rest (xQ r B A1 a) free) (hS : va_S A0 H0 H locs) (hA : ∀ q, q < H.size → A1 q → A0 q) (hf : ∀ q, free q → A0 q)
    (kk : ∀ (t : State) (H1 : Heap) (locs1 : List Loc), t.heap = H1 → B t → H.size ≤ H1.size → (∀ q : Nat, q < H.size → ¬ A1 q → H1[q]? = H[q]?) → va_S A0 H0 H1 locs1 → W p l e R s m args below meth c H1 locs1 (k + mc) (z + ms) Q (F0 m (pc + 3) ls (r.toList ++ rest))) : W p l e R s m args below meth c H locs k z Q (F0 m pc ls st0) := by
  intro T hT X
  obtain ⟨v, st₀, t, T', L, h0, X', hL, e1, e2, ⟨⟨hv, hb⟩, hz, hk⟩, st⟩ := hr T hT X
  cases hv
  rw [h0] at hz hk
  obtain ⟨t2, a1, b1⟩ := kk t T'.heap (locs ++ L) e1.symm hb (by rw [e1]; exact hz) (fun q h1 h2 => by rw [e1]; exact hk q h1 h2)
    ⟨Nat.le_trans hS.1 (by rw [e1]; exact hz), fun q h1 h2 => by rw [e1, hk q (Nat.lt_of_lt_of_le h1 hS.1) (fun z => h2 (hA q (Nat.lt_of_lt_of_le h1 hS.1) z))]; exact hS.2.1 q h1 h2, fun q hq => by
      rcases List.mem_append.mp hq with h | h
      · exact hS.2.2 q h
      · exact hf _ (hL q h)⟩ T' rfl X'
  exact ⟨t2, st t2 a1, b1⟩
end XC
section XD
variable {l : Launch} {G : xG} {E E' : xE} {own nm : String} {cc : ByteArray} {nL : Nat} {R : Room} {Z : Option Value → va_W → Nat → Nat → Prop} {K : xKt} {ws ws' wc w1 : va_W} {k z pc : Nat} {lv : xL} {st rest : List Value}
variable {y : MethodName} {cc' : ByteArray} {n' : Nat} {ret' : Option FieldType} {fr' lo' mc' ms' idx : Nat} {As : List Value} {r' : Option Value} {v : Value} {Fin' : va_W → Prop}

set_option maxHeartbeats 1000000 in
theorem x_callV {b ci : Nat} {fs : List Value} {T : u_T} {N : Nat} (X : xR l G E own nm cc nL R Z K) (hM : xM l G E' y cc' n' ret' fr' lo' mc' ms' (.ref b :: As) wc r' Fin') (hE1 : xEok E') (hE2 : ∀ A U, E A U → E' A U) (is : List Nat) (hC : is.map (fun i => ws[i]?) = wc.map some) (j : Nat) (hj : wc[j]? = some (b, .inr (ci, fs))) (hci : vwCl[ci]? = some (y.cls, T, N)) (hnd : va_nd is = true) (hst : st = As.reverse ++ .ref b :: rest) (hco : Cond.code y cc' n' ret' ∈ wU) (hini : Cond.initialized y.cls ∈ wU) (hd : xCd y As.length) (hlk : Cond.methodLink own idx y ∈ wU) (hin : Cond.instanceMethod y ∈ wU) (hse : Cond.selects y.cls y y ∈ wU) (hroom : fr' + 1 ≤ R.frames ∧ 8 + (n' + 11) + lo' ≤ R.locals ∧ k + mc' ≤ R.cells ∧ z + ms' ≤ R.slots) (hrest : (rest.map fun v => v.category).sum ≤ 8) (hdg : decode cc pc = .ok (.invokevirtual idx, 3)) (hsk : ∀ w2, Fin' w2 → is.length = w2.length ∧ w2.map Prod.fst = wc.map Prod.fst) (kk : ∀ w2, Fin' w2 → K (x_put_ws ws is w2) (k + mc') (z + ms') (pc + 3) lv (r'.toList ++ rest)) : K ws k z pc lv st := by
  obtain ⟨p, e, s, m, args, below, meth, c, Q, A, hx, hb, hml, hown, hts, hK, hE, hA, hnm, rfl, hZ⟩ := X
  intro H locs ls hP hD hS hl
  have hPc := hP.sub (ws' := wc) is (x_fm hC)
  have hDc := hD.sub (ws' := wc) is hnd hC
  have hFc := va_free (wc := wc) hD hS hA is hC
  have hW0 : ∀ w ∈ (wsV own idx y.cls y (.code y cc' n' ret' :: wU)), w ∈ wU := by
    intro w hw
    simp only [wsV, List.cons_append, List.nil_append, List.mem_cons] at hw; rcases hw with rfl | rfl | rfl | rfl | rfl | hw; exact hlk; exact hin; exact hse; exact hini; exact hco; exact hw
  refine x_go (va_runV (As := As) ⟨hx, hb, hml, hown, hts⟩ (hM H.size) (cwV (C := y.cls) As.length hts (good_wU hW0) rfl rfl rfl ⟨rfl, hd⟩ ⟨hroom.1, hroom.2.1⟩) ⟨fun a U g mk q => ⟨q.1, q.2.1, q.2.2.1, q.2.2.2.1.call, q.2.2.2.2.1, hE1.1 _ _ _ _ _ q.2.2.2.2.2⟩, va_recv (q := (y.cls, T, N)) hK.1 hPc hci hj, fun U hU hW => ⟨rfl, by rw [hU], by rw [hU]; exact hPc, hK.warm hW, hDc.weaken (fun _ _ _ _ => trivial), hE1.2 A _ s U hW (fun q h1 h2 => by rw [hU]; exact hS.2.1 q h1 h2) (fun q h => hFc q h) (hE2 _ _ hE)⟩⟩ rfl rfl hl.1 hst (lv_room hrest) hdg ⟨hroom.2.2.1, hroom.2.2.2⟩) hS (fun q _ h => hFc q h) hFc (fun t H1 locs1 ht hB hz1 hk1 hS1 => ?_)
  obtain ⟨w2, hF, hP1, hD1⟩ := hB
  rw [ht] at hP1
  obtain ⟨hlen, hadr⟩ := hsk w2 hF
  obtain ⟨hP2, hD2⟩ := x_upd hP hD is hC hlen hadr hk1 hP1
  exact kk w2 hF H1 locs1 ls hP2 hD2 hS1 hl

theorem x_callVfv {b ci : Nat} {fs : List Value} {T : u_T} {N : Nat} (X : xR l G E own nm cc nL R Z K) (hM : xM l G E' y cc' n' ret' fr' lo' mc' ms' (.ref b :: As) wc (some v) (fun w2 => w2 = w1)) (hE1 : xEok E') (hE2 : ∀ A U, E A U → E' A U) (is : List Nat) (hC : is.map (fun i => ws[i]?) = wc.map some) (j : Nat) (hj : wc[j]? = some (b, .inr (ci, fs))) (hci : vwCl[ci]? = some (y.cls, T, N)) (hnd : va_nd is = true) (hst : st = As.reverse ++ .ref b :: rest) (hco : Cond.code y cc' n' ret' ∈ wU) (hini : Cond.initialized y.cls ∈ wU) (hd : xCd y As.length) (hlk : Cond.methodLink own idx y ∈ wU) (hin : Cond.instanceMethod y ∈ wU) (hse : Cond.selects y.cls y y ∈ wU) (hroom : fr' + 1 ≤ R.frames ∧ 8 + (n' + 11) + lo' ≤ R.locals ∧ k + mc' ≤ R.cells ∧ z + ms' ≤ R.slots) (hrest : (rest.map fun v => v.category).sum ≤ 8) (hdg : decode cc pc = .ok (.invokevirtual idx, 3)) (hlen : is.length = w1.length) (hadr : w1.map Prod.fst = wc.map Prod.fst) (hws : x_put_ws ws is w1 = ws') (kk : K ws' (k + mc') (z + ms') (pc + 3) lv (v :: rest)) : K ws k z pc lv st :=
  x_callV X hM hE1 hE2 is hC j hj hci hnd hst hco hini hd hlk hin hse hroom hrest hdg (fun w2 h => by subst h; exact ⟨hlen, hadr⟩) (fun w2 h => by subst h; rw [hws]; exact kk)

theorem x_callVrv {b ci : Nat} {fs : List Value} {T : u_T} {N : Nat} (X : xR l G E own nm cc nL R Z K) (hM : xM l G E' y cc' n' ret' fr' lo' mc' ms' (.ref b :: As) wc (some v) (fun w2 => w2 = wc)) (hE1 : xEok E') (hE2 : ∀ A U, E A U → E' A U) (is : List Nat) (hC : is.map (fun i => ws[i]?) = wc.map some) (j : Nat) (hj : wc[j]? = some (b, .inr (ci, fs))) (hci : vwCl[ci]? = some (y.cls, T, N)) (hnd : va_nd is = true) (hst : st = As.reverse ++ .ref b :: rest) (hco : Cond.code y cc' n' ret' ∈ wU) (hini : Cond.initialized y.cls ∈ wU) (hd : xCd y As.length) (hlk : Cond.methodLink own idx y ∈ wU) (hin : Cond.instanceMethod y ∈ wU) (hse : Cond.selects y.cls y y ∈ wU) (hroom : fr' + 1 ≤ R.frames ∧ 8 + (n' + 11) + lo' ≤ R.locals ∧ k + mc' ≤ R.cells ∧ z + ms' ≤ R.slots) (hrest : (rest.map fun v => v.category).sum ≤ 8) (hdg : decode cc pc = .ok (.invokevirtual idx, 3)) (kk : K ws (k + mc') (z + ms') (pc + 3) lv (v :: rest)) : K ws k z pc lv st :=
  x_callV X hM hE1 hE2 is hC j hj hci hnd hst hco hini hd hlk hin hse hroom hrest hdg (fun w2 h => by subst h; exact ⟨by simpa using congrArg List.length hC, rfl⟩) (fun w2 h => by subst h; rw [x_put_self is ws w2 hC]; exact kk)

theorem x_callVf0 {b ci : Nat} {fs : List Value} {T : u_T} {N : Nat} (X : xR l G E own nm cc nL R Z K) (hM : xM l G E' y cc' n' ret' fr' lo' mc' ms' (.ref b :: As) wc (none) (fun w2 => w2 = w1)) (hE1 : xEok E') (hE2 : ∀ A U, E A U → E' A U) (is : List Nat) (hC : is.map (fun i => ws[i]?) = wc.map some) (j : Nat) (hj : wc[j]? = some (b, .inr (ci, fs))) (hci : vwCl[ci]? = some (y.cls, T, N)) (hnd : va_nd is = true) (hst : st = As.reverse ++ .ref b :: rest) (hco : Cond.code y cc' n' ret' ∈ wU) (hini : Cond.initialized y.cls ∈ wU) (hd : xCd y As.length) (hlk : Cond.methodLink own idx y ∈ wU) (hin : Cond.instanceMethod y ∈ wU) (hse : Cond.selects y.cls y y ∈ wU) (hroom : fr' + 1 ≤ R.frames ∧ 8 + (n' + 11) + lo' ≤ R.locals ∧ k + mc' ≤ R.cells ∧ z + ms' ≤ R.slots) (hrest : (rest.map fun v => v.category).sum ≤ 8) (hdg : decode cc pc = .ok (.invokevirtual idx, 3)) (hlen : is.length = w1.length) (hadr : w1.map Prod.fst = wc.map Prod.fst) (hws : x_put_ws ws is w1 = ws') (kk : K ws' (k + mc') (z + ms') (pc + 3) lv (rest)) : K ws k z pc lv st :=
  x_callV X hM hE1 hE2 is hC j hj hci hnd hst hco hini hd hlk hin hse hroom hrest hdg (fun w2 h => by subst h; exact ⟨hlen, hadr⟩) (fun w2 h => by subst h; rw [hws]; exact kk)

theorem x_callVr0 {b ci : Nat} {fs : List Value} {T : u_T} {N : Nat} (X : xR l G E own nm cc nL R Z K) (hM : xM l G E' y cc' n' ret' fr' lo' mc' ms' (.ref b :: As) wc (none) (fun w2 => w2 = wc)) (hE1 : xEok E') (hE2 : ∀ A U, E A U → E' A U) (is : List Nat) (hC : is.map (fun i => ws[i]?) = wc.map some) (j : Nat) (hj : wc[j]? = some (b, .inr (ci, fs))) (hci : vwCl[ci]? = some (y.cls, T, N)) (hnd : va_nd is = true) (hst : st = As.reverse ++ .ref b :: rest) (hco : Cond.code y cc' n' ret' ∈ wU) (hini : Cond.initialized y.cls ∈ wU) (hd : xCd y As.length) (hlk : Cond.methodLink own idx y ∈ wU) (hin : Cond.instanceMethod y ∈ wU) (hse : Cond.selects y.cls y y ∈ wU) (hroom : fr' + 1 ≤ R.frames ∧ 8 + (n' + 11) + lo' ≤ R.locals ∧ k + mc' ≤ R.cells ∧ z + ms' ≤ R.slots) (hrest : (rest.map fun v => v.category).sum ≤ 8) (hdg : decode cc pc = .ok (.invokevirtual idx, 3)) (kk : K ws (k + mc') (z + ms') (pc + 3) lv (rest)) : K ws k z pc lv st :=
  x_callV X hM hE1 hE2 is hC j hj hci hnd hst hco hini hd hlk hin hse hroom hrest hdg (fun w2 h => by subst h; exact ⟨by simpa using congrArg List.length hC, rfl⟩) (fun w2 h => by subst h; rw [x_put_self is ws w2 hC]; exact kk)

set_option maxHeartbeats 1000000 in
theorem x_callS (X : xR l G E own nm cc nL R Z K) (hM : xM l G E' y cc' n' ret' fr' lo' mc' ms' (As) wc r' Fin') (hE1 : xEok E') (hE2 : ∀ A U, E A U → E' A U) (is : List Nat) (hC : is.map (fun i => ws[i]?) = wc.map some) (hnd : va_nd is = true) (hst : st = As.reverse ++ rest) (hco : Cond.code y cc' n' ret' ∈ wU) (hini : Cond.initialized y.cls ∈ wU) (hd : xCd y As.length) (hlk : Cond.methodLink own idx y ∈ wU) (hst0 : Cond.static y ∈ wU) (hroom : fr' + 1 ≤ R.frames ∧ 8 + (n' + 11) + lo' ≤ R.locals ∧ k + mc' ≤ R.cells ∧ z + ms' ≤ R.slots) (hrest : (rest.map fun v => v.category).sum ≤ 8) (hdg : decode cc pc = .ok (.invokestatic idx, 3)) (hsk : ∀ w2, Fin' w2 → is.length = w2.length ∧ w2.map Prod.fst = wc.map Prod.fst) (kk : ∀ w2, Fin' w2 → K (x_put_ws ws is w2) (k + mc') (z + ms') (pc + 3) lv (r'.toList ++ rest)) : K ws k z pc lv st := by
  obtain ⟨p, e, s, m, args, below, meth, c, Q, A, hx, hb, hml, hown, hts, hK, hE, hA, hnm, rfl, hZ⟩ := X
  intro H locs ls hP hD hS hl
  have hPc := hP.sub (ws' := wc) is (x_fm hC)
  have hDc := hD.sub (ws' := wc) is hnd hC
  have hFc := va_free (wc := wc) hD hS hA is hC
  have hW0 : ∀ w ∈ (va_wsS own idx y (.code y cc' n' ret' :: wU)), w ∈ wU := by
    intro w hw
    simp only [va_wsS, List.cons_append, List.nil_append, List.mem_cons] at hw; rcases hw with rfl | rfl | rfl | rfl | hw; exact hlk; exact hst0; exact hini; exact hco; exact hw
  refine x_go (va_runS (As := As) ⟨hx, hb, hml, hown, hts⟩ (hM H.size) (va_cwS As.length hts (good_wU hW0) rfl rfl rfl hd ⟨hroom.1, hroom.2.1⟩) ⟨fun a U g mk q => ⟨q.1, q.2.1, q.2.2.1, q.2.2.2.1.call, q.2.2.2.2.1, hE1.1 _ _ _ _ _ q.2.2.2.2.2⟩, fun U hU hW => ⟨rfl, by rw [hU], by rw [hU]; exact hPc, hK.warm hW, hDc.weaken (fun _ _ _ _ => trivial), hE1.2 A _ s U hW (fun q h1 h2 => by rw [hU]; exact hS.2.1 q h1 h2) (fun q h => hFc q h) (hE2 _ _ hE)⟩⟩ rfl rfl hl.1 hst (lv_room hrest) hdg ⟨hroom.2.2.1, hroom.2.2.2⟩) hS (fun q _ h => hFc q h) hFc (fun t H1 locs1 ht hB hz1 hk1 hS1 => ?_)
  obtain ⟨w2, hF, hP1, hD1⟩ := hB
  rw [ht] at hP1
  obtain ⟨hlen, hadr⟩ := hsk w2 hF
  obtain ⟨hP2, hD2⟩ := x_upd hP hD is hC hlen hadr hk1 hP1
  exact kk w2 hF H1 locs1 ls hP2 hD2 hS1 hl

theorem x_callSfv (X : xR l G E own nm cc nL R Z K) (hM : xM l G E' y cc' n' ret' fr' lo' mc' ms' (As) wc (some v) (fun w2 => w2 = w1)) (hE1 : xEok E') (hE2 : ∀ A U, E A U → E' A U) (is : List Nat) (hC : is.map (fun i => ws[i]?) = wc.map some) (hnd : va_nd is = true) (hst : st = As.reverse ++ rest) (hco : Cond.code y cc' n' ret' ∈ wU) (hini : Cond.initialized y.cls ∈ wU) (hd : xCd y As.length) (hlk : Cond.methodLink own idx y ∈ wU) (hst0 : Cond.static y ∈ wU) (hroom : fr' + 1 ≤ R.frames ∧ 8 + (n' + 11) + lo' ≤ R.locals ∧ k + mc' ≤ R.cells ∧ z + ms' ≤ R.slots) (hrest : (rest.map fun v => v.category).sum ≤ 8) (hdg : decode cc pc = .ok (.invokestatic idx, 3)) (hlen : is.length = w1.length) (hadr : w1.map Prod.fst = wc.map Prod.fst) (hws : x_put_ws ws is w1 = ws') (kk : K ws' (k + mc') (z + ms') (pc + 3) lv (v :: rest)) : K ws k z pc lv st :=
  x_callS X hM hE1 hE2 is hC hnd hst hco hini hd hlk hst0 hroom hrest hdg (fun w2 h => by subst h; exact ⟨hlen, hadr⟩) (fun w2 h => by subst h; rw [hws]; exact kk)

theorem x_callSrv (X : xR l G E own nm cc nL R Z K) (hM : xM l G E' y cc' n' ret' fr' lo' mc' ms' (As) wc (some v) (fun w2 => w2 = wc)) (hE1 : xEok E') (hE2 : ∀ A U, E A U → E' A U) (is : List Nat) (hC : is.map (fun i => ws[i]?) = wc.map some) (hnd : va_nd is = true) (hst : st = As.reverse ++ rest) (hco : Cond.code y cc' n' ret' ∈ wU) (hini : Cond.initialized y.cls ∈ wU) (hd : xCd y As.length) (hlk : Cond.methodLink own idx y ∈ wU) (hst0 : Cond.static y ∈ wU) (hroom : fr' + 1 ≤ R.frames ∧ 8 + (n' + 11) + lo' ≤ R.locals ∧ k + mc' ≤ R.cells ∧ z + ms' ≤ R.slots) (hrest : (rest.map fun v => v.category).sum ≤ 8) (hdg : decode cc pc = .ok (.invokestatic idx, 3)) (kk : K ws (k + mc') (z + ms') (pc + 3) lv (v :: rest)) : K ws k z pc lv st :=
  x_callS X hM hE1 hE2 is hC hnd hst hco hini hd hlk hst0 hroom hrest hdg (fun w2 h => by subst h; exact ⟨by simpa using congrArg List.length hC, rfl⟩) (fun w2 h => by subst h; rw [x_put_self is ws w2 hC]; exact kk)

theorem x_callSf0 (X : xR l G E own nm cc nL R Z K) (hM : xM l G E' y cc' n' ret' fr' lo' mc' ms' (As) wc (none) (fun w2 => w2 = w1)) (hE1 : xEok E') (hE2 : ∀ A U, E A U → E' A U) (is : List Nat) (hC : is.map (fun i => ws[i]?) = wc.map some) (hnd : va_nd is = true) (hst : st = As.reverse ++ rest) (hco : Cond.code y cc' n' ret' ∈ wU) (hini : Cond.initialized y.cls ∈ wU) (hd : xCd y As.length) (hlk : Cond.methodLink own idx y ∈ wU) (hst0 : Cond.static y ∈ wU) (hroom : fr' + 1 ≤ R.frames ∧ 8 + (n' + 11) + lo' ≤ R.locals ∧ k + mc' ≤ R.cells ∧ z + ms' ≤ R.slots) (hrest : (rest.map fun v => v.category).sum ≤ 8) (hdg : decode cc pc = .ok (.invokestatic idx, 3)) (hlen : is.length = w1.length) (hadr : w1.map Prod.fst = wc.map Prod.fst) (hws : x_put_ws ws is w1 = ws') (kk : K ws' (k + mc') (z + ms') (pc + 3) lv (rest)) : K ws k z pc lv st :=
  x_callS X hM hE1 hE2 is hC hnd hst hco hini hd hlk hst0 hroom hrest hdg (fun w2 h => by subst h; exact ⟨hlen, hadr⟩) (fun w2 h => by subst h; rw [hws]; exact kk)

theorem x_callSr0 (X : xR l G E own nm cc nL R Z K) (hM : xM l G E' y cc' n' ret' fr' lo' mc' ms' (As) wc (none) (fun w2 => w2 = wc)) (hE1 : xEok E') (hE2 : ∀ A U, E A U → E' A U) (is : List Nat) (hC : is.map (fun i => ws[i]?) = wc.map some) (hnd : va_nd is = true) (hst : st = As.reverse ++ rest) (hco : Cond.code y cc' n' ret' ∈ wU) (hini : Cond.initialized y.cls ∈ wU) (hd : xCd y As.length) (hlk : Cond.methodLink own idx y ∈ wU) (hst0 : Cond.static y ∈ wU) (hroom : fr' + 1 ≤ R.frames ∧ 8 + (n' + 11) + lo' ≤ R.locals ∧ k + mc' ≤ R.cells ∧ z + ms' ≤ R.slots) (hrest : (rest.map fun v => v.category).sum ≤ 8) (hdg : decode cc pc = .ok (.invokestatic idx, 3)) (kk : K ws (k + mc') (z + ms') (pc + 3) lv (rest)) : K ws k z pc lv st :=
  x_callS X hM hE1 hE2 is hC hnd hst hco hini hd hlk hst0 hroom hrest hdg (fun w2 h => by subst h; exact ⟨by simpa using congrArg List.length hC, rfl⟩) (fun w2 h => by subst h; rw [x_put_self is ws w2 hC]; exact kk)

set_option maxHeartbeats 1000000 in
theorem x_callN (X : xR l G E own nm cc nL R Z K) (hM : xM l G E' y cc' n' ret' fr' lo' mc' ms' (As) wc r' Fin') (hE1 : xEok E') (hE2 : ∀ A U, E A U → E' A U) (is : List Nat) (hC : is.map (fun i => ws[i]?) = wc.map some) (hnd : va_nd is = true) (hst : st = As.reverse ++ rest) (hco : Cond.code y cc' n' ret' ∈ wU) (hini : Cond.initialized y.cls ∈ wU) (hd : xCd y As.length) {host : String} (hlk : (own, idx, y, host) ∈ xNest) (hst0 : Cond.static y ∈ wU) (hroom : fr' + 1 ≤ R.frames ∧ 8 + (n' + 11) + lo' ≤ R.locals ∧ k + mc' ≤ R.cells ∧ z + ms' ≤ R.slots) (hrest : (rest.map fun v => v.category).sum ≤ 8) (hdg : decode cc pc = .ok (.invokestatic idx, 3)) (hsk : ∀ w2, Fin' w2 → is.length = w2.length ∧ w2.map Prod.fst = wc.map Prod.fst) (kk : ∀ w2, Fin' w2 → K (x_put_ws ws is w2) (k + mc') (z + ms') (pc + 3) lv (r'.toList ++ rest)) : K ws k z pc lv st := by
  obtain ⟨p, e, s, m, args, below, meth, c, Q, A, hx, hb, hml, hown, hts, hK, hE, hA, hnm, rfl, hZ⟩ := X
  intro H locs ls hP hD hS hl
  have hPc := hP.sub (ws' := wc) is (x_fm hC)
  have hDc := hD.sub (ws' := wc) is hnd hC
  have hFc := va_free (wc := wc) hD hS hA is hC
  have hW0 : ∀ w ∈ ((.code y cc' n' ret' :: wU : List Cond)), w ∈ wU := by
    intro w hw
    rcases List.mem_cons.mp hw with rfl | hw; exact hco; exact hw
  refine x_go (va_runSN (As := As) (host := host) ⟨hx, hb, hml, hown, hts⟩ (hM H.size) ⟨va_cnB As.length hts (good_wU hW0) rfl rfl rfl (hK.2 _ hlk) (hts _ hini) hd ⟨hroom.1, hroom.2.1⟩, hts _ hst0, trivial⟩ ⟨fun a U g mk q => ⟨q.1, q.2.1, q.2.2.1, q.2.2.2.1.call, q.2.2.2.2.1, hE1.1 _ _ _ _ _ q.2.2.2.2.2⟩, fun U hU hW => ⟨rfl, by rw [hU], by rw [hU]; exact hPc, hK.warm hW, hDc.weaken (fun _ _ _ _ => trivial), hE1.2 A _ s U hW (fun q h1 h2 => by rw [hU]; exact hS.2.1 q h1 h2) (fun q h => hFc q h) (hE2 _ _ hE)⟩⟩ rfl rfl hl.1 hst (lv_room hrest) hdg ⟨hroom.2.2.1, hroom.2.2.2⟩) hS (fun q _ h => hFc q h) hFc (fun t H1 locs1 ht hB hz1 hk1 hS1 => ?_)
  obtain ⟨w2, hF, hP1, hD1⟩ := hB
  rw [ht] at hP1
  obtain ⟨hlen, hadr⟩ := hsk w2 hF
  obtain ⟨hP2, hD2⟩ := x_upd hP hD is hC hlen hadr hk1 hP1
  exact kk w2 hF H1 locs1 ls hP2 hD2 hS1 hl

theorem x_callNfv (X : xR l G E own nm cc nL R Z K) (hM : xM l G E' y cc' n' ret' fr' lo' mc' ms' (As) wc (some v) (fun w2 => w2 = w1)) (hE1 : xEok E') (hE2 : ∀ A U, E A U → E' A U) (is : List Nat) (hC : is.map (fun i => ws[i]?) = wc.map some) (hnd : va_nd is = true) (hst : st = As.reverse ++ rest) (hco : Cond.code y cc' n' ret' ∈ wU) (hini : Cond.initialized y.cls ∈ wU) (hd : xCd y As.length) {host : String} (hlk : (own, idx, y, host) ∈ xNest) (hst0 : Cond.static y ∈ wU) (hroom : fr' + 1 ≤ R.frames ∧ 8 + (n' + 11) + lo' ≤ R.locals ∧ k + mc' ≤ R.cells ∧ z + ms' ≤ R.slots) (hrest : (rest.map fun v => v.category).sum ≤ 8) (hdg : decode cc pc = .ok (.invokestatic idx, 3)) (hlen : is.length = w1.length) (hadr : w1.map Prod.fst = wc.map Prod.fst) (hws : x_put_ws ws is w1 = ws') (kk : K ws' (k + mc') (z + ms') (pc + 3) lv (v :: rest)) : K ws k z pc lv st :=
  x_callN X hM hE1 hE2 is hC hnd hst hco hini hd hlk hst0 hroom hrest hdg (fun w2 h => by subst h; exact ⟨hlen, hadr⟩) (fun w2 h => by subst h; rw [hws]; exact kk)

theorem x_callNrv (X : xR l G E own nm cc nL R Z K) (hM : xM l G E' y cc' n' ret' fr' lo' mc' ms' (As) wc (some v) (fun w2 => w2 = wc)) (hE1 : xEok E') (hE2 : ∀ A U, E A U → E' A U) (is : List Nat) (hC : is.map (fun i => ws[i]?) = wc.map some) (hnd : va_nd is = true) (hst : st = As.reverse ++ rest) (hco : Cond.code y cc' n' ret' ∈ wU) (hini : Cond.initialized y.cls ∈ wU) (hd : xCd y As.length) {host : String} (hlk : (own, idx, y, host) ∈ xNest) (hst0 : Cond.static y ∈ wU) (hroom : fr' + 1 ≤ R.frames ∧ 8 + (n' + 11) + lo' ≤ R.locals ∧ k + mc' ≤ R.cells ∧ z + ms' ≤ R.slots) (hrest : (rest.map fun v => v.category).sum ≤ 8) (hdg : decode cc pc = .ok (.invokestatic idx, 3)) (kk : K ws (k + mc') (z + ms') (pc + 3) lv (v :: rest)) : K ws k z pc lv st :=
  x_callN X hM hE1 hE2 is hC hnd hst hco hini hd hlk hst0 hroom hrest hdg (fun w2 h => by subst h; exact ⟨by simpa using congrArg List.length hC, rfl⟩) (fun w2 h => by subst h; rw [x_put_self is ws w2 hC]; exact kk)

theorem x_callNf0 (X : xR l G E own nm cc nL R Z K) (hM : xM l G E' y cc' n' ret' fr' lo' mc' ms' (As) wc (none) (fun w2 => w2 = w1)) (hE1 : xEok E') (hE2 : ∀ A U, E A U → E' A U) (is : List Nat) (hC : is.map (fun i => ws[i]?) = wc.map some) (hnd : va_nd is = true) (hst : st = As.reverse ++ rest) (hco : Cond.code y cc' n' ret' ∈ wU) (hini : Cond.initialized y.cls ∈ wU) (hd : xCd y As.length) {host : String} (hlk : (own, idx, y, host) ∈ xNest) (hst0 : Cond.static y ∈ wU) (hroom : fr' + 1 ≤ R.frames ∧ 8 + (n' + 11) + lo' ≤ R.locals ∧ k + mc' ≤ R.cells ∧ z + ms' ≤ R.slots) (hrest : (rest.map fun v => v.category).sum ≤ 8) (hdg : decode cc pc = .ok (.invokestatic idx, 3)) (hlen : is.length = w1.length) (hadr : w1.map Prod.fst = wc.map Prod.fst) (hws : x_put_ws ws is w1 = ws') (kk : K ws' (k + mc') (z + ms') (pc + 3) lv (rest)) : K ws k z pc lv st :=
  x_callN X hM hE1 hE2 is hC hnd hst hco hini hd hlk hst0 hroom hrest hdg (fun w2 h => by subst h; exact ⟨hlen, hadr⟩) (fun w2 h => by subst h; rw [hws]; exact kk)

theorem x_callNr0 (X : xR l G E own nm cc nL R Z K) (hM : xM l G E' y cc' n' ret' fr' lo' mc' ms' (As) wc (none) (fun w2 => w2 = wc)) (hE1 : xEok E') (hE2 : ∀ A U, E A U → E' A U) (is : List Nat) (hC : is.map (fun i => ws[i]?) = wc.map some) (hnd : va_nd is = true) (hst : st = As.reverse ++ rest) (hco : Cond.code y cc' n' ret' ∈ wU) (hini : Cond.initialized y.cls ∈ wU) (hd : xCd y As.length) {host : String} (hlk : (own, idx, y, host) ∈ xNest) (hst0 : Cond.static y ∈ wU) (hroom : fr' + 1 ≤ R.frames ∧ 8 + (n' + 11) + lo' ≤ R.locals ∧ k + mc' ≤ R.cells ∧ z + ms' ≤ R.slots) (hrest : (rest.map fun v => v.category).sum ≤ 8) (hdg : decode cc pc = .ok (.invokestatic idx, 3)) (kk : K ws (k + mc') (z + ms') (pc + 3) lv (rest)) : K ws k z pc lv st :=
  x_callN X hM hE1 hE2 is hC hnd hst hco hini hd hlk hst0 hroom hrest hdg (fun w2 h => by subst h; exact ⟨by simpa using congrArg List.length hC, rfl⟩) (fun w2 h => by subst h; rw [x_put_self is ws w2 hC]; exact kk)

set_option maxHeartbeats 1000000 in
theorem x_callI {b : Nat} (X : xR l G E own nm cc nL R Z K) (hM : xM l G E' y cc' n' none fr' lo' mc' ms' (.ref b :: As) wc r' Fin') (hE1 : xEok E') (hE2 : ∀ A U, E A U → E' A U) (is : List Nat) (hC : is.map (fun i => ws[i]?) = wc.map some) (hnd : va_nd is = true) (hst : st = As.reverse ++ .ref b :: rest) (hco : Cond.code y cc' n' none ∈ wU) (hini : Cond.initialized y.cls ∈ wU) (hd : xCd y As.length) (hlk : Cond.methodLink own idx y ∈ wU) (hin : Cond.instanceMethod y ∈ wU) (hy1 : y.name = "<init>") (hroom : fr' + 1 ≤ R.frames ∧ 8 + (n' + 11) + lo' ≤ R.locals ∧ k + mc' ≤ R.cells ∧ z + ms' ≤ R.slots) (hrest : (rest.map fun v => v.category).sum ≤ 8) (hdg : decode cc pc = .ok (.invokespecial idx, 3)) (hsk : ∀ w2, Fin' w2 → is.length = w2.length ∧ w2.map Prod.fst = wc.map Prod.fst) (kk : ∀ w2, Fin' w2 → K (x_put_ws ws is w2) (k + mc') (z + ms') (pc + 3) lv (r'.toList ++ rest)) : K ws k z pc lv st := by
  obtain ⟨p, e, s, m, args, below, meth, c, Q, A, hx, hb, hml, hown, hts, hK, hE, hA, hnm, rfl, hZ⟩ := X
  intro H locs ls hP hD hS hl
  have hPc := hP.sub (ws' := wc) is (x_fm hC)
  have hDc := hD.sub (ws' := wc) is hnd hC
  have hFc := va_free (wc := wc) hD hS hA is hC
  have hW0 : ∀ w ∈ ((.code y cc' n' none :: wU : List Cond)), w ∈ wU := by
    intro w hw
    rcases List.mem_cons.mp hw with rfl | hw; exact hco; exact hw
  refine x_go (va_runI (As := As) ⟨hx, hb, hml, hown, hts⟩ (hM H.size) (cwI As.length hts (good_wU hW0) rfl rfl rfl (hts _ hini) (hts _ hlk) (hts _ hin) hy1 hd ⟨hroom.1, hroom.2.1⟩) ⟨fun a U g mk q => ⟨q.1, q.2.1, q.2.2.1, q.2.2.2.1.call, q.2.2.2.2.1, hE1.1 _ _ _ _ _ q.2.2.2.2.2⟩, fun U hU hW => ⟨rfl, by rw [hU], by rw [hU]; exact hPc, hK.warm hW, hDc.weaken (fun _ _ _ _ => trivial), hE1.2 A _ s U hW (fun q h1 h2 => by rw [hU]; exact hS.2.1 q h1 h2) (fun q h => hFc q h) (hE2 _ _ hE)⟩⟩ rfl rfl hl.1 hst (lv_room hrest) hdg ⟨hroom.2.2.1, hroom.2.2.2⟩) hS (fun q _ h => hFc q h) hFc (fun t H1 locs1 ht hB hz1 hk1 hS1 => ?_)
  obtain ⟨w2, hF, hP1, hD1⟩ := hB
  rw [ht] at hP1
  obtain ⟨hlen, hadr⟩ := hsk w2 hF
  obtain ⟨hP2, hD2⟩ := x_upd hP hD is hC hlen hadr hk1 hP1
  exact kk w2 hF H1 locs1 ls hP2 hD2 hS1 hl

theorem x_callIf0 {b : Nat} (X : xR l G E own nm cc nL R Z K) (hM : xM l G E' y cc' n' none fr' lo' mc' ms' (.ref b :: As) wc (none) (fun w2 => w2 = w1)) (hE1 : xEok E') (hE2 : ∀ A U, E A U → E' A U) (is : List Nat) (hC : is.map (fun i => ws[i]?) = wc.map some) (hnd : va_nd is = true) (hst : st = As.reverse ++ .ref b :: rest) (hco : Cond.code y cc' n' none ∈ wU) (hini : Cond.initialized y.cls ∈ wU) (hd : xCd y As.length) (hlk : Cond.methodLink own idx y ∈ wU) (hin : Cond.instanceMethod y ∈ wU) (hy1 : y.name = "<init>") (hroom : fr' + 1 ≤ R.frames ∧ 8 + (n' + 11) + lo' ≤ R.locals ∧ k + mc' ≤ R.cells ∧ z + ms' ≤ R.slots) (hrest : (rest.map fun v => v.category).sum ≤ 8) (hdg : decode cc pc = .ok (.invokespecial idx, 3)) (hlen : is.length = w1.length) (hadr : w1.map Prod.fst = wc.map Prod.fst) (hws : x_put_ws ws is w1 = ws') (kk : K ws' (k + mc') (z + ms') (pc + 3) lv (rest)) : K ws k z pc lv st :=
  x_callI X hM hE1 hE2 is hC hnd hst hco hini hd hlk hin hy1 hroom hrest hdg (fun w2 h => by subst h; exact ⟨hlen, hadr⟩) (fun w2 h => by subst h; rw [hws]; exact kk)

theorem x_callIr0 {b : Nat} (X : xR l G E own nm cc nL R Z K) (hM : xM l G E' y cc' n' none fr' lo' mc' ms' (.ref b :: As) wc (none) (fun w2 => w2 = wc)) (hE1 : xEok E') (hE2 : ∀ A U, E A U → E' A U) (is : List Nat) (hC : is.map (fun i => ws[i]?) = wc.map some) (hnd : va_nd is = true) (hst : st = As.reverse ++ .ref b :: rest) (hco : Cond.code y cc' n' none ∈ wU) (hini : Cond.initialized y.cls ∈ wU) (hd : xCd y As.length) (hlk : Cond.methodLink own idx y ∈ wU) (hin : Cond.instanceMethod y ∈ wU) (hy1 : y.name = "<init>") (hroom : fr' + 1 ≤ R.frames ∧ 8 + (n' + 11) + lo' ≤ R.locals ∧ k + mc' ≤ R.cells ∧ z + ms' ≤ R.slots) (hrest : (rest.map fun v => v.category).sum ≤ 8) (hdg : decode cc pc = .ok (.invokespecial idx, 3)) (kk : K ws (k + mc') (z + ms') (pc + 3) lv (rest)) : K ws k z pc lv st :=
  x_callI X hM hE1 hE2 is hC hnd hst hco hini hd hlk hin hy1 hroom hrest hdg (fun w2 h => by subst h; exact ⟨by simpa using congrArg List.length hC, rfl⟩) (fun w2 h => by subst h; rw [x_put_self is ws w2 hC]; exact kk)

set_option maxHeartbeats 1000000 in
theorem x_callIa {b : Nat} (X : xR l G E own nm cc nL R Z K) (hM : xM l G E' y cc' n' none fr' lo' mc' ms' (.ref b :: As) wc r' Fin') (hE1 : xEok E') (hE2 : ∀ A U, E A U → E' A U) (is : List Nat) (hC : is.map (fun i => ws[i]?) = wc.map some) (hnd : va_nd is = true) (hst : st = As.reverse ++ .ref b :: rest) (hco : Cond.code y cc' n' none ∈ wU) (hini : Cond.initialized y.cls ∈ wU) (hd : xCd y As.length) (hlk : Cond.methodLink own idx y ∈ wU) (hin : Cond.instanceMethod y ∈ wU) (hy1 : y.name = "<init>") (hroom : fr' + 1 ≤ R.frames ∧ 8 + (n' + 11) + lo' ≤ R.locals ∧ k + mc' ≤ R.cells ∧ z + ms' ≤ R.slots) (hrest : (rest.map fun v => v.category).sum ≤ 8) (hdg : decode cc pc = .ok (.invokespecial idx, 3)) {wr : va_W} (isR : List Nat) (hR : isR.map (fun i => ws[i]?) = wr.map some) (hnR : va_nd isR = true) (hdis : ∀ i ∈ isR, i ∉ is) (kk : ∀ w2, Fin' w2 → K (wr ++ w2) (k + mc') (z + ms') (pc + 3) lv (r'.toList ++ rest)) : K ws k z pc lv st := by
  obtain ⟨p, e, s, m, args, below, meth, c, Q, A, hx, hb, hml, hown, hts, hK, hE, hA, hnm, rfl, hZ⟩ := X
  intro H locs ls hP hD hS hl
  have hPc := hP.sub (ws' := wc) is (x_fm hC)
  have hDc := hD.sub (ws' := wc) is hnd hC
  have hFc := va_free (wc := wc) hD hS hA is hC
  have hW0 : ∀ w ∈ ((.code y cc' n' none :: wU : List Cond)), w ∈ wU := by
    intro w hw
    rcases List.mem_cons.mp hw with rfl | hw; exact hco; exact hw
  refine x_go (va_runI (As := As) ⟨hx, hb, hml, hown, hts⟩ (hM H.size) (cwI As.length hts (good_wU hW0) rfl rfl rfl (hts _ hini) (hts _ hlk) (hts _ hin) hy1 hd ⟨hroom.1, hroom.2.1⟩) ⟨fun a U g mk q => ⟨q.1, q.2.1, q.2.2.1, q.2.2.2.1.call, q.2.2.2.2.1, hE1.1 _ _ _ _ _ q.2.2.2.2.2⟩, fun U hU hW => ⟨rfl, by rw [hU], by rw [hU]; exact hPc, hK.warm hW, hDc.weaken (fun _ _ _ _ => trivial), hE1.2 A _ s U hW (fun q h1 h2 => by rw [hU]; exact hS.2.1 q h1 h2) (fun q h => hFc q h) (hE2 _ _ hE)⟩⟩ rfl rfl hl.1 hst (lv_room hrest) hdg ⟨hroom.2.2.1, hroom.2.2.2⟩) hS (fun q _ h => hFc q h) hFc (fun t H1 locs1 ht hB hz1 hk1 hS1 => ?_)
  obtain ⟨w2, hF, hP1, hD1⟩ := hB
  rw [ht] at hP1
  obtain ⟨hP2, hD2⟩ := va_join hP hD is isR hC hR hnR hdis hk1 hFc hP1 hD1
  exact kk w2 hF H1 locs1 ls hP2 hD2 hS1 hl

end XD
