/-! ===== worlds by pieces: a call whose world is some of our pieces, in any order ===== -/
theorem xJ_eq : ∀ l : List va_W, xJ l = l.flatten
  | [] => rfl
  | [a] => by simp [xJ]
  | a :: b :: l => by
    show a ++ xJ (b :: l) = a ++ (b :: l).flatten
    rw [xJ_eq (b :: l)]
theorem x_permP {D : va_G} {cl : List vw_C} {ws ws' : va_W} {H : Heap} (h : ws.Perm ws') (hP : va_P D cl ws H) : va_P D cl ws' H := by
  intro k q hq
  obtain ⟨j, hj⟩ := List.getElem?_of_mem (h.mem_iff.mpr (List.mem_of_getElem? hq))
  exact hP j q hj
theorem x_nodupD {A : Nat → Prop} {ws : va_W} : va_D A ws ↔ (ws.map Prod.fst).Nodup ∧ ∀ q ∈ ws, A q.1 := by
  constructor
  · intro h
    refine ⟨?_, fun q hq => ?_⟩
    · rw [List.nodup_iff_pairwise_ne, List.pairwise_iff_getElem]
      intro i j hi hj hij e
      simp only [List.length_map] at hi hj
      simp only [List.getElem_map] at e
      have := h.1 i j ws[i] ws[j] (List.getElem?_eq_getElem hi) (List.getElem?_eq_getElem hj) e
      omega
    · obtain ⟨j, hj⟩ := List.getElem?_of_mem hq
      exact h.2 j q hj
  · rintro ⟨h1, h2⟩
    refine ⟨fun i j p q hi hj e => ?_, fun k q hk => h2 q (List.mem_of_getElem? hk)⟩
    rw [List.nodup_iff_pairwise_ne, List.pairwise_iff_getElem] at h1
    obtain ⟨li, rfl⟩ := List.getElem?_eq_some_iff.mp hi
    obtain ⟨lj, rfl⟩ := List.getElem?_eq_some_iff.mp hj
    rcases Nat.lt_trichotomy i j with h | h | h
    · exact absurd (show (ws.map Prod.fst)[i]'(by simpa using li) = (ws.map Prod.fst)[j]'(by simpa using lj) from by rw [List.getElem_map, List.getElem_map]; exact e) (h1 i j _ _ h)
    · exact h
    · exact absurd (show (ws.map Prod.fst)[j]'(by simpa using lj) = (ws.map Prod.fst)[i]'(by simpa using li) from by rw [List.getElem_map, List.getElem_map]; exact e.symm) (h1 j i _ _ h)
theorem x_permD {A : Nat → Prop} {ws ws' : va_W} (h : ws.Perm ws') (hD : va_D A ws) : va_D A ws' := by
  obtain ⟨h1, h2⟩ := x_nodupD.mp hD
  exact x_nodupD.mpr ⟨(h.map Prod.fst).nodup h1, fun q hq => h2 q (h.mem_iff.mpr hq)⟩
def xAt (segs : List va_W) (is : List Nat) : List va_W := is.map (fun i => segs.getD i [])
theorem xAt_all (segs : List va_W) : xAt segs (List.range segs.length) = segs := by
  apply List.ext_getElem
  · simp [xAt]
  · intro i h1 h2
    simp [xAt, List.getD_eq_getElem?_getD, h2]
theorem xJ_perm {segs : List va_W} {is js : List Nat} (h : (is ++ js).Perm (List.range segs.length)) : (xJ segs).Perm (xJ (xAt segs is) ++ xJ (xAt segs js)) := by
  rw [xJ_eq, xJ_eq, xJ_eq, ← List.flatten_append]
  have e : xAt segs is ++ xAt segs js = xAt segs (is ++ js) := by simp [xAt]
  rw [e]
  have h2 : (xAt segs (is ++ js)).Perm (xAt segs (List.range segs.length)) := h.map _
  rw [xAt_all] at h2
  exact h2.symm.flatten
section XP
variable {l : Launch} {G : xG} {E E' : xE} {own nm : String} {cc : ByteArray} {nL : Nat} {R : Room} {Z : Option Value → va_W → Nat → Nat → Prop} {K : xKt} {ws ws' wc w1 wr : va_W} {k z pc : Nat} {lv : xL} {st rest : List Value}
variable {y : MethodName} {cc' : ByteArray} {n' : Nat} {ret' : Option FieldType} {fr' lo' mc' ms' idx : Nat} {As : List Value} {r' : Option Value} {v : Value} {Fin' : va_W → Prop}
theorem x_perm (X : xR l G E own nm cc nL R Z K) (h : ws.Perm ws') (kk : K ws' k z pc lv st) : K ws k z pc lv st := by
  obtain ⟨p, e, s, m, args, below, meth, c, Q, A, hx, hb, hml, hown, hts, hK, hE, hA, hnm, rfl, hZ⟩ := X
  intro H locs ls hP hD hS hl
  exact kk H locs ls (x_permP h hP) (x_permD h hD) hS hl
theorem xP_nd : ∀ (n b : Nat), va_nd ((List.range' b n)) = true
  | 0, _ => rfl
  | n + 1, b => by
    rw [List.range'_succ]
    simp only [va_nd, Bool.and_eq_true, decide_eq_true_eq]
    exact ⟨by rw [List.mem_range']; omega, xP_nd n (b + 1)⟩
theorem xP_at : ∀ (wc pre wr : va_W), (List.range' pre.length wc.length).map (fun i => (pre ++ (wc ++ wr))[i]?) = wc.map some
  | [], pre, wr => rfl
  | q :: wc, pre, wr => by
    rw [List.length_cons, List.range'_succ, List.map_cons, List.map_cons]
    congr 1
    · simp
    · have h := xP_at wc (pre ++ [q]) wr
      simpa using h
theorem xP_put : ∀ (w1 wc pre wr : va_W), w1.length = wc.length → x_put_ws (pre ++ (wc ++ wr)) (List.range' pre.length wc.length) w1 = pre ++ (w1 ++ wr)
  | [], wc, pre, wr, h => by
    cases wc with
    | nil => rfl
    | cons a b => simp at h
  | q1 :: w1, [], pre, wr, h => by simp at h
  | q1 :: w1, q :: wc, pre, wr, h => by
    rw [List.length_cons, List.range'_succ]
    show x_put_ws ((pre ++ (q :: wc ++ wr)).set pre.length q1) (List.range' (pre.length + 1) wc.length) w1 = _
    have e : (pre ++ (q :: wc ++ wr)).set pre.length q1 = (pre ++ [q1]) ++ (wc ++ wr) := by simp
    rw [e, show pre.length + 1 = (pre ++ [q1]).length by simp, xP_put w1 wc (pre ++ [q1]) wr (by simpa using h)]
    simp
theorem x_callVP {b ci : Nat} {fs : List Value} {T : u_T} {N : Nat} (X : xR l G E own nm cc nL R Z K) (hM : xM l G E' y cc' n' ret' fr' lo' mc' ms' (.ref b :: As) wc r' Fin') (hE1 : xEok E') (hE2 : ∀ A U, E A U → E' A U) (j : Nat) (hj : wc[j]? = some (b, .inr (ci, fs))) (hci : vwCl[ci]? = some (y.cls, T, N)) (hst : st = As.reverse ++ .ref b :: rest) (hco : Cond.code y cc' n' ret' ∈ wU) (hini : Cond.initialized y.cls ∈ wU) (hd : xCd y As.length) (hlk : Cond.methodLink own idx y ∈ wU) (hin : Cond.instanceMethod y ∈ wU) (hse : Cond.selects y.cls y y ∈ wU) (hroom : fr' + 1 ≤ R.frames ∧ 8 + (n' + 11) + lo' ≤ R.locals ∧ k + mc' ≤ R.cells ∧ z + ms' ≤ R.slots) (hrest : (rest.map fun v => v.category).sum ≤ 8) (hdg : decode cc pc = .ok (.invokevirtual idx, 3)) (hsk : ∀ w2, Fin' w2 → w2.map Prod.fst = wc.map Prod.fst) (kk : ∀ w2, Fin' w2 → K (w2 ++ wr) (k + mc') (z + ms') (pc + 3) lv (r'.toList ++ rest)) : K (wc ++ wr) k z pc lv st := by
  have hlen : ∀ w2, Fin' w2 → w2.length = wc.length := fun w2 h => by simpa using congrArg List.length (hsk w2 h)
  have e := xP_at wc [] wr
  simp only [List.length_nil, List.nil_append] at e
  refine x_callV X hM hE1 hE2 (List.range' 0 wc.length) e j hj hci (xP_nd _ _) hst hco hini hd hlk hin hse hroom hrest hdg (fun w2 h => ⟨by rw [hlen w2 h]; simp, hsk w2 h⟩) (fun w2 h => ?_)
  have e2 := xP_put w2 wc [] wr (hlen w2 h)
  simp only [List.length_nil, List.nil_append] at e2
  rw [e2]
  exact kk w2 h
theorem x_callVJ {b ci : Nat} {fs : List Value} {T : u_T} {N : Nat} {segs : List va_W} (is js : List Nat) (hpm : (is ++ js).Perm (List.range segs.length)) (X : xR l G E own nm cc nL R Z K) (hM : xM l G E' y cc' n' ret' fr' lo' mc' ms' (.ref b :: As) wc r' Fin') (hwc : xJ (xAt segs is) = wc) (hE1 : xEok E') (hE2 : ∀ A U, E A U → E' A U) (j : Nat) (hj : wc[j]? = some (b, .inr (ci, fs))) (hci : vwCl[ci]? = some (y.cls, T, N)) (hst : st = As.reverse ++ .ref b :: rest) (hco : Cond.code y cc' n' ret' ∈ wU) (hini : Cond.initialized y.cls ∈ wU) (hd : xCd y As.length) (hlk : Cond.methodLink own idx y ∈ wU) (hin : Cond.instanceMethod y ∈ wU) (hse : Cond.selects y.cls y y ∈ wU) (hroom : fr' + 1 ≤ R.frames ∧ 8 + (n' + 11) + lo' ≤ R.locals ∧ k + mc' ≤ R.cells ∧ z + ms' ≤ R.slots) (hrest : (rest.map fun v => v.category).sum ≤ 8) (hdg : decode cc pc = .ok (.invokevirtual idx, 3)) (hsk : ∀ w2, Fin' w2 → w2.map Prod.fst = wc.map Prod.fst) (kk : ∀ w2, Fin' w2 → K (w2 ++ xJ (xAt segs js)) (k + mc') (z + ms') (pc + 3) lv (r'.toList ++ rest)) : K (xJ segs) k z pc lv st := by
  subst hwc
  refine x_perm X (xJ_perm hpm) ?_
  exact x_callVP X hM hE1 hE2 j hj hci hst hco hini hd hlk hin hse hroom hrest hdg hsk kk
theorem x_callVJfv {b ci : Nat} {fs : List Value} {T : u_T} {N : Nat} {segs segs' : List va_W} {mid : List va_W} (is js : List Nat) (hpm : (is ++ js).Perm (List.range segs.length)) (hln : segs'.length = segs.length) (X : xR l G E own nm cc nL R Z K) (hM : xM l G E' y cc' n' ret' fr' lo' mc' ms' (.ref b :: As) wc (some v) (fun w2 => w2 = w1)) (hwc : xJ (xAt segs is) = wc) (hw1 : xJ (xAt segs' is) = w1) (hj1 : xAt segs js = mid) (hj2 : xAt segs' js = mid) (hE1 : xEok E') (hE2 : ∀ A U, E A U → E' A U) (j : Nat) (hj : wc[j]? = some (b, .inr (ci, fs))) (hci : vwCl[ci]? = some (y.cls, T, N)) (hst : st = As.reverse ++ .ref b :: rest) (hco : Cond.code y cc' n' ret' ∈ wU) (hini : Cond.initialized y.cls ∈ wU) (hd : xCd y As.length) (hlk : Cond.methodLink own idx y ∈ wU) (hin : Cond.instanceMethod y ∈ wU) (hse : Cond.selects y.cls y y ∈ wU) (hroom : fr' + 1 ≤ R.frames ∧ 8 + (n' + 11) + lo' ≤ R.locals ∧ k + mc' ≤ R.cells ∧ z + ms' ≤ R.slots) (hrest : (rest.map fun v => v.category).sum ≤ 8) (hdg : decode cc pc = .ok (.invokevirtual idx, 3)) (hsk : w1.map Prod.fst = wc.map Prod.fst) (kk : K (xJ segs') (k + mc') (z + ms') (pc + 3) lv (v :: rest)) : K (xJ segs) k z pc lv st := by
  refine x_callVJ is js hpm X hM hwc hE1 hE2 j hj hci hst hco hini hd hlk hin hse hroom hrest hdg (fun w2 h => by subst h; exact hsk) (fun w2 h => ?_)
  subst h; subst hw1
  refine x_perm X (List.Perm.symm ?_) kk
  rw [hj1, ← hj2]
  exact xJ_perm (by rw [hln]; exact hpm)
theorem x_callVJrv {b ci : Nat} {fs : List Value} {T : u_T} {N : Nat} {segs : List va_W} (is js : List Nat) (hpm : (is ++ js).Perm (List.range segs.length)) (X : xR l G E own nm cc nL R Z K) (hM : xM l G E' y cc' n' ret' fr' lo' mc' ms' (.ref b :: As) wc (some v) (fun w2 => w2 = wc)) (hwc : xJ (xAt segs is) = wc) (hE1 : xEok E') (hE2 : ∀ A U, E A U → E' A U) (j : Nat) (hj : wc[j]? = some (b, .inr (ci, fs))) (hci : vwCl[ci]? = some (y.cls, T, N)) (hst : st = As.reverse ++ .ref b :: rest) (hco : Cond.code y cc' n' ret' ∈ wU) (hini : Cond.initialized y.cls ∈ wU) (hd : xCd y As.length) (hlk : Cond.methodLink own idx y ∈ wU) (hin : Cond.instanceMethod y ∈ wU) (hse : Cond.selects y.cls y y ∈ wU) (hroom : fr' + 1 ≤ R.frames ∧ 8 + (n' + 11) + lo' ≤ R.locals ∧ k + mc' ≤ R.cells ∧ z + ms' ≤ R.slots) (hrest : (rest.map fun v => v.category).sum ≤ 8) (hdg : decode cc pc = .ok (.invokevirtual idx, 3)) (kk : K (xJ segs) (k + mc') (z + ms') (pc + 3) lv (v :: rest)) : K (xJ segs) k z pc lv st := by
  refine x_callVJ is js hpm X hM hwc hE1 hE2 j hj hci hst hco hini hd hlk hin hse hroom hrest hdg (fun w2 h => by subst h; rfl) (fun w2 h => ?_)
  subst h; subst hwc
  exact x_perm X (List.Perm.symm (xJ_perm hpm)) kk
theorem x_callVJf0 {b ci : Nat} {fs : List Value} {T : u_T} {N : Nat} {segs segs' : List va_W} {mid : List va_W} (is js : List Nat) (hpm : (is ++ js).Perm (List.range segs.length)) (hln : segs'.length = segs.length) (X : xR l G E own nm cc nL R Z K) (hM : xM l G E' y cc' n' ret' fr' lo' mc' ms' (.ref b :: As) wc (none) (fun w2 => w2 = w1)) (hwc : xJ (xAt segs is) = wc) (hw1 : xJ (xAt segs' is) = w1) (hj1 : xAt segs js = mid) (hj2 : xAt segs' js = mid) (hE1 : xEok E') (hE2 : ∀ A U, E A U → E' A U) (j : Nat) (hj : wc[j]? = some (b, .inr (ci, fs))) (hci : vwCl[ci]? = some (y.cls, T, N)) (hst : st = As.reverse ++ .ref b :: rest) (hco : Cond.code y cc' n' ret' ∈ wU) (hini : Cond.initialized y.cls ∈ wU) (hd : xCd y As.length) (hlk : Cond.methodLink own idx y ∈ wU) (hin : Cond.instanceMethod y ∈ wU) (hse : Cond.selects y.cls y y ∈ wU) (hroom : fr' + 1 ≤ R.frames ∧ 8 + (n' + 11) + lo' ≤ R.locals ∧ k + mc' ≤ R.cells ∧ z + ms' ≤ R.slots) (hrest : (rest.map fun v => v.category).sum ≤ 8) (hdg : decode cc pc = .ok (.invokevirtual idx, 3)) (hsk : w1.map Prod.fst = wc.map Prod.fst) (kk : K (xJ segs') (k + mc') (z + ms') (pc + 3) lv (rest)) : K (xJ segs) k z pc lv st := by
  refine x_callVJ is js hpm X hM hwc hE1 hE2 j hj hci hst hco hini hd hlk hin hse hroom hrest hdg (fun w2 h => by subst h; exact hsk) (fun w2 h => ?_)
  subst h; subst hw1
  refine x_perm X (List.Perm.symm ?_) kk
  rw [hj1, ← hj2]
  exact xJ_perm (by rw [hln]; exact hpm)
theorem x_callVJr0 {b ci : Nat} {fs : List Value} {T : u_T} {N : Nat} {segs : List va_W} (is js : List Nat) (hpm : (is ++ js).Perm (List.range segs.length)) (X : xR l G E own nm cc nL R Z K) (hM : xM l G E' y cc' n' ret' fr' lo' mc' ms' (.ref b :: As) wc (none) (fun w2 => w2 = wc)) (hwc : xJ (xAt segs is) = wc) (hE1 : xEok E') (hE2 : ∀ A U, E A U → E' A U) (j : Nat) (hj : wc[j]? = some (b, .inr (ci, fs))) (hci : vwCl[ci]? = some (y.cls, T, N)) (hst : st = As.reverse ++ .ref b :: rest) (hco : Cond.code y cc' n' ret' ∈ wU) (hini : Cond.initialized y.cls ∈ wU) (hd : xCd y As.length) (hlk : Cond.methodLink own idx y ∈ wU) (hin : Cond.instanceMethod y ∈ wU) (hse : Cond.selects y.cls y y ∈ wU) (hroom : fr' + 1 ≤ R.frames ∧ 8 + (n' + 11) + lo' ≤ R.locals ∧ k + mc' ≤ R.cells ∧ z + ms' ≤ R.slots) (hrest : (rest.map fun v => v.category).sum ≤ 8) (hdg : decode cc pc = .ok (.invokevirtual idx, 3)) (kk : K (xJ segs) (k + mc') (z + ms') (pc + 3) lv (rest)) : K (xJ segs) k z pc lv st := by
  refine x_callVJ is js hpm X hM hwc hE1 hE2 j hj hci hst hco hini hd hlk hin hse hroom hrest hdg (fun w2 h => by subst h; rfl) (fun w2 h => ?_)
  subst h; subst hwc
  exact x_perm X (List.Perm.symm (xJ_perm hpm)) kk
theorem x_backV {segs' : List va_W} {mid : List va_W} {segs : List va_W} (is js : List Nat) (hpm : (is ++ js).Perm (List.range segs'.length)) (X : xR l G E own nm cc nL R Z K) (hw1 : xJ (xAt segs' is) = w1) (hj1 : xAt segs js = mid) (hj2 : xAt segs' js = mid) (kk : K (xJ segs') k z pc lv st) : K (w1 ++ xJ (xAt segs js)) k z pc lv st := by
  subst hw1
  refine x_perm X (List.Perm.symm ?_) kk
  rw [hj1, ← hj2]
  exact xJ_perm hpm
theorem x_callSP (X : xR l G E own nm cc nL R Z K) (hM : xM l G E' y cc' n' ret' fr' lo' mc' ms' (As) wc r' Fin') (hE1 : xEok E') (hE2 : ∀ A U, E A U → E' A U) (hst : st = As.reverse ++ rest) (hco : Cond.code y cc' n' ret' ∈ wU) (hini : Cond.initialized y.cls ∈ wU) (hd : xCd y As.length) (hlk : Cond.methodLink own idx y ∈ wU) (hst0 : Cond.static y ∈ wU) (hroom : fr' + 1 ≤ R.frames ∧ 8 + (n' + 11) + lo' ≤ R.locals ∧ k + mc' ≤ R.cells ∧ z + ms' ≤ R.slots) (hrest : (rest.map fun v => v.category).sum ≤ 8) (hdg : decode cc pc = .ok (.invokestatic idx, 3)) (hsk : ∀ w2, Fin' w2 → w2.map Prod.fst = wc.map Prod.fst) (kk : ∀ w2, Fin' w2 → K (w2 ++ wr) (k + mc') (z + ms') (pc + 3) lv (r'.toList ++ rest)) : K (wc ++ wr) k z pc lv st := by
  have hlen : ∀ w2, Fin' w2 → w2.length = wc.length := fun w2 h => by simpa using congrArg List.length (hsk w2 h)
  have e := xP_at wc [] wr
  simp only [List.length_nil, List.nil_append] at e
  refine x_callS X hM hE1 hE2 (List.range' 0 wc.length) e (xP_nd _ _) hst hco hini hd hlk hst0 hroom hrest hdg (fun w2 h => ⟨by rw [hlen w2 h]; simp, hsk w2 h⟩) (fun w2 h => ?_)
  have e2 := xP_put w2 wc [] wr (hlen w2 h)
  simp only [List.length_nil, List.nil_append] at e2
  rw [e2]
  exact kk w2 h
theorem x_callSJ {segs : List va_W} (is js : List Nat) (hpm : (is ++ js).Perm (List.range segs.length)) (X : xR l G E own nm cc nL R Z K) (hM : xM l G E' y cc' n' ret' fr' lo' mc' ms' (As) wc r' Fin') (hwc : xJ (xAt segs is) = wc) (hE1 : xEok E') (hE2 : ∀ A U, E A U → E' A U) (hst : st = As.reverse ++ rest) (hco : Cond.code y cc' n' ret' ∈ wU) (hini : Cond.initialized y.cls ∈ wU) (hd : xCd y As.length) (hlk : Cond.methodLink own idx y ∈ wU) (hst0 : Cond.static y ∈ wU) (hroom : fr' + 1 ≤ R.frames ∧ 8 + (n' + 11) + lo' ≤ R.locals ∧ k + mc' ≤ R.cells ∧ z + ms' ≤ R.slots) (hrest : (rest.map fun v => v.category).sum ≤ 8) (hdg : decode cc pc = .ok (.invokestatic idx, 3)) (hsk : ∀ w2, Fin' w2 → w2.map Prod.fst = wc.map Prod.fst) (kk : ∀ w2, Fin' w2 → K (w2 ++ xJ (xAt segs js)) (k + mc') (z + ms') (pc + 3) lv (r'.toList ++ rest)) : K (xJ segs) k z pc lv st := by
  subst hwc
  refine x_perm X (xJ_perm hpm) ?_
  exact x_callSP X hM hE1 hE2  hst hco hini hd hlk hst0 hroom hrest hdg hsk kk
theorem x_callSJfv {segs segs' : List va_W} {mid : List va_W} (is js : List Nat) (hpm : (is ++ js).Perm (List.range segs.length)) (hln : segs'.length = segs.length) (X : xR l G E own nm cc nL R Z K) (hM : xM l G E' y cc' n' ret' fr' lo' mc' ms' (As) wc (some v) (fun w2 => w2 = w1)) (hwc : xJ (xAt segs is) = wc) (hw1 : xJ (xAt segs' is) = w1) (hj1 : xAt segs js = mid) (hj2 : xAt segs' js = mid) (hE1 : xEok E') (hE2 : ∀ A U, E A U → E' A U) (hst : st = As.reverse ++ rest) (hco : Cond.code y cc' n' ret' ∈ wU) (hini : Cond.initialized y.cls ∈ wU) (hd : xCd y As.length) (hlk : Cond.methodLink own idx y ∈ wU) (hst0 : Cond.static y ∈ wU) (hroom : fr' + 1 ≤ R.frames ∧ 8 + (n' + 11) + lo' ≤ R.locals ∧ k + mc' ≤ R.cells ∧ z + ms' ≤ R.slots) (hrest : (rest.map fun v => v.category).sum ≤ 8) (hdg : decode cc pc = .ok (.invokestatic idx, 3)) (hsk : w1.map Prod.fst = wc.map Prod.fst) (kk : K (xJ segs') (k + mc') (z + ms') (pc + 3) lv (v :: rest)) : K (xJ segs) k z pc lv st := by
  refine x_callSJ is js hpm X hM hwc hE1 hE2  hst hco hini hd hlk hst0 hroom hrest hdg (fun w2 h => by subst h; exact hsk) (fun w2 h => ?_)
  subst h; subst hw1
  refine x_perm X (List.Perm.symm ?_) kk
  rw [hj1, ← hj2]
  exact xJ_perm (by rw [hln]; exact hpm)
theorem x_callSJrv {segs : List va_W} (is js : List Nat) (hpm : (is ++ js).Perm (List.range segs.length)) (X : xR l G E own nm cc nL R Z K) (hM : xM l G E' y cc' n' ret' fr' lo' mc' ms' (As) wc (some v) (fun w2 => w2 = wc)) (hwc : xJ (xAt segs is) = wc) (hE1 : xEok E') (hE2 : ∀ A U, E A U → E' A U) (hst : st = As.reverse ++ rest) (hco : Cond.code y cc' n' ret' ∈ wU) (hini : Cond.initialized y.cls ∈ wU) (hd : xCd y As.length) (hlk : Cond.methodLink own idx y ∈ wU) (hst0 : Cond.static y ∈ wU) (hroom : fr' + 1 ≤ R.frames ∧ 8 + (n' + 11) + lo' ≤ R.locals ∧ k + mc' ≤ R.cells ∧ z + ms' ≤ R.slots) (hrest : (rest.map fun v => v.category).sum ≤ 8) (hdg : decode cc pc = .ok (.invokestatic idx, 3)) (kk : K (xJ segs) (k + mc') (z + ms') (pc + 3) lv (v :: rest)) : K (xJ segs) k z pc lv st := by
  refine x_callSJ is js hpm X hM hwc hE1 hE2  hst hco hini hd hlk hst0 hroom hrest hdg (fun w2 h => by subst h; rfl) (fun w2 h => ?_)
  subst h; subst hwc
  exact x_perm X (List.Perm.symm (xJ_perm hpm)) kk
theorem x_callSJf0 {segs segs' : List va_W} {mid : List va_W} (is js : List Nat) (hpm : (is ++ js).Perm (List.range segs.length)) (hln : segs'.length = segs.length) (X : xR l G E own nm cc nL R Z K) (hM : xM l G E' y cc' n' ret' fr' lo' mc' ms' (As) wc (none) (fun w2 => w2 = w1)) (hwc : xJ (xAt segs is) = wc) (hw1 : xJ (xAt segs' is) = w1) (hj1 : xAt segs js = mid) (hj2 : xAt segs' js = mid) (hE1 : xEok E') (hE2 : ∀ A U, E A U → E' A U) (hst : st = As.reverse ++ rest) (hco : Cond.code y cc' n' ret' ∈ wU) (hini : Cond.initialized y.cls ∈ wU) (hd : xCd y As.length) (hlk : Cond.methodLink own idx y ∈ wU) (hst0 : Cond.static y ∈ wU) (hroom : fr' + 1 ≤ R.frames ∧ 8 + (n' + 11) + lo' ≤ R.locals ∧ k + mc' ≤ R.cells ∧ z + ms' ≤ R.slots) (hrest : (rest.map fun v => v.category).sum ≤ 8) (hdg : decode cc pc = .ok (.invokestatic idx, 3)) (hsk : w1.map Prod.fst = wc.map Prod.fst) (kk : K (xJ segs') (k + mc') (z + ms') (pc + 3) lv (rest)) : K (xJ segs) k z pc lv st := by
  refine x_callSJ is js hpm X hM hwc hE1 hE2  hst hco hini hd hlk hst0 hroom hrest hdg (fun w2 h => by subst h; exact hsk) (fun w2 h => ?_)
  subst h; subst hw1
  refine x_perm X (List.Perm.symm ?_) kk
  rw [hj1, ← hj2]
  exact xJ_perm (by rw [hln]; exact hpm)
theorem x_callSJr0 {segs : List va_W} (is js : List Nat) (hpm : (is ++ js).Perm (List.range segs.length)) (X : xR l G E own nm cc nL R Z K) (hM : xM l G E' y cc' n' ret' fr' lo' mc' ms' (As) wc (none) (fun w2 => w2 = wc)) (hwc : xJ (xAt segs is) = wc) (hE1 : xEok E') (hE2 : ∀ A U, E A U → E' A U) (hst : st = As.reverse ++ rest) (hco : Cond.code y cc' n' ret' ∈ wU) (hini : Cond.initialized y.cls ∈ wU) (hd : xCd y As.length) (hlk : Cond.methodLink own idx y ∈ wU) (hst0 : Cond.static y ∈ wU) (hroom : fr' + 1 ≤ R.frames ∧ 8 + (n' + 11) + lo' ≤ R.locals ∧ k + mc' ≤ R.cells ∧ z + ms' ≤ R.slots) (hrest : (rest.map fun v => v.category).sum ≤ 8) (hdg : decode cc pc = .ok (.invokestatic idx, 3)) (kk : K (xJ segs) (k + mc') (z + ms') (pc + 3) lv (rest)) : K (xJ segs) k z pc lv st := by
  refine x_callSJ is js hpm X hM hwc hE1 hE2  hst hco hini hd hlk hst0 hroom hrest hdg (fun w2 h => by subst h; rfl) (fun w2 h => ?_)
  subst h; subst hwc
  exact x_perm X (List.Perm.symm (xJ_perm hpm)) kk
theorem x_callNP (X : xR l G E own nm cc nL R Z K) (hM : xM l G E' y cc' n' ret' fr' lo' mc' ms' (As) wc r' Fin') (hE1 : xEok E') (hE2 : ∀ A U, E A U → E' A U) (hst : st = As.reverse ++ rest) (hco : Cond.code y cc' n' ret' ∈ wU) (hini : Cond.initialized y.cls ∈ wU) (hd : xCd y As.length) {host : String} (hlk : (own, idx, y, host) ∈ xNest) (hst0 : Cond.static y ∈ wU) (hroom : fr' + 1 ≤ R.frames ∧ 8 + (n' + 11) + lo' ≤ R.locals ∧ k + mc' ≤ R.cells ∧ z + ms' ≤ R.slots) (hrest : (rest.map fun v => v.category).sum ≤ 8) (hdg : decode cc pc = .ok (.invokestatic idx, 3)) (hsk : ∀ w2, Fin' w2 → w2.map Prod.fst = wc.map Prod.fst) (kk : ∀ w2, Fin' w2 → K (w2 ++ wr) (k + mc') (z + ms') (pc + 3) lv (r'.toList ++ rest)) : K (wc ++ wr) k z pc lv st := by
  have hlen : ∀ w2, Fin' w2 → w2.length = wc.length := fun w2 h => by simpa using congrArg List.length (hsk w2 h)
  have e := xP_at wc [] wr
  simp only [List.length_nil, List.nil_append] at e
  refine x_callN X hM hE1 hE2 (List.range' 0 wc.length) e (xP_nd _ _) hst hco hini hd hlk hst0 hroom hrest hdg (fun w2 h => ⟨by rw [hlen w2 h]; simp, hsk w2 h⟩) (fun w2 h => ?_)
  have e2 := xP_put w2 wc [] wr (hlen w2 h)
  simp only [List.length_nil, List.nil_append] at e2
  rw [e2]
  exact kk w2 h
theorem x_callNJ {segs : List va_W} (is js : List Nat) (hpm : (is ++ js).Perm (List.range segs.length)) (X : xR l G E own nm cc nL R Z K) (hM : xM l G E' y cc' n' ret' fr' lo' mc' ms' (As) wc r' Fin') (hwc : xJ (xAt segs is) = wc) (hE1 : xEok E') (hE2 : ∀ A U, E A U → E' A U) (hst : st = As.reverse ++ rest) (hco : Cond.code y cc' n' ret' ∈ wU) (hini : Cond.initialized y.cls ∈ wU) (hd : xCd y As.length) {host : String} (hlk : (own, idx, y, host) ∈ xNest) (hst0 : Cond.static y ∈ wU) (hroom : fr' + 1 ≤ R.frames ∧ 8 + (n' + 11) + lo' ≤ R.locals ∧ k + mc' ≤ R.cells ∧ z + ms' ≤ R.slots) (hrest : (rest.map fun v => v.category).sum ≤ 8) (hdg : decode cc pc = .ok (.invokestatic idx, 3)) (hsk : ∀ w2, Fin' w2 → w2.map Prod.fst = wc.map Prod.fst) (kk : ∀ w2, Fin' w2 → K (w2 ++ xJ (xAt segs js)) (k + mc') (z + ms') (pc + 3) lv (r'.toList ++ rest)) : K (xJ segs) k z pc lv st := by
  subst hwc
  refine x_perm X (xJ_perm hpm) ?_
  exact x_callNP X hM hE1 hE2  hst hco hini hd hlk hst0 hroom hrest hdg hsk kk
theorem x_callNJfv {segs segs' : List va_W} {mid : List va_W} (is js : List Nat) (hpm : (is ++ js).Perm (List.range segs.length)) (hln : segs'.length = segs.length) (X : xR l G E own nm cc nL R Z K) (hM : xM l G E' y cc' n' ret' fr' lo' mc' ms' (As) wc (some v) (fun w2 => w2 = w1)) (hwc : xJ (xAt segs is) = wc) (hw1 : xJ (xAt segs' is) = w1) (hj1 : xAt segs js = mid) (hj2 : xAt segs' js = mid) (hE1 : xEok E') (hE2 : ∀ A U, E A U → E' A U) (hst : st = As.reverse ++ rest) (hco : Cond.code y cc' n' ret' ∈ wU) (hini : Cond.initialized y.cls ∈ wU) (hd : xCd y As.length) {host : String} (hlk : (own, idx, y, host) ∈ xNest) (hst0 : Cond.static y ∈ wU) (hroom : fr' + 1 ≤ R.frames ∧ 8 + (n' + 11) + lo' ≤ R.locals ∧ k + mc' ≤ R.cells ∧ z + ms' ≤ R.slots) (hrest : (rest.map fun v => v.category).sum ≤ 8) (hdg : decode cc pc = .ok (.invokestatic idx, 3)) (hsk : w1.map Prod.fst = wc.map Prod.fst) (kk : K (xJ segs') (k + mc') (z + ms') (pc + 3) lv (v :: rest)) : K (xJ segs) k z pc lv st := by
  refine x_callNJ is js hpm X hM hwc hE1 hE2  hst hco hini hd hlk hst0 hroom hrest hdg (fun w2 h => by subst h; exact hsk) (fun w2 h => ?_)
  subst h; subst hw1
  refine x_perm X (List.Perm.symm ?_) kk
  rw [hj1, ← hj2]
  exact xJ_perm (by rw [hln]; exact hpm)
theorem x_callNJrv {segs : List va_W} (is js : List Nat) (hpm : (is ++ js).Perm (List.range segs.length)) (X : xR l G E own nm cc nL R Z K) (hM : xM l G E' y cc' n' ret' fr' lo' mc' ms' (As) wc (some v) (fun w2 => w2 = wc)) (hwc : xJ (xAt segs is) = wc) (hE1 : xEok E') (hE2 : ∀ A U, E A U → E' A U) (hst : st = As.reverse ++ rest) (hco : Cond.code y cc' n' ret' ∈ wU) (hini : Cond.initialized y.cls ∈ wU) (hd : xCd y As.length) {host : String} (hlk : (own, idx, y, host) ∈ xNest) (hst0 : Cond.static y ∈ wU) (hroom : fr' + 1 ≤ R.frames ∧ 8 + (n' + 11) + lo' ≤ R.locals ∧ k + mc' ≤ R.cells ∧ z + ms' ≤ R.slots) (hrest : (rest.map fun v => v.category).sum ≤ 8) (hdg : decode cc pc = .ok (.invokestatic idx, 3)) (kk : K (xJ segs) (k + mc') (z + ms') (pc + 3) lv (v :: rest)) : K (xJ segs) k z pc lv st := by
  refine x_callNJ is js hpm X hM hwc hE1 hE2  hst hco hini hd hlk hst0 hroom hrest hdg (fun w2 h => by subst h; rfl) (fun w2 h => ?_)
  subst h; subst hwc
  exact x_perm X (List.Perm.symm (xJ_perm hpm)) kk
theorem x_callNJf0 {segs segs' : List va_W} {mid : List va_W} (is js : List Nat) (hpm : (is ++ js).Perm (List.range segs.length)) (hln : segs'.length = segs.length) (X : xR l G E own nm cc nL R Z K) (hM : xM l G E' y cc' n' ret' fr' lo' mc' ms' (As) wc (none) (fun w2 => w2 = w1)) (hwc : xJ (xAt segs is) = wc) (hw1 : xJ (xAt segs' is) = w1) (hj1 : xAt segs js = mid) (hj2 : xAt segs' js = mid) (hE1 : xEok E') (hE2 : ∀ A U, E A U → E' A U) (hst : st = As.reverse ++ rest) (hco : Cond.code y cc' n' ret' ∈ wU) (hini : Cond.initialized y.cls ∈ wU) (hd : xCd y As.length) {host : String} (hlk : (own, idx, y, host) ∈ xNest) (hst0 : Cond.static y ∈ wU) (hroom : fr' + 1 ≤ R.frames ∧ 8 + (n' + 11) + lo' ≤ R.locals ∧ k + mc' ≤ R.cells ∧ z + ms' ≤ R.slots) (hrest : (rest.map fun v => v.category).sum ≤ 8) (hdg : decode cc pc = .ok (.invokestatic idx, 3)) (hsk : w1.map Prod.fst = wc.map Prod.fst) (kk : K (xJ segs') (k + mc') (z + ms') (pc + 3) lv (rest)) : K (xJ segs) k z pc lv st := by
  refine x_callNJ is js hpm X hM hwc hE1 hE2  hst hco hini hd hlk hst0 hroom hrest hdg (fun w2 h => by subst h; exact hsk) (fun w2 h => ?_)
  subst h; subst hw1
  refine x_perm X (List.Perm.symm ?_) kk
  rw [hj1, ← hj2]
  exact xJ_perm (by rw [hln]; exact hpm)
theorem x_callNJr0 {segs : List va_W} (is js : List Nat) (hpm : (is ++ js).Perm (List.range segs.length)) (X : xR l G E own nm cc nL R Z K) (hM : xM l G E' y cc' n' ret' fr' lo' mc' ms' (As) wc (none) (fun w2 => w2 = wc)) (hwc : xJ (xAt segs is) = wc) (hE1 : xEok E') (hE2 : ∀ A U, E A U → E' A U) (hst : st = As.reverse ++ rest) (hco : Cond.code y cc' n' ret' ∈ wU) (hini : Cond.initialized y.cls ∈ wU) (hd : xCd y As.length) {host : String} (hlk : (own, idx, y, host) ∈ xNest) (hst0 : Cond.static y ∈ wU) (hroom : fr' + 1 ≤ R.frames ∧ 8 + (n' + 11) + lo' ≤ R.locals ∧ k + mc' ≤ R.cells ∧ z + ms' ≤ R.slots) (hrest : (rest.map fun v => v.category).sum ≤ 8) (hdg : decode cc pc = .ok (.invokestatic idx, 3)) (kk : K (xJ segs) (k + mc') (z + ms') (pc + 3) lv (rest)) : K (xJ segs) k z pc lv st := by
  refine x_callNJ is js hpm X hM hwc hE1 hE2  hst hco hini hd hlk hst0 hroom hrest hdg (fun w2 h => by subst h; rfl) (fun w2 h => ?_)
  subst h; subst hwc
  exact x_perm X (List.Perm.symm (xJ_perm hpm)) kk
end XP
