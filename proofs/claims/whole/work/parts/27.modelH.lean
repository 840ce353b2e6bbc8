/-! ===== the reference: the reading of THE TEXT ===== -/
theorem ltM_eq {le : Nat → Int32} {nl j : Nat} {c : Int32} (h1 : ¬ (-1 : Int32) = c) (h2 : ¬ (-4 : Int32) = c) : ltM le nl j = c ↔ ltA le nl j = c := by
  unfold ltM ltA
  split
  · exact Iff.rfl
  · exact ⟨fun h => absurd h h1, fun h => absurd h h2⟩
theorem figs_0 {le : Nat → Int32} {nl p : Nat} (h1 : isFg (ltM le nl p) = false) : figs le nl p = 0 := by
  rw [isFg_M] at h1
  rw [figs, if_neg (by rw [h1]; decide)]
theorem figs_1 {le : Nat → Int32} {nl p : Nat} (h1 : isFg (ltM le nl p) = true) (h2 : isFg (ltM le nl (p + 1)) = false) : figs le nl p = 1 := by
  rw [isFg_M] at h1 h2
  rw [figs, if_pos h1, if_neg (by rw [h2]; decide)]
theorem figs_2 {le : Nat → Int32} {nl p : Nat} (h1 : isFg (ltM le nl p) = true) (h2 : isFg (ltM le nl (p + 1)) = true) : figs le nl p = 2 := by
  rw [isFg_M] at h1 h2
  rw [figs, if_pos h1, if_pos h2]
theorem val_1 {le : Nat → Int32} {nl p : Nat} (h1 : isFg (ltM le nl p) = true) (h2 : isFg (ltM le nl (p + 1)) = false) : ltM le nl p - nI 48 = valN le nl p := by
  rw [valN, figs_1 h1 h2, if_neg (by decide), ← ltM_fg (by rw [← isFg_M]; exact h1), show nI 0 = (0 : Int32) from rfl, Int32.zero_add]
theorem val_2 {le : Nat → Int32} {nl p : Nat} (h1 : isFg (ltM le nl p) = true) (h2 : isFg (ltM le nl (p + 1)) = true) : nI 10 * (ltM le nl p - nI 48) + ltM le nl (p + 1) - nI 48 = valN le nl p := by
  rw [valN, figs_2 h1 h2, if_pos rfl, ← ltM_fg (le := le) (nl := nl) (j := p) (by rw [← isFg_M]; exact h1), ← ltM_fg (le := le) (nl := nl) (j := p + 1) (by rw [← isFg_M]; exact h2), show nI 0 = (0 : Int32) from rfl, Int32.zero_add, Int32.mul_comm]
def nxk (le : Nat → Int32) (nl p : Nat) : Nat → Nat
  | 0 => p
  | k + 1 => nx le nl (nxk le nl p k)
/-- k numbers are read from p on, q is the place -/
def rsN (le : Nat → Int32) (nl n k p q : Nat) : Prop := q = nxk le nl p k ∧ (if k < n then ((rdN le nl (3 - k) q).1 = 0 → (rdN le nl 3 p).1 = 0) ∧ ((rdN le nl (3 - k) q).1 ≠ 0 → (rdN le nl 3 p).1 = (rdN le nl (3 - k) q).1 + k ∧ (rdN le nl 3 p).2 = (rdN le nl (3 - k) q).2) else (rdN le nl 3 p).1 = n ∧ (rdN le nl 3 p).2 = q)
theorem rsN_0 (le : Nat → Int32) (nl n p : Nat) (h : 1 ≤ n) : rsN le nl n 0 p p := by
  refine ⟨rfl, ?_⟩
  rw [if_pos (by omega)]
  exact ⟨fun h => h, fun h => ⟨rfl, rfl⟩⟩
theorem rdN_sep {le : Nat → Int32} {nl k q : Nat} (h : 1 ≤ figs le nl q) : rdN le nl (k + 1) q = if ltA le nl (q + figs le nl q) = nI 59 then (1, nx le nl q) else if ltA le nl (q + figs le nl q) = nI 44 then bump (rdN le nl k (nx le nl q)) else (0, 0) := by
  rw [rdN, if_neg (by omega)]; rfl
theorem rsN_s {le : Nat → Int32} {nl n k p q : Nat} (h : rsN le nl n k p q) (hk : k < n) (hn : n ≤ 3) (h1 : 1 ≤ figs le nl q) (h2 : ltM le nl (q + figs le nl q) = if k < n - 1 then nI 44 else nI 59) : rsN le nl n (k + 1) p (q + figs le nl q + 1) := by
  obtain ⟨hq, hr⟩ := h
  refine ⟨by rw [nxk, ← hq]; rfl, ?_⟩
  rw [if_pos hk] at hr
  have h3 : ltA le nl (q + figs le nl q) = if k < n - 1 then nI 44 else nI 59 := (ltM_eq (by split <;> decide) (by split <;> decide)).mp h2
  rw [show 3 - k = (2 - k) + 1 by omega, rdN_sep h1, h3] at hr
  by_cases hl : k < n - 1
  · rw [if_pos hl, if_neg (by decide), if_pos rfl] at hr
    rw [if_pos (by omega), show 3 - (k + 1) = 2 - k by omega]
    show ((rdN le nl (2 - k) (nx le nl q)).1 = 0 → _) ∧ ((rdN le nl (2 - k) (nx le nl q)).1 ≠ 0 → _)
    unfold bump at hr
    refine ⟨fun h0 => ?_, fun h0 => ?_⟩
    · rw [if_pos h0] at hr
      exact hr.1 rfl
    · rw [if_neg h0] at hr
      have := hr.2 (Nat.succ_ne_zero _)
      exact ⟨by rw [this.1]; show (rdN le nl (2 - k) (nx le nl q)).1 + 1 + k = (rdN le nl (2 - k) (nx le nl q)).1 + (k + 1); omega, this.2⟩
  · rw [if_neg hl, if_pos rfl] at hr
    rw [if_neg (by omega)]
    have := hr.2 (Nat.succ_ne_zero 0)
    exact ⟨by rw [this.1]; show 1 + k = n; omega, this.2⟩
theorem rsN_f {le : Nat → Int32} {nl n k p q : Nat} (h : rsN le nl n k p q) (hk : k < n) (h1 : isFg (ltM le nl q) = false) : decide ((rdN le nl 3 p).1 = n) = false := by
  obtain ⟨hq, hr⟩ := h
  rw [if_pos hk] at hr
  have : (rdN le nl (3 - k) q).1 = 0 := by
    cases hz : 3 - k with
    | zero => rfl
    | succ j => rw [rdN_f (by rw [figs_0 h1]; decide)]
  rw [hr.1 this]
  exact decide_eq_false (by omega)
theorem rsN_b {le : Nat → Int32} {nl n k p q : Nat} (h : rsN le nl n k p q) (hk : k < n) (hn : n ≤ 3) (h1 : 1 ≤ figs le nl q) (h2 : ¬ ltM le nl (q + figs le nl q) = if k < n - 1 then nI 44 else nI 59) : decide ((rdN le nl 3 p).1 = n) = false := by
  obtain ⟨hq, hr⟩ := h
  rw [if_pos hk] at hr
  have h3 : ¬ ltA le nl (q + figs le nl q) = if k < n - 1 then nI 44 else nI 59 := fun e => h2 ((ltM_eq (by split <;> decide) (by split <;> decide)).mpr e)
  rw [show 3 - k = (2 - k) + 1 by omega, rdN_sep h1] at hr
  apply decide_eq_false
  intro hc
  by_cases hl : k < n - 1
  · rw [if_pos hl] at h3
    rw [if_neg h3] at hr
    by_cases h5 : ltA le nl (q + figs le nl q) = nI 59
    · rw [if_pos h5] at hr
      have := (hr.2 (Nat.succ_ne_zero 0)).1
      have e : ((1, nx le nl q) : Nat × Nat).1 = 1 := rfl
      omega
    · rw [if_neg h5] at hr
      have := hr.1 rfl
      omega
  · rw [if_neg hl] at h3
    rw [if_neg h3] at hr
    split at hr
    · unfold bump at hr
      split at hr
      · have := hr.1 rfl
        omega
      · rename_i h7
        have := (hr.2 (Nat.succ_ne_zero _)).1
        have e : (((rdN le nl (2 - k) (nx le nl q)).1 + 1, (rdN le nl (2 - k) (nx le nl q)).2) : Nat × Nat).1 = (rdN le nl (2 - k) (nx le nl q)).1 + 1 := rfl
        omega
    · have := hr.1 rfl
      omega
theorem rsN_e {le : Nat → Int32} {nl n k p q : Nat} (h : rsN le nl n k p q) (hk : k = n) : (rdN le nl 3 p).1 = n ∧ q = (rdN le nl 3 p).2 := by
  obtain ⟨hq, hr⟩ := h
  rw [if_neg (by omega)] at hr
  exact ⟨hr.1, hr.2.symm⟩
theorem rs_1 {le : Nat → Int32} {nl n k p q : Nat} {c : Int32} (h : rsN le nl n k p q) (hk : k < n) (hn : n ≤ 3) (h1 : isFg (ltM le nl q) = true) (h2 : isFg (ltM le nl (q + 1)) = false) (h3 : ltM le nl (q + 1) = c) (hc : c = if k < n - 1 then nI 44 else nI 59) : rsN le nl n (k + 1) p (q + 1 + 1) := by
  have hf := figs_1 h1 h2
  have := rsN_s h hk hn (by omega) (by rw [hf, h3, hc])
  rwa [hf] at this
theorem rs_2 {le : Nat → Int32} {nl n k p q : Nat} {c : Int32} (h : rsN le nl n k p q) (hk : k < n) (hn : n ≤ 3) (h1 : isFg (ltM le nl q) = true) (h2 : isFg (ltM le nl (q + 1)) = true) (h3 : ltM le nl (q + 2) = c) (hc : c = if k < n - 1 then nI 44 else nI 59) : rsN le nl n (k + 1) p (q + 2 + 1) := by
  have hf := figs_2 h1 h2
  have := rsN_s h hk hn (by omega) (by rw [hf, h3, hc])
  rwa [hf] at this
theorem rb_1 {le : Nat → Int32} {nl n k p q : Nat} {c : Int32} (h : rsN le nl n k p q) (hk : k < n) (hn : n ≤ 3) (h1 : isFg (ltM le nl q) = true) (h2 : isFg (ltM le nl (q + 1)) = false) (h3 : ¬ ltM le nl (q + 1) = c) (hc : c = if k < n - 1 then nI 44 else nI 59) : decide ((rdN le nl 3 p).1 = n) = false := by
  have hf := figs_1 h1 h2
  exact rsN_b h hk hn (by omega) (by rw [hf, ← hc]; exact h3)
theorem rb_2 {le : Nat → Int32} {nl n k p q : Nat} {c : Int32} (h : rsN le nl n k p q) (hk : k < n) (hn : n ≤ 3) (h1 : isFg (ltM le nl q) = true) (h2 : isFg (ltM le nl (q + 1)) = true) (h3 : ¬ ltM le nl (q + 2) = c) (hc : c = if k < n - 1 then nI 44 else nI 59) : decide ((rdN le nl 3 p).1 = n) = false := by
  have hf := figs_2 h1 h2
  exact rsN_b h hk hn (by omega) (by rw [hf, ← hc]; exact h3)
theorem vs_1 {le : Nat → Int32} {nl p q k : Nat} {V : Nat → Int32} {v : Int32} (h : ∀ j, j < k → V j = valN le nl (nxk le nl p j)) (hq : q = nxk le nl p k) (hv : v = valN le nl q) : ∀ j, j < k + 1 → upd V k v j = valN le nl (nxk le nl p j) := by
  intro j hj
  by_cases e : j = k
  · subst e; rw [upd, if_pos rfl, hv, hq]
  · rw [upd, if_neg e]; exact h j (by omega)
theorem vs_2 {le : Nat → Int32} {nl p q k : Nat} {V : Nat → Int32} {u v : Int32} (h : ∀ j, j < k → V j = valN le nl (nxk le nl p j)) (hq : q = nxk le nl p k) (hv : v = valN le nl q) : ∀ j, j < k + 1 → upd (upd V k u) k v j = valN le nl (nxk le nl p j) := by
  intro j hj
  by_cases e : j = k
  · subst e; rw [upd, if_pos rfl, hv, hq]
  · rw [upd, if_neg e, upd, if_neg e]; exact h j (by omega)
theorem inB_pre {x : Int32} {n : Nat} (hn : n ≤ 6) : inB x (nI 0) (nI n - nI 1) = inR x n := by
  cases n with
  | zero =>
    have e : ∀ x : Int32, inB x (nI 0) (nI 0 - nI 1) = inR x 0 := by
      intro x
      unfold inB inR
      by_cases h : x < nI 0
      · have h2 : x < 0 := h
        simp [h, Int32.not_le.mpr h2]
      · have h2 : ¬ x < nI 0 := h
        have h3 : nI 0 - nI 1 < x := by
          have h4 := Int32.not_lt.mp h2
          rw [Int32.lt_iff_toInt_lt]
          rw [Int32.le_iff_toInt_le] at h4
          have e1 : (nI 0 - nI 1).toInt = -1 := by decide
          have e2 : (nI 0).toInt = 0 := by decide
          omega
        rw [decide_eq_true h3, decide_eq_false h2]; simp
    exact e x
  | succ k => rw [pre_nI, inB_R (by omega)]
theorem tQ_B (x : Int32) : tellQok x = inB x (nI 1) (nI 5) := rfl
theorem tQ_n {x : Int32} (h : inB x (nI 1) (nI 5) = true) : x = nI (tn x) ∧ 1 ≤ tn x ∧ tn x ≤ 5 := by
  simp only [inB, Bool.and_eq_true, Bool.not_eq_true', decide_eq_false_iff_not] at h
  obtain ⟨j, hj, rfl⟩ := tellQ_nat h.1 h.2
  have e : tn (nI j) = j := nI_clamp (by omega)
  rw [e]
  exact ⟨rfl, hj.1, hj.2⟩
/-- what the item at a place tells, its numbers behind p -/
def okP (le : Nat → Int32) (nl p : Nat) (s : xS) : Bool := decide ((rdN le nl 3 p).1 = 2) && tellPok s (valN le nl p) (valN le nl (nx le nl p))
def okV (le : Nat → Int32) (nl p : Nat) (s : xS) : Bool := decide ((rdN le nl 3 p).1 = 3) && tellVok s (valN le nl p) (valN le nl (nx le nl p)) (valN le nl (nx le nl (nx le nl p)))
def okQ (le : Nat → Int32) (nl p : Nat) (s : xS) : Bool := decide ((rdN le nl 3 p).1 = 1) && tellQok (valN le nl p)
theorem tellP_y {s : xS} {k m : Int32} (h : tellPok s k m = true) : tellP s k m = (s.1 + 1, s.2.1, upd s.2.2.1 s.1 k, upd s.2.2.2.1 s.1 m, s.2.2.2.2.1, s.2.2.2.2.2) := by rw [tellP, if_pos h]
theorem tellV_y {s : xS} {p t v : Int32} (h : tellVok s p t v = true) : tellV s p t v = (s.1, s.2.1, s.2.2.1, s.2.2.2.1, upd s.2.2.2.2.1 (tn p * 5 + tn t) (v - nI 9), s.2.2.2.2.2) := by rw [tellV, if_pos h]
theorem tellQ_y {s : xS} {v : Int32} (h : tellQok v = true) : tellQ s v = (s.1, tn v, s.2.2.1, s.2.2.2.1, s.2.2.2.2.1, s.2.2.2.2.2) := by rw [tellQ, if_pos h]
theorem kd_up {rk kd : Nat → Int32} {n : Nat} {k : Int32} (h : ∀ j, j < n → rk j = kd j) : ∀ j, j < n + 1 → upd rk n k j = upd kd n k j := by
  intro j hj
  by_cases e : j = n
  · subst e; rw [upd, upd, if_pos rfl, if_pos rfl]
  · rw [upd, upd, if_neg e, if_neg e]; exact h j (by omega)
/-- an item at p: whether it holds, what is told then -/
def okI (le : Nat → Int32) (nl p : Nat) (s : xS) : Bool := itB (ltA le nl p) (rdN le nl 3 (p + 1)).1 (valN le nl (p + 1)) (valN le nl (nx le nl (p + 1))) (valN le nl (nx le nl (nx le nl (p + 1)))) s
def stI (le : Nat → Int32) (nl p : Nat) (s : xS) : xS := itS (ltA le nl p) (rdN le nl 3 (p + 1)).1 (valN le nl (p + 1)) (valN le nl (nx le nl (p + 1))) (valN le nl (nx le nl (nx le nl (p + 1)))) s
theorem okI_Q {le : Nat → Int32} {nl p : Nat} {s : xS} (h : ltA le nl p = 97) : okI le nl p s = okQ le nl (p + 1) s := by rw [okI, itB, if_pos h]; rfl
theorem okI_P {le : Nat → Int32} {nl p : Nat} {s : xS} (h : ltA le nl p = 112) : okI le nl p s = okP le nl (p + 1) s := by rw [okI, itB, if_neg (by rw [h]; decide), if_pos h]; rfl
theorem okI_V {le : Nat → Int32} {nl p : Nat} {s : xS} (h : ltA le nl p = 118) : okI le nl p s = okV le nl (p + 1) s := by rw [okI, itB, if_neg (by rw [h]; decide), if_neg (by rw [h]; decide), if_pos h]; rfl
theorem okI_no {le : Nat → Int32} {nl p : Nat} {s : xS} (h1 : ¬ ltA le nl p = 97) (h2 : ¬ ltA le nl p = 112) (h3 : ¬ ltA le nl p = 118) : okI le nl p s = false := by rw [okI, itB, if_neg h1, if_neg h2, if_neg h3]
theorem stI_Q {le : Nat → Int32} {nl p : Nat} {s : xS} (h : ltA le nl p = 97) (ho : okI le nl p s = true) : stI le nl p s = tellQ s (valN le nl (p + 1)) := by
  rw [okI_Q h, okQ, Bool.and_eq_true, decide_eq_true_iff] at ho
  rw [stI, itS, if_pos h, if_pos ho.1]
theorem stI_P {le : Nat → Int32} {nl p : Nat} {s : xS} (h : ltA le nl p = 112) (ho : okI le nl p s = true) : stI le nl p s = tellP s (valN le nl (p + 1)) (valN le nl (nx le nl (p + 1))) := by
  rw [okI_P h, okP, Bool.and_eq_true, decide_eq_true_iff] at ho
  rw [stI, itS, if_neg (by rw [h]; decide), if_pos h, if_pos ho.1]
theorem stI_V {le : Nat → Int32} {nl p : Nat} {s : xS} (h : ltA le nl p = 118) (ho : okI le nl p s = true) : stI le nl p s = tellV s (valN le nl (p + 1)) (valN le nl (nx le nl (p + 1))) (valN le nl (nx le nl (nx le nl (p + 1)))) := by
  rw [okI_V h, okV, Bool.and_eq_true, decide_eq_true_iff] at ho
  rw [stI, itS, if_neg (by rw [h]; decide), if_neg (by rw [h]; decide), if_pos h, if_pos ho.1]
theorem okI_c {le : Nat → Int32} {nl p : Nat} {s : xS} (ho : okI le nl p s = true) : (rdN le nl 3 (p + 1)).1 ≠ 0 := by
  intro h
  unfold okI itB at ho
  rw [h] at ho
  revert ho
  split
  · simp
  · split
    · simp
    · split
      · simp
      · simp
theorem prs_y {le : Nat → Int32} {nl k p : Nat} {s : xS} (h : p < nl) (ho : okI le nl p s = true) : prs le nl (k + 1) p s = prs le nl k (rdN le nl 3 (p + 1)).2 (stI le nl p s) := by
  rw [prs, if_pos h, if_neg (okI_c ho)]
  exact if_pos ho
theorem prs_n {le : Nat → Int32} {nl k p : Nat} {s : xS} (h : p < nl) (ho : okI le nl p s = false) : (prs le nl (k + 1) p s).1 = nI p := by
  rw [prs, if_pos h]
  split
  · rfl
  · exact congrArg Prod.fst (if_neg (by rw [show itB _ _ _ _ _ _ = okI le nl p s from rfl, ho]; decide))
theorem nI_n4 {p : Nat} (h : p < 2 ^ 31) : ¬ nI p = (-4 : Int32) := by
  intro h2
  have h3 := congrArg Int32.toInt h2
  rw [nI_toInt h] at h3
  have e : (-4 : Int32).toInt = -4 := by decide
  omega
theorem en_blank : (fun _ => nI 0 : Nat → Int32) = en blankS := by
  funext k
  unfold en
  split
  · rfl
  · split
    · rfl
    · exact (show nI 0 = enc (nI 100) by decide)
/-- what holds of every state told -/
def GS (s : xS) : Prop := s.1 ≤ 6 ∧ (1 ≤ s.2.1 ∧ s.2.1 ≤ 5) ∧ (∀ j, j < 6 → inR (s.2.2.2.1 j) 6 = true) ∧ (∀ j, j < 30 → bd (s.2.2.2.2.1 j)) ∧ (∀ j, j < 25 → bl (s.2.2.2.2.2 j))
theorem GS_0 : GS blankS := ⟨by decide, by decide, fun _ _ => inR_of (j := 0) (by decide) (by decide), fun _ _ => bd_0, fun _ _ => Or.inl rfl⟩
theorem upd_all {f : Nat → Int32} {P : Int32 → Prop} {n i : Nat} {v : Int32} (h : ∀ j, j < n → P (f j)) (hv : P v) : ∀ j, j < n → P (upd f i v j) := by
  intro j hj
  unfold upd
  split
  · exact hv
  · exact h j hj
theorem GS_it {x : Int32} {c : Nat} {v0 v1 v2 : Int32} {s : xS} (h : GS s) : GS (itS x c v0 v1 v2 s) := by
  unfold itS
  obtain ⟨h1, h2, h3, h4, h5⟩ := h
  split
  · split
    · unfold tellQ
      split
      · rename_i hq
        exact ⟨h1, (tQ_n hq).2, h3, h4, h5⟩
      · exact ⟨h1, h2, h3, h4, h5⟩
    · exact ⟨h1, h2, h3, h4, h5⟩
  · split
    · split
      · unfold tellP
        split
        · rename_i hp
          simp only [tellPok, Bool.and_eq_true, decide_eq_true_iff] at hp
          exact ⟨hp.1, h2, upd_all (P := fun x => inR x 6 = true) h3 hp.2.2, h4, h5⟩
        · exact ⟨h1, h2, h3, h4, h5⟩
      · exact ⟨h1, h2, h3, h4, h5⟩
    · split
      · split
        · unfold tellV
          split
          · rename_i hp
            simp only [tellVok, Bool.and_eq_true] at hp
            refine ⟨h1, h2, h3, upd_all h4 ?_, h5⟩
            obtain ⟨e, hlt⟩ := inR_eq hp.2.2 (by decide)
            rw [e]
            exact ⟨_, hlt, rfl⟩
          · exact ⟨h1, h2, h3, h4, h5⟩
        · exact ⟨h1, h2, h3, h4, h5⟩
      · exact ⟨h1, h2, h3, h4, h5⟩
theorem GS_prs {le : Nat → Int32} {nl : Nat} : ∀ k p s, GS s → GS (prs le nl k p s).2
  | 0, p, s, h => h
  | k + 1, p, s, h => by
    rw [prs]
    split
    · split
      · exact h
      · split
        · exact GS_prs k _ _ (GS_it h)
        · exact GS_it h
    · exact h
theorem GS_T (le : Nat → Int32) (nl : Nat) : GS (prsT le nl).2 := GS_prs 200 0 blankS GS_0
def lyS (le : Nat → Int32) (nl : Nat) (s : xS) : xS := if F_layOk (prsT le nl) = true then (prsT le nl).2 else s
theorem inR_lt {x : Int32} {m n : Nat} (h : inR x m = true) (h2 : x < nI n) : inR x n = true := by
  simp only [inR, Bool.and_eq_true, decide_eq_true_iff] at h ⊢
  exact ⟨h.1, h2⟩
theorem inR_nlt {x : Int32} {n : Nat} (h2 : ¬ x < nI n) : inR x n = false := by
  simp only [inR, Bool.and_eq_false_iff, decide_eq_false_iff_not]
  exact Or.inr h2
theorem lay_y {le : Nat → Int32} {nl : Nat} {g : xS} (h1 : (prsT le nl).1 = (-4)) (h2 : g = (prsT le nl).2) (h3 : 0 < g.1) (h4 : ∀ j, j < g.1 → inR (g.2.2.2.1 j) g.1 = true) : F_layOk (prsT le nl) = true := by
  unfold F_layOk
  rw [← h2, decide_eq_true h1, decide_eq_true h3, decide_eq_true h4]; rfl
theorem lay_n1 {le : Nat → Int32} {nl : Nat} (h1 : ¬ (prsT le nl).1 = (-4)) : F_layOk (prsT le nl) = false := by
  unfold F_layOk
  rw [decide_eq_false h1]; rfl
theorem lay_n2 {le : Nat → Int32} {nl : Nat} {g : xS} (h2 : g = (prsT le nl).2) (h3 : ¬ 0 < g.1) : F_layOk (prsT le nl) = false := by
  unfold F_layOk
  rw [← h2, decide_eq_false h3]; simp
theorem lay_n3 {le : Nat → Int32} {nl j : Nat} {g : xS} (h2 : g = (prsT le nl).2) (h3 : j < g.1) (h4 : inR (g.2.2.2.1 j) g.1 = false) : F_layOk (prsT le nl) = false := by
  unfold F_layOk
  rw [← h2, decide_eq_false (p := ∀ j, j < g.1 → inR (g.2.2.2.1 j) g.1 = true) (fun q => absurd ((q j h3).symm.trans h4) (by decide))]; simp

set_option maxRecDepth 100000 in
set_option maxHeartbeats 4000000 in
/-- X5_readNumbers -/
theorem c_X5_readNumbers (l : Launch) (G : xG) (a : Nat → Nat) (np : Nat) (nq : Nat) (na : Nat) (nk : Nat) (ns : Nat) (nl : Nat) (pa : Nat) (rp : Nat) (rq : Nat) (kd : Nat → Int32) (S : Nat → Int32) (W : Nat → Int32) (Kp : Nat → Int32) (sg : Nat → Int32) (le : Nat → Int32) (tl : Nat → Int32) (rk : Nat → Int32) (rd : Nat → Int32) (nw : Nat → Int32) (rw : Nat → Int32) (n : Nat) (hp : pa ≤ 300) (hl : nl ≤ 200) (hn1 : 1 ≤ n) (hn3 : n ≤ 3) : xM l G xE0 yX5_readNumbers cX5_readNumbers 3 (some .boolean) 2 42 0 0 [.ref (a 0), .int (nI n)] (wMo G a np nq na nk ns nl pa rp rq kd S W Kp sg le tl rk rd nw rw) (some (.int (bI (decide ((rdN le nl 3 pa).1 = n))))) (fun w2 => ∃ pa' : Nat, ∃ tl' : Nat → Int32, w2 = wMo G a np nq na nk ns nl pa' rp rq kd S W Kp sg le tl' rk rd nw rw ∧ (decide ((rdN le nl 3 pa).1 = n) = true → pa' = (rdN le nl 3 pa).2 ∧ ∀ j, j < n → tl' j = valN le nl (nxk le nl pa j))) := by
  refine x_entry (by decide +kernel) (Nat.le_of_ble_eq_true rfl) rfl ⟨_, rfl, bI_narrow _⟩ (fun K X => ?_)
  refine x_iconst (v := nI 0) X dX5_readNumbers_0 (by decide) ?_
  refine x_istoren (lv' := [(2, .int (nI 0)), (0, .ref (a 0)), (1, .int (nI n))]) X dX5_readNumbers_1 (by decide) rfl ?_
  have L2 : ∀ (fu : Nat) (k : Nat) (q : Nat) (V : Nat → Int32), n - k < fu → (k ≤ n) → (q ≤ pa + 3 * k) → (rsN le nl n k pa q) → (∀ j, j < k → V j = valN le nl (nxk le nl pa j)) → K (wMo G a np nq na nk ns nl q rp rq kd S W Kp sg le V rk rd nw rw) 0 0 2 [(0, .ref (a 0)), (1, .int (nI n)), (2, .int (nI k))] [] := by
    intro fu
    induction fu with
    | zero => intro k q V hfu; exact absurd hfu (Nat.not_lt_zero _)
    | succ fu ih_L2 =>
      intro k q V hfu_L2 hk hq hR hV
      refine x_iloadn X dX5_readNumbers_2 2 rfl ?_
      refine x_iloadn X dX5_readNumbers_3 1 rfl ?_
      refine x_icmp_ge_n 144 X dX5_readNumbers_4 (by decide) (by omega) (by omega) (fun c_1 => ?_) (fun c_1 => ?_)
      · -- 4 t
        have n_1 := Nat.not_lt.mpr c_1
        refine x_iconst (v := nI 1) X dX5_readNumbers_144 (by decide) ?_
        exact x_ret X dX5_readNumbers_145 ⟨ret_i (by rw [decide_eq_true (rsN_e hR (by omega)).1]; rfl), ⟨q, V, rfl, fun _ => ⟨(rsN_e hR (by omega)).2, fun j hj => hV j (by omega)⟩⟩, by decide, by decide⟩
      · -- 4 f
        refine x_aloadn X dX5_readNumbers_7 0 rfl ?_
        refine x_aloadn X dX5_readNumbers_8 0 rfl ?_
        refine x_get X wu_X5 0 rfl rfl 12 (by decide) wf_X5_73 rfl rfl dX5_readNumbers_9 ?_
        refine x_callVrv (As := [.int (nI q)]) (rest := []) X (c_X5_letterAt l G a np nq na nk ns nl q rp rq kd S W Kp sg le V rk rd nw rw q (by omega) (by omega)) xE0_ok (fun _ _ _ => trivial) [0, 1, 2, 3, 4, 5, 6, 7, 8, 9, 10, 11] rfl 0 rfl rfl rfl rfl wco_X5_letterAt wi_X5 xd_X5_letterAt wl_X5_76 win_X5_letterAt wse_X5_letterAt (by decide) (Nat.le_of_ble_eq_true rfl) dX5_readNumbers_12 ?_
        refine x_callSrv (As := [.int (ltM le nl q)]) (rest := []) X (c_X5_isFigure l G (ltM le nl q)) xE0_ok (fun _ _ _ => trivial) [] rfl rfl rfl wco_X5_isFigure wi_X5 xd_X5_isFigure wl_X5_80 wst_X5_isFigure (by decide) (Nat.le_of_ble_eq_true rfl) dX5_readNumbers_15 ?_
        refine x_ifne_b 23 X dX5_readNumbers_18 (by decide) (fun c_2 => ?_) (fun c_2 => ?_)
        · -- 18 t
          refine x_aloadn X dX5_readNumbers_23 0 rfl ?_
          refine x_get X wu_X5 0 rfl rfl 13 (by decide) wf_X5_28 rfl rfl dX5_readNumbers_24 ?_
          refine x_iloadn X dX5_readNumbers_27 2 rfl ?_
          refine x_aloadn X dX5_readNumbers_28 0 rfl ?_
          refine x_aloadn X dX5_readNumbers_29 0 rfl ?_
          refine x_get X wu_X5 0 rfl rfl 12 (by decide) wf_X5_73 rfl rfl dX5_readNumbers_30 ?_
          refine x_callVrv (As := [.int (nI q)]) (rest := [.int (nI k), .ref (a 7)]) X (c_X5_letterAt l G a np nq na nk ns nl q rp rq kd S W Kp sg le V rk rd nw rw q (by omega) (by omega)) xE0_ok (fun _ _ _ => trivial) [0, 1, 2, 3, 4, 5, 6, 7, 8, 9, 10, 11] rfl 0 rfl rfl rfl rfl wco_X5_letterAt wi_X5 xd_X5_letterAt wl_X5_76 win_X5_letterAt wse_X5_letterAt (by decide) (Nat.le_of_ble_eq_true rfl) dX5_readNumbers_33 ?_
          refine x_bipush (v := nI 48) X dX5_readNumbers_36 (by decide) ?_
          refine x_isub (v := (ltM le nl q) - (nI 48)) X dX5_readNumbers_38 rfl ?_
          refine x_iast_n (g := upd V k ((ltM le nl q) - (nI 48))) (ws' := wMo G a np nq na nk ns nl q rp rq kd S W Kp sg le (upd V k ((ltM le nl q) - (nI 48))) rk rd nw rw) X 7 rfl (by omega) (by omega) rfl rfl dX5_readNumbers_39 ?_
          refine x_aloadn X dX5_readNumbers_40 0 rfl ?_
          refine x_dup X dX5_readNumbers_41 rfl ?_
          refine x_get X wu_X5 0 rfl rfl 12 (by decide) wf_X5_73 rfl rfl dX5_readNumbers_42 ?_
          refine x_iconst (v := nI 1) X dX5_readNumbers_45 (by decide) ?_
          refine x_iadd (v := nI (q + 1)) X dX5_readNumbers_46 (nI_add _ _) ?_
          refine x_put (ws' := wMo G a np nq na nk ns nl (q + 1) rp rq kd S W Kp sg le (upd V k ((ltM le nl q) - (nI 48))) rk rd nw rw) (ty := tyX5 12) X wu_X5 tyX5_ok nmX5 0 rfl rfl 12 (by decide) wf_X5_73 rfl rfl (by decide +kernel) rfl rfl (Nat.le_of_ble_eq_true rfl) rfl dX5_readNumbers_47 ?_
          refine x_aloadn X dX5_readNumbers_50 0 rfl ?_
          refine x_aloadn X dX5_readNumbers_51 0 rfl ?_
          refine x_get X wu_X5 0 rfl rfl 12 (by decide) wf_X5_73 rfl rfl dX5_readNumbers_52 ?_
          refine x_callVrv (As := [.int (nI (q + 1))]) (rest := []) X (c_X5_letterAt l G a np nq na nk ns nl (q + 1) rp rq kd S W Kp sg le (upd V k ((ltM le nl q) - (nI 48))) rk rd nw rw (q + 1) (by omega) (by omega)) xE0_ok (fun _ _ _ => trivial) [0, 1, 2, 3, 4, 5, 6, 7, 8, 9, 10, 11] rfl 0 rfl rfl rfl rfl wco_X5_letterAt wi_X5 xd_X5_letterAt wl_X5_76 win_X5_letterAt wse_X5_letterAt (by decide) (Nat.le_of_ble_eq_true rfl) dX5_readNumbers_55 ?_
          refine x_callSrv (As := [.int (ltM le nl (q + 1))]) (rest := []) X (c_X5_isFigure l G (ltM le nl (q + 1))) xE0_ok (fun _ _ _ => trivial) [] rfl rfl rfl wco_X5_isFigure wi_X5 xd_X5_isFigure wl_X5_80 wst_X5_isFigure (by decide) (Nat.le_of_ble_eq_true rfl) dX5_readNumbers_58 ?_
          refine x_ifeq_b 101 X dX5_readNumbers_61 (by decide) (fun c_3 => ?_) (fun c_3 => ?_)
          · -- 61 t
            refine x_aloadn X dX5_readNumbers_101 0 rfl ?_
            refine x_aloadn X dX5_readNumbers_102 0 rfl ?_
            refine x_get X wu_X5 0 rfl rfl 12 (by decide) wf_X5_73 rfl rfl dX5_readNumbers_103 ?_
            refine x_callVrv (As := [.int (nI (q + 1))]) (rest := []) X (c_X5_letterAt l G a np nq na nk ns nl (q + 1) rp rq kd S W Kp sg le (upd V k ((ltM le nl q) - (nI 48))) rk rd nw rw (q + 1) (by omega) (by omega)) xE0_ok (fun _ _ _ => trivial) [0, 1, 2, 3, 4, 5, 6, 7, 8, 9, 10, 11] rfl 0 rfl rfl rfl rfl wco_X5_letterAt wi_X5 xd_X5_letterAt wl_X5_76 win_X5_letterAt wse_X5_letterAt (by decide) (Nat.le_of_ble_eq_true rfl) dX5_readNumbers_106 ?_
            refine x_iloadn X dX5_readNumbers_109 2 rfl ?_
            refine x_iloadn X dX5_readNumbers_110 1 rfl ?_
            refine x_iconst (v := nI 1) X dX5_readNumbers_111 (by decide) ?_
            refine x_isub (v := nI (n - 1)) X dX5_readNumbers_112 (pk_sub (by omega)) ?_
            refine x_icmp_ge_n 121 X dX5_readNumbers_113 (by decide) (by omega) (by omega) (fun c_4 => ?_) (fun c_4 => ?_)
            · -- 113 t
              have n_4 := Nat.not_lt.mpr c_4
              refine x_bipush (v := nI 59) X dX5_readNumbers_121 (by decide) ?_
              refine x_icmp_eq 128 X dX5_readNumbers_123 (by decide) (fun c_5 => ?_) (fun c_5 => ?_)
              · -- 123 t
                refine x_aloadn X dX5_readNumbers_128 0 rfl ?_
                refine x_dup X dX5_readNumbers_129 rfl ?_
                refine x_get X wu_X5 0 rfl rfl 12 (by decide) wf_X5_73 rfl rfl dX5_readNumbers_130 ?_
                refine x_iconst (v := nI 1) X dX5_readNumbers_133 (by decide) ?_
                refine x_iadd (v := nI (q + 1 + 1)) X dX5_readNumbers_134 (nI_add _ _) ?_
                refine x_put (ws' := wMo G a np nq na nk ns nl (q + 1 + 1) rp rq kd S W Kp sg le (upd V k ((ltM le nl q) - (nI 48))) rk rd nw rw) (ty := tyX5 12) X wu_X5 tyX5_ok nmX5 0 rfl rfl 12 (by decide) wf_X5_73 rfl rfl (by decide +kernel) rfl rfl (Nat.le_of_ble_eq_true rfl) rfl dX5_readNumbers_135 ?_
                refine x_iinc (v := nI (k + 1)) (lv' := [(2, .int (nI (k + 1))), (0, .ref (a 0)), (1, .int (nI n))]) X dX5_readNumbers_138 2 rfl (nI_1 _) (by decide) rfl ?_
                refine x_goto 2 X dX5_readNumbers_141 (by decide) ?_
                refine x_lv (lv' := [(0, .ref (a 0)), (1, .int (nI n)), (2, .int (nI (k + 1)))]) X [1, 2, 0] rfl ?_
                exact ih_L2 (k + 1) (q + 1 + 1) (upd V k ((ltM le nl q) - (nI 48))) (by omega) (by omega) (by omega) (rs_1 hR (by omega) hn3 c_2 c_3 c_5 (by first | rw [if_pos (by omega)] | rw [if_neg (by omega)])) (vs_1 hV hR.1 (val_1 c_2 c_3))
              · -- 123 f
                refine x_iconst (v := nI 0) X dX5_readNumbers_126 (by decide) ?_
                exact x_ret X dX5_readNumbers_127 ⟨ret_i (by rw [(rb_1 hR (by omega) hn3 c_2 c_3 c_5 (by first | rw [if_pos (by omega)] | rw [if_neg (by omega)]))]; rfl), ⟨(q + 1), (upd V k ((ltM le nl q) - (nI 48))), rfl, fun h => absurd (h.symm.trans (rb_1 hR (by omega) hn3 c_2 c_3 c_5 (by first | rw [if_pos (by omega)] | rw [if_neg (by omega)]))) (by decide)⟩, by decide, by decide⟩
            · -- 113 f
              refine x_bipush (v := nI 44) X dX5_readNumbers_116 (by decide) ?_
              refine x_goto 123 X dX5_readNumbers_118 (by decide) ?_
              refine x_icmp_eq 128 X dX5_readNumbers_123 (by decide) (fun c_6 => ?_) (fun c_6 => ?_)
              · -- 123 t
                refine x_aloadn X dX5_readNumbers_128 0 rfl ?_
                refine x_dup X dX5_readNumbers_129 rfl ?_
                refine x_get X wu_X5 0 rfl rfl 12 (by decide) wf_X5_73 rfl rfl dX5_readNumbers_130 ?_
                refine x_iconst (v := nI 1) X dX5_readNumbers_133 (by decide) ?_
                refine x_iadd (v := nI (q + 1 + 1)) X dX5_readNumbers_134 (nI_add _ _) ?_
                refine x_put (ws' := wMo G a np nq na nk ns nl (q + 1 + 1) rp rq kd S W Kp sg le (upd V k ((ltM le nl q) - (nI 48))) rk rd nw rw) (ty := tyX5 12) X wu_X5 tyX5_ok nmX5 0 rfl rfl 12 (by decide) wf_X5_73 rfl rfl (by decide +kernel) rfl rfl (Nat.le_of_ble_eq_true rfl) rfl dX5_readNumbers_135 ?_
                refine x_iinc (v := nI (k + 1)) (lv' := [(2, .int (nI (k + 1))), (0, .ref (a 0)), (1, .int (nI n))]) X dX5_readNumbers_138 2 rfl (nI_1 _) (by decide) rfl ?_
                refine x_goto 2 X dX5_readNumbers_141 (by decide) ?_
                refine x_lv (lv' := [(0, .ref (a 0)), (1, .int (nI n)), (2, .int (nI (k + 1)))]) X [1, 2, 0] rfl ?_
                exact ih_L2 (k + 1) (q + 1 + 1) (upd V k ((ltM le nl q) - (nI 48))) (by omega) (by omega) (by omega) (rs_1 hR (by omega) hn3 c_2 c_3 c_6 (by first | rw [if_pos (by omega)] | rw [if_neg (by omega)])) (vs_1 hV hR.1 (val_1 c_2 c_3))
              · -- 123 f
                refine x_iconst (v := nI 0) X dX5_readNumbers_126 (by decide) ?_
                exact x_ret X dX5_readNumbers_127 ⟨ret_i (by rw [(rb_1 hR (by omega) hn3 c_2 c_3 c_6 (by first | rw [if_pos (by omega)] | rw [if_neg (by omega)]))]; rfl), ⟨(q + 1), (upd V k ((ltM le nl q) - (nI 48))), rfl, fun h => absurd (h.symm.trans (rb_1 hR (by omega) hn3 c_2 c_3 c_6 (by first | rw [if_pos (by omega)] | rw [if_neg (by omega)]))) (by decide)⟩, by decide, by decide⟩
          · -- 61 f
            refine x_aloadn X dX5_readNumbers_64 0 rfl ?_
            refine x_get X wu_X5 0 rfl rfl 13 (by decide) wf_X5_28 rfl rfl dX5_readNumbers_65 ?_
            refine x_iloadn X dX5_readNumbers_68 2 rfl ?_
            refine x_bipush (v := nI 10) X dX5_readNumbers_69 (by decide) ?_
            refine x_aloadn X dX5_readNumbers_71 0 rfl ?_
            refine x_get X wu_X5 0 rfl rfl 13 (by decide) wf_X5_28 rfl rfl dX5_readNumbers_72 ?_
            refine x_iloadn X dX5_readNumbers_75 2 rfl ?_
            refine x_iald_n (v := ltM le nl q - nI 48) X 7 rfl (by omega) (by omega) (by rw [upd, if_pos rfl]) dX5_readNumbers_76 ?_
            refine x_imul (v := (nI 10) * (ltM le nl q - nI 48)) X dX5_readNumbers_77 rfl ?_
            refine x_aloadn X dX5_readNumbers_78 0 rfl ?_
            refine x_aloadn X dX5_readNumbers_79 0 rfl ?_
            refine x_get X wu_X5 0 rfl rfl 12 (by decide) wf_X5_73 rfl rfl dX5_readNumbers_80 ?_
            refine x_callVrv (As := [.int (nI (q + 1))]) (rest := [.int ((nI 10) * (ltM le nl q - nI 48)), .int (nI k), .ref (a 7)]) X (c_X5_letterAt l G a np nq na nk ns nl (q + 1) rp rq kd S W Kp sg le (upd V k ((ltM le nl q) - (nI 48))) rk rd nw rw (q + 1) (by omega) (by omega)) xE0_ok (fun _ _ _ => trivial) [0, 1, 2, 3, 4, 5, 6, 7, 8, 9, 10, 11] rfl 0 rfl rfl rfl rfl wco_X5_letterAt wi_X5 xd_X5_letterAt wl_X5_76 win_X5_letterAt wse_X5_letterAt (by decide) (Nat.le_of_ble_eq_true rfl) dX5_readNumbers_83 ?_
            refine x_iadd (v := ((nI 10) * (ltM le nl q - nI 48)) + (ltM le nl (q + 1))) X dX5_readNumbers_86 rfl ?_
            refine x_bipush (v := nI 48) X dX5_readNumbers_87 (by decide) ?_
            refine x_isub (v := (((nI 10) * (ltM le nl q - nI 48)) + (ltM le nl (q + 1))) - (nI 48)) X dX5_readNumbers_89 rfl ?_
            refine x_iast_n (g := upd (upd V k ((ltM le nl q) - (nI 48))) k ((((nI 10) * (ltM le nl q - nI 48)) + (ltM le nl (q + 1))) - (nI 48))) (ws' := wMo G a np nq na nk ns nl (q + 1) rp rq kd S W Kp sg le (upd (upd V k ((ltM le nl q) - (nI 48))) k ((((nI 10) * (ltM le nl q - nI 48)) + (ltM le nl (q + 1))) - (nI 48))) rk rd nw rw) X 7 rfl (by omega) (by omega) rfl rfl dX5_readNumbers_90 ?_
            refine x_aloadn X dX5_readNumbers_91 0 rfl ?_
            refine x_dup X dX5_readNumbers_92 rfl ?_
            refine x_get X wu_X5 0 rfl rfl 12 (by decide) wf_X5_73 rfl rfl dX5_readNumbers_93 ?_
            refine x_iconst (v := nI 1) X dX5_readNumbers_96 (by decide) ?_
            refine x_iadd (v := nI (q + 1 + 1)) X dX5_readNumbers_97 (nI_add _ _) ?_
            refine x_put (ws' := wMo G a np nq na nk ns nl (q + 1 + 1) rp rq kd S W Kp sg le (upd (upd V k ((ltM le nl q) - (nI 48))) k ((((nI 10) * (ltM le nl q - nI 48)) + (ltM le nl (q + 1))) - (nI 48))) rk rd nw rw) (ty := tyX5 12) X wu_X5 tyX5_ok nmX5 0 rfl rfl 12 (by decide) wf_X5_73 rfl rfl (by decide +kernel) rfl rfl (Nat.le_of_ble_eq_true rfl) rfl dX5_readNumbers_98 ?_
            refine x_aloadn X dX5_readNumbers_101 0 rfl ?_
            refine x_aloadn X dX5_readNumbers_102 0 rfl ?_
            refine x_get X wu_X5 0 rfl rfl 12 (by decide) wf_X5_73 rfl rfl dX5_readNumbers_103 ?_
            refine x_callVrv (As := [.int (nI (q + 1 + 1))]) (rest := []) X (c_X5_letterAt l G a np nq na nk ns nl (q + 1 + 1) rp rq kd S W Kp sg le (upd (upd V k ((ltM le nl q) - (nI 48))) k ((((nI 10) * (ltM le nl q - nI 48)) + (ltM le nl (q + 1))) - (nI 48))) rk rd nw rw (q + 1 + 1) (by omega) (by omega)) xE0_ok (fun _ _ _ => trivial) [0, 1, 2, 3, 4, 5, 6, 7, 8, 9, 10, 11] rfl 0 rfl rfl rfl rfl wco_X5_letterAt wi_X5 xd_X5_letterAt wl_X5_76 win_X5_letterAt wse_X5_letterAt (by decide) (Nat.le_of_ble_eq_true rfl) dX5_readNumbers_106 ?_
            refine x_iloadn X dX5_readNumbers_109 2 rfl ?_
            refine x_iloadn X dX5_readNumbers_110 1 rfl ?_
            refine x_iconst (v := nI 1) X dX5_readNumbers_111 (by decide) ?_
            refine x_isub (v := nI (n - 1)) X dX5_readNumbers_112 (pk_sub (by omega)) ?_
            refine x_icmp_ge_n 121 X dX5_readNumbers_113 (by decide) (by omega) (by omega) (fun c_7 => ?_) (fun c_7 => ?_)
            · -- 113 t
              have n_7 := Nat.not_lt.mpr c_7
              refine x_bipush (v := nI 59) X dX5_readNumbers_121 (by decide) ?_
              refine x_icmp_eq 128 X dX5_readNumbers_123 (by decide) (fun c_8 => ?_) (fun c_8 => ?_)
              · -- 123 t
                refine x_aloadn X dX5_readNumbers_128 0 rfl ?_
                refine x_dup X dX5_readNumbers_129 rfl ?_
                refine x_get X wu_X5 0 rfl rfl 12 (by decide) wf_X5_73 rfl rfl dX5_readNumbers_130 ?_
                refine x_iconst (v := nI 1) X dX5_readNumbers_133 (by decide) ?_
                refine x_iadd (v := nI (q + 1 + 1 + 1)) X dX5_readNumbers_134 (nI_add _ _) ?_
                refine x_put (ws' := wMo G a np nq na nk ns nl (q + 1 + 1 + 1) rp rq kd S W Kp sg le (upd (upd V k ((ltM le nl q) - (nI 48))) k ((((nI 10) * (ltM le nl q - nI 48)) + (ltM le nl (q + 1))) - (nI 48))) rk rd nw rw) (ty := tyX5 12) X wu_X5 tyX5_ok nmX5 0 rfl rfl 12 (by decide) wf_X5_73 rfl rfl (by decide +kernel) rfl rfl (Nat.le_of_ble_eq_true rfl) rfl dX5_readNumbers_135 ?_
                refine x_iinc (v := nI (k + 1)) (lv' := [(2, .int (nI (k + 1))), (0, .ref (a 0)), (1, .int (nI n))]) X dX5_readNumbers_138 2 rfl (nI_1 _) (by decide) rfl ?_
                refine x_goto 2 X dX5_readNumbers_141 (by decide) ?_
                refine x_lv (lv' := [(0, .ref (a 0)), (1, .int (nI n)), (2, .int (nI (k + 1)))]) X [1, 2, 0] rfl ?_
                exact ih_L2 (k + 1) (q + 1 + 1 + 1) (upd (upd V k ((ltM le nl q) - (nI 48))) k ((((nI 10) * (ltM le nl q - nI 48)) + (ltM le nl (q + 1))) - (nI 48))) (by omega) (by omega) (by omega) (rs_2 hR (by omega) hn3 c_2 c_3 c_8 (by first | rw [if_pos (by omega)] | rw [if_neg (by omega)])) (vs_2 hV hR.1 (val_2 c_2 c_3))
              · -- 123 f
                refine x_iconst (v := nI 0) X dX5_readNumbers_126 (by decide) ?_
                exact x_ret X dX5_readNumbers_127 ⟨ret_i (by rw [(rb_2 hR (by omega) hn3 c_2 c_3 c_8 (by first | rw [if_pos (by omega)] | rw [if_neg (by omega)]))]; rfl), ⟨(q + 1 + 1), (upd (upd V k ((ltM le nl q) - (nI 48))) k ((((nI 10) * (ltM le nl q - nI 48)) + (ltM le nl (q + 1))) - (nI 48))), rfl, fun h => absurd (h.symm.trans (rb_2 hR (by omega) hn3 c_2 c_3 c_8 (by first | rw [if_pos (by omega)] | rw [if_neg (by omega)]))) (by decide)⟩, by decide, by decide⟩
            · -- 113 f
              refine x_bipush (v := nI 44) X dX5_readNumbers_116 (by decide) ?_
              refine x_goto 123 X dX5_readNumbers_118 (by decide) ?_
              refine x_icmp_eq 128 X dX5_readNumbers_123 (by decide) (fun c_9 => ?_) (fun c_9 => ?_)
              · -- 123 t
                refine x_aloadn X dX5_readNumbers_128 0 rfl ?_
                refine x_dup X dX5_readNumbers_129 rfl ?_
                refine x_get X wu_X5 0 rfl rfl 12 (by decide) wf_X5_73 rfl rfl dX5_readNumbers_130 ?_
                refine x_iconst (v := nI 1) X dX5_readNumbers_133 (by decide) ?_
                refine x_iadd (v := nI (q + 1 + 1 + 1)) X dX5_readNumbers_134 (nI_add _ _) ?_
                refine x_put (ws' := wMo G a np nq na nk ns nl (q + 1 + 1 + 1) rp rq kd S W Kp sg le (upd (upd V k ((ltM le nl q) - (nI 48))) k ((((nI 10) * (ltM le nl q - nI 48)) + (ltM le nl (q + 1))) - (nI 48))) rk rd nw rw) (ty := tyX5 12) X wu_X5 tyX5_ok nmX5 0 rfl rfl 12 (by decide) wf_X5_73 rfl rfl (by decide +kernel) rfl rfl (Nat.le_of_ble_eq_true rfl) rfl dX5_readNumbers_135 ?_
                refine x_iinc (v := nI (k + 1)) (lv' := [(2, .int (nI (k + 1))), (0, .ref (a 0)), (1, .int (nI n))]) X dX5_readNumbers_138 2 rfl (nI_1 _) (by decide) rfl ?_
                refine x_goto 2 X dX5_readNumbers_141 (by decide) ?_
                refine x_lv (lv' := [(0, .ref (a 0)), (1, .int (nI n)), (2, .int (nI (k + 1)))]) X [1, 2, 0] rfl ?_
                exact ih_L2 (k + 1) (q + 1 + 1 + 1) (upd (upd V k ((ltM le nl q) - (nI 48))) k ((((nI 10) * (ltM le nl q - nI 48)) + (ltM le nl (q + 1))) - (nI 48))) (by omega) (by omega) (by omega) (rs_2 hR (by omega) hn3 c_2 c_3 c_9 (by first | rw [if_pos (by omega)] | rw [if_neg (by omega)])) (vs_2 hV hR.1 (val_2 c_2 c_3))
              · -- 123 f
                refine x_iconst (v := nI 0) X dX5_readNumbers_126 (by decide) ?_
                exact x_ret X dX5_readNumbers_127 ⟨ret_i (by rw [(rb_2 hR (by omega) hn3 c_2 c_3 c_9 (by first | rw [if_pos (by omega)] | rw [if_neg (by omega)]))]; rfl), ⟨(q + 1 + 1), (upd (upd V k ((ltM le nl q) - (nI 48))) k ((((nI 10) * (ltM le nl q - nI 48)) + (ltM le nl (q + 1))) - (nI 48))), rfl, fun h => absurd (h.symm.trans (rb_2 hR (by omega) hn3 c_2 c_3 c_9 (by first | rw [if_pos (by omega)] | rw [if_neg (by omega)]))) (by decide)⟩, by decide, by decide⟩
        · -- 18 f
          refine x_iconst (v := nI 0) X dX5_readNumbers_21 (by decide) ?_
          exact x_ret X dX5_readNumbers_22 ⟨ret_i (by rw [(rsN_f hR (by omega) c_2)]; rfl), ⟨q, V, rfl, fun h => absurd (h.symm.trans (rsN_f hR (by omega) c_2)) (by decide)⟩, by decide, by decide⟩
  refine x_lv (lv' := [(0, .ref (a 0)), (1, .int (nI n)), (2, .int (nI 0))]) X [1, 2, 0] rfl ?_
  exact L2 _ 0 pa tl (Nat.lt_succ_self _) (by omega) (by omega) (rsN_0 _ _ _ _ hn1) (fun j hj => absurd hj (Nat.not_lt_zero _))
set_option maxRecDepth 100000 in
set_option maxHeartbeats 4000000 in
/-- X5_readPersonOf -/
theorem c_X5_readPersonOf (l : Launch) (G : xG) (a : Nat → Nat) (np : Nat) (nq : Nat) (na : Nat) (nk : Nat) (ns : Nat) (nl : Nat) (pa : Nat) (kd : Nat → Int32) (S : Nat → Int32) (W : Nat → Int32) (Kp : Nat → Int32) (sg : Nat → Int32) (le : Nat → Int32) (tl : Nat → Int32) (rk : Nat → Int32) (nw : Nat → Int32) (rw : Nat → Int32) (s : xS) (hp : pa ≤ 300) (hl : nl ≤ 200) (hs6 : s.1 ≤ 6) (hrk : ∀ j, j < s.1 → rk j = s.2.2.1 j) : xM l G xE0 yX5_readPersonOf cX5_readPersonOf 1 (some .boolean) 3 64 0 0 [.ref (a 0)] (wMo G a np nq na nk ns nl pa s.1 s.2.1 kd S W Kp sg le tl rk (en s) nw rw) (some (.int (bI (okP le nl pa s)))) (fun w2 => ∃ pa' : Nat, ∃ tl' : Nat → Int32, ∃ rk' : Nat → Int32, ∃ s' : xS, w2 = wMo G a np nq na nk ns nl pa' s'.1 s'.2.1 kd S W Kp sg le tl' rk' (en s') nw rw ∧ (okP le nl pa s = true → pa' = (rdN le nl 3 pa).2) ∧ (okP le nl pa s = true → s' = tellP s (valN le nl pa) (valN le nl (nx le nl pa))) ∧ (okP le nl pa s = true → ∀ j, j < s'.1 → rk' j = s'.2.2.1 j)) := by
  refine x_entry (by decide +kernel) (Nat.le_of_ble_eq_true rfl) rfl ⟨_, rfl, bI_narrow _⟩ (fun K X => ?_)
  refine x_aloadn X dX5_readPersonOf_0 0 rfl ?_
  refine x_get X wu_X5 0 rfl rfl 14 (by decide) wf_X5_57 rfl rfl dX5_readPersonOf_1 ?_
  refine x_bipush (v := nI 6) X dX5_readPersonOf_4 (by decide) ?_
  refine x_icmp_eq_n 37 X dX5_readPersonOf_6 (by decide) (by omega) (by omega) (fun c_1 => ?_) (fun c_1 => ?_)
  · -- 6 t
    have h6 : ¬ s.1 < 6 := by omega
    refine x_iconst (v := nI 0) X dX5_readPersonOf_37 (by decide) ?_
    exact x_ret X dX5_readPersonOf_38 ⟨ret_i (by rw [show okP le nl pa s = false from by simp [okP, tellPok, (eq_true c_1), h6]]; rfl), ⟨pa, tl, rk, s, rfl, fun h => absurd (h.symm.trans (show okP le nl pa s = false from (by simp [okP, tellPok, (eq_true c_1), h6]))) (by decide), fun h => absurd (h.symm.trans (show okP le nl pa s = false from (by simp [okP, tellPok, (eq_true c_1), h6]))) (by decide), fun h => absurd (h.symm.trans (show okP le nl pa s = false from (by simp [okP, tellPok, (eq_true c_1), h6]))) (by decide)⟩, by decide, by decide⟩
  · -- 6 f
    have h6 : s.1 < 6 := by omega
    refine x_aloadn X dX5_readPersonOf_9 0 rfl ?_
    refine x_iconst (v := nI 2) X dX5_readPersonOf_10 (by decide) ?_
    refine x_callV (As := [.int (nI 2)]) (rest := []) X (c_X5_readNumbers l G a np nq na nk ns nl pa s.1 s.2.1 kd S W Kp sg le tl rk (en s) nw rw 2 (by omega) (by omega) (by omega) (by omega)) xE0_ok (fun _ _ _ => trivial) [0, 1, 2, 3, 4, 5, 6, 7, 8, 9, 10, 11] rfl 0 rfl rfl rfl rfl wco_X5_readNumbers wi_X5 xd_X5_readNumbers wl_X5_84 win_X5_readNumbers wse_X5_readNumbers (by decide) (Nat.le_of_ble_eq_true rfl) dX5_readPersonOf_11 (fun w2 h => by obtain ⟨_, _, rfl, -⟩ := h; exact ⟨rfl, Eq.trans (b := [a 0, a 1, a 2, a 3, a 4, a 5, a 6, a 7, a 8, a 9, a 10, a 11]) rfl rfl⟩) (fun w_4 hw_4 => ?_)
    obtain ⟨pa_2, tl_3, rfl, f_5⟩ := hw_4
    refine x_wst (ws' := wMo G a np nq na nk ns nl pa_2 s.1 s.2.1 kd S W Kp sg le tl_3 rk (en s) nw rw) (st' := [.int (bI (decide ((rdN le nl 3 pa).1 = 2)))]) rfl rfl ?_
    refine x_ifeq_b 37 X dX5_readPersonOf_14 (by decide) (fun c_6 => ?_) (fun c_6 => ?_)
    · -- 14 t
      refine x_iconst (v := nI 0) X dX5_readPersonOf_37 (by decide) ?_
      exact x_ret X dX5_readPersonOf_38 ⟨ret_i (by rw [show okP le nl pa s = false from by simp [okP, tellPok, c_1, h6, c_6]]; rfl), ⟨pa_2, tl_3, rk, s, rfl, fun h => absurd (h.symm.trans (show okP le nl pa s = false from (by simp [okP, tellPok, c_1, h6, c_6]))) (by decide), fun h => absurd (h.symm.trans (show okP le nl pa s = false from (by simp [okP, tellPok, c_1, h6, c_6]))) (by decide), fun h => absurd (h.symm.trans (show okP le nl pa s = false from (by simp [okP, tellPok, c_1, h6, c_6]))) (by decide)⟩, by decide, by decide⟩
    · -- 14 f
      have hc1 := of_decide_eq_true c_6
      obtain ⟨epa, etl⟩ := f_5 c_6
      have e0 : tl_3 0 = valN le nl pa := etl 0 (by decide)
      have e1 : tl_3 1 = valN le nl (nx le nl pa) := etl 1 (by decide)
      refine x_aloadn X dX5_readPersonOf_17 0 rfl ?_
      refine x_iconst (v := nI 0) X dX5_readPersonOf_18 (by decide) ?_
      refine x_iconst (v := nI 0) X dX5_readPersonOf_19 (by decide) ?_
      refine x_iconst (v := nI 4) X dX5_readPersonOf_20 (by decide) ?_
      refine x_callVrv (As := [.int (nI 0), .int (nI 0), .int (nI 4)]) (rest := []) X (c_X5_isTold__p l G a np nq na nk ns nl pa_2 s.1 s.2.1 kd S W Kp sg le tl_3 rk (en s) nw rw 0 4 (by omega) (by omega)) xE0_ok (fun _ _ _ => trivial) [0, 1, 2, 3, 4, 5, 6, 7, 8, 9, 10, 11] rfl 0 rfl rfl rfl rfl wco_X5_isTold wi_X5 xd_X5_isTold wl_X5_87 win_X5_isTold wse_X5_isTold (by decide) (Nat.le_of_ble_eq_true rfl) dX5_readPersonOf_21 ?_
      refine x_ifeq_b 37 X dX5_readPersonOf_24 (by decide) (fun c_7 => ?_) (fun c_7 => ?_)
      · -- 24 t
        rw [e0] at c_7
        refine x_iconst (v := nI 0) X dX5_readPersonOf_37 (by decide) ?_
        exact x_ret X dX5_readPersonOf_38 ⟨ret_i (by rw [show okP le nl pa s = false from by simp [okP, tellPok, c_1, h6, c_6, hc1, c_7]]; rfl), ⟨pa_2, tl_3, rk, s, rfl, fun h => absurd (h.symm.trans (show okP le nl pa s = false from (by simp [okP, tellPok, c_1, h6, c_6, hc1, c_7]))) (by decide), fun h => absurd (h.symm.trans (show okP le nl pa s = false from (by simp [okP, tellPok, c_1, h6, c_6, hc1, c_7]))) (by decide), fun h => absurd (h.symm.trans (show okP le nl pa s = false from (by simp [okP, tellPok, c_1, h6, c_6, hc1, c_7]))) (by decide)⟩, by decide, by decide⟩
      · -- 24 f
        rw [e0] at c_7
        refine x_aloadn X dX5_readPersonOf_27 0 rfl ?_
        refine x_iconst (v := nI 1) X dX5_readPersonOf_28 (by decide) ?_
        refine x_iconst (v := nI 0) X dX5_readPersonOf_29 (by decide) ?_
        refine x_iconst (v := nI 5) X dX5_readPersonOf_30 (by decide) ?_
        refine x_callVrv (As := [.int (nI 1), .int (nI 0), .int (nI 5)]) (rest := []) X (c_X5_isTold__p l G a np nq na nk ns nl pa_2 s.1 s.2.1 kd S W Kp sg le tl_3 rk (en s) nw rw 1 5 (by omega) (by omega)) xE0_ok (fun _ _ _ => trivial) [0, 1, 2, 3, 4, 5, 6, 7, 8, 9, 10, 11] rfl 0 rfl rfl rfl rfl wco_X5_isTold wi_X5 xd_X5_isTold wl_X5_87 win_X5_isTold wse_X5_isTold (by decide) (Nat.le_of_ble_eq_true rfl) dX5_readPersonOf_31 ?_
        refine x_ifne_b 39 X dX5_readPersonOf_34 (by decide) (fun c_8 => ?_) (fun c_8 => ?_)
        · -- 34 t
          rw [e1] at c_8
          refine x_aloadn X dX5_readPersonOf_39 0 rfl ?_
          refine x_aloadn X dX5_readPersonOf_40 0 rfl ?_
          refine x_get X wu_X5 0 rfl rfl 13 (by decide) wf_X5_28 rfl rfl dX5_readPersonOf_41 ?_
          refine x_iconst (v := nI 0) X dX5_readPersonOf_44 (by decide) ?_
          refine x_iald_n (v := valN le nl pa) X 7 rfl (by omega) (by omega) e0 dX5_readPersonOf_45 ?_
          refine x_aloadn X dX5_readPersonOf_46 0 rfl ?_
          refine x_get X wu_X5 0 rfl rfl 13 (by decide) wf_X5_28 rfl rfl dX5_readPersonOf_47 ?_
          refine x_iconst (v := nI 1) X dX5_readPersonOf_50 (by decide) ?_
          refine x_iald_n (v := valN le nl (nx le nl pa)) X 7 rfl (by omega) (by omega) e1 dX5_readPersonOf_51 ?_
          refine x_callVf0 (As := [.int (valN le nl pa), .int (valN le nl (nx le nl pa))]) (rest := []) (w1 := wMo G a np nq na nk ns nl pa_2 (s.1 + 1) s.2.1 kd S W Kp sg le tl_3 (upd rk s.1 (valN le nl pa)) (upd (en s) (0 + s.1) (valN le nl (nx le nl pa))) nw rw) (ws' := wMo G a np nq na nk ns nl pa_2 (s.1 + 1) s.2.1 kd S W Kp sg le tl_3 (upd rk s.1 (valN le nl pa)) (upd (en s) (0 + s.1) (valN le nl (nx le nl pa))) nw rw) X (c_X5_tellsPerson l G a np nq na nk ns nl pa_2 s.1 s.2.1 kd S W Kp sg le tl_3 rk (en s) nw rw (valN le nl pa) (valN le nl (nx le nl pa)) (by omega)) xE0_ok (fun _ _ _ => trivial) [0, 1, 2, 3, 4, 5, 6, 7, 8, 9, 10, 11] rfl 0 rfl rfl rfl rfl wco_X5_tellsPerson wi_X5 xd_X5_tellsPerson wl_X5_46 win_X5_tellsPerson wse_X5_tellsPerson (by decide) (Nat.le_of_ble_eq_true rfl) dX5_readPersonOf_52 rfl (Eq.trans (b := [a 0, a 1, a 2, a 3, a 4, a 5, a 6, a 7, a 8, a 9, a 10, a 11]) rfl rfl) rfl ?_
          refine x_rowc (ws' := wMo G a np nq na nk ns nl pa_2 (s.1 + 1) s.2.1 kd S W Kp sg le tl_3 (upd rk s.1 (valN le nl pa)) (en (s.1 + 1, s.2.1, upd s.2.2.1 s.1 (valN le nl pa), upd s.2.2.2.1 s.1 (valN le nl (nx le nl pa)), s.2.2.2.2.1, s.2.2.2.2.2)) nw rw) (en (s.1 + 1, s.2.1, upd s.2.2.1 s.1 (valN le nl pa), upd s.2.2.2.1 s.1 (valN le nl (nx le nl pa)), s.2.2.2.2.1, s.2.2.2.2.2)) X 9 rfl (fun k hk => congrFun (en_upmi s s.1 _ (by omega)) k) rfl ?_
          refine x_iconst (v := nI 1) X dX5_readPersonOf_55 (by decide) ?_
          exact x_ret X dX5_readPersonOf_56 ⟨ret_i (by rw [show okP le nl pa s = true from by simp [okP, tellPok, c_1, h6, c_6, hc1, c_7, c_8]]; rfl), ⟨pa_2, tl_3, (upd rk s.1 (valN le nl pa)), (s.1 + 1, s.2.1, upd s.2.2.1 s.1 (valN le nl pa), upd s.2.2.2.1 s.1 (valN le nl (nx le nl pa)), s.2.2.2.2.1, s.2.2.2.2.2), rfl, fun _ => epa, fun _ => (tellP_y (by simp [tellPok, c_1, h6, f_5, c_6, hc1, c_7, c_8])).symm, fun _ => kd_up hrk⟩, by decide, by decide⟩
        · -- 34 f
          rw [e1] at c_8
          refine x_iconst (v := nI 0) X dX5_readPersonOf_37 (by decide) ?_
          exact x_ret X dX5_readPersonOf_38 ⟨ret_i (by rw [show okP le nl pa s = false from by simp [okP, tellPok, c_1, h6, c_6, hc1, c_7, c_8]]; rfl), ⟨pa_2, tl_3, rk, s, rfl, fun h => absurd (h.symm.trans (show okP le nl pa s = false from (by simp [okP, tellPok, c_1, h6, c_6, hc1, c_7, c_8]))) (by decide), fun h => absurd (h.symm.trans (show okP le nl pa s = false from (by simp [okP, tellPok, c_1, h6, c_6, hc1, c_7, c_8]))) (by decide), fun h => absurd (h.symm.trans (show okP le nl pa s = false from (by simp [okP, tellPok, c_1, h6, c_6, hc1, c_7, c_8]))) (by decide)⟩, by decide, by decide⟩
set_option maxRecDepth 100000 in
set_option maxHeartbeats 4000000 in
/-- X5_readViewOf -/
theorem c_X5_readViewOf (l : Launch) (G : xG) (a : Nat → Nat) (np : Nat) (nq : Nat) (na : Nat) (nk : Nat) (ns : Nat) (nl : Nat) (pa : Nat) (kd : Nat → Int32) (S : Nat → Int32) (W : Nat → Int32) (Kp : Nat → Int32) (sg : Nat → Int32) (le : Nat → Int32) (tl : Nat → Int32) (rk : Nat → Int32) (nw : Nat → Int32) (rw : Nat → Int32) (s : xS) (hp : pa ≤ 300) (hl : nl ≤ 200) (hs6 : s.1 ≤ 6) (hrk : ∀ j, j < s.1 → rk j = s.2.2.1 j) : xM l G xE0 yX5_readViewOf cX5_readViewOf 1 (some .boolean) 3 64 0 0 [.ref (a 0)] (wMo G a np nq na nk ns nl pa s.1 s.2.1 kd S W Kp sg le tl rk (en s) nw rw) (some (.int (bI (okV le nl pa s)))) (fun w2 => ∃ pa' : Nat, ∃ tl' : Nat → Int32, ∃ rk' : Nat → Int32, ∃ s' : xS, w2 = wMo G a np nq na nk ns nl pa' s'.1 s'.2.1 kd S W Kp sg le tl' rk' (en s') nw rw ∧ (okV le nl pa s = true → pa' = (rdN le nl 3 pa).2) ∧ (okV le nl pa s = true → s' = tellV s (valN le nl pa) (valN le nl (nx le nl pa)) (valN le nl (nx le nl (nx le nl pa)))) ∧ (okV le nl pa s = true → ∀ j, j < s'.1 → rk' j = s'.2.2.1 j)) := by
  refine x_entry (by decide +kernel) (Nat.le_of_ble_eq_true rfl) rfl ⟨_, rfl, bI_narrow _⟩ (fun K X => ?_)
  refine x_aloadn X dX5_readViewOf_0 0 rfl ?_
  refine x_iconst (v := nI 3) X dX5_readViewOf_1 (by decide) ?_
  refine x_callV (As := [.int (nI 3)]) (rest := []) X (c_X5_readNumbers l G a np nq na nk ns nl pa s.1 s.2.1 kd S W Kp sg le tl rk (en s) nw rw 3 (by omega) (by omega) (by omega) (by omega)) xE0_ok (fun _ _ _ => trivial) [0, 1, 2, 3, 4, 5, 6, 7, 8, 9, 10, 11] rfl 0 rfl rfl rfl rfl wco_X5_readNumbers wi_X5 xd_X5_readNumbers wl_X5_84 win_X5_readNumbers wse_X5_readNumbers (by decide) (Nat.le_of_ble_eq_true rfl) dX5_readViewOf_2 (fun w2 h => by obtain ⟨_, _, rfl, -⟩ := h; exact ⟨rfl, Eq.trans (b := [a 0, a 1, a 2, a 3, a 4, a 5, a 6, a 7, a 8, a 9, a 10, a 11]) rfl rfl⟩) (fun w_3 hw_3 => ?_)
  obtain ⟨pa_1, tl_2, rfl, f_4⟩ := hw_3
  refine x_wst (ws' := wMo G a np nq na nk ns nl pa_1 s.1 s.2.1 kd S W Kp sg le tl_2 rk (en s) nw rw) (st' := [.int (bI (decide ((rdN le nl 3 pa).1 = 3)))]) rfl rfl ?_
  refine x_ifeq_b 44 X dX5_readViewOf_5 (by decide) (fun c_5 => ?_) (fun c_5 => ?_)
  · -- 5 t
    refine x_iconst (v := nI 0) X dX5_readViewOf_44 (by decide) ?_
    exact x_ret X dX5_readViewOf_45 ⟨ret_i (by rw [show okV le nl pa s = false from by simp [okV, tellVok, c_5]]; rfl), ⟨pa_1, tl_2, rk, s, rfl, fun h => absurd (h.symm.trans (show okV le nl pa s = false from (by simp [okV, tellVok, c_5]))) (by decide), fun h => absurd (h.symm.trans (show okV le nl pa s = false from (by simp [okV, tellVok, c_5]))) (by decide), fun h => absurd (h.symm.trans (show okV le nl pa s = false from (by simp [okV, tellVok, c_5]))) (by decide)⟩, by decide, by decide⟩
  · -- 5 f
    have hc1 := of_decide_eq_true c_5
    obtain ⟨epa, etl⟩ := f_4 c_5
    have e0 : tl_2 0 = valN le nl pa := etl 0 (by decide)
    have e1 : tl_2 1 = valN le nl (nx le nl pa) := etl 1 (by decide)
    have e2 : tl_2 2 = valN le nl (nx le nl (nx le nl pa)) := etl 2 (by decide)
    refine x_aloadn X dX5_readViewOf_8 0 rfl ?_
    refine x_iconst (v := nI 0) X dX5_readViewOf_9 (by decide) ?_
    refine x_iconst (v := nI 0) X dX5_readViewOf_10 (by decide) ?_
    refine x_aloadn X dX5_readViewOf_11 0 rfl ?_
    refine x_get X wu_X5 0 rfl rfl 14 (by decide) wf_X5_57 rfl rfl dX5_readViewOf_12 ?_
    refine x_iconst (v := nI 1) X dX5_readViewOf_15 (by decide) ?_
    refine x_isub (v := (nI s.1) - (nI 1)) X dX5_readViewOf_16 rfl ?_
    refine x_callVrv (As := [.int (nI 0), .int (nI 0), .int ((nI s.1) - (nI 1))]) (rest := []) X (c_X5_isTold__q l G a np nq na nk ns nl pa_1 s.1 s.2.1 kd S W Kp sg le tl_2 rk (en s) nw rw 0 (nI 0) ((nI s.1) - (nI 1)) (by omega)) xE0_ok (fun _ _ _ => trivial) [0, 1, 2, 3, 4, 5, 6, 7, 8, 9, 10, 11] rfl 0 rfl rfl rfl rfl wco_X5_isTold wi_X5 xd_X5_isTold wl_X5_87 win_X5_isTold wse_X5_isTold (by decide) (Nat.le_of_ble_eq_true rfl) dX5_readViewOf_17 ?_
    refine x_ifeq_b 44 X dX5_readViewOf_20 (by decide) (fun c_6 => ?_) (fun c_6 => ?_)
    · -- 20 t
      rw [inB_pre hs6, e0] at c_6
      refine x_iconst (v := nI 0) X dX5_readViewOf_44 (by decide) ?_
      exact x_ret X dX5_readViewOf_45 ⟨ret_i (by rw [show okV le nl pa s = false from by simp [okV, tellVok, c_5, hc1, c_6]]; rfl), ⟨pa_1, tl_2, rk, s, rfl, fun h => absurd (h.symm.trans (show okV le nl pa s = false from (by simp [okV, tellVok, c_5, hc1, c_6]))) (by decide), fun h => absurd (h.symm.trans (show okV le nl pa s = false from (by simp [okV, tellVok, c_5, hc1, c_6]))) (by decide), fun h => absurd (h.symm.trans (show okV le nl pa s = false from (by simp [okV, tellVok, c_5, hc1, c_6]))) (by decide)⟩, by decide, by decide⟩
    · -- 20 f
      rw [inB_pre hs6, e0] at c_6
      have hv0 := inR_eq c_6 (by omega)
      refine x_aloadn X dX5_readViewOf_23 0 rfl ?_
      refine x_iconst (v := nI 1) X dX5_readViewOf_24 (by decide) ?_
      refine x_iconst (v := nI 0) X dX5_readViewOf_25 (by decide) ?_
      refine x_iconst (v := nI 4) X dX5_readViewOf_26 (by decide) ?_
      refine x_callVrv (As := [.int (nI 1), .int (nI 0), .int (nI 4)]) (rest := []) X (c_X5_isTold__p l G a np nq na nk ns nl pa_1 s.1 s.2.1 kd S W Kp sg le tl_2 rk (en s) nw rw 1 4 (by omega) (by omega)) xE0_ok (fun _ _ _ => trivial) [0, 1, 2, 3, 4, 5, 6, 7, 8, 9, 10, 11] rfl 0 rfl rfl rfl rfl wco_X5_isTold wi_X5 xd_X5_isTold wl_X5_87 win_X5_isTold wse_X5_isTold (by decide) (Nat.le_of_ble_eq_true rfl) dX5_readViewOf_27 ?_
      refine x_ifeq_b 44 X dX5_readViewOf_30 (by decide) (fun c_7 => ?_) (fun c_7 => ?_)
      · -- 30 t
        rw [e1] at c_7
        refine x_iconst (v := nI 0) X dX5_readViewOf_44 (by decide) ?_
        exact x_ret X dX5_readViewOf_45 ⟨ret_i (by rw [show okV le nl pa s = false from by simp [okV, tellVok, c_5, hc1, c_6, c_7]]; rfl), ⟨pa_1, tl_2, rk, s, rfl, fun h => absurd (h.symm.trans (show okV le nl pa s = false from (by simp [okV, tellVok, c_5, hc1, c_6, c_7]))) (by decide), fun h => absurd (h.symm.trans (show okV le nl pa s = false from (by simp [okV, tellVok, c_5, hc1, c_6, c_7]))) (by decide), fun h => absurd (h.symm.trans (show okV le nl pa s = false from (by simp [okV, tellVok, c_5, hc1, c_6, c_7]))) (by decide)⟩, by decide, by decide⟩
      · -- 30 f
        rw [e1] at c_7
        have hv1 := inR_eq c_7 (by decide)
        refine x_aloadn X dX5_readViewOf_33 0 rfl ?_
        refine x_iconst (v := nI 2) X dX5_readViewOf_34 (by decide) ?_
        refine x_iconst (v := nI 0) X dX5_readViewOf_35 (by decide) ?_
        refine x_bipush (v := nI 18) X dX5_readViewOf_36 (by decide) ?_
        refine x_callVrv (As := [.int (nI 2), .int (nI 0), .int (nI 18)]) (rest := []) X (c_X5_isTold__p l G a np nq na nk ns nl pa_1 s.1 s.2.1 kd S W Kp sg le tl_2 rk (en s) nw rw 2 18 (by omega) (by omega)) xE0_ok (fun _ _ _ => trivial) [0, 1, 2, 3, 4, 5, 6, 7, 8, 9, 10, 11] rfl 0 rfl rfl rfl rfl wco_X5_isTold wi_X5 xd_X5_isTold wl_X5_87 win_X5_isTold wse_X5_isTold (by decide) (Nat.le_of_ble_eq_true rfl) dX5_readViewOf_38 ?_
        refine x_ifne_b 46 X dX5_readViewOf_41 (by decide) (fun c_8 => ?_) (fun c_8 => ?_)
        · -- 41 t
          rw [e2] at c_8
          refine x_aloadn X dX5_readViewOf_46 0 rfl ?_
          refine x_get X wu_X5 0 rfl rfl 17 (by decide) wf_X5_34 rfl rfl dX5_readViewOf_47 ?_
          refine x_bipush (v := nI 6) X dX5_readViewOf_50 (by decide) ?_
          refine x_iconst (v := nI 5) X dX5_readViewOf_52 (by decide) ?_
          refine x_aloadn X dX5_readViewOf_53 0 rfl ?_
          refine x_get X wu_X5 0 rfl rfl 13 (by decide) wf_X5_28 rfl rfl dX5_readViewOf_54 ?_
          refine x_iconst (v := nI 0) X dX5_readViewOf_57 (by decide) ?_
          refine x_iald_n (v := nI (tn (valN le nl pa))) X 7 rfl (by omega) (by omega) (e0.trans hv0.1) dX5_readViewOf_58 ?_
          refine x_imul (v := nI (5 * (tn (valN le nl pa)))) X dX5_readViewOf_59 (pk_mul _ _) ?_
          refine x_iadd (v := nI (6 + (5 * (tn (valN le nl pa))))) X dX5_readViewOf_60 (nI_add _ _) ?_
          refine x_aloadn X dX5_readViewOf_61 0 rfl ?_
          refine x_get X wu_X5 0 rfl rfl 13 (by decide) wf_X5_28 rfl rfl dX5_readViewOf_62 ?_
          refine x_iconst (v := nI 1) X dX5_readViewOf_65 (by decide) ?_
          refine x_iald_n (v := nI (tn (valN le nl (nx le nl pa)))) X 7 rfl (by omega) (by omega) (e1.trans hv1.1) dX5_readViewOf_66 ?_
          refine x_iadd (v := nI ((6 + (5 * (tn (valN le nl pa)))) + (tn (valN le nl (nx le nl pa))))) X dX5_readViewOf_67 (nI_add _ _) ?_
          refine x_aloadn X dX5_readViewOf_68 0 rfl ?_
          refine x_get X wu_X5 0 rfl rfl 13 (by decide) wf_X5_28 rfl rfl dX5_readViewOf_69 ?_
          refine x_iconst (v := nI 2) X dX5_readViewOf_72 (by decide) ?_
          refine x_iald_n (v := valN le nl (nx le nl (nx le nl pa))) X 7 rfl (by omega) (by omega) e2 dX5_readViewOf_73 ?_
          refine x_bipush (v := nI 9) X dX5_readViewOf_74 (by decide) ?_
          refine x_isub (v := (valN le nl (nx le nl (nx le nl pa))) - (nI 9)) X dX5_readViewOf_76 rfl ?_
          refine x_iast_n (g := en (s.1, s.2.1, s.2.2.1, s.2.2.2.1, upd s.2.2.2.2.1 (tn (valN le nl pa) * 5 + tn (valN le nl (nx le nl pa))) (valN le nl (nx le nl (nx le nl pa)) - nI 9), s.2.2.2.2.2)) (ws' := wMo G a np nq na nk ns nl pa_1 s.1 s.2.1 kd S W Kp sg le tl_2 rk (en (s.1, s.2.1, s.2.2.1, s.2.2.2.1, upd s.2.2.2.2.1 (tn (valN le nl pa) * 5 + tn (valN le nl (nx le nl pa))) (valN le nl (nx le nl (nx le nl pa)) - nI 9), s.2.2.2.2.2)) nw rw) X 9 rfl (by omega) (by omega) (en_upvi _ _ _ _ (by omega) (by omega)) rfl dX5_readViewOf_77 ?_
          refine x_iconst (v := nI 1) X dX5_readViewOf_78 (by decide) ?_
          exact x_ret X dX5_readViewOf_79 ⟨ret_i (by rw [show okV le nl pa s = true from by simp [okV, tellVok, c_5, hc1, c_6, c_7, c_8]]; rfl), ⟨pa_1, tl_2, rk, (s.1, s.2.1, s.2.2.1, s.2.2.2.1, upd s.2.2.2.2.1 (tn (valN le nl pa) * 5 + tn (valN le nl (nx le nl pa))) (valN le nl (nx le nl (nx le nl pa)) - nI 9), s.2.2.2.2.2), rfl, fun _ => epa, fun _ => (tellV_y (by simp [tellVok, f_4, c_5, hc1, c_6, c_7, c_8])).symm, fun _ => hrk⟩, by decide, by decide⟩
        · -- 41 f
          rw [e2] at c_8
          refine x_iconst (v := nI 0) X dX5_readViewOf_44 (by decide) ?_
          exact x_ret X dX5_readViewOf_45 ⟨ret_i (by rw [show okV le nl pa s = false from by simp [okV, tellVok, c_5, hc1, c_6, c_7, c_8]]; rfl), ⟨pa_1, tl_2, rk, s, rfl, fun h => absurd (h.symm.trans (show okV le nl pa s = false from (by simp [okV, tellVok, c_5, hc1, c_6, c_7, c_8]))) (by decide), fun h => absurd (h.symm.trans (show okV le nl pa s = false from (by simp [okV, tellVok, c_5, hc1, c_6, c_7, c_8]))) (by decide), fun h => absurd (h.symm.trans (show okV le nl pa s = false from (by simp [okV, tellVok, c_5, hc1, c_6, c_7, c_8]))) (by decide)⟩, by decide, by decide⟩
set_option maxRecDepth 100000 in
set_option maxHeartbeats 4000000 in
/-- X5_readPapersOf -/
theorem c_X5_readPapersOf (l : Launch) (G : xG) (a : Nat → Nat) (np : Nat) (nq : Nat) (na : Nat) (nk : Nat) (ns : Nat) (nl : Nat) (pa : Nat) (kd : Nat → Int32) (S : Nat → Int32) (W : Nat → Int32) (Kp : Nat → Int32) (sg : Nat → Int32) (le : Nat → Int32) (tl : Nat → Int32) (rk : Nat → Int32) (nw : Nat → Int32) (rw : Nat → Int32) (s : xS) (hp : pa ≤ 300) (hl : nl ≤ 200) (hs6 : s.1 ≤ 6) (hrk : ∀ j, j < s.1 → rk j = s.2.2.1 j) : xM l G xE0 yX5_readPapersOf cX5_readPapersOf 2 (some .boolean) 3 64 0 0 [.ref (a 0)] (wMo G a np nq na nk ns nl pa s.1 s.2.1 kd S W Kp sg le tl rk (en s) nw rw) (some (.int (bI (okQ le nl pa s)))) (fun w2 => ∃ pa' : Nat, ∃ tl' : Nat → Int32, ∃ rk' : Nat → Int32, ∃ s' : xS, w2 = wMo G a np nq na nk ns nl pa' s'.1 s'.2.1 kd S W Kp sg le tl' rk' (en s') nw rw ∧ (okQ le nl pa s = true → pa' = (rdN le nl 3 pa).2) ∧ (okQ le nl pa s = true → s' = tellQ s (valN le nl pa)) ∧ (okQ le nl pa s = true → ∀ j, j < s'.1 → rk' j = s'.2.2.1 j)) := by
  refine x_entry (by decide +kernel) (Nat.le_of_ble_eq_true rfl) rfl ⟨_, rfl, bI_narrow _⟩ (fun K X => ?_)
  refine x_aloadn X dX5_readPapersOf_0 0 rfl ?_
  refine x_iconst (v := nI 1) X dX5_readPapersOf_1 (by decide) ?_
  refine x_callV (As := [.int (nI 1)]) (rest := []) X (c_X5_readNumbers l G a np nq na nk ns nl pa s.1 s.2.1 kd S W Kp sg le tl rk (en s) nw rw 1 (by omega) (by omega) (by omega) (by omega)) xE0_ok (fun _ _ _ => trivial) [0, 1, 2, 3, 4, 5, 6, 7, 8, 9, 10, 11] rfl 0 rfl rfl rfl rfl wco_X5_readNumbers wi_X5 xd_X5_readNumbers wl_X5_84 win_X5_readNumbers wse_X5_readNumbers (by decide) (Nat.le_of_ble_eq_true rfl) dX5_readPapersOf_2 (fun w2 h => by obtain ⟨_, _, rfl, -⟩ := h; exact ⟨rfl, Eq.trans (b := [a 0, a 1, a 2, a 3, a 4, a 5, a 6, a 7, a 8, a 9, a 10, a 11]) rfl rfl⟩) (fun w_3 hw_3 => ?_)
  obtain ⟨pa_1, tl_2, rfl, f_4⟩ := hw_3
  refine x_wst (ws' := wMo G a np nq na nk ns nl pa_1 s.1 s.2.1 kd S W Kp sg le tl_2 rk (en s) nw rw) (st' := [.int (bI (decide ((rdN le nl 3 pa).1 = 1)))]) rfl rfl ?_
  refine x_ifeq_b 22 X dX5_readPapersOf_5 (by decide) (fun c_5 => ?_) (fun c_5 => ?_)
  · -- 5 t
    refine x_iconst (v := nI 0) X dX5_readPapersOf_22 (by decide) ?_
    refine x_istoren (lv' := [(1, .int (nI 0)), (0, .ref (a 0))]) X dX5_readPapersOf_23 (by decide) rfl ?_
    refine x_aloadn X dX5_readPapersOf_24 1 rfl ?_
    refine x_iloadn X dX5_readPapersOf_25 0 rfl ?_
    refine x_if_eq_n 38 X dX5_readPapersOf_26 (by decide) (by omega) (fun c_6 => ?_) (fun c_6 => ?_)
    · -- 26 t
      refine x_aloadn X dX5_readPapersOf_38 1 rfl ?_
      refine x_get X wu_X5 0 rfl rfl 16 (by decide) wf_X5_50 rfl rfl dX5_readPapersOf_39 ?_
      refine x_put (ws' := wMo G a np nq na nk ns nl pa_1 s.1 s.2.1 kd S W Kp sg le tl_2 rk (en s) nw rw) (ty := tyX5 16) X wu_X5 tyX5_ok nmX5 0 rfl rfl 16 (by decide) wf_X5_50 rfl rfl (by decide +kernel) rfl rfl (Nat.le_of_ble_eq_true rfl) rfl dX5_readPapersOf_42 ?_
      refine x_iloadn X dX5_readPapersOf_45 0 rfl ?_
      exact x_ret X dX5_readPapersOf_46 ⟨ret_i (by rw [show okQ le nl pa s = false from by simp [okQ, tQ_B, c_5]]; rfl), ⟨pa_1, tl_2, rk, s, rfl, fun h => absurd (h.symm.trans (show okQ le nl pa s = false from (by simp [okQ, tQ_B, c_5]))) (by decide), fun h => absurd (h.symm.trans (show okQ le nl pa s = false from (by simp [okQ, tQ_B, c_5]))) (by decide), fun h => absurd (h.symm.trans (show okQ le nl pa s = false from (by simp [okQ, tQ_B, c_5]))) (by decide)⟩, by decide, by decide⟩
    · -- 26 f
      exact absurd c_6 (by omega)
  · -- 5 f
    have hc1 := of_decide_eq_true c_5
    obtain ⟨epa, etl⟩ := f_4 c_5
    have e0 : tl_2 0 = valN le nl pa := etl 0 (by decide)
    refine x_aloadn X dX5_readPapersOf_8 0 rfl ?_
    refine x_iconst (v := nI 0) X dX5_readPapersOf_9 (by decide) ?_
    refine x_iconst (v := nI 1) X dX5_readPapersOf_10 (by decide) ?_
    refine x_iconst (v := nI 5) X dX5_readPapersOf_11 (by decide) ?_
    refine x_callVrv (As := [.int (nI 0), .int (nI 1), .int (nI 5)]) (rest := []) X (c_X5_isTold__q l G a np nq na nk ns nl pa_1 s.1 s.2.1 kd S W Kp sg le tl_2 rk (en s) nw rw 0 (nI 1) (nI 5) (by omega)) xE0_ok (fun _ _ _ => trivial) [0, 1, 2, 3, 4, 5, 6, 7, 8, 9, 10, 11] rfl 0 rfl rfl rfl rfl wco_X5_isTold wi_X5 xd_X5_isTold wl_X5_87 win_X5_isTold wse_X5_isTold (by decide) (Nat.le_of_ble_eq_true rfl) dX5_readPapersOf_12 ?_
    refine x_ifeq_b 22 X dX5_readPapersOf_15 (by decide) (fun c_7 => ?_) (fun c_7 => ?_)
    · -- 15 t
      rw [e0] at c_7
      refine x_iconst (v := nI 0) X dX5_readPapersOf_22 (by decide) ?_
      refine x_istoren (lv' := [(1, .int (nI 0)), (0, .ref (a 0))]) X dX5_readPapersOf_23 (by decide) rfl ?_
      refine x_aloadn X dX5_readPapersOf_24 1 rfl ?_
      refine x_iloadn X dX5_readPapersOf_25 0 rfl ?_
      refine x_if_eq_n 38 X dX5_readPapersOf_26 (by decide) (by omega) (fun c_8 => ?_) (fun c_8 => ?_)
      · -- 26 t
        refine x_aloadn X dX5_readPapersOf_38 1 rfl ?_
        refine x_get X wu_X5 0 rfl rfl 16 (by decide) wf_X5_50 rfl rfl dX5_readPapersOf_39 ?_
        refine x_put (ws' := wMo G a np nq na nk ns nl pa_1 s.1 s.2.1 kd S W Kp sg le tl_2 rk (en s) nw rw) (ty := tyX5 16) X wu_X5 tyX5_ok nmX5 0 rfl rfl 16 (by decide) wf_X5_50 rfl rfl (by decide +kernel) rfl rfl (Nat.le_of_ble_eq_true rfl) rfl dX5_readPapersOf_42 ?_
        refine x_iloadn X dX5_readPapersOf_45 0 rfl ?_
        exact x_ret X dX5_readPapersOf_46 ⟨ret_i (by rw [show okQ le nl pa s = false from by simp [okQ, tQ_B, c_5, hc1, c_7]]; rfl), ⟨pa_1, tl_2, rk, s, rfl, fun h => absurd (h.symm.trans (show okQ le nl pa s = false from (by simp [okQ, tQ_B, c_5, hc1, c_7]))) (by decide), fun h => absurd (h.symm.trans (show okQ le nl pa s = false from (by simp [okQ, tQ_B, c_5, hc1, c_7]))) (by decide), fun h => absurd (h.symm.trans (show okQ le nl pa s = false from (by simp [okQ, tQ_B, c_5, hc1, c_7]))) (by decide)⟩, by decide, by decide⟩
      · -- 26 f
        exact absurd c_8 (by omega)
    · -- 15 f
      rw [e0] at c_7
      have hv0 := tQ_n c_7
      refine x_iconst (v := nI 1) X dX5_readPapersOf_18 (by decide) ?_
      refine x_goto 23 X dX5_readPapersOf_19 (by decide) ?_
      refine x_istoren (lv' := [(1, .int (nI 1)), (0, .ref (a 0))]) X dX5_readPapersOf_23 (by decide) rfl ?_
      refine x_aloadn X dX5_readPapersOf_24 1 rfl ?_
      refine x_iloadn X dX5_readPapersOf_25 0 rfl ?_
      refine x_if_eq_n 38 X dX5_readPapersOf_26 (by decide) (by omega) (fun c_9 => ?_) (fun c_9 => ?_)
      · -- 26 t
        exact absurd c_9 (by omega)
      · -- 26 f
        refine x_aloadn X dX5_readPapersOf_29 1 rfl ?_
        refine x_get X wu_X5 0 rfl rfl 13 (by decide) wf_X5_28 rfl rfl dX5_readPapersOf_30 ?_
        refine x_iconst (v := nI 0) X dX5_readPapersOf_33 (by decide) ?_
        refine x_iald_n (v := nI (tn (valN le nl pa))) X 7 rfl (by omega) (by omega) (e0.trans hv0.1) dX5_readPapersOf_34 ?_
        refine x_goto 42 X dX5_readPapersOf_35 (by decide) ?_
        refine x_put (ws' := wMo G a np nq na nk ns nl pa_1 s.1 (tn (valN le nl pa)) kd S W Kp sg le tl_2 rk (en s) nw rw) (ty := tyX5 16) X wu_X5 tyX5_ok nmX5 0 rfl rfl 16 (by decide) wf_X5_50 rfl rfl (by decide +kernel) rfl rfl (Nat.le_of_ble_eq_true rfl) rfl dX5_readPapersOf_42 ?_
        refine x_iloadn X dX5_readPapersOf_45 0 rfl ?_
        exact x_ret X dX5_readPapersOf_46 ⟨ret_i (by rw [show okQ le nl pa s = true from by simp [okQ, tQ_B, c_5, hc1, c_7]]; rfl), ⟨pa_1, tl_2, rk, (s.1, tn (valN le nl pa), s.2.2.1, s.2.2.2.1, s.2.2.2.2.1, s.2.2.2.2.2), rfl, fun _ => epa, fun _ => (tellQ_y (by simp [tQ_B, f_4, c_5, hc1, c_7])).symm, fun _ => hrk⟩, by decide, by decide⟩
set_option maxRecDepth 100000 in
set_option maxHeartbeats 4000000 in
/-- X5_readItem -/
theorem c_X5_readItem (l : Launch) (G : xG) (a : Nat → Nat) (np : Nat) (nq : Nat) (na : Nat) (nk : Nat) (ns : Nat) (nl : Nat) (pa : Nat) (kd : Nat → Int32) (S : Nat → Int32) (W : Nat → Int32) (Kp : Nat → Int32) (sg : Nat → Int32) (le : Nat → Int32) (tl : Nat → Int32) (rk : Nat → Int32) (nw : Nat → Int32) (rw : Nat → Int32) (s : xS) (hp : pa < nl) (hl : nl ≤ 200) (hs6 : s.1 ≤ 6) (hrk : ∀ j, j < s.1 → rk j = s.2.2.1 j) : xM l G xE0 yX5_readItem cX5_readItem 2 (some .boolean) 4 85 0 0 [.ref (a 0)] (wMo G a np nq na nk ns nl pa s.1 s.2.1 kd S W Kp sg le tl rk (en s) nw rw) (some (.int (bI (okI le nl pa s)))) (fun w2 => ∃ pa' : Nat, ∃ tl' : Nat → Int32, ∃ rk' : Nat → Int32, ∃ s' : xS, w2 = wMo G a np nq na nk ns nl pa' s'.1 s'.2.1 kd S W Kp sg le tl' rk' (en s') nw rw ∧ (okI le nl pa s = true → pa' = (rdN le nl 3 (pa + 1)).2) ∧ (okI le nl pa s = true → s' = stI le nl pa s) ∧ (okI le nl pa s = true → ∀ j, j < s'.1 → rk' j = s'.2.2.1 j)) := by
  refine x_entry (by decide +kernel) (Nat.le_of_ble_eq_true rfl) rfl ⟨_, rfl, bI_narrow _⟩ (fun K X => ?_)
  refine x_aloadn X dX5_readItem_0 0 rfl ?_
  refine x_aloadn X dX5_readItem_1 0 rfl ?_
  refine x_get X wu_X5 0 rfl rfl 12 (by decide) wf_X5_73 rfl rfl dX5_readItem_2 ?_
  refine x_callVrv (As := [.int (nI pa)]) (rest := []) X (c_X5_letterAt l G a np nq na nk ns nl pa s.1 s.2.1 kd S W Kp sg le tl rk (en s) nw rw pa (by omega) (by omega)) xE0_ok (fun _ _ _ => trivial) [0, 1, 2, 3, 4, 5, 6, 7, 8, 9, 10, 11] rfl 0 rfl rfl rfl rfl wco_X5_letterAt wi_X5 xd_X5_letterAt wl_X5_76 win_X5_letterAt wse_X5_letterAt (by decide) (Nat.le_of_ble_eq_true rfl) dX5_readItem_5 ?_
  refine x_istoren (lv' := [(1, .int (ltM le nl pa)), (0, .ref (a 0))]) X dX5_readItem_8 (by decide) rfl ?_
  refine x_aloadn X dX5_readItem_9 1 rfl ?_
  refine x_dup X dX5_readItem_10 rfl ?_
  refine x_get X wu_X5 0 rfl rfl 12 (by decide) wf_X5_73 rfl rfl dX5_readItem_11 ?_
  refine x_iconst (v := nI 1) X dX5_readItem_14 (by decide) ?_
  refine x_iadd (v := nI (pa + 1)) X dX5_readItem_15 (nI_add _ _) ?_
  refine x_put (ws' := wMo G a np nq na nk ns nl (pa + 1) s.1 s.2.1 kd S W Kp sg le tl rk (en s) nw rw) (ty := tyX5 12) X wu_X5 tyX5_ok nmX5 0 rfl rfl 12 (by decide) wf_X5_73 rfl rfl (by decide +kernel) rfl rfl (Nat.le_of_ble_eq_true rfl) rfl dX5_readItem_16 ?_
  refine x_iloadn X dX5_readItem_19 0 rfl ?_
  by_cases c_1 : ltM le nl pa = 97
  · -- case 97
    refine x_int c_1 ?_
    refine x_lookup (off := 46) 66 X dX5_readItem_20 (by decide) (by decide) (by decide) ?_
    refine x_aloadn X dX5_readItem_66 1 rfl ?_
    refine x_callV (As := []) (rest := []) X (c_X5_readPapersOf l G a np nq na nk ns nl (pa + 1) kd S W Kp sg le tl rk nw rw s (by omega) (by omega) (by omega) (by assumption)) xE0_ok (fun _ _ _ => trivial) [0, 1, 2, 3, 4, 5, 6, 7, 8, 9, 10, 11] rfl 0 rfl rfl rfl rfl wco_X5_readPapersOf wi_X5 xd_X5_readPapersOf wl_X5_97 win_X5_readPapersOf wse_X5_readPapersOf (by decide) (Nat.le_of_ble_eq_true rfl) dX5_readItem_67 (fun w2 h => by obtain ⟨_, _, _, _, rfl, -⟩ := h; exact ⟨rfl, Eq.trans (b := [a 0, a 1, a 2, a 3, a 4, a 5, a 6, a 7, a 8, a 9, a 10, a 11]) rfl rfl⟩) (fun w_6 hw_6 => ?_)
    obtain ⟨pa_2, tl_3, rk_4, s_5, rfl, f_7, f_8, f_9⟩ := hw_6
    refine x_wst (ws' := wMo G a np nq na nk ns nl pa_2 s_5.1 s_5.2.1 kd S W Kp sg le tl_3 rk_4 (en s_5) nw rw) (st' := [.int (bI (okQ le nl (pa + 1) s))]) rfl rfl ?_
    exact x_ret X dX5_readItem_70 ⟨ret_i (by rw [okI_Q ((ltM_eq (by decide) (by decide)).mp c_1)]), ⟨pa_2, tl_3, rk_4, s_5, rfl, fun h => f_7 ((okI_Q ((ltM_eq (by decide) (by decide)).mp c_1)).symm.trans h), fun h => (f_8 ((okI_Q ((ltM_eq (by decide) (by decide)).mp c_1)).symm.trans h)).trans (stI_Q ((ltM_eq (by decide) (by decide)).mp c_1) h).symm, fun h => f_9 ((okI_Q ((ltM_eq (by decide) (by decide)).mp c_1)).symm.trans h)⟩, by decide, by decide⟩
  by_cases c_10 : ltM le nl pa = 112
  · -- case 112
    refine x_int c_10 ?_
    refine x_lookup (off := 36) 56 X dX5_readItem_20 (by decide) (by decide) (by decide) ?_
    refine x_aloadn X dX5_readItem_56 1 rfl ?_
    refine x_callV (As := []) (rest := []) X (c_X5_readPersonOf l G a np nq na nk ns nl (pa + 1) kd S W Kp sg le tl rk nw rw s (by omega) (by omega) (by omega) (by assumption)) xE0_ok (fun _ _ _ => trivial) [0, 1, 2, 3, 4, 5, 6, 7, 8, 9, 10, 11] rfl 0 rfl rfl rfl rfl wco_X5_readPersonOf wi_X5 xd_X5_readPersonOf wl_X5_90 win_X5_readPersonOf wse_X5_readPersonOf (by decide) (Nat.le_of_ble_eq_true rfl) dX5_readItem_57 (fun w2 h => by obtain ⟨_, _, _, _, rfl, -⟩ := h; exact ⟨rfl, Eq.trans (b := [a 0, a 1, a 2, a 3, a 4, a 5, a 6, a 7, a 8, a 9, a 10, a 11]) rfl rfl⟩) (fun w_15 hw_15 => ?_)
    obtain ⟨pa_11, tl_12, rk_13, s_14, rfl, f_16, f_17, f_18⟩ := hw_15
    refine x_wst (ws' := wMo G a np nq na nk ns nl pa_11 s_14.1 s_14.2.1 kd S W Kp sg le tl_12 rk_13 (en s_14) nw rw) (st' := [.int (bI (okP le nl (pa + 1) s))]) rfl rfl ?_
    exact x_ret X dX5_readItem_60 ⟨ret_i (by rw [okI_P ((ltM_eq (by decide) (by decide)).mp c_10)]), ⟨pa_11, tl_12, rk_13, s_14, rfl, fun h => f_16 ((okI_P ((ltM_eq (by decide) (by decide)).mp c_10)).symm.trans h), fun h => (f_17 ((okI_P ((ltM_eq (by decide) (by decide)).mp c_10)).symm.trans h)).trans (stI_P ((ltM_eq (by decide) (by decide)).mp c_10) h).symm, fun h => f_18 ((okI_P ((ltM_eq (by decide) (by decide)).mp c_10)).symm.trans h)⟩, by decide, by decide⟩
  by_cases c_19 : ltM le nl pa = 118
  · -- case 118
    refine x_int c_19 ?_
    refine x_lookup (off := 41) 61 X dX5_readItem_20 (by decide) (by decide) (by decide) ?_
    refine x_aloadn X dX5_readItem_61 1 rfl ?_
    refine x_callV (As := []) (rest := []) X (c_X5_readViewOf l G a np nq na nk ns nl (pa + 1) kd S W Kp sg le tl rk nw rw s (by omega) (by omega) (by omega) (by assumption)) xE0_ok (fun _ _ _ => trivial) [0, 1, 2, 3, 4, 5, 6, 7, 8, 9, 10, 11] rfl 0 rfl rfl rfl rfl wco_X5_readViewOf wi_X5 xd_X5_readViewOf wl_X5_94 win_X5_readViewOf wse_X5_readViewOf (by decide) (Nat.le_of_ble_eq_true rfl) dX5_readItem_62 (fun w2 h => by obtain ⟨_, _, _, _, rfl, -⟩ := h; exact ⟨rfl, Eq.trans (b := [a 0, a 1, a 2, a 3, a 4, a 5, a 6, a 7, a 8, a 9, a 10, a 11]) rfl rfl⟩) (fun w_24 hw_24 => ?_)
    obtain ⟨pa_20, tl_21, rk_22, s_23, rfl, f_25, f_26, f_27⟩ := hw_24
    refine x_wst (ws' := wMo G a np nq na nk ns nl pa_20 s_23.1 s_23.2.1 kd S W Kp sg le tl_21 rk_22 (en s_23) nw rw) (st' := [.int (bI (okV le nl (pa + 1) s))]) rfl rfl ?_
    exact x_ret X dX5_readItem_65 ⟨ret_i (by rw [okI_V ((ltM_eq (by decide) (by decide)).mp c_19)]), ⟨pa_20, tl_21, rk_22, s_23, rfl, fun h => f_25 ((okI_V ((ltM_eq (by decide) (by decide)).mp c_19)).symm.trans h), fun h => (f_26 ((okI_V ((ltM_eq (by decide) (by decide)).mp c_19)).symm.trans h)).trans (stI_V ((ltM_eq (by decide) (by decide)).mp c_19) h).symm, fun h => f_27 ((okI_V ((ltM_eq (by decide) (by decide)).mp c_19)).symm.trans h)⟩, by decide, by decide⟩
  refine x_lookup (off := 51) 71 X dX5_readItem_20 (by decide) (by show Op.lookupswitch.offset [(97, 46), (112, 36), (118, 41)] 51 (ltM le nl pa).toInt = 51; rw [lv_osw (a := 97) c_1 rfl, lv_osw (a := 112) c_10 rfl, lv_osw (a := 118) c_19 rfl]; rfl) (by decide) ?_
  refine x_iconst (v := nI 0) X dX5_readItem_71 (by decide) ?_
  exact x_ret X dX5_readItem_72 ⟨ret_i (by rw [(okI_no (fun e => c_1 ((ltM_eq (by decide) (by decide)).mpr e)) (fun e => c_10 ((ltM_eq (by decide) (by decide)).mpr e)) (fun e => c_19 ((ltM_eq (by decide) (by decide)).mpr e)))]; rfl), ⟨(pa + 1), tl, rk, s, rfl, fun h => absurd (h.symm.trans (okI_no (fun e => c_1 ((ltM_eq (by decide) (by decide)).mpr e)) (fun e => c_10 ((ltM_eq (by decide) (by decide)).mpr e)) (fun e => c_19 ((ltM_eq (by decide) (by decide)).mpr e)))) (by decide), fun h => absurd (h.symm.trans (okI_no (fun e => c_1 ((ltM_eq (by decide) (by decide)).mpr e)) (fun e => c_10 ((ltM_eq (by decide) (by decide)).mpr e)) (fun e => c_19 ((ltM_eq (by decide) (by decide)).mpr e)))) (by decide), fun h => absurd (h.symm.trans (okI_no (fun e => c_1 ((ltM_eq (by decide) (by decide)).mpr e)) (fun e => c_10 ((ltM_eq (by decide) (by decide)).mpr e)) (fun e => c_19 ((ltM_eq (by decide) (by decide)).mpr e)))) (by decide)⟩, by decide, by decide⟩
set_option maxRecDepth 100000 in
set_option maxHeartbeats 4000000 in
/-- X5_fault -/
theorem c_X5_fault (l : Launch) (G : xG) (a : Nat → Nat) (np : Nat) (nq : Nat) (na : Nat) (nk : Nat) (ns : Nat) (nl : Nat) (pa : Nat) (rp : Nat) (rq : Nat) (kd : Nat → Int32) (S : Nat → Int32) (W : Nat → Int32) (Kp : Nat → Int32) (sg : Nat → Int32) (le : Nat → Int32) (tl : Nat → Int32) (rk : Nat → Int32) (rd : Nat → Int32) (nw : Nat → Int32) (rw : Nat → Int32) (hl : nl ≤ 200) : xM l G xE0 yX5_fault cX5_fault 2 (some .int) 5 106 0 0 [.ref (a 0)] (wMo G a np nq na nk ns nl pa rp rq kd S W Kp sg le tl rk rd nw rw) (some (.int ((prsT le nl).1))) (fun w2 => ∃ pa' : Nat, ∃ tl' : Nat → Int32, ∃ rk' : Nat → Int32, ∃ s' : xS, w2 = wMo G a np nq na nk ns nl pa' s'.1 s'.2.1 kd S W Kp sg le tl' rk' (en s') nw rw ∧ ((prsT le nl).1 = (-4) → s' = (prsT le nl).2 ∧ ∀ j, j < s'.1 → rk' j = s'.2.2.1 j)) := by
  refine x_entry (by decide +kernel) (Nat.le_of_ble_eq_true rfl) rfl ⟨_, rfl, rfl⟩ (fun K X => ?_)
  refine x_aloadn X dX5_fault_0 0 rfl ?_
  refine x_iconst (v := nI 0) X dX5_fault_1 (by decide) ?_
  refine x_put (ws' := wMo G a np nq na nk ns nl 0 rp rq kd S W Kp sg le tl rk rd nw rw) (ty := tyX5 12) X wu_X5 tyX5_ok nmX5 0 rfl rfl 12 (by decide) wf_X5_73 rfl rfl (by decide +kernel) rfl rfl (Nat.le_of_ble_eq_true rfl) rfl dX5_fault_2 ?_
  refine x_aloadn X dX5_fault_5 0 rfl ?_
  refine x_callVf0 (As := []) (rest := []) (w1 := wMo G a np nq na nk ns nl 0 0 3 kd S W Kp sg le tl rk (fun _ => nI 0) nw rw) (ws' := wMo G a np nq na nk ns nl 0 0 3 kd S W Kp sg le tl rk (fun _ => nI 0) nw rw) X (c_X5_clearTold l G a np nq na nk ns nl 0 rp rq kd S W Kp sg le tl rk rd nw rw) xE0_ok (fun _ _ _ => trivial) [0, 1, 2, 3, 4, 5, 6, 7, 8, 9, 10, 11] rfl 0 rfl rfl rfl rfl wco_X5_clearTold wi_X5 xd_X5_clearTold wl_X5_43 win_X5_clearTold wse_X5_clearTold (by decide) (Nat.le_of_ble_eq_true rfl) dX5_fault_6 rfl (Eq.trans (b := [a 0, a 1, a 2, a 3, a 4, a 5, a 6, a 7, a 8, a 9, a 10, a 11]) rfl rfl) rfl ?_
  refine x_rowc (ws' := wMo G a np nq na nk ns nl 0 0 3 kd S W Kp sg le tl rk (en blankS) nw rw) (en blankS) X 9 rfl (fun k hk => congrFun en_blank k) rfl ?_
  refine x_wst (ws' := wMo G a np nq na nk ns nl 0 blankS.1 blankS.2.1 kd S W Kp sg le tl rk (en blankS) nw rw) (st' := []) rfl rfl ?_
  have L9 : ∀ (fu : Nat) (i : Nat) (p : Nat) (V : Nat → Int32) (rk2 : Nat → Int32) (s : xS), nl - p < fu → (i ≤ p) → (p ≤ nl) → (s.1 ≤ 6) → (∀ j, j < s.1 → rk2 j = s.2.2.1 j) → (prs le nl (200 - i) p s = prsT le nl) → K (wMo G a np nq na nk ns nl p s.1 s.2.1 kd S W Kp sg le V rk2 (en s) nw rw) 0 0 9 [(0, .ref (a 0))] [] := by
    intro fu
    induction fu with
    | zero => intro i p V rk2 s hfu; exact absurd hfu (Nat.not_lt_zero _)
    | succ fu ih_L9 =>
      intro i p V rk2 s hfu_L9 hi hp hs6 hrk hR
      refine x_aloadn X dX5_fault_9 0 rfl ?_
      refine x_get X wu_X5 0 rfl rfl 12 (by decide) wf_X5_73 rfl rfl dX5_fault_10 ?_
      refine x_aloadn X dX5_fault_13 0 rfl ?_
      refine x_get X wu_X5 0 rfl rfl 11 (by decide) wf_X5_70 rfl rfl dX5_fault_14 ?_
      refine x_icmp_ge_n 37 X dX5_fault_17 (by decide) (by omega) (by omega) (fun c_1 => ?_) (fun c_1 => ?_)
      · -- 17 t
        have n_1 := Nat.not_lt.mpr c_1
        refine x_bipush (v := (-4)) X dX5_fault_37 (by decide) ?_
        exact x_ret X dX5_fault_39 ⟨ret_i (by rw [← hR, prs_end (by omega)]), ⟨p, V, rk2, s, rfl, fun _ => ⟨by rw [← hR, prs_end (by omega)], hrk⟩⟩, by decide, by decide⟩
      · -- 17 f
        refine x_aloadn X dX5_fault_20 0 rfl ?_
        refine x_get X wu_X5 0 rfl rfl 12 (by decide) wf_X5_73 rfl rfl dX5_fault_21 ?_
        refine x_istoren (lv' := [(1, .int (nI p)), (0, .ref (a 0))]) X dX5_fault_24 (by decide) rfl ?_
        refine x_aloadn X dX5_fault_25 1 rfl ?_
        refine x_callV (As := []) (rest := []) X (c_X5_readItem l G a np nq na nk ns nl p kd S W Kp sg le V rk2 nw rw s (by omega) (by omega) (by omega) (by assumption)) xE0_ok (fun _ _ _ => trivial) [0, 1, 2, 3, 4, 5, 6, 7, 8, 9, 10, 11] rfl 0 rfl rfl rfl rfl wco_X5_readItem wi_X5 xd_X5_readItem wl_X5_100 win_X5_readItem wse_X5_readItem (by decide) (Nat.le_of_ble_eq_true rfl) dX5_fault_26 (fun w2 h => by obtain ⟨_, _, _, _, rfl, -⟩ := h; exact ⟨rfl, Eq.trans (b := [a 0, a 1, a 2, a 3, a 4, a 5, a 6, a 7, a 8, a 9, a 10, a 11]) rfl rfl⟩) (fun w_6 hw_6 => ?_)
        obtain ⟨pa_2, tl_3, rk_4, s_5, rfl, f_7, f_8, f_9⟩ := hw_6
        refine x_wst (ws' := wMo G a np nq na nk ns nl pa_2 s_5.1 s_5.2.1 kd S W Kp sg le tl_3 rk_4 (en s_5) nw rw) (st' := [.int (bI (okI le nl p s))]) rfl rfl ?_
        refine x_ifne_b 34 X dX5_fault_29 (by decide) (fun c_10 => ?_) (fun c_10 => ?_)
        · -- 29 t
          have hrc := rdN_le le nl 3 (p + 1) (okI_c c_10)
          have ep := f_7 c_10
          have es := f_8 c_10
          have hk2 := f_9 c_10
          refine x_goto 9 X dX5_fault_34 (by decide) ?_
          refine x_lv (lv' := [(0, .ref (a 0))]) X [1] rfl ?_
          exact ih_L9 (i + 1) pa_2 tl_3 rk_4 s_5 (by omega) (by omega) (by omega) (by rw [es]; exact itS_le hs6) (hk2) (by rw [ep, es, ← hR, show 200 - i = (200 - (i + 1)) + 1 by omega, prs_y (by omega) c_10])
        · -- 29 f
          refine x_iloadn X dX5_fault_32 0 rfl ?_
          exact x_ret X dX5_fault_33 ⟨ret_i (by rw [← hR, show 200 - i = (199 - i) + 1 by omega, prs_n (by omega) c_10]), ⟨pa_2, tl_3, rk_4, s_5, rfl, fun h => absurd (by rw [← h, ← hR, show 200 - i = (199 - i) + 1 by omega, prs_n (by omega) c_10]) (nI_n4 (p := p) (by omega))⟩, by decide, by decide⟩
  exact L9 _ 0 0 tl rk blankS (Nat.lt_succ_self _) (by omega) (by omega) (by decide) (fun j hj => absurd hj (Nat.not_lt_zero _)) (rfl)
set_option maxRecDepth 100000 in
set_option maxHeartbeats 4000000 in
/-- X5_lay -/
theorem c_X5_lay (l : Launch) (G : xG) (a : Nat → Nat) (na : Nat) (nk : Nat) (ns : Nat) (nl : Nat) (pa : Nat) (rp : Nat) (rq : Nat) (kd : Nat → Int32) (W : Nat → Int32) (Kp : Nat → Int32) (sg : Nat → Int32) (le : Nat → Int32) (tl : Nat → Int32) (rk : Nat → Int32) (rd : Nat → Int32) (nw : Nat → Int32) (rw : Nat → Int32) (s : xS) (hl : nl ≤ 200) (hkd : ∀ p, p < s.1 → kd p = s.2.2.1 p) : xM l G xE0 yX5_lay cX5_lay 2 (some .int) 6 127 0 0 [.ref (a 0)] (wMo G a s.1 s.2.1 na nk ns nl pa rp rq kd (en s) W Kp sg le tl rk rd nw rw) (some (.int (F_lay (prsT le nl)))) (fun w2 => ∃ pa' : Nat, ∃ tl' : Nat → Int32, ∃ rp' : Nat, ∃ rq' : Nat, ∃ rk' : Nat → Int32, ∃ rd' : Nat → Int32, ∃ kd' : Nat → Int32, w2 = wMo G a ((lyS le nl s).1) ((lyS le nl s).2.1) (l0 (F_layOk (prsT le nl)) na) (l0 (F_layOk (prsT le nl)) nk) (l0 (F_layOk (prsT le nl)) ns) nl pa' rp' rq' kd' (en (lyS le nl s)) W Kp sg le tl' rk' rd' nw rw ∧ (∀ j, j < (lyS le nl s).1 → kd' j = (lyS le nl s).2.2.1 j)) := by
  refine x_entry (by decide +kernel) (Nat.le_of_ble_eq_true rfl) rfl ⟨_, rfl, rfl⟩ (fun K X => ?_)
  refine x_aloadn X dX5_lay_0 0 rfl ?_
  refine x_callV (As := []) (rest := []) X (c_X5_fault l G a s.1 s.2.1 na nk ns nl pa rp rq kd (en s) W Kp sg le tl rk rd nw rw (by omega)) xE0_ok (fun _ _ _ => trivial) [0, 1, 2, 3, 4, 5, 6, 7, 8, 9, 10, 11] rfl 0 rfl rfl rfl rfl wco_X5_fault wi_X5 xd_X5_fault wl_X5_103 win_X5_fault wse_X5_fault (by decide) (Nat.le_of_ble_eq_true rfl) dX5_lay_1 (fun w2 h => by obtain ⟨_, _, _, _, rfl, -⟩ := h; exact ⟨rfl, Eq.trans (b := [a 0, a 1, a 2, a 3, a 4, a 5, a 6, a 7, a 8, a 9, a 10, a 11]) rfl rfl⟩) (fun w_5 hw_5 => ?_)
  obtain ⟨pa_1, tl_2, rk_3, s_4, rfl, f_6⟩ := hw_5
  refine x_wst (ws' := wMo G a s.1 s.2.1 na nk ns nl pa_1 s_4.1 s_4.2.1 kd (en s) W Kp sg le tl_2 rk_3 (en s_4) nw rw) (st' := [.int ((prsT le nl).1)]) rfl rfl ?_
  refine x_bipush (v := (-4)) X dX5_lay_4 (by decide) ?_
  refine x_icmp_ne 16 X dX5_lay_6 (by decide) (fun c_7 => ?_) (fun c_7 => ?_)
  · -- 6 t
    refine x_bipush (v := (-2)) X dX5_lay_16 (by decide) ?_
    exact x_ret X dX5_lay_18 ⟨ret_i (by rw [F_lay, if_neg (by rw [(lay_n1 c_7)]; decide)]), ⟨pa_1, tl_2, s_4.1, s_4.2.1, rk_3, (en s_4), kd, (by have ho := (lay_n1 c_7); rw [show lyS le nl s = s from if_neg (by rw [ho]; decide), ho]; rfl), by rw [show lyS le nl s = s from if_neg (by rw [(lay_n1 c_7)]; decide)]; exact hkd⟩, by decide, by decide⟩
  · -- 6 f
    obtain ⟨es, hrk⟩ := f_6 c_7
    obtain ⟨h16, h15, hmi, hbv, hbl⟩ := (show GS s_4 by rw [es]; exact GS_T le nl)
    refine x_aloadn X dX5_lay_9 0 rfl ?_
    refine x_get X wu_X5 0 rfl rfl 14 (by decide) wf_X5_57 rfl rfl dX5_lay_10 ?_
    refine x_if_ne_n 19 X dX5_lay_13 (by decide) (by omega) (fun c_8 => ?_) (fun c_8 => ?_)
    · -- 13 t
      refine x_iconst (v := nI 0) X dX5_lay_19 (by decide) ?_
      refine x_istoren (lv' := [(1, .int (nI 0)), (0, .ref (a 0))]) X dX5_lay_20 (by decide) rfl ?_
      have L21 : ∀ (fu : Nat) (q : Nat), s_4.1 - q < fu → (q ≤ s_4.1) → (∀ j, j < q → inR (s_4.2.2.2.1 j) s_4.1 = true) → K (wMo G a s.1 s.2.1 na nk ns nl pa_1 s_4.1 s_4.2.1 kd (en s) W Kp sg le tl_2 rk_3 (en s_4) nw rw) 0 0 21 [(0, .ref (a 0)), (1, .int (nI q))] [] := by
        intro fu
        induction fu with
        | zero => intro q hfu; exact absurd hfu (Nat.not_lt_zero _)
        | succ fu ih_L21 =>
          intro q hfu_L21 hq hall
          refine x_iloadn X dX5_lay_21 1 rfl ?_
          refine x_aloadn X dX5_lay_22 0 rfl ?_
          refine x_get X wu_X5 0 rfl rfl 14 (by decide) wf_X5_57 rfl rfl dX5_lay_23 ?_
          refine x_icmp_ge_n 53 X dX5_lay_26 (by decide) (by omega) (by omega) (fun c_9 => ?_) (fun c_9 => ?_)
          · -- 26 t
            have n_9 := Nat.not_lt.mpr c_9
            refine x_aloadn X dX5_lay_53 0 rfl ?_
            refine x_callVf0 (As := []) (rest := []) (w1 := wMo G a s_4.1 s_4.2.1 0 0 0 nl pa_1 s_4.1 s_4.2.1 (kds rk_3 kd s_4.1) (en s_4) W Kp sg le tl_2 rk_3 (en s_4) nw rw) (ws' := wMo G a s_4.1 s_4.2.1 0 0 0 nl pa_1 s_4.1 s_4.2.1 (kds rk_3 kd s_4.1) (en s_4) W Kp sg le tl_2 rk_3 (en s_4) nw rw) X (c_X5_settles l G a s.1 s.2.1 na nk ns nl pa_1 s_4.1 s_4.2.1 kd (en s) W Kp sg le tl_2 rk_3 (en s_4) nw rw (by omega)) xE0_ok (fun _ _ _ => trivial) [0, 1, 2, 3, 4, 5, 6, 7, 8, 9, 10, 11] rfl 0 rfl rfl rfl rfl wco_X5_settles wi_X5 xd_X5_settles wl_X5_54 win_X5_settles wse_X5_settles (by decide) (Nat.le_of_ble_eq_true rfl) dX5_lay_54 rfl (Eq.trans (b := [a 0, a 1, a 2, a 3, a 4, a 5, a 6, a 7, a 8, a 9, a 10, a 11]) rfl rfl) rfl ?_
            refine x_aloadn X dX5_lay_57 0 rfl ?_
            refine x_get X wu_X5 0 rfl rfl 0 (by decide) wf_X5_60 rfl rfl dX5_lay_58 ?_
            exact x_ret X dX5_lay_61 ⟨ret_i (by rw [F_lay, if_pos (lay_y c_7 es (by omega) (fun j hj => hall j (by omega))), ← es]), ⟨pa_1, tl_2, s_4.1, s_4.2.1, rk_3, (en s_4), (kds rk_3 kd s_4.1), (by have ho := (lay_y c_7 es (by omega) (fun j hj => hall j (by omega))); rw [show lyS le nl s = s_4 from (if_pos ho).trans es.symm, ho]; rfl), by rw [show lyS le nl s = s_4 from (if_pos (lay_y c_7 es (by omega) (fun j hj => hall j (by omega)))).trans es.symm]; exact fun j hj => (if_pos hj).trans (hrk j hj)⟩, by decide, by decide⟩
          · -- 26 f
            refine x_aloadn X dX5_lay_29 0 rfl ?_
            refine x_get X wu_X5 0 rfl rfl 17 (by decide) wf_X5_34 rfl rfl dX5_lay_30 ?_
            refine x_iconst (v := nI 0) X dX5_lay_33 (by decide) ?_
            refine x_iloadn X dX5_lay_34 1 rfl ?_
            refine x_iadd (v := nI (0 + q)) X dX5_lay_35 (nI_add _ _) ?_
            refine x_iald_n (v := s_4.2.2.2.1 q) X 9 rfl (by omega) (by omega) (en_mi _ (by omega)) dX5_lay_36 ?_
            refine x_aloadn X dX5_lay_37 0 rfl ?_
            refine x_get X wu_X5 0 rfl rfl 14 (by decide) wf_X5_57 rfl rfl dX5_lay_38 ?_
            refine x_icmp_lt 47 X dX5_lay_41 (by decide) (fun c_10 => ?_) (fun c_10 => ?_)
            · -- 41 t
              refine x_iinc (v := nI (q + 1)) (lv' := [(1, .int (nI (q + 1))), (0, .ref (a 0))]) X dX5_lay_47 1 rfl (nI_1 _) (by decide) rfl ?_
              refine x_goto 21 X dX5_lay_50 (by decide) ?_
              refine x_lv (lv' := [(0, .ref (a 0)), (1, .int (nI (q + 1)))]) X [1, 0] rfl ?_
              exact ih_L21 (q + 1) (by omega) (by omega) (fun j hj => if e : j = q then (by rw [e]; exact inR_lt (hmi q (by omega)) c_10) else hall j (by omega))
            · -- 41 f
              refine x_bipush (v := (-2)) X dX5_lay_44 (by decide) ?_
              exact x_ret X dX5_lay_46 ⟨ret_i (by rw [F_lay, if_neg (by rw [(lay_n3 es (by omega) (inR_nlt c_10))]; decide)]), ⟨pa_1, tl_2, s_4.1, s_4.2.1, rk_3, (en s_4), kd, (by have ho := (lay_n3 es (by omega) (inR_nlt c_10)); rw [show lyS le nl s = s from if_neg (by rw [ho]; decide), ho]; rfl), by rw [show lyS le nl s = s from if_neg (by rw [(lay_n3 es (by omega) (inR_nlt c_10))]; decide)]; exact hkd⟩, by decide, by decide⟩
      refine x_lv (lv' := [(0, .ref (a 0)), (1, .int (nI 0))]) X [1, 0] rfl ?_
      exact L21 _ 0 (Nat.lt_succ_self _) (by omega) (fun j hj => absurd hj (Nat.not_lt_zero _))
    · -- 13 f
      refine x_bipush (v := (-2)) X dX5_lay_16 (by decide) ?_
      exact x_ret X dX5_lay_18 ⟨ret_i (by rw [F_lay, if_neg (by rw [(lay_n2 es (by omega))]; decide)]), ⟨pa_1, tl_2, s_4.1, s_4.2.1, rk_3, (en s_4), kd, (by have ho := (lay_n2 es (by omega)); rw [show lyS le nl s = s from if_neg (by rw [ho]; decide), ho]; rfl), by rw [show lyS le nl s = s from if_neg (by rw [(lay_n2 es (by omega))]; decide)]; exact hkd⟩, by decide, by decide⟩
