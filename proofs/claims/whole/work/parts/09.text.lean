/-! ===== telling a Chancery; what is signed; THE TEXT and its reading ===== -/
abbrev xS : Type := Nat × Nat × (Nat → Int32) × (Nat → Int32) × (Nat → Int32) × (Nat → Int32)
abbrev wCq (G : xG) (a : Nat → Nat) (s : xS) : va_W := wCh G a s.1 s.2.1 s.2.2.1 s.2.2.2.1 s.2.2.2.2.1 s.2.2.2.2.2
theorem x_wst {K : xKt} {ws ws' : va_W} {st st' : List Value} {k z pc : Nat} {lv : xL} (h1 : ws = ws') (h2 : st = st') (kk : K ws' k z pc lv st') : K ws k z pc lv st := by
  subst h1; subst h2; exact kk
def tellPok (s : xS) (k m : Int32) : Bool := decide (s.1 < 6) && (inR k 5 && inR m 6)
def tellP (s : xS) (k m : Int32) : xS := if tellPok s k m = true then (s.1 + 1, s.2.1, upd s.2.2.1 s.1 k, upd s.2.2.2.1 s.1 m, s.2.2.2.2.1, s.2.2.2.2.2) else s
def tellVok (s : xS) (p t v : Int32) : Bool := inR p s.1 && (inR t 5 && inR v 19)
def tellV (s : xS) (p t v : Int32) : xS := if tellVok s p t v = true then (s.1, s.2.1, s.2.2.1, s.2.2.2.1, upd s.2.2.2.2.1 (tn p * 5 + tn t) (v - nI 9), s.2.2.2.2.2) else s
def tellQok (n : Int32) : Bool := !decide (n < nI 1) && !decide (nI 5 < n)
def tellQ (s : xS) (n : Int32) : xS := if tellQok n = true then (s.1, tn n, s.2.2.1, s.2.2.2.1, s.2.2.2.2.1, s.2.2.2.2.2) else s
theorem tellQ_nat {n : Int32} (h1 : ¬ n < nI 1) (h2 : ¬ nI 5 < n) : ∃ j : Nat, (1 ≤ j ∧ j ≤ 5) ∧ n = nI j := by
  obtain ⟨j, hj, rfl⟩ := nI_of (x := n) (fun q => h1 (by
    rw [Int32.lt_iff_toInt_lt] at q ⊢
    have e : (nI 1).toInt = 1 := by decide
    have e0 : (0 : Int32).toInt = 0 := by decide
    omega))
  refine ⟨j, ⟨?_, ?_⟩, rfl⟩
  · exact Nat.not_lt.mp (fun q => h1 ((nI_ltI hj (by decide)).mpr q))
  · exact Nat.not_lt.mp (fun q => h2 ((nI_ltI (by decide) hj).mpr q))
/-- SIGNED: all so far would be written -/
def allW (kd vi th sa : Nat → Int32) (p m : Nat) (n : Int32) : Nat → Bool
  | 0 => true
  | i + 1 => allW kd vi th sa p m n i && decide (F_ink (kd p) (vi (m * 5 + tn (th i))) (vi (p * 5 + tn (th i))) n = sa i)
theorem allW_no {kd vi th sa : Nat → Int32} {p m : Nat} {n : Int32} {i : Nat} (h : ¬ F_ink (kd p) (vi (m * 5 + tn (th i))) (vi (p * 5 + tn (th i))) n = sa i) : ∀ j, i < j → allW kd vi th sa p m n j = false
  | 0, hj => absurd hj (Nat.not_lt_zero _)
  | j + 1, hj => by
    rcases Nat.lt_succ_iff_lt_or_eq.mp hj with h1 | h1
    · simp [allW, allW_no h j h1]
    · subst h1; simp [allW, h]
def ltA (le : Nat → Int32) (nl j : Nat) : Int32 := if j < nl then le j else (-4)
def isFg (x : Int32) : Bool := !decide (x < nI 48) && !decide (nI 57 < x)
def figs (le : Nat → Int32) (nl p : Nat) : Nat := if isFg (ltA le nl p) = true then (if isFg (ltA le nl (p + 1)) = true then 2 else 1) else 0
theorem figs_le (le : Nat → Int32) (nl p : Nat) : figs le nl p ≤ 2 := by
  simp only [figs]
  split
  · split <;> omega
  · omega
def valN (le : Nat → Int32) (nl p : Nat) : Int32 := if figs le nl p = 2 then (nI 0 + ltA le nl p - nI 48) * nI 10 + ltA le nl (p + 1) - nI 48 else nI 0 + ltA le nl p - nI 48
def bump (r : Nat × Nat) : Nat × Nat := if r.1 = 0 then (0, 0) else (r.1 + 1, r.2)
/-- numbers from p on: how many, and the place behind their ; (none: 0) -/
def rdN (le : Nat → Int32) (nl : Nat) : Nat → Nat → Nat × Nat
  | 0, _ => (0, 0)
  | k + 1, p => if figs le nl p < 1 then (0, 0) else if ltA le nl (p + figs le nl p) = nI 59 then (1, p + figs le nl p + 1) else if ltA le nl (p + figs le nl p) = nI 44 then bump (rdN le nl k (p + figs le nl p + 1)) else (0, 0)
theorem rdN_f {le : Nat → Int32} {nl k p : Nat} (h : figs le nl p < 1) : rdN le nl (k + 1) p = (0, 0) := by rw [rdN, if_pos h]
theorem rdN_s {le : Nat → Int32} {nl k p : Nat} (h : 1 ≤ figs le nl p) (h2 : ltA le nl (p + figs le nl p) = nI 59) : rdN le nl (k + 1) p = (1, p + figs le nl p + 1) := by rw [rdN, if_neg (by omega), if_pos h2]
theorem rdN_c {le : Nat → Int32} {nl k p : Nat} (h : 1 ≤ figs le nl p) (h2 : ¬ ltA le nl (p + figs le nl p) = nI 59) (h3 : ltA le nl (p + figs le nl p) = nI 44) : rdN le nl (k + 1) p = bump (rdN le nl k (p + figs le nl p + 1)) := by rw [rdN, if_neg (by omega), if_neg h2, if_pos h3]
theorem rdN_b {le : Nat → Int32} {nl k p : Nat} (h : 1 ≤ figs le nl p) (h2 : ¬ ltA le nl (p + figs le nl p) = nI 59) (h3 : ¬ ltA le nl (p + figs le nl p) = nI 44) : rdN le nl (k + 1) p = (0, 0) := by rw [rdN, if_neg (by omega), if_neg h2, if_neg h3]
theorem rdN_0 {le : Nat → Int32} {nl p : Nat} : rdN le nl 0 p = (0, 0) := rfl
def rdB (r : Nat × Nat) : Int32 := if r.1 = 0 then (-4) else nI r.2
def nx (le : Nat → Int32) (nl p : Nat) : Nat := p + figs le nl p + 1
theorem rdN_le (le : Nat → Int32) (nl : Nat) : ∀ k p, (rdN le nl k p).1 ≠ 0 → (rdN le nl k p).2 ≤ nl ∧ p < (rdN le nl k p).2
  | 0, p => fun h => absurd rfl h
  | k + 1, p => by
    intro h
    by_cases h1 : figs le nl p < 1
    · rw [rdN_f h1] at h; exact absurd rfl h
    · by_cases h2 : ltA le nl (p + figs le nl p) = nI 59
      · rw [rdN_s (by omega) h2]
        refine ⟨?_, by omega⟩
        by_cases h3 : p + figs le nl p < nl
        · exact h3
        · rw [ltA, if_neg h3] at h2
          exact absurd h2 (by decide)
      · by_cases h3 : ltA le nl (p + figs le nl p) = nI 44
        · rw [rdN_c (by omega) h2 h3] at h ⊢
          by_cases h4 : (rdN le nl k (p + figs le nl p + 1)).1 = 0
          · rw [bump, if_pos h4] at h; exact absurd rfl h
          · have := rdN_le le nl k (p + figs le nl p + 1) h4
            rw [bump, if_neg h4]
            exact ⟨this.1, by have := this.2; show p < (rdN le nl k (p + figs le nl p + 1)).2; omega⟩
        · rw [rdN_b (by omega) h2 h3] at h; exact absurd rfl h
def itB (x : Int32) (c : Nat) (v0 v1 v2 : Int32) (s : xS) : Bool := if x = 97 then decide (c = 1) && tellQok v0 else if x = 112 then decide (c = 2) && tellPok s v0 v1 else if x = 118 then decide (c = 3) && tellVok s v0 v1 v2 else false
def itS (x : Int32) (c : Nat) (v0 v1 v2 : Int32) (s : xS) : xS := if x = 97 then (if c = 1 then tellQ s v0 else s) else if x = 112 then (if c = 2 then tellP s v0 v1 else s) else if x = 118 then (if c = 3 then tellV s v0 v1 v2 else s) else s
theorem it_cg {x : Int32} {c : Nat} {v0 v1 v2 w0 w1 w2 : Int32} {s : xS} (h0 : 1 ≤ c → v0 = w0) (h1 : 2 ≤ c → v1 = w1) (h2 : 3 ≤ c → v2 = w2) : itB x c v0 v1 v2 s = itB x c w0 w1 w2 s ∧ itS x c v0 v1 v2 s = itS x c w0 w1 w2 s := by
  simp only [itB, itS]
  by_cases hx : x = 97
  · simp only [if_pos hx]
    by_cases hc : c = 1
    · rw [h0 (by omega)]; exact ⟨rfl, rfl⟩
    · simp [hc]
  · simp only [if_neg hx]
    by_cases hx : x = 112
    · simp only [if_pos hx]
      by_cases hc : c = 2
      · rw [h0 (by omega), h1 (by omega)]; exact ⟨rfl, rfl⟩
      · simp [hc]
    · simp only [if_neg hx]
      by_cases hx : x = 118
      · simp only [if_pos hx]
        by_cases hc : c = 3
        · rw [h0 (by omega), h1 (by omega), h2 (by omega)]; exact ⟨rfl, rfl⟩
        · simp [hc]
      · simp [hx]
def blankS : xS := (0, 3, fun _ => nI 0, fun _ => nI 0, fun _ => nI 0, fun _ => nI 100)
/-- reading on at p: FAULT or NONE, and what is told then -/
def prs (le : Nat → Int32) (nl : Nat) : Nat → Nat → xS → Int32 × xS
  | 0, _, s => ((-4), s)
  | k + 1, p, s => if p < nl then (if (rdN le nl 3 (p + 1)).1 = 0 then (nI p, s) else
      if itB (ltA le nl p) (rdN le nl 3 (p + 1)).1 (valN le nl (p + 1)) (valN le nl (nx le nl (p + 1))) (valN le nl (nx le nl (nx le nl (p + 1)))) s = true
      then prs le nl k (rdN le nl 3 (p + 1)).2 (itS (ltA le nl p) (rdN le nl 3 (p + 1)).1 (valN le nl (p + 1)) (valN le nl (nx le nl (p + 1))) (valN le nl (nx le nl (nx le nl (p + 1)))) s)
      else (nI p, itS (ltA le nl p) (rdN le nl 3 (p + 1)).1 (valN le nl (p + 1)) (valN le nl (nx le nl (p + 1))) (valN le nl (nx le nl (nx le nl (p + 1)))) s)) else ((-4), s)

set_option maxRecDepth 100000 in
set_option maxHeartbeats 4000000 in
/-- X0_tellPerson -/
theorem c_X0_tellPerson (l : Launch) (G : xG) (a : Nat → Nat) (s : xS) (x : Int32) (y : Int32) (hs : s.1 ≤ 6) : xM l G xE0 yX0_tellPerson cX0_tellPerson 3 (some .boolean) 1 22 0 0 [.ref (a 0), .int x, .int y] (wCq G a s) (some (.int (bI (tellPok s x y)))) (fun w2 => w2 = wCq G a (tellP s x y)) := by
  refine x_entry (by decide +kernel) (Nat.le_of_ble_eq_true rfl) rfl ⟨_, rfl, bI_narrow _⟩ (fun K X => ?_)
  refine x_aloadn X dX0_tellPerson_0 0 rfl ?_
  refine x_get X wu_X0 0 rfl rfl 0 (by decide) wf_X0_24 rfl rfl dX0_tellPerson_1 ?_
  refine x_bipush (v := nI 6) X dX0_tellPerson_4 (by decide) ?_
  refine x_icmp_ge_n 25 X dX0_tellPerson_6 (by decide) (by omega) (by omega) (fun c_1 => ?_) (fun c_1 => ?_)
  · -- 6 t
    have n_1 := Nat.not_lt.mpr c_1
    refine x_iconst (v := nI 0) X dX0_tellPerson_25 (by decide) ?_
    exact x_ret X dX0_tellPerson_26 ⟨ret_i (by rw [show tellPok s x y = false from by simp [tellPok, c_1, n_1]]; rfl), (by first | (rw [tellP, if_neg (by simp [tellPok, c_1, n_1])]; done) | (rw [tellP, if_neg (by simp [tellPok, c_1, n_1])]; simp only [tn])), by decide, by decide⟩
  · -- 6 f
    refine x_iloadn X dX0_tellPerson_9 1 rfl ?_
    refine x_iconst (v := nI 4) X dX0_tellPerson_10 (by decide) ?_
    refine x_callNrv (As := [.int x, .int (nI 4)]) (rest := []) X (c_X4_isUpTo l G x 4 (by omega)) xE0_ok (fun _ _ _ => trivial) [] rfl rfl rfl wco_X4_isUpTo wi_X4 xd_X4_isUpTo wn_X0_53 wst_X4_isUpTo (by decide) (Nat.le_of_ble_eq_true rfl) dX0_tellPerson_11 ?_
    refine x_ifeq_b 25 X dX0_tellPerson_14 (by decide) (fun c_2 => ?_) (fun c_2 => ?_)
    · -- 14 t
      refine x_iconst (v := nI 0) X dX0_tellPerson_25 (by decide) ?_
      exact x_ret X dX0_tellPerson_26 ⟨ret_i (by rw [show tellPok s x y = false from by simp [tellPok, c_1, c_2]]; rfl), (by first | (rw [tellP, if_neg (by simp [tellPok, c_1, c_2])]; done) | (rw [tellP, if_neg (by simp [tellPok, c_1, c_2])]; simp only [tn])), by decide, by decide⟩
    · -- 14 f
      obtain ⟨xN, hxN, rfl⟩ := inR_nat c_2 (by omega)
      have qxN : (nI xN).toNatClampNeg = xN := nI_clamp (by omega)
      refine x_iloadn X dX0_tellPerson_17 2 rfl ?_
      refine x_iconst (v := nI 5) X dX0_tellPerson_18 (by decide) ?_
      refine x_callNrv (As := [.int y, .int (nI 5)]) (rest := []) X (c_X4_isUpTo l G y 5 (by omega)) xE0_ok (fun _ _ _ => trivial) [] rfl rfl rfl wco_X4_isUpTo wi_X4 xd_X4_isUpTo wn_X0_53 wst_X4_isUpTo (by decide) (Nat.le_of_ble_eq_true rfl) dX0_tellPerson_19 ?_
      refine x_ifne_b 27 X dX0_tellPerson_22 (by decide) (fun c_3 => ?_) (fun c_3 => ?_)
      · -- 22 t
        obtain ⟨yN, hyN, rfl⟩ := inR_nat c_3 (by omega)
        have qyN : (nI yN).toNatClampNeg = yN := nI_clamp (by omega)
        refine x_aloadn X dX0_tellPerson_27 0 rfl ?_
        refine x_get X wu_X0 0 rfl rfl 2 (by decide) wf_X0_9 rfl rfl dX0_tellPerson_28 ?_
        refine x_aloadn X dX0_tellPerson_31 0 rfl ?_
        refine x_get X wu_X0 0 rfl rfl 0 (by decide) wf_X0_24 rfl rfl dX0_tellPerson_32 ?_
        refine x_iloadn X dX0_tellPerson_35 1 rfl ?_
        refine x_callNf0 (As := [.ref (a 1), .int (nI s.1), .int (nI xN)]) (rest := []) (w1 := wIA G (a 1) 6 (upd s.2.2.1 s.1 (nI xN))) (ws' := wCh G a s.1 s.2.1 (upd s.2.2.1 s.1 (nI xN)) s.2.2.2.1 s.2.2.2.2.1 s.2.2.2.2.2) X (c_X4_put l G (a 1) 6 s.2.2.1 s.1 (nI xN) (by omega) (by omega)) xE0_ok (fun _ _ _ => trivial) [1] rfl rfl rfl wco_X4_put wi_X4 xd_X4_put wn_X0_57 wst_X4_put (by decide) (Nat.le_of_ble_eq_true rfl) dX0_tellPerson_36 rfl (Eq.trans (b := [a 1]) rfl rfl) rfl ?_
        refine x_aloadn X dX0_tellPerson_39 0 rfl ?_
        refine x_get X wu_X0 0 rfl rfl 3 (by decide) wf_X0_15 rfl rfl dX0_tellPerson_40 ?_
        refine x_aloadn X dX0_tellPerson_43 0 rfl ?_
        refine x_get X wu_X0 0 rfl rfl 0 (by decide) wf_X0_24 rfl rfl dX0_tellPerson_44 ?_
        refine x_iloadn X dX0_tellPerson_47 2 rfl ?_
        refine x_callNf0 (As := [.ref (a 2), .int (nI s.1), .int (nI yN)]) (rest := []) (w1 := wIA G (a 2) 6 (upd s.2.2.2.1 s.1 (nI yN))) (ws' := wCh G a s.1 s.2.1 (upd s.2.2.1 s.1 (nI xN)) (upd s.2.2.2.1 s.1 (nI yN)) s.2.2.2.2.1 s.2.2.2.2.2) X (c_X4_put l G (a 2) 6 s.2.2.2.1 s.1 (nI yN) (by omega) (by omega)) xE0_ok (fun _ _ _ => trivial) [2] rfl rfl rfl wco_X4_put wi_X4 xd_X4_put wn_X0_57 wst_X4_put (by decide) (Nat.le_of_ble_eq_true rfl) dX0_tellPerson_48 rfl (Eq.trans (b := [a 2]) rfl rfl) rfl ?_
        refine x_aloadn X dX0_tellPerson_51 0 rfl ?_
        refine x_dup X dX0_tellPerson_52 rfl ?_
        refine x_get X wu_X0 0 rfl rfl 0 (by decide) wf_X0_24 rfl rfl dX0_tellPerson_53 ?_
        refine x_iconst (v := nI 1) X dX0_tellPerson_56 (by decide) ?_
        refine x_iadd (v := nI (s.1 + 1)) X dX0_tellPerson_57 (nI_add _ _) ?_
        refine x_put (ws' := wCh G a (s.1 + 1) s.2.1 (upd s.2.2.1 s.1 (nI xN)) (upd s.2.2.2.1 s.1 (nI yN)) s.2.2.2.2.1 s.2.2.2.2.2) (ty := tyX0 0) X wu_X0 tyX0_ok nmX0 0 rfl rfl 0 (by decide) wf_X0_24 rfl rfl (by decide +kernel) rfl rfl (Nat.le_of_ble_eq_true rfl) rfl dX0_tellPerson_58 ?_
        refine x_iconst (v := nI 1) X dX0_tellPerson_61 (by decide) ?_
        exact x_ret X dX0_tellPerson_62 ⟨ret_i (by rw [show tellPok s (nI xN) (nI yN) = true from by simp [tellPok, c_1, c_2, qxN, c_3, qyN]]; rfl), (by first | (rw [tellP, if_pos (by simp [tellPok, c_1, c_2, qxN, c_3, qyN])]; done) | (rw [tellP, if_pos (by simp [tellPok, c_1, c_2, qxN, c_3, qyN])]; simp only [tn, qxN, qyN])), by decide, by decide⟩
      · -- 22 f
        refine x_iconst (v := nI 0) X dX0_tellPerson_25 (by decide) ?_
        exact x_ret X dX0_tellPerson_26 ⟨ret_i (by rw [show tellPok s (nI xN) y = false from by simp [tellPok, c_1, c_2, qxN, c_3]]; rfl), (by first | (rw [tellP, if_neg (by simp [tellPok, c_1, c_2, qxN, c_3])]; done) | (rw [tellP, if_neg (by simp [tellPok, c_1, c_2, qxN, c_3])]; simp only [tn, qxN])), by decide, by decide⟩
set_option maxRecDepth 100000 in
set_option maxHeartbeats 4000000 in
/-- X0_tellView -/
theorem c_X0_tellView (l : Launch) (G : xG) (a : Nat → Nat) (s : xS) (x : Int32) (y : Int32) (v : Int32) (hs : s.1 ≤ 6) : xM l G xE0 yX0_tellView cX0_tellView 4 (some .boolean) 2 45 0 0 [.ref (a 0), .int x, .int y, .int v] (wCq G a s) (some (.int (bI (tellVok s x y v)))) (fun w2 => w2 = wCq G a (tellV s x y v)) := by
  refine x_entry (by decide +kernel) (Nat.le_of_ble_eq_true rfl) rfl ⟨_, rfl, bI_narrow _⟩ (fun K X => ?_)
  refine x_aloadn X dX0_tellView_0 0 rfl ?_
  refine x_iloadn X dX0_tellView_1 1 rfl ?_
  refine x_callVrv (As := [.int x]) (rest := []) X (c_X0_hasPerson l G a s.1 s.2.1 s.2.2.1 s.2.2.2.1 s.2.2.2.2.1 s.2.2.2.2.2 x (by omega)) xE0_ok (fun _ _ _ => trivial) [0, 1, 2, 3, 4] rfl 0 rfl rfl rfl rfl wco_X0_hasPerson wi_X0 xd_X0_hasPerson wl_X0_61 win_X0_hasPerson wse_X0_hasPerson (by decide) (Nat.le_of_ble_eq_true rfl) dX0_tellView_2 ?_
  refine x_ifeq_b 24 X dX0_tellView_5 (by decide) (fun c_1 => ?_) (fun c_1 => ?_)
  · -- 5 t
    refine x_iconst (v := nI 0) X dX0_tellView_24 (by decide) ?_
    exact x_ret X dX0_tellView_25 ⟨ret_i (by rw [show tellVok s x y v = false from by simp [tellVok, c_1]]; rfl), (by first | (rw [tellV, if_neg (by simp [tellVok, c_1])]; done) | (rw [tellV, if_neg (by simp [tellVok, c_1])]; simp only [tn])), by decide, by decide⟩
  · -- 5 f
    obtain ⟨xN, hxN, rfl⟩ := inR_nat c_1 (by omega)
    have qxN : (nI xN).toNatClampNeg = xN := nI_clamp (by omega)
    refine x_iloadn X dX0_tellView_8 2 rfl ?_
    refine x_callNrv (As := [.int y]) (rest := []) X (c_X4_isTheme l G y) xE0_ok (fun _ _ _ => trivial) [] rfl rfl rfl wco_X4_isTheme wi_X4 xd_X4_isTheme wn_X0_65 wst_X4_isTheme (by decide) (Nat.le_of_ble_eq_true rfl) dX0_tellView_9 ?_
    refine x_ifeq_b 24 X dX0_tellView_12 (by decide) (fun c_2 => ?_) (fun c_2 => ?_)
    · -- 12 t
      refine x_iconst (v := nI 0) X dX0_tellView_24 (by decide) ?_
      exact x_ret X dX0_tellView_25 ⟨ret_i (by rw [show tellVok s (nI xN) y v = false from by simp [tellVok, c_1, qxN, c_2]]; rfl), (by first | (rw [tellV, if_neg (by simp [tellVok, c_1, qxN, c_2])]; done) | (rw [tellV, if_neg (by simp [tellVok, c_1, qxN, c_2])]; simp only [tn, qxN])), by decide, by decide⟩
    · -- 12 f
      obtain ⟨yN, hyN, rfl⟩ := inR_nat c_2 (by omega)
      have qyN : (nI yN).toNatClampNeg = yN := nI_clamp (by omega)
      refine x_iloadn X dX0_tellView_15 3 rfl ?_
      refine x_bipush (v := nI 18) X dX0_tellView_16 (by decide) ?_
      refine x_callNrv (As := [.int v, .int (nI 18)]) (rest := []) X (c_X4_isUpTo l G v 18 (by omega)) xE0_ok (fun _ _ _ => trivial) [] rfl rfl rfl wco_X4_isUpTo wi_X4 xd_X4_isUpTo wn_X0_53 wst_X4_isUpTo (by decide) (Nat.le_of_ble_eq_true rfl) dX0_tellView_18 ?_
      refine x_ifne_b 26 X dX0_tellView_21 (by decide) (fun c_3 => ?_) (fun c_3 => ?_)
      · -- 21 t
        obtain ⟨vN, hvN, rfl⟩ := inR_nat c_3 (by omega)
        have qvN : (nI vN).toNatClampNeg = vN := nI_clamp (by omega)
        refine x_aloadn X dX0_tellView_26 0 rfl ?_
        refine x_iloadn X dX0_tellView_27 1 rfl ?_
        refine x_iloadn X dX0_tellView_28 2 rfl ?_
        refine x_iloadn X dX0_tellView_29 3 rfl ?_
        refine x_bipush (v := nI 9) X dX0_tellView_30 (by decide) ?_
        refine x_isub (v := (nI vN) - (nI 9)) X dX0_tellView_32 rfl ?_
        refine x_callVf0 (As := [.int (nI xN), .int (nI yN), .int ((nI vN) - (nI 9))]) (rest := []) (w1 := wCh G a s.1 s.2.1 s.2.2.1 s.2.2.2.1 (upd s.2.2.2.2.1 (xN * 5 + yN) ((nI vN) - (nI 9))) s.2.2.2.2.2) (ws' := wCh G a s.1 s.2.1 s.2.2.1 s.2.2.2.1 (upd s.2.2.2.2.1 (xN * 5 + yN) ((nI vN) - (nI 9))) s.2.2.2.2.2) X (c_X0_putView l G a s.1 s.2.1 s.2.2.1 s.2.2.2.1 s.2.2.2.2.1 s.2.2.2.2.2 xN yN ((nI vN) - (nI 9)) (by omega) (by omega)) xE0_ok (fun _ _ _ => trivial) [0, 1, 2, 3, 4] rfl 0 rfl rfl rfl rfl wco_X0_putView wi_X0 xd_X0_putView wl_X0_68 win_X0_putView wse_X0_putView (by decide) (Nat.le_of_ble_eq_true rfl) dX0_tellView_33 rfl (Eq.trans (b := [a 0, a 1, a 2, a 3, a 4]) rfl rfl) rfl ?_
        refine x_iconst (v := nI 1) X dX0_tellView_36 (by decide) ?_
        exact x_ret X dX0_tellView_37 ⟨ret_i (by rw [show tellVok s (nI xN) (nI yN) (nI vN) = true from by simp [tellVok, c_1, qxN, c_2, qyN, c_3, qvN]]; rfl), (by first | (rw [tellV, if_pos (by simp [tellVok, c_1, qxN, c_2, qyN, c_3, qvN])]; done) | (rw [tellV, if_pos (by simp [tellVok, c_1, qxN, c_2, qyN, c_3, qvN])]; simp only [tn, qxN, qyN, qvN])), by decide, by decide⟩
      · -- 21 f
        refine x_iconst (v := nI 0) X dX0_tellView_24 (by decide) ?_
        exact x_ret X dX0_tellView_25 ⟨ret_i (by rw [show tellVok s (nI xN) (nI yN) v = false from by simp [tellVok, c_1, qxN, c_2, qyN, c_3]]; rfl), (by first | (rw [tellV, if_neg (by simp [tellVok, c_1, qxN, c_2, qyN, c_3])]; done) | (rw [tellV, if_neg (by simp [tellVok, c_1, qxN, c_2, qyN, c_3])]; simp only [tn, qxN, qyN])), by decide, by decide⟩
set_option maxRecDepth 100000 in
set_option maxHeartbeats 4000000 in
/-- X0_tellPapers -/
theorem c_X0_tellPapers (l : Launch) (G : xG) (a : Nat → Nat) (s : xS) (x : Int32)  : xM l G xE0 yX0_tellPapers cX0_tellPapers 2 (some .boolean) 0 0 0 0 [.ref (a 0), .int x] (wCq G a s) (some (.int (bI (tellQok x)))) (fun w2 => w2 = wCq G a (tellQ s x)) := by
  refine x_entry (by decide +kernel) (Nat.le_of_ble_eq_true rfl) rfl ⟨_, rfl, bI_narrow _⟩ (fun K X => ?_)
  refine x_iloadn X dX0_tellPapers_0 1 rfl ?_
  refine x_iconst (v := nI 1) X dX0_tellPapers_1 (by decide) ?_
  refine x_icmp_lt 10 X dX0_tellPapers_2 (by decide) (fun c_1 => ?_) (fun c_1 => ?_)
  · -- 2 t
    refine x_iconst (v := nI 0) X dX0_tellPapers_10 (by decide) ?_
    exact x_ret X dX0_tellPapers_11 ⟨ret_i (by rw [show tellQok x = false from by simp [tellQok, c_1]]; rfl), (by first | (rw [tellQ, if_neg (by simp [tellQok, c_1])]; done) | (rw [tellQ, if_neg (by simp [tellQok, c_1])]; simp only [tn])), by decide, by decide⟩
  · -- 2 f
    refine x_iloadn X dX0_tellPapers_5 1 rfl ?_
    refine x_iconst (v := nI 5) X dX0_tellPapers_6 (by decide) ?_
    refine x_icmp_le 12 X dX0_tellPapers_7 (by decide) (fun c_2 => ?_) (fun c_2 => ?_)
    · -- 7 t
      replace c_2 := Int32.not_lt.mpr c_2
      obtain ⟨xN, hxN, rfl⟩ := tellQ_nat c_1 c_2
      have qxN : tn (nI xN) = xN := nI_clamp (by omega)
      refine x_aloadn X dX0_tellPapers_12 0 rfl ?_
      refine x_iloadn X dX0_tellPapers_13 1 rfl ?_
      refine x_put (ws' := wCh G a s.1 xN s.2.2.1 s.2.2.2.1 s.2.2.2.2.1 s.2.2.2.2.2) (ty := tyX0 1) X wu_X0 tyX0_ok nmX0 0 rfl rfl 1 (by decide) wf_X0_28 rfl rfl (by decide +kernel) rfl rfl (Nat.le_of_ble_eq_true rfl) rfl dX0_tellPapers_14 ?_
      refine x_iconst (v := nI 1) X dX0_tellPapers_17 (by decide) ?_
      exact x_ret X dX0_tellPapers_18 ⟨ret_i (by rw [show tellQok (nI xN) = true from by simp [tellQok, c_1, c_2, qxN]]; rfl), (by first | (rw [tellQ, if_pos (by simp [tellQok, c_1, c_2, qxN])]; done) | (rw [tellQ, if_pos (by simp [tellQok, c_1, c_2, qxN])]; simp only [tn, qxN])), by decide, by decide⟩
    · -- 7 f
      replace c_2 := Int32.not_le.mp c_2
      refine x_iconst (v := nI 0) X dX0_tellPapers_10 (by decide) ?_
      exact x_ret X dX0_tellPapers_11 ⟨ret_i (by rw [show tellQok x = false from by simp [tellQok, c_1, c_2]]; rfl), (by first | (rw [tellQ, if_neg (by simp [tellQok, c_1, c_2])]; done) | (rw [tellQ, if_neg (by simp [tellQok, c_1, c_2])]; simp only [tn])), by decide, by decide⟩
set_option maxRecDepth 100000 in
set_option maxHeartbeats 4000000 in
/-- X2_size -/
theorem c_X2_size (l : Launch) (G : xG) (a : Nat → Nat) (th : Nat → Int32) (sa : Nat → Int32) (ns : Nat)  : xM l G xE0 yX2_size cX2_size 1 (some .int) 0 0 0 0 [.ref (a 0)] (wSg G a th sa ns) (some (.int (nI ns))) (fun w2 => w2 = wSg G a th sa ns) := by
  refine x_entry (by decide +kernel) (Nat.le_of_ble_eq_true rfl) rfl ⟨_, rfl, rfl⟩ (fun K X => ?_)
  refine x_aloadn X dX2_size_0 0 rfl ?_
  refine x_get X wu_X2 0 rfl rfl 2 (by decide) wf_X2_18 rfl rfl dX2_size_1 ?_
  exact x_ret X dX2_size_4 ⟨rfl, rfl, by decide, by decide⟩
set_option maxRecDepth 100000 in
set_option maxHeartbeats 4000000 in
/-- X2_clear -/
theorem c_X2_clear (l : Launch) (G : xG) (a : Nat → Nat) (th : Nat → Int32) (sa : Nat → Int32) (ns : Nat)  : xM l G xE0 yX2_clear cX2_clear 1 none 0 0 0 0 [.ref (a 0)] (wSg G a th sa ns) none (fun w2 => w2 = wSg G a th sa 0) := by
  refine x_entry (by decide +kernel) (Nat.le_of_ble_eq_true rfl) rfl rfl (fun K X => ?_)
  refine x_aloadn X dX2_clear_0 0 rfl ?_
  refine x_iconst (v := nI 0) X dX2_clear_1 (by decide) ?_
  refine x_put (ws' := wSg G a th sa 0) (ty := tyX2 2) X wu_X2 tyX2_ok nmX2 0 rfl rfl 2 (by decide) wf_X2_18 rfl rfl (by decide +kernel) rfl rfl (Nat.le_of_ble_eq_true rfl) rfl dX2_clear_2 ?_
  exact x_retv X dX2_clear_5 ⟨rfl, rfl, by decide, by decide⟩
set_option maxRecDepth 100000 in
set_option maxHeartbeats 4000000 in
/-- X2_add -/
theorem c_X2_add (l : Launch) (G : xG) (a : Nat → Nat) (th : Nat → Int32) (sa : Nat → Int32) (ns : Nat) (x : Int32) (y : Int32) (hs : ns < 6) : xM l G xE0 yX2_add cX2_add 3 none 1 22 0 0 [.ref (a 0), .int x, .int y] (wSg G a th sa ns) none (fun w2 => w2 = wSg G a (upd th ns x) (upd sa ns y) (ns + 1)) := by
  refine x_entry (by decide +kernel) (Nat.le_of_ble_eq_true rfl) rfl rfl (fun K X => ?_)
  refine x_aloadn X dX2_add_0 0 rfl ?_
  refine x_get X wu_X2 0 rfl rfl 0 (by decide) wf_X2_9 rfl rfl dX2_add_1 ?_
  refine x_aloadn X dX2_add_4 0 rfl ?_
  refine x_get X wu_X2 0 rfl rfl 2 (by decide) wf_X2_18 rfl rfl dX2_add_5 ?_
  refine x_iloadn X dX2_add_8 1 rfl ?_
  refine x_callNf0 (As := [.ref (a 1), .int (nI ns), .int x]) (rest := []) (w1 := wIA G (a 1) 6 (upd th ns x)) (ws' := wSg G a (upd th ns x) sa ns) X (c_X4_put l G (a 1) 6 th ns x (by omega) (by omega)) xE0_ok (fun _ _ _ => trivial) [1] rfl rfl rfl wco_X4_put wi_X4 xd_X4_put wn_X2_22 wst_X4_put (by decide) (Nat.le_of_ble_eq_true rfl) dX2_add_9 rfl (Eq.trans (b := [a 1]) rfl rfl) rfl ?_
  refine x_aloadn X dX2_add_12 0 rfl ?_
  refine x_get X wu_X2 0 rfl rfl 1 (by decide) wf_X2_15 rfl rfl dX2_add_13 ?_
  refine x_aloadn X dX2_add_16 0 rfl ?_
  refine x_get X wu_X2 0 rfl rfl 2 (by decide) wf_X2_18 rfl rfl dX2_add_17 ?_
  refine x_iloadn X dX2_add_20 2 rfl ?_
  refine x_callNf0 (As := [.ref (a 2), .int (nI ns), .int y]) (rest := []) (w1 := wIA G (a 2) 6 (upd sa ns y)) (ws' := wSg G a (upd th ns x) (upd sa ns y) ns) X (c_X4_put l G (a 2) 6 sa ns y (by omega) (by omega)) xE0_ok (fun _ _ _ => trivial) [2] rfl rfl rfl wco_X4_put wi_X4 xd_X4_put wn_X2_22 wst_X4_put (by decide) (Nat.le_of_ble_eq_true rfl) dX2_add_21 rfl (Eq.trans (b := [a 2]) rfl rfl) rfl ?_
  refine x_aloadn X dX2_add_24 0 rfl ?_
  refine x_dup X dX2_add_25 rfl ?_
  refine x_get X wu_X2 0 rfl rfl 2 (by decide) wf_X2_18 rfl rfl dX2_add_26 ?_
  refine x_iconst (v := nI 1) X dX2_add_29 (by decide) ?_
  refine x_iadd (v := nI (ns + 1)) X dX2_add_30 (nI_add _ _) ?_
  refine x_put (ws' := wSg G a (upd th ns x) (upd sa ns y) (ns + 1)) (ty := tyX2 2) X wu_X2 tyX2_ok nmX2 0 rfl rfl 2 (by decide) wf_X2_18 rfl rfl (by decide +kernel) rfl rfl (Nat.le_of_ble_eq_true rfl) rfl dX2_add_31 ?_
  exact x_retv X dX2_add_34 ⟨rfl, rfl, by decide, by decide⟩
set_option maxRecDepth 100000 in
set_option maxHeartbeats 4000000 in
/-- X2_areAllWritten -/
theorem c_X2_areAllWritten (l : Launch) (G : xG) (a : Nat → Nat) (th : Nat → Int32) (sa : Nat → Int32) (ns : Nat) (b : Nat → Nat) (np : Nat) (nq : Nat) (kd : Nat → Int32) (mi : Nat → Int32) (vi : Nat → Int32) (li : Nat → Int32) (p : Nat) (m : Nat) (n : Int32) (hp : p < 6) (hm : m < 6) (hns : ns ≤ 6) (hth : ∀ j, j < ns → inR (th j) 5 = true) : xM l G xE0 yX2_areAllWritten cX2_areAllWritten 6 (some .boolean) 3 69 0 0 [.ref (a 0), .ref (b 0), .int (nI p), .int (nI m), .int n] (xJ [wSg G a th sa ns, wCh G b np nq kd mi vi li]) (some (.int (bI (allW kd vi th sa p m n ns)))) (fun w2 => w2 = xJ [wSg G a th sa ns, wCh G b np nq kd mi vi li]) := by
  refine x_entry (by decide +kernel) (Nat.le_of_ble_eq_true rfl) rfl ⟨_, rfl, bI_narrow _⟩ (fun K X => ?_)
  refine x_iconst (v := nI 0) X dX2_areAllWritten_0 (by decide) ?_
  refine x_istore (lv' := [(5, .int (nI 0)), (0, .ref (a 0)), (1, .ref (b 0)), (2, .int (nI p)), (3, .int (nI m)), (4, .int n)]) X dX2_areAllWritten_1 (by decide) rfl ?_
  have L3 : ∀ (fu : Nat) (i : Nat), ns - i < fu → (i ≤ ns) → (allW kd vi th sa p m n i = true) → K (xJ [wSg G a th sa ns, wCh G b np nq kd mi vi li]) 0 0 3 [(0, .ref (a 0)), (1, .ref (b 0)), (2, .int (nI p)), (3, .int (nI m)), (4, .int n), (5, .int (nI i))] [] := by
    intro fu
    induction fu with
    | zero => intro i hfu; exact absurd hfu (Nat.not_lt_zero _)
    | succ fu ih_L3 =>
      intro i hfu_L3 hi ha
      refine x_iload X dX2_areAllWritten_3 5 rfl ?_
      refine x_aloadn X dX2_areAllWritten_5 0 rfl ?_
      refine x_get X wu_X2 0 rfl rfl 2 (by decide) wf_X2_18 rfl rfl dX2_areAllWritten_6 ?_
      refine x_icmp_ge_n 49 X dX2_areAllWritten_9 (by decide) (by omega) (by omega) (fun c_1 => ?_) (fun c_1 => ?_)
      · -- 9 t
        have n_1 := Nat.not_lt.mpr c_1
        have e : i = ns := by omega
        rw [e] at ha
        refine x_iconst (v := nI 1) X dX2_areAllWritten_49 (by decide) ?_
        exact x_ret X dX2_areAllWritten_50 ⟨ret_i (by rw [ha]; rfl), rfl, by decide, by decide⟩
      · -- 9 f
        refine x_aloadn X dX2_areAllWritten_12 1 rfl ?_
        refine x_iloadn X dX2_areAllWritten_13 2 rfl ?_
        refine x_iloadn X dX2_areAllWritten_14 3 rfl ?_
        refine x_aloadn X dX2_areAllWritten_15 0 rfl ?_
        refine x_get X wu_X2 0 rfl rfl 0 (by decide) wf_X2_9 rfl rfl dX2_areAllWritten_16 ?_
        refine x_iload X dX2_areAllWritten_19 5 rfl ?_
        refine x_callNrv (As := [.ref (a 1), .int (nI i)]) (rest := [.int (nI m), .int (nI p), .ref (b 0)]) X (c_X4_at l G (a 1) 6 th i (by omega) (by omega)) xE0_ok (fun _ _ _ => trivial) [1] rfl rfl rfl wco_X4_at wi_X4 xd_X4_at wn_X2_26 wst_X4_at (by decide) (Nat.le_of_ble_eq_true rfl) dX2_areAllWritten_21 ?_
        obtain ⟨et, ht5⟩ := inR_eq (hth i (by omega)) (by decide)
        refine x_int et ?_
        refine x_iload X dX2_areAllWritten_24 4 rfl ?_
        refine x_callVrv (As := [.int (nI p), .int (nI m), .int (nI (tn (th i))), .int n]) (rest := []) X (c_X0_writtenFor l G b np nq kd mi vi li p m (tn (th i)) n (by omega) (by omega) (by omega)) xE0_ok (fun _ _ _ => trivial) [3, 4, 5, 6, 7] rfl 0 rfl rfl rfl rfl wco_X0_writtenFor wi_X0 xd_X0_writtenFor wl_X2_30 win_X0_writtenFor wse_X0_writtenFor (by decide) (Nat.le_of_ble_eq_true rfl) dX2_areAllWritten_26 ?_
        refine x_aloadn X dX2_areAllWritten_29 0 rfl ?_
        refine x_get X wu_X2 0 rfl rfl 1 (by decide) wf_X2_15 rfl rfl dX2_areAllWritten_30 ?_
        refine x_iload X dX2_areAllWritten_33 5 rfl ?_
        refine x_callNrv (As := [.ref (a 2), .int (nI i)]) (rest := [.int (F_ink (kd p) (vi (m * 5 + (tn (th i)))) (vi (p * 5 + (tn (th i)))) n)]) X (c_X4_at l G (a 2) 6 sa i (by omega) (by omega)) xE0_ok (fun _ _ _ => trivial) [2] rfl rfl rfl wco_X4_at wi_X4 xd_X4_at wn_X2_26 wst_X4_at (by decide) (Nat.le_of_ble_eq_true rfl) dX2_areAllWritten_35 ?_
        refine x_icmp_eq 43 X dX2_areAllWritten_38 (by decide) (fun c_2 => ?_) (fun c_2 => ?_)
        · -- 38 t
          refine x_iinc (v := nI (i + 1)) (lv' := [(5, .int (nI (i + 1))), (0, .ref (a 0)), (1, .ref (b 0)), (2, .int (nI p)), (3, .int (nI m)), (4, .int n)]) X dX2_areAllWritten_43 5 rfl (nI_1 _) (by decide) rfl ?_
          refine x_goto 3 X dX2_areAllWritten_46 (by decide) ?_
          refine x_lv (lv' := [(0, .ref (a 0)), (1, .ref (b 0)), (2, .int (nI p)), (3, .int (nI m)), (4, .int n), (5, .int (nI (i + 1)))]) X [1, 2, 3, 4, 5, 0] rfl ?_
          exact ih_L3 (i + 1) (by omega) ((by omega)) (by simp [allW, hi, ha, c_1, c_2])
        · -- 38 f
          refine x_iconst (v := nI 0) X dX2_areAllWritten_41 (by decide) ?_
          exact x_ret X dX2_areAllWritten_42 ⟨ret_i (by rw [allW_no c_2 ns (by omega)]; rfl), rfl, by decide, by decide⟩
  refine x_lv (lv' := [(0, .ref (a 0)), (1, .ref (b 0)), (2, .int (nI p)), (3, .int (nI m)), (4, .int n), (5, .int (nI 0))]) X [1, 2, 3, 4, 5, 0] rfl ?_
  exact L3 _ 0 (Nat.lt_succ_self _) ((by omega)) (rfl)
set_option maxRecDepth 100000 in
set_option maxHeartbeats 4000000 in
/-- X3_size -/
theorem c_X3_size (l : Launch) (G : xG) (a : Nat → Nat) (le : Nat → Int32) (nl : Nat) (nu : Nat → Int32) (nc : Nat)  : xM l G xE0 yX3_size cX3_size 1 (some .int) 0 0 0 0 [.ref (a 0)] (wTx G a le nl nu nc) (some (.int (nI nl))) (fun w2 => w2 = wTx G a le nl nu nc) := by
  refine x_entry (by decide +kernel) (Nat.le_of_ble_eq_true rfl) rfl ⟨_, rfl, rfl⟩ (fun K X => ?_)
  refine x_aloadn X dX3_size_0 0 rfl ?_
  refine x_get X wu_X3 0 rfl rfl 1 (by decide) wf_X3_18 rfl rfl dX3_size_1 ?_
  exact x_ret X dX3_size_4 ⟨rfl, rfl, by decide, by decide⟩
set_option maxRecDepth 100000 in
set_option maxHeartbeats 4000000 in
/-- X3_clear -/
theorem c_X3_clear (l : Launch) (G : xG) (a : Nat → Nat) (le : Nat → Int32) (nl : Nat) (nu : Nat → Int32) (nc : Nat)  : xM l G xE0 yX3_clear cX3_clear 1 none 0 0 0 0 [.ref (a 0)] (wTx G a le nl nu nc) none (fun w2 => w2 = wTx G a le 0 nu nc) := by
  refine x_entry (by decide +kernel) (Nat.le_of_ble_eq_true rfl) rfl rfl (fun K X => ?_)
  refine x_aloadn X dX3_clear_0 0 rfl ?_
  refine x_iconst (v := nI 0) X dX3_clear_1 (by decide) ?_
  refine x_put (ws' := wTx G a le 0 nu nc) (ty := tyX3 1) X wu_X3 tyX3_ok nmX3 0 rfl rfl 1 (by decide) wf_X3_18 rfl rfl (by decide +kernel) rfl rfl (Nat.le_of_ble_eq_true rfl) rfl dX3_clear_2 ?_
  exact x_retv X dX3_clear_5 ⟨rfl, rfl, by decide, by decide⟩
set_option maxRecDepth 100000 in
set_option maxHeartbeats 4000000 in
/-- X3_append -/
theorem c_X3_append (l : Launch) (G : xG) (a : Nat → Nat) (le : Nat → Int32) (nl : Nat) (nu : Nat → Int32) (nc : Nat) (x : Int32) (hl : nl < 200) : xM l G xE0 yX3_append cX3_append 2 none 1 22 0 0 [.ref (a 0), .int x] (wTx G a le nl nu nc) none (fun w2 => w2 = wTx G a (upd le nl x) (nl + 1) nu nc) := by
  refine x_entry (by decide +kernel) (Nat.le_of_ble_eq_true rfl) rfl rfl (fun K X => ?_)
  refine x_aloadn X dX3_append_0 0 rfl ?_
  refine x_get X wu_X3 0 rfl rfl 1 (by decide) wf_X3_18 rfl rfl dX3_append_1 ?_
  refine x_sipush (v := nI 200) X dX3_append_4 (by decide) ?_
  refine x_icmp_ge_n 32 X dX3_append_7 (by decide) (by omega) (by omega) (fun c_1 => ?_) (fun c_1 => ?_)
  · -- 7 t
    exact absurd c_1 (by omega)
  · -- 7 f
    refine x_aloadn X dX3_append_10 0 rfl ?_
    refine x_get X wu_X3 0 rfl rfl 0 (by decide) wf_X3_9 rfl rfl dX3_append_11 ?_
    refine x_aloadn X dX3_append_14 0 rfl ?_
    refine x_get X wu_X3 0 rfl rfl 1 (by decide) wf_X3_18 rfl rfl dX3_append_15 ?_
    refine x_iloadn X dX3_append_18 1 rfl ?_
    refine x_callNf0 (As := [.ref (a 1), .int (nI nl), .int x]) (rest := []) (w1 := wIA G (a 1) 200 (upd le nl x)) (ws' := wTx G a (upd le nl x) nl nu nc) X (c_X4_put l G (a 1) 200 le nl x (by omega) (by omega)) xE0_ok (fun _ _ _ => trivial) [1] rfl rfl rfl wco_X4_put wi_X4 xd_X4_put wn_X3_22 wst_X4_put (by decide) (Nat.le_of_ble_eq_true rfl) dX3_append_19 rfl (Eq.trans (b := [a 1]) rfl rfl) rfl ?_
    refine x_aloadn X dX3_append_22 0 rfl ?_
    refine x_dup X dX3_append_23 rfl ?_
    refine x_get X wu_X3 0 rfl rfl 1 (by decide) wf_X3_18 rfl rfl dX3_append_24 ?_
    refine x_iconst (v := nI 1) X dX3_append_27 (by decide) ?_
    refine x_iadd (v := nI (nl + 1)) X dX3_append_28 (nI_add _ _) ?_
    refine x_put (ws' := wTx G a (upd le nl x) (nl + 1) nu nc) (ty := tyX3 1) X wu_X3 tyX3_ok nmX3 0 rfl rfl 1 (by decide) wf_X3_18 rfl rfl (by decide +kernel) rfl rfl (Nat.le_of_ble_eq_true rfl) rfl dX3_append_29 ?_
    exact x_retv X dX3_append_32 ⟨rfl, rfl, by decide, by decide⟩
set_option maxRecDepth 100000 in
set_option maxHeartbeats 4000000 in
/-- X3_letterAt -/
theorem c_X3_letterAt (l : Launch) (G : xG) (a : Nat → Nat) (le : Nat → Int32) (nl : Nat) (nu : Nat → Int32) (nc : Nat) (j : Nat) (hj : j < 2 ^ 31) (hl : nl ≤ 200) : xM l G xE0 yX3_letterAt cX3_letterAt 2 (some .int) 1 21 0 0 [.ref (a 0), .int (nI j)] (wTx G a le nl nu nc) (some (.int (ltA le nl j))) (fun w2 => w2 = wTx G a le nl nu nc) := by
  refine x_entry (by decide +kernel) (Nat.le_of_ble_eq_true rfl) rfl ⟨_, rfl, rfl⟩ (fun K X => ?_)
  refine x_iloadn X dX3_letterAt_0 1 rfl ?_
  refine x_aloadn X dX3_letterAt_1 0 rfl ?_
  refine x_get X wu_X3 0 rfl rfl 1 (by decide) wf_X3_18 rfl rfl dX3_letterAt_2 ?_
  refine x_icmp_ge_n 19 X dX3_letterAt_5 (by decide) (by omega) (by omega) (fun c_1 => ?_) (fun c_1 => ?_)
  · -- 5 t
    have n_1 := Nat.not_lt.mpr c_1
    refine x_bipush (v := (-4)) X dX3_letterAt_19 (by decide) ?_
    exact x_ret X dX3_letterAt_21 ⟨ret_i (by first | rw [ltA, if_pos (by omega)] | rw [ltA, if_neg (by omega)]), rfl, by decide, by decide⟩
  · -- 5 f
    refine x_aloadn X dX3_letterAt_8 0 rfl ?_
    refine x_get X wu_X3 0 rfl rfl 0 (by decide) wf_X3_9 rfl rfl dX3_letterAt_9 ?_
    refine x_iloadn X dX3_letterAt_12 1 rfl ?_
    refine x_callNrv (As := [.ref (a 1), .int (nI j)]) (rest := []) X (c_X4_at l G (a 1) 200 le j (by omega) (by omega)) xE0_ok (fun _ _ _ => trivial) [1] rfl rfl rfl wco_X4_at wi_X4 xd_X4_at wn_X3_52 wst_X4_at (by decide) (Nat.le_of_ble_eq_true rfl) dX3_letterAt_13 ?_
    refine x_goto 21 X dX3_letterAt_16 (by decide) ?_
    exact x_ret X dX3_letterAt_21 ⟨ret_i (by first | rw [ltA, if_pos (by omega)] | rw [ltA, if_neg (by omega)]), rfl, by decide, by decide⟩
set_option maxRecDepth 100000 in
set_option maxHeartbeats 4000000 in
/-- X3_isFigure -/
theorem c_X3_isFigure (l : Launch) (G : xG) (x : Int32)  : xM l G xE0 yX3_isFigure cX3_isFigure 1 (some .boolean) 0 0 0 0 [.int x] ([]) (some (.int (bI (isFg x)))) (fun w2 => w2 = []) := by
  refine x_entry (by decide +kernel) (Nat.le_of_ble_eq_true rfl) rfl ⟨_, rfl, bI_narrow _⟩ (fun K X => ?_)
  refine x_iloadn X dX3_isFigure_0 0 rfl ?_
  refine x_bipush (v := nI 48) X dX3_isFigure_1 (by decide) ?_
  refine x_icmp_lt 16 X dX3_isFigure_3 (by decide) (fun c_1 => ?_) (fun c_1 => ?_)
  · -- 3 t
    refine x_iconst (v := nI 0) X dX3_isFigure_16 (by decide) ?_
    exact x_ret X dX3_isFigure_17 ⟨ret_i (by rw [show isFg x = false from by simp [isFg, c_1]]; rfl), rfl, by decide, by decide⟩
  · -- 3 f
    refine x_iloadn X dX3_isFigure_6 0 rfl ?_
    refine x_bipush (v := nI 57) X dX3_isFigure_7 (by decide) ?_
    refine x_icmp_gt 16 X dX3_isFigure_9 (by decide) (fun c_2 => ?_) (fun c_2 => ?_)
    · -- 9 t
      refine x_iconst (v := nI 0) X dX3_isFigure_16 (by decide) ?_
      exact x_ret X dX3_isFigure_17 ⟨ret_i (by rw [show isFg x = false from by simp [isFg, c_1, c_2]]; rfl), rfl, by decide, by decide⟩
    · -- 9 f
      refine x_iconst (v := nI 1) X dX3_isFigure_12 (by decide) ?_
      refine x_goto 17 X dX3_isFigure_13 (by decide) ?_
      exact x_ret X dX3_isFigure_17 ⟨ret_i (by rw [show isFg x = true from by simp [isFg, c_1, c_2]]; rfl), rfl, by decide, by decide⟩
set_option maxRecDepth 100000 in
set_option maxHeartbeats 4000000 in
/-- X3_figuresAt -/
theorem c_X3_figuresAt (l : Launch) (G : xG) (a : Nat → Nat) (le : Nat → Int32) (nl : Nat) (nu : Nat → Int32) (nc : Nat) (p : Nat) (hp : p ≤ 1000) (hl : nl ≤ 200) : xM l G xE0 yX3_figuresAt cX3_figuresAt 4 (some .int) 2 42 0 0 [.ref (a 0), .int (nI p)] (wTx G a le nl nu nc) (some (.int (nI (figs le nl p)))) (fun w2 => w2 = wTx G a le nl nu nc) := by
  refine x_entry (by decide +kernel) (Nat.le_of_ble_eq_true rfl) rfl ⟨_, rfl, rfl⟩ (fun K X => ?_)
  refine x_iconst (v := nI 0) X dX3_figuresAt_0 (by decide) ?_
  refine x_istoren (lv' := [(2, .int (nI 0)), (0, .ref (a 0)), (1, .int (nI p))]) X dX3_figuresAt_1 (by decide) rfl ?_
  refine x_iconst (v := nI 0) X dX3_figuresAt_2 (by decide) ?_
  refine x_istoren (lv' := [(3, .int (nI 0)), (2, .int (nI 0)), (0, .ref (a 0)), (1, .int (nI p))]) X dX3_figuresAt_3 (by decide) rfl ?_
  refine x_iloadn X dX3_figuresAt_4 0 rfl ?_
  refine x_iconst (v := nI 2) X dX3_figuresAt_5 (by decide) ?_
  refine x_icmp_ge_n 31 X dX3_figuresAt_6 (by decide) (by omega) (by omega) (fun c_1 => ?_) (fun c_1 => ?_)
  · -- 6 t
    exact absurd c_1 (by omega)
  · -- 6 f
    refine x_aloadn X dX3_figuresAt_9 2 rfl ?_
    refine x_iloadn X dX3_figuresAt_10 3 rfl ?_
    refine x_iloadn X dX3_figuresAt_11 0 rfl ?_
    refine x_iadd (v := nI p) X dX3_figuresAt_12 (nI_add _ 0) ?_
    refine x_callVrv (As := [.int (nI p)]) (rest := []) X (c_X3_letterAt l G a le nl nu nc p (by omega) (by omega)) xE0_ok (fun _ _ _ => trivial) [0, 1, 2] rfl 0 rfl rfl rfl rfl wco_X3_letterAt wi_X3 xd_X3_letterAt wl_X3_35 win_X3_letterAt wse_X3_letterAt (by decide) (Nat.le_of_ble_eq_true rfl) dX3_figuresAt_13 ?_
    refine x_callSrv (As := [.int (ltA le nl p)]) (rest := []) X (c_X3_isFigure l G (ltA le nl p)) xE0_ok (fun _ _ _ => trivial) [] rfl rfl rfl wco_X3_isFigure wi_X3 xd_X3_isFigure wl_X3_68 wst_X3_isFigure (by decide) (Nat.le_of_ble_eq_true rfl) dX3_figuresAt_16 ?_
    refine x_ifeq_b 31 X dX3_figuresAt_19 (by decide) (fun c_2 => ?_) (fun c_2 => ?_)
    · -- 19 t
      refine x_iloadn X dX3_figuresAt_31 1 rfl ?_
      exact x_ret X dX3_figuresAt_32 ⟨ret_i (by simp [figs, c_2]), rfl, by decide, by decide⟩
    · -- 19 f
      refine x_iinc (v := nI 1) (lv' := [(2, .int (nI 1)), (3, .int (nI 0)), (0, .ref (a 0)), (1, .int (nI p))]) X dX3_figuresAt_22 1 rfl (by decide) (by decide) rfl ?_
      refine x_iinc (v := nI 1) (lv' := [(3, .int (nI 1)), (2, .int (nI 1)), (0, .ref (a 0)), (1, .int (nI p))]) X dX3_figuresAt_25 1 rfl (by decide) (by decide) rfl ?_
      refine x_goto 4 X dX3_figuresAt_28 (by decide) ?_
      refine x_iloadn X dX3_figuresAt_4 0 rfl ?_
      refine x_iconst (v := nI 2) X dX3_figuresAt_5 (by decide) ?_
      refine x_icmp_ge_n 31 X dX3_figuresAt_6 (by decide) (by omega) (by omega) (fun c_3 => ?_) (fun c_3 => ?_)
      · -- 6 t
        exact absurd c_3 (by omega)
      · -- 6 f
        refine x_aloadn X dX3_figuresAt_9 2 rfl ?_
        refine x_iloadn X dX3_figuresAt_10 3 rfl ?_
        refine x_iloadn X dX3_figuresAt_11 0 rfl ?_
        refine x_iadd (v := nI (p + 1)) X dX3_figuresAt_12 (nI_add _ _) ?_
        refine x_callVrv (As := [.int (nI (p + 1))]) (rest := []) X (c_X3_letterAt l G a le nl nu nc (p + 1) (by omega) (by omega)) xE0_ok (fun _ _ _ => trivial) [0, 1, 2] rfl 0 rfl rfl rfl rfl wco_X3_letterAt wi_X3 xd_X3_letterAt wl_X3_35 win_X3_letterAt wse_X3_letterAt (by decide) (Nat.le_of_ble_eq_true rfl) dX3_figuresAt_13 ?_
        refine x_callSrv (As := [.int (ltA le nl (p + 1))]) (rest := []) X (c_X3_isFigure l G (ltA le nl (p + 1))) xE0_ok (fun _ _ _ => trivial) [] rfl rfl rfl wco_X3_isFigure wi_X3 xd_X3_isFigure wl_X3_68 wst_X3_isFigure (by decide) (Nat.le_of_ble_eq_true rfl) dX3_figuresAt_16 ?_
        refine x_ifeq_b 31 X dX3_figuresAt_19 (by decide) (fun c_4 => ?_) (fun c_4 => ?_)
        · -- 19 t
          refine x_iloadn X dX3_figuresAt_31 1 rfl ?_
          exact x_ret X dX3_figuresAt_32 ⟨ret_i (by simp [figs, c_2, c_4]), rfl, by decide, by decide⟩
        · -- 19 f
          refine x_iinc (v := nI 2) (lv' := [(2, .int (nI 2)), (3, .int (nI 1)), (0, .ref (a 0)), (1, .int (nI p))]) X dX3_figuresAt_22 1 rfl (by decide) (by decide) rfl ?_
          refine x_iinc (v := nI 2) (lv' := [(3, .int (nI 2)), (2, .int (nI 2)), (0, .ref (a 0)), (1, .int (nI p))]) X dX3_figuresAt_25 1 rfl (by decide) (by decide) rfl ?_
          refine x_goto 4 X dX3_figuresAt_28 (by decide) ?_
          refine x_iloadn X dX3_figuresAt_4 0 rfl ?_
          refine x_iconst (v := nI 2) X dX3_figuresAt_5 (by decide) ?_
          refine x_icmp_ge_n 31 X dX3_figuresAt_6 (by decide) (by omega) (by omega) (fun c_5 => ?_) (fun c_5 => ?_)
          · -- 6 t
            refine x_iloadn X dX3_figuresAt_31 1 rfl ?_
            exact x_ret X dX3_figuresAt_32 ⟨ret_i (by simp [figs, c_2, c_4]), rfl, by decide, by decide⟩
          · -- 6 f
            exact absurd c_5 (by omega)
set_option maxRecDepth 100000 in
set_option maxHeartbeats 4000000 in
/-- X3_numberAt -/
theorem c_X3_numberAt (l : Launch) (G : xG) (a : Nat → Nat) (le : Nat → Int32) (nl : Nat) (nu : Nat → Int32) (nc : Nat) (p : Nat) (f : Nat) (hp : p ≤ 1000) (hl : nl ≤ 200) (hf : f = figs le nl p) (hf1 : 1 ≤ f) : xM l G xE0 yX3_numberAt cX3_numberAt 5 (some .int) 2 42 0 0 [.ref (a 0), .int (nI p), .int (nI f)] (wTx G a le nl nu nc) (some (.int (valN le nl p))) (fun w2 => w2 = wTx G a le nl nu nc) := by
  refine x_entry (by decide +kernel) (Nat.le_of_ble_eq_true rfl) rfl ⟨_, rfl, rfl⟩ (fun K X => ?_)
  rcases (show f = 1 ∨ f = 2 from by have := figs_le le nl p; omega) with rfl | rfl
  · -- 1
    refine x_iconst (v := nI 0) X dX3_numberAt_0 (by decide) ?_
    refine x_istoren (lv' := [(3, .int (nI 0)), (0, .ref (a 0)), (1, .int (nI p)), (2, .int (nI 1))]) X dX3_numberAt_1 (by decide) rfl ?_
    refine x_iconst (v := nI 0) X dX3_numberAt_2 (by decide) ?_
    refine x_istore (lv' := [(4, .int (nI 0)), (3, .int (nI 0)), (0, .ref (a 0)), (1, .int (nI p)), (2, .int (nI 1))]) X dX3_numberAt_3 (by decide) rfl ?_
    refine x_iload X dX3_numberAt_5 0 rfl ?_
    refine x_iloadn X dX3_numberAt_7 4 rfl ?_
    refine x_icmp_ge_n 34 X dX3_numberAt_8 (by decide) (by omega) (by omega) (fun c_1 => ?_) (fun c_1 => ?_)
    · -- 8 t
      exact absurd c_1 (by omega)
    · -- 8 f
      refine x_iloadn X dX3_numberAt_11 1 rfl ?_
      refine x_bipush (v := nI 10) X dX3_numberAt_12 (by decide) ?_
      refine x_imul (v := nI 0) X dX3_numberAt_14 (by decide) ?_
      refine x_aloadn X dX3_numberAt_15 2 rfl ?_
      refine x_iloadn X dX3_numberAt_16 3 rfl ?_
      refine x_iload X dX3_numberAt_17 0 rfl ?_
      refine x_iadd (v := nI p) X dX3_numberAt_19 (nI_add _ 0) ?_
      refine x_callVrv (As := [.int (nI p)]) (rest := [.int (nI 0)]) X (c_X3_letterAt l G a le nl nu nc p (by omega) (by omega)) xE0_ok (fun _ _ _ => trivial) [0, 1, 2] rfl 0 rfl rfl rfl rfl wco_X3_letterAt wi_X3 xd_X3_letterAt wl_X3_35 win_X3_letterAt wse_X3_letterAt (by decide) (Nat.le_of_ble_eq_true rfl) dX3_numberAt_20 ?_
      refine x_iadd (v := (nI 0) + (ltA le nl p)) X dX3_numberAt_23 rfl ?_
      refine x_bipush (v := nI 48) X dX3_numberAt_24 (by decide) ?_
      refine x_isub (v := ((nI 0) + (ltA le nl p)) - (nI 48)) X dX3_numberAt_26 rfl ?_
      refine x_istoren (lv' := [(3, .int (((nI 0) + (ltA le nl p)) - (nI 48))), (4, .int (nI 0)), (0, .ref (a 0)), (1, .int (nI p)), (2, .int (nI 1))]) X dX3_numberAt_27 (by decide) rfl ?_
      refine x_iinc (v := nI 1) (lv' := [(4, .int (nI 1)), (3, .int (((nI 0) + (ltA le nl p)) - (nI 48))), (0, .ref (a 0)), (1, .int (nI p)), (2, .int (nI 1))]) X dX3_numberAt_28 1 rfl (by decide) (by decide) rfl ?_
      refine x_goto 5 X dX3_numberAt_31 (by decide) ?_
      refine x_iload X dX3_numberAt_5 0 rfl ?_
      refine x_iloadn X dX3_numberAt_7 4 rfl ?_
      refine x_icmp_ge_n 34 X dX3_numberAt_8 (by decide) (by omega) (by omega) (fun c_2 => ?_) (fun c_2 => ?_)
      · -- 8 t
        refine x_iloadn X dX3_numberAt_34 1 rfl ?_
        exact x_ret X dX3_numberAt_35 ⟨ret_i (by rw [valN, ← hf]; rfl), rfl, by decide, by decide⟩
      · -- 8 f
        exact absurd c_2 (by omega)
  · -- 2
    refine x_iconst (v := nI 0) X dX3_numberAt_0 (by decide) ?_
    refine x_istoren (lv' := [(3, .int (nI 0)), (0, .ref (a 0)), (1, .int (nI p)), (2, .int (nI 2))]) X dX3_numberAt_1 (by decide) rfl ?_
    refine x_iconst (v := nI 0) X dX3_numberAt_2 (by decide) ?_
    refine x_istore (lv' := [(4, .int (nI 0)), (3, .int (nI 0)), (0, .ref (a 0)), (1, .int (nI p)), (2, .int (nI 2))]) X dX3_numberAt_3 (by decide) rfl ?_
    refine x_iload X dX3_numberAt_5 0 rfl ?_
    refine x_iloadn X dX3_numberAt_7 4 rfl ?_
    refine x_icmp_ge_n 34 X dX3_numberAt_8 (by decide) (by omega) (by omega) (fun c_3 => ?_) (fun c_3 => ?_)
    · -- 8 t
      exact absurd c_3 (by omega)
    · -- 8 f
      refine x_iloadn X dX3_numberAt_11 1 rfl ?_
      refine x_bipush (v := nI 10) X dX3_numberAt_12 (by decide) ?_
      refine x_imul (v := nI 0) X dX3_numberAt_14 (by decide) ?_
      refine x_aloadn X dX3_numberAt_15 2 rfl ?_
      refine x_iloadn X dX3_numberAt_16 3 rfl ?_
      refine x_iload X dX3_numberAt_17 0 rfl ?_
      refine x_iadd (v := nI p) X dX3_numberAt_19 (nI_add _ 0) ?_
      refine x_callVrv (As := [.int (nI p)]) (rest := [.int (nI 0)]) X (c_X3_letterAt l G a le nl nu nc p (by omega) (by omega)) xE0_ok (fun _ _ _ => trivial) [0, 1, 2] rfl 0 rfl rfl rfl rfl wco_X3_letterAt wi_X3 xd_X3_letterAt wl_X3_35 win_X3_letterAt wse_X3_letterAt (by decide) (Nat.le_of_ble_eq_true rfl) dX3_numberAt_20 ?_
      refine x_iadd (v := (nI 0) + (ltA le nl p)) X dX3_numberAt_23 rfl ?_
      refine x_bipush (v := nI 48) X dX3_numberAt_24 (by decide) ?_
      refine x_isub (v := ((nI 0) + (ltA le nl p)) - (nI 48)) X dX3_numberAt_26 rfl ?_
      refine x_istoren (lv' := [(3, .int (((nI 0) + (ltA le nl p)) - (nI 48))), (4, .int (nI 0)), (0, .ref (a 0)), (1, .int (nI p)), (2, .int (nI 2))]) X dX3_numberAt_27 (by decide) rfl ?_
      refine x_iinc (v := nI 1) (lv' := [(4, .int (nI 1)), (3, .int (((nI 0) + (ltA le nl p)) - (nI 48))), (0, .ref (a 0)), (1, .int (nI p)), (2, .int (nI 2))]) X dX3_numberAt_28 1 rfl (by decide) (by decide) rfl ?_
      refine x_goto 5 X dX3_numberAt_31 (by decide) ?_
      refine x_iload X dX3_numberAt_5 0 rfl ?_
      refine x_iloadn X dX3_numberAt_7 4 rfl ?_
      refine x_icmp_ge_n 34 X dX3_numberAt_8 (by decide) (by omega) (by omega) (fun c_4 => ?_) (fun c_4 => ?_)
      · -- 8 t
        exact absurd c_4 (by omega)
      · -- 8 f
        refine x_iloadn X dX3_numberAt_11 1 rfl ?_
        refine x_bipush (v := nI 10) X dX3_numberAt_12 (by decide) ?_
        refine x_imul (v := (((nI 0) + (ltA le nl p)) - (nI 48)) * (nI 10)) X dX3_numberAt_14 rfl ?_
        refine x_aloadn X dX3_numberAt_15 2 rfl ?_
        refine x_iloadn X dX3_numberAt_16 3 rfl ?_
        refine x_iload X dX3_numberAt_17 0 rfl ?_
        refine x_iadd (v := nI (p + 1)) X dX3_numberAt_19 (nI_add _ _) ?_
        refine x_callVrv (As := [.int (nI (p + 1))]) (rest := [.int ((((nI 0) + (ltA le nl p)) - (nI 48)) * (nI 10))]) X (c_X3_letterAt l G a le nl nu nc (p + 1) (by omega) (by omega)) xE0_ok (fun _ _ _ => trivial) [0, 1, 2] rfl 0 rfl rfl rfl rfl wco_X3_letterAt wi_X3 xd_X3_letterAt wl_X3_35 win_X3_letterAt wse_X3_letterAt (by decide) (Nat.le_of_ble_eq_true rfl) dX3_numberAt_20 ?_
        refine x_iadd (v := ((((nI 0) + (ltA le nl p)) - (nI 48)) * (nI 10)) + (ltA le nl (p + 1))) X dX3_numberAt_23 rfl ?_
        refine x_bipush (v := nI 48) X dX3_numberAt_24 (by decide) ?_
        refine x_isub (v := (((((nI 0) + (ltA le nl p)) - (nI 48)) * (nI 10)) + (ltA le nl (p + 1))) - (nI 48)) X dX3_numberAt_26 rfl ?_
        refine x_istoren (lv' := [(3, .int ((((((nI 0) + (ltA le nl p)) - (nI 48)) * (nI 10)) + (ltA le nl (p + 1))) - (nI 48))), (4, .int (nI 1)), (0, .ref (a 0)), (1, .int (nI p)), (2, .int (nI 2))]) X dX3_numberAt_27 (by decide) rfl ?_
        refine x_iinc (v := nI 2) (lv' := [(4, .int (nI 2)), (3, .int ((((((nI 0) + (ltA le nl p)) - (nI 48)) * (nI 10)) + (ltA le nl (p + 1))) - (nI 48))), (0, .ref (a 0)), (1, .int (nI p)), (2, .int (nI 2))]) X dX3_numberAt_28 1 rfl (by decide) (by decide) rfl ?_
        refine x_goto 5 X dX3_numberAt_31 (by decide) ?_
        refine x_iload X dX3_numberAt_5 0 rfl ?_
        refine x_iloadn X dX3_numberAt_7 4 rfl ?_
        refine x_icmp_ge_n 34 X dX3_numberAt_8 (by decide) (by omega) (by omega) (fun c_5 => ?_) (fun c_5 => ?_)
        · -- 8 t
          refine x_iloadn X dX3_numberAt_34 1 rfl ?_
          exact x_ret X dX3_numberAt_35 ⟨ret_i (by rw [valN, ← hf]; rfl), rfl, by decide, by decide⟩
        · -- 8 f
          exact absurd c_5 (by omega)
set_option maxRecDepth 100000 in
set_option maxHeartbeats 4000000 in
/-- X3_readNumbers -/
theorem c_X3_readNumbers (l : Launch) (G : xG) (a : Nat → Nat) (le : Nat → Int32) (nl : Nat) (nu : Nat → Int32) (nc : Nat) (p : Nat) (hp : p ≤ 300) (hl : nl ≤ 200) : xM l G xE0 yX3_readNumbers cX3_readNumbers 6 (some .int) 3 66 0 0 [.ref (a 0), .int (nI p)] (wTx G a le nl nu nc) (some (.int (rdB (rdN le nl 3 p)))) (fun w2 => ∃ nu' : Nat → Int32, ∃ nc' : Nat, w2 = wTx G a le nl nu' nc' ∧ ((rdN le nl 3 p).1 ≠ 0 → nc' = (rdN le nl 3 p).1) ∧ (1 ≤ (rdN le nl 3 p).1 → nu' 0 = valN le nl p) ∧ (2 ≤ (rdN le nl 3 p).1 → nu' 1 = valN le nl (nx le nl p)) ∧ (3 ≤ (rdN le nl 3 p).1 → nu' 2 = valN le nl (nx le nl (nx le nl p)))) := by
  refine x_entry (by decide +kernel) (Nat.le_of_ble_eq_true rfl) rfl ⟨_, rfl, rfl⟩ (fun K X => ?_)
  refine x_aloadn X dX3_readNumbers_0 0 rfl ?_
  refine x_iconst (v := nI 0) X dX3_readNumbers_1 (by decide) ?_
  refine x_put (ws' := wTx G a le nl nu 0) (ty := tyX3 3) X wu_X3 tyX3_ok nmX3 0 rfl rfl 3 (by decide) wf_X3_42 rfl rfl (by decide +kernel) rfl rfl (Nat.le_of_ble_eq_true rfl) rfl dX3_readNumbers_2 ?_
  refine x_iloadn X dX3_readNumbers_5 1 rfl ?_
  refine x_istoren (lv' := [(2, .int (nI p)), (0, .ref (a 0)), (1, .int (nI p))]) X dX3_readNumbers_6 (by decide) rfl ?_
  refine x_iconst (v := nI 0) X dX3_readNumbers_7 (by decide) ?_
  refine x_istoren (lv' := [(3, .int (nI 0)), (2, .int (nI p)), (0, .ref (a 0)), (1, .int (nI p))]) X dX3_readNumbers_8 (by decide) rfl ?_
  refine x_iloadn X dX3_readNumbers_9 0 rfl ?_
  refine x_iconst (v := nI 3) X dX3_readNumbers_10 (by decide) ?_
  refine x_icmp_ge_n 95 X dX3_readNumbers_11 (by decide) (by omega) (by omega) (fun c_1 => ?_) (fun c_1 => ?_)
  · -- 11 t
    exact absurd c_1 (by omega)
  · -- 11 f
    refine x_aloadn X dX3_readNumbers_14 2 rfl ?_
    refine x_iloadn X dX3_readNumbers_15 1 rfl ?_
    refine x_callVrv (As := [.int (nI p)]) (rest := []) X (c_X3_figuresAt l G a le nl nu 0 p (by omega) (by omega)) xE0_ok (fun _ _ _ => trivial) [0, 1, 2] rfl 0 rfl rfl rfl rfl wco_X3_figuresAt wi_X3 xd_X3_figuresAt wl_X3_45 win_X3_figuresAt wse_X3_figuresAt (by decide) (Nat.le_of_ble_eq_true rfl) dX3_readNumbers_16 ?_
    have hfl_2 := figs_le le nl (p)
    refine x_istore (lv' := [(4, .int (nI (figs le nl p))), (3, .int (nI 0)), (2, .int (nI p)), (0, .ref (a 0)), (1, .int (nI p))]) X dX3_readNumbers_19 (by decide) rfl ?_
    refine x_iload X dX3_readNumbers_21 0 rfl ?_
    refine x_iconst (v := nI 1) X dX3_readNumbers_23 (by decide) ?_
    refine x_icmp_ge_n 30 X dX3_readNumbers_24 (by decide) (by omega) (by omega) (fun c_3 => ?_) (fun c_3 => ?_)
    · -- 24 t
      have n_3 := Nat.not_lt.mpr c_3
      refine x_aloadn X dX3_readNumbers_30 3 rfl ?_
      refine x_get X wu_X3 0 rfl rfl 2 (by decide) wf_X3_15 rfl rfl dX3_readNumbers_31 ?_
      refine x_iloadn X dX3_readNumbers_34 1 rfl ?_
      refine x_aloadn X dX3_readNumbers_35 3 rfl ?_
      refine x_iloadn X dX3_readNumbers_36 2 rfl ?_
      refine x_iload X dX3_readNumbers_37 0 rfl ?_
      refine x_callVrv (As := [.int (nI p), .int (nI (figs le nl p))]) (rest := [.int (nI 0), .ref (a 2)]) X (c_X3_numberAt l G a le nl nu 0 p (figs le nl p) (by omega) (by omega) (by first | omega | assumption) (by omega)) xE0_ok (fun _ _ _ => trivial) [0, 1, 2] rfl 0 rfl rfl rfl rfl wco_X3_numberAt wi_X3 xd_X3_numberAt wl_X3_48 win_X3_numberAt wse_X3_numberAt (by decide) (Nat.le_of_ble_eq_true rfl) dX3_readNumbers_39 ?_
      refine x_callNf0 (As := [.ref (a 2), .int (nI 0), .int (valN le nl p)]) (rest := []) (w1 := wIA G (a 2) 3 (upd nu 0 (valN le nl p))) (ws' := wTx G a le nl (upd nu 0 (valN le nl p)) 0) X (c_X4_put l G (a 2) 3 nu 0 (valN le nl p) (by omega) (by omega)) xE0_ok (fun _ _ _ => trivial) [2] rfl rfl rfl wco_X4_put wi_X4 xd_X4_put wn_X3_22 wst_X4_put (by decide) (Nat.le_of_ble_eq_true rfl) dX3_readNumbers_42 rfl (Eq.trans (b := [a 2]) rfl rfl) rfl ?_
      refine x_aloadn X dX3_readNumbers_45 3 rfl ?_
      refine x_dup X dX3_readNumbers_46 rfl ?_
      refine x_get X wu_X3 0 rfl rfl 3 (by decide) wf_X3_42 rfl rfl dX3_readNumbers_47 ?_
      refine x_iconst (v := nI 1) X dX3_readNumbers_50 (by decide) ?_
      refine x_iadd (v := nI 1) X dX3_readNumbers_51 (by decide) ?_
      refine x_put (ws' := wTx G a le nl (upd nu 0 (valN le nl p)) 1) (ty := tyX3 3) X wu_X3 tyX3_ok nmX3 0 rfl rfl 3 (by decide) wf_X3_42 rfl rfl (by decide +kernel) rfl rfl (Nat.le_of_ble_eq_true rfl) rfl dX3_readNumbers_52 ?_
      refine x_iloadn X dX3_readNumbers_55 2 rfl ?_
      refine x_iload X dX3_readNumbers_56 0 rfl ?_
      refine x_iadd (v := nI (p + (figs le nl p))) X dX3_readNumbers_58 (nI_add _ _) ?_
      refine x_istoren (lv' := [(2, .int (nI (p + (figs le nl p)))), (4, .int (nI (figs le nl p))), (3, .int (nI 0)), (0, .ref (a 0)), (1, .int (nI p))]) X dX3_readNumbers_59 (by decide) rfl ?_
      refine x_aloadn X dX3_readNumbers_60 3 rfl ?_
      refine x_iloadn X dX3_readNumbers_61 0 rfl ?_
      refine x_callVrv (As := [.int (nI (p + (figs le nl p)))]) (rest := []) X (c_X3_letterAt l G a le nl (upd nu 0 (valN le nl p)) 1 (p + (figs le nl p)) (by omega) (by omega)) xE0_ok (fun _ _ _ => trivial) [0, 1, 2] rfl 0 rfl rfl rfl rfl wco_X3_letterAt wi_X3 xd_X3_letterAt wl_X3_35 win_X3_letterAt wse_X3_letterAt (by decide) (Nat.le_of_ble_eq_true rfl) dX3_readNumbers_62 ?_
      refine x_istore (lv' := [(5, .int (ltA le nl (p + (figs le nl p)))), (2, .int (nI (p + (figs le nl p)))), (4, .int (nI (figs le nl p))), (3, .int (nI 0)), (0, .ref (a 0)), (1, .int (nI p))]) X dX3_readNumbers_65 (by decide) rfl ?_
      refine x_iinc (v := nI (p + (figs le nl p) + 1)) (lv' := [(2, .int (nI (p + (figs le nl p) + 1))), (5, .int (ltA le nl (p + (figs le nl p)))), (4, .int (nI (figs le nl p))), (3, .int (nI 0)), (0, .ref (a 0)), (1, .int (nI p))]) X dX3_readNumbers_67 1 rfl (nI_1 _) (by decide) rfl ?_
      obtain ⟨q1, hq1⟩ : ∃ q : Nat, q = p + (figs le nl p) + 1 := ⟨_, rfl⟩
      rw [← hq1]
      refine x_iload X dX3_readNumbers_70 1 rfl ?_
      refine x_bipush (v := nI 59) X dX3_readNumbers_72 (by decide) ?_
      refine x_icmp_ne 79 X dX3_readNumbers_74 (by decide) (fun c_4 => ?_) (fun c_4 => ?_)
      · -- 74 t
        refine x_iload X dX3_readNumbers_79 1 rfl ?_
        refine x_bipush (v := nI 44) X dX3_readNumbers_81 (by decide) ?_
        refine x_icmp_eq 89 X dX3_readNumbers_83 (by decide) (fun c_5 => ?_) (fun c_5 => ?_)
        · -- 83 t
          refine x_iinc (v := nI 1) (lv' := [(3, .int (nI 1)), (2, .int (nI q1)), (5, .int (ltA le nl (p + (figs le nl p)))), (4, .int (nI (figs le nl p))), (0, .ref (a 0)), (1, .int (nI p))]) X dX3_readNumbers_89 3 rfl (by decide) (by decide) rfl ?_
          refine x_goto 9 X dX3_readNumbers_92 (by decide) ?_
          refine x_iloadn X dX3_readNumbers_9 0 rfl ?_
          refine x_iconst (v := nI 3) X dX3_readNumbers_10 (by decide) ?_
          refine x_icmp_ge_n 95 X dX3_readNumbers_11 (by decide) (by omega) (by omega) (fun c_6 => ?_) (fun c_6 => ?_)
          · -- 11 t
            exact absurd c_6 (by omega)
          · -- 11 f
            refine x_aloadn X dX3_readNumbers_14 4 rfl ?_
            refine x_iloadn X dX3_readNumbers_15 1 rfl ?_
            refine x_callVrv (As := [.int (nI q1)]) (rest := []) X (c_X3_figuresAt l G a le nl (upd nu 0 (valN le nl p)) 1 q1 (by omega) (by omega)) xE0_ok (fun _ _ _ => trivial) [0, 1, 2] rfl 0 rfl rfl rfl rfl wco_X3_figuresAt wi_X3 xd_X3_figuresAt wl_X3_45 win_X3_figuresAt wse_X3_figuresAt (by decide) (Nat.le_of_ble_eq_true rfl) dX3_readNumbers_16 ?_
            have hfl_7 := figs_le le nl (q1)
            refine x_istore (lv' := [(4, .int (nI (figs le nl q1))), (3, .int (nI 1)), (2, .int (nI q1)), (5, .int (ltA le nl (p + (figs le nl p)))), (0, .ref (a 0)), (1, .int (nI p))]) X dX3_readNumbers_19 (by decide) rfl ?_
            refine x_iload X dX3_readNumbers_21 0 rfl ?_
            refine x_iconst (v := nI 1) X dX3_readNumbers_23 (by decide) ?_
            refine x_icmp_ge_n 30 X dX3_readNumbers_24 (by decide) (by omega) (by omega) (fun c_8 => ?_) (fun c_8 => ?_)
            · -- 24 t
              have n_8 := Nat.not_lt.mpr c_8
              refine x_aloadn X dX3_readNumbers_30 4 rfl ?_
              refine x_get X wu_X3 0 rfl rfl 2 (by decide) wf_X3_15 rfl rfl dX3_readNumbers_31 ?_
              refine x_iloadn X dX3_readNumbers_34 1 rfl ?_
              refine x_aloadn X dX3_readNumbers_35 4 rfl ?_
              refine x_iloadn X dX3_readNumbers_36 2 rfl ?_
              refine x_iload X dX3_readNumbers_37 0 rfl ?_
              refine x_callVrv (As := [.int (nI q1), .int (nI (figs le nl q1))]) (rest := [.int (nI 1), .ref (a 2)]) X (c_X3_numberAt l G a le nl (upd nu 0 (valN le nl p)) 1 q1 (figs le nl q1) (by omega) (by omega) (by first | omega | assumption) (by omega)) xE0_ok (fun _ _ _ => trivial) [0, 1, 2] rfl 0 rfl rfl rfl rfl wco_X3_numberAt wi_X3 xd_X3_numberAt wl_X3_48 win_X3_numberAt wse_X3_numberAt (by decide) (Nat.le_of_ble_eq_true rfl) dX3_readNumbers_39 ?_
              refine x_callNf0 (As := [.ref (a 2), .int (nI 1), .int (valN le nl q1)]) (rest := []) (w1 := wIA G (a 2) 3 (upd (upd nu 0 (valN le nl p)) 1 (valN le nl q1))) (ws' := wTx G a le nl (upd (upd nu 0 (valN le nl p)) 1 (valN le nl q1)) 1) X (c_X4_put l G (a 2) 3 (upd nu 0 (valN le nl p)) 1 (valN le nl q1) (by omega) (by omega)) xE0_ok (fun _ _ _ => trivial) [2] rfl rfl rfl wco_X4_put wi_X4 xd_X4_put wn_X3_22 wst_X4_put (by decide) (Nat.le_of_ble_eq_true rfl) dX3_readNumbers_42 rfl (Eq.trans (b := [a 2]) rfl rfl) rfl ?_
              refine x_aloadn X dX3_readNumbers_45 4 rfl ?_
              refine x_dup X dX3_readNumbers_46 rfl ?_
              refine x_get X wu_X3 0 rfl rfl 3 (by decide) wf_X3_42 rfl rfl dX3_readNumbers_47 ?_
              refine x_iconst (v := nI 1) X dX3_readNumbers_50 (by decide) ?_
              refine x_iadd (v := nI 2) X dX3_readNumbers_51 (by decide) ?_
              refine x_put (ws' := wTx G a le nl (upd (upd nu 0 (valN le nl p)) 1 (valN le nl q1)) 2) (ty := tyX3 3) X wu_X3 tyX3_ok nmX3 0 rfl rfl 3 (by decide) wf_X3_42 rfl rfl (by decide +kernel) rfl rfl (Nat.le_of_ble_eq_true rfl) rfl dX3_readNumbers_52 ?_
              refine x_iloadn X dX3_readNumbers_55 2 rfl ?_
              refine x_iload X dX3_readNumbers_56 0 rfl ?_
              refine x_iadd (v := nI (q1 + (figs le nl q1))) X dX3_readNumbers_58 (nI_add _ _) ?_
              refine x_istoren (lv' := [(2, .int (nI (q1 + (figs le nl q1)))), (4, .int (nI (figs le nl q1))), (3, .int (nI 1)), (5, .int (ltA le nl (p + (figs le nl p)))), (0, .ref (a 0)), (1, .int (nI p))]) X dX3_readNumbers_59 (by decide) rfl ?_
              refine x_aloadn X dX3_readNumbers_60 4 rfl ?_
              refine x_iloadn X dX3_readNumbers_61 0 rfl ?_
              refine x_callVrv (As := [.int (nI (q1 + (figs le nl q1)))]) (rest := []) X (c_X3_letterAt l G a le nl (upd (upd nu 0 (valN le nl p)) 1 (valN le nl q1)) 2 (q1 + (figs le nl q1)) (by omega) (by omega)) xE0_ok (fun _ _ _ => trivial) [0, 1, 2] rfl 0 rfl rfl rfl rfl wco_X3_letterAt wi_X3 xd_X3_letterAt wl_X3_35 win_X3_letterAt wse_X3_letterAt (by decide) (Nat.le_of_ble_eq_true rfl) dX3_readNumbers_62 ?_
              refine x_istore (lv' := [(5, .int (ltA le nl (q1 + (figs le nl q1)))), (2, .int (nI (q1 + (figs le nl q1)))), (4, .int (nI (figs le nl q1))), (3, .int (nI 1)), (0, .ref (a 0)), (1, .int (nI p))]) X dX3_readNumbers_65 (by decide) rfl ?_
              refine x_iinc (v := nI (q1 + (figs le nl q1) + 1)) (lv' := [(2, .int (nI (q1 + (figs le nl q1) + 1))), (5, .int (ltA le nl (q1 + (figs le nl q1)))), (4, .int (nI (figs le nl q1))), (3, .int (nI 1)), (0, .ref (a 0)), (1, .int (nI p))]) X dX3_readNumbers_67 1 rfl (nI_1 _) (by decide) rfl ?_
              obtain ⟨q2, hq2⟩ : ∃ q : Nat, q = q1 + (figs le nl q1) + 1 := ⟨_, rfl⟩
              rw [← hq2]
              refine x_iload X dX3_readNumbers_70 1 rfl ?_
              refine x_bipush (v := nI 59) X dX3_readNumbers_72 (by decide) ?_
              refine x_icmp_ne 79 X dX3_readNumbers_74 (by decide) (fun c_9 => ?_) (fun c_9 => ?_)
              · -- 74 t
                refine x_iload X dX3_readNumbers_79 1 rfl ?_
                refine x_bipush (v := nI 44) X dX3_readNumbers_81 (by decide) ?_
                refine x_icmp_eq 89 X dX3_readNumbers_83 (by decide) (fun c_10 => ?_) (fun c_10 => ?_)
                · -- 83 t
                  refine x_iinc (v := nI 2) (lv' := [(3, .int (nI 2)), (2, .int (nI q2)), (5, .int (ltA le nl (q1 + (figs le nl q1)))), (4, .int (nI (figs le nl q1))), (0, .ref (a 0)), (1, .int (nI p))]) X dX3_readNumbers_89 3 rfl (by decide) (by decide) rfl ?_
                  refine x_goto 9 X dX3_readNumbers_92 (by decide) ?_
                  refine x_iloadn X dX3_readNumbers_9 0 rfl ?_
                  refine x_iconst (v := nI 3) X dX3_readNumbers_10 (by decide) ?_
                  refine x_icmp_ge_n 95 X dX3_readNumbers_11 (by decide) (by omega) (by omega) (fun c_11 => ?_) (fun c_11 => ?_)
                  · -- 11 t
                    exact absurd c_11 (by omega)
                  · -- 11 f
                    refine x_aloadn X dX3_readNumbers_14 4 rfl ?_
                    refine x_iloadn X dX3_readNumbers_15 1 rfl ?_
                    refine x_callVrv (As := [.int (nI q2)]) (rest := []) X (c_X3_figuresAt l G a le nl (upd (upd nu 0 (valN le nl p)) 1 (valN le nl q1)) 2 q2 (by omega) (by omega)) xE0_ok (fun _ _ _ => trivial) [0, 1, 2] rfl 0 rfl rfl rfl rfl wco_X3_figuresAt wi_X3 xd_X3_figuresAt wl_X3_45 win_X3_figuresAt wse_X3_figuresAt (by decide) (Nat.le_of_ble_eq_true rfl) dX3_readNumbers_16 ?_
                    have hfl_12 := figs_le le nl (q2)
                    refine x_istore (lv' := [(4, .int (nI (figs le nl q2))), (3, .int (nI 2)), (2, .int (nI q2)), (5, .int (ltA le nl (q1 + (figs le nl q1)))), (0, .ref (a 0)), (1, .int (nI p))]) X dX3_readNumbers_19 (by decide) rfl ?_
                    refine x_iload X dX3_readNumbers_21 0 rfl ?_
                    refine x_iconst (v := nI 1) X dX3_readNumbers_23 (by decide) ?_
                    refine x_icmp_ge_n 30 X dX3_readNumbers_24 (by decide) (by omega) (by omega) (fun c_13 => ?_) (fun c_13 => ?_)
                    · -- 24 t
                      have n_13 := Nat.not_lt.mpr c_13
                      refine x_aloadn X dX3_readNumbers_30 4 rfl ?_
                      refine x_get X wu_X3 0 rfl rfl 2 (by decide) wf_X3_15 rfl rfl dX3_readNumbers_31 ?_
                      refine x_iloadn X dX3_readNumbers_34 1 rfl ?_
                      refine x_aloadn X dX3_readNumbers_35 4 rfl ?_
                      refine x_iloadn X dX3_readNumbers_36 2 rfl ?_
                      refine x_iload X dX3_readNumbers_37 0 rfl ?_
                      refine x_callVrv (As := [.int (nI q2), .int (nI (figs le nl q2))]) (rest := [.int (nI 2), .ref (a 2)]) X (c_X3_numberAt l G a le nl (upd (upd nu 0 (valN le nl p)) 1 (valN le nl q1)) 2 q2 (figs le nl q2) (by omega) (by omega) (by first | omega | assumption) (by omega)) xE0_ok (fun _ _ _ => trivial) [0, 1, 2] rfl 0 rfl rfl rfl rfl wco_X3_numberAt wi_X3 xd_X3_numberAt wl_X3_48 win_X3_numberAt wse_X3_numberAt (by decide) (Nat.le_of_ble_eq_true rfl) dX3_readNumbers_39 ?_
                      refine x_callNf0 (As := [.ref (a 2), .int (nI 2), .int (valN le nl q2)]) (rest := []) (w1 := wIA G (a 2) 3 (upd (upd (upd nu 0 (valN le nl p)) 1 (valN le nl q1)) 2 (valN le nl q2))) (ws' := wTx G a le nl (upd (upd (upd nu 0 (valN le nl p)) 1 (valN le nl q1)) 2 (valN le nl q2)) 2) X (c_X4_put l G (a 2) 3 (upd (upd nu 0 (valN le nl p)) 1 (valN le nl q1)) 2 (valN le nl q2) (by omega) (by omega)) xE0_ok (fun _ _ _ => trivial) [2] rfl rfl rfl wco_X4_put wi_X4 xd_X4_put wn_X3_22 wst_X4_put (by decide) (Nat.le_of_ble_eq_true rfl) dX3_readNumbers_42 rfl (Eq.trans (b := [a 2]) rfl rfl) rfl ?_
                      refine x_aloadn X dX3_readNumbers_45 4 rfl ?_
                      refine x_dup X dX3_readNumbers_46 rfl ?_
                      refine x_get X wu_X3 0 rfl rfl 3 (by decide) wf_X3_42 rfl rfl dX3_readNumbers_47 ?_
                      refine x_iconst (v := nI 1) X dX3_readNumbers_50 (by decide) ?_
                      refine x_iadd (v := nI 3) X dX3_readNumbers_51 (by decide) ?_
                      refine x_put (ws' := wTx G a le nl (upd (upd (upd nu 0 (valN le nl p)) 1 (valN le nl q1)) 2 (valN le nl q2)) 3) (ty := tyX3 3) X wu_X3 tyX3_ok nmX3 0 rfl rfl 3 (by decide) wf_X3_42 rfl rfl (by decide +kernel) rfl rfl (Nat.le_of_ble_eq_true rfl) rfl dX3_readNumbers_52 ?_
                      refine x_iloadn X dX3_readNumbers_55 2 rfl ?_
                      refine x_iload X dX3_readNumbers_56 0 rfl ?_
                      refine x_iadd (v := nI (q2 + (figs le nl q2))) X dX3_readNumbers_58 (nI_add _ _) ?_
                      refine x_istoren (lv' := [(2, .int (nI (q2 + (figs le nl q2)))), (4, .int (nI (figs le nl q2))), (3, .int (nI 2)), (5, .int (ltA le nl (q1 + (figs le nl q1)))), (0, .ref (a 0)), (1, .int (nI p))]) X dX3_readNumbers_59 (by decide) rfl ?_
                      refine x_aloadn X dX3_readNumbers_60 4 rfl ?_
                      refine x_iloadn X dX3_readNumbers_61 0 rfl ?_
                      refine x_callVrv (As := [.int (nI (q2 + (figs le nl q2)))]) (rest := []) X (c_X3_letterAt l G a le nl (upd (upd (upd nu 0 (valN le nl p)) 1 (valN le nl q1)) 2 (valN le nl q2)) 3 (q2 + (figs le nl q2)) (by omega) (by omega)) xE0_ok (fun _ _ _ => trivial) [0, 1, 2] rfl 0 rfl rfl rfl rfl wco_X3_letterAt wi_X3 xd_X3_letterAt wl_X3_35 win_X3_letterAt wse_X3_letterAt (by decide) (Nat.le_of_ble_eq_true rfl) dX3_readNumbers_62 ?_
                      refine x_istore (lv' := [(5, .int (ltA le nl (q2 + (figs le nl q2)))), (2, .int (nI (q2 + (figs le nl q2)))), (4, .int (nI (figs le nl q2))), (3, .int (nI 2)), (0, .ref (a 0)), (1, .int (nI p))]) X dX3_readNumbers_65 (by decide) rfl ?_
                      refine x_iinc (v := nI (q2 + (figs le nl q2) + 1)) (lv' := [(2, .int (nI (q2 + (figs le nl q2) + 1))), (5, .int (ltA le nl (q2 + (figs le nl q2)))), (4, .int (nI (figs le nl q2))), (3, .int (nI 2)), (0, .ref (a 0)), (1, .int (nI p))]) X dX3_readNumbers_67 1 rfl (nI_1 _) (by decide) rfl ?_
                      obtain ⟨q3, hq3⟩ : ∃ q : Nat, q = q2 + (figs le nl q2) + 1 := ⟨_, rfl⟩
                      rw [← hq3]
                      refine x_iload X dX3_readNumbers_70 1 rfl ?_
                      refine x_bipush (v := nI 59) X dX3_readNumbers_72 (by decide) ?_
                      refine x_icmp_ne 79 X dX3_readNumbers_74 (by decide) (fun c_14 => ?_) (fun c_14 => ?_)
                      · -- 74 t
                        refine x_iload X dX3_readNumbers_79 1 rfl ?_
                        refine x_bipush (v := nI 44) X dX3_readNumbers_81 (by decide) ?_
                        refine x_icmp_eq 89 X dX3_readNumbers_83 (by decide) (fun c_15 => ?_) (fun c_15 => ?_)
                        · -- 83 t
                          refine x_iinc (v := nI 3) (lv' := [(3, .int (nI 3)), (2, .int (nI q3)), (5, .int (ltA le nl (q2 + (figs le nl q2)))), (4, .int (nI (figs le nl q2))), (0, .ref (a 0)), (1, .int (nI p))]) X dX3_readNumbers_89 3 rfl (by decide) (by decide) rfl ?_
                          refine x_goto 9 X dX3_readNumbers_92 (by decide) ?_
                          refine x_iloadn X dX3_readNumbers_9 0 rfl ?_
                          refine x_iconst (v := nI 3) X dX3_readNumbers_10 (by decide) ?_
                          refine x_icmp_ge_n 95 X dX3_readNumbers_11 (by decide) (by omega) (by omega) (fun c_16 => ?_) (fun c_16 => ?_)
                          · -- 11 t
                            refine x_bipush (v := (-4)) X dX3_readNumbers_95 (by decide) ?_
                            exact x_ret X dX3_readNumbers_97 ⟨ret_i (by rw [rdN_c c_3 c_4 c_5, ← hq1, rdN_c c_8 c_9 c_10, ← hq2, rdN_c c_13 c_14 c_15, ← hq3, rdN_0]; rfl), ⟨(upd (upd (upd nu 0 (valN le nl p)) 1 (valN le nl q1)) 2 (valN le nl q2)), 3, rfl, by rw [rdN_c c_3 c_4 c_5, ← hq1, rdN_c c_8 c_9 c_10, ← hq2, rdN_c c_13 c_14 c_15, ← hq3, rdN_0]; intro h; simp [bump] at h, by rw [rdN_c c_3 c_4 c_5, ← hq1, rdN_c c_8 c_9 c_10, ← hq2, rdN_c c_13 c_14 c_15, ← hq3, rdN_0]; intro h; simp [bump] at h, by rw [rdN_c c_3 c_4 c_5, ← hq1, rdN_c c_8 c_9 c_10, ← hq2, rdN_c c_13 c_14 c_15, ← hq3, rdN_0]; intro h; simp [bump] at h, by rw [rdN_c c_3 c_4 c_5, ← hq1, rdN_c c_8 c_9 c_10, ← hq2, rdN_c c_13 c_14 c_15, ← hq3, rdN_0]; intro h; simp [bump] at h⟩, by decide, by decide⟩
                          · -- 11 f
                            exact absurd c_16 (by omega)
                        · -- 83 f
                          refine x_bipush (v := (-4)) X dX3_readNumbers_86 (by decide) ?_
                          exact x_ret X dX3_readNumbers_88 ⟨ret_i (by rw [rdN_c c_3 c_4 c_5, ← hq1, rdN_c c_8 c_9 c_10, ← hq2, rdN_b c_13 c_14 c_15]; rfl), ⟨(upd (upd (upd nu 0 (valN le nl p)) 1 (valN le nl q1)) 2 (valN le nl q2)), 3, rfl, by rw [rdN_c c_3 c_4 c_5, ← hq1, rdN_c c_8 c_9 c_10, ← hq2, rdN_b c_13 c_14 c_15]; intro h; simp [bump] at h, by rw [rdN_c c_3 c_4 c_5, ← hq1, rdN_c c_8 c_9 c_10, ← hq2, rdN_b c_13 c_14 c_15]; intro h; simp [bump] at h, by rw [rdN_c c_3 c_4 c_5, ← hq1, rdN_c c_8 c_9 c_10, ← hq2, rdN_b c_13 c_14 c_15]; intro h; simp [bump] at h, by rw [rdN_c c_3 c_4 c_5, ← hq1, rdN_c c_8 c_9 c_10, ← hq2, rdN_b c_13 c_14 c_15]; intro h; simp [bump] at h⟩, by decide, by decide⟩
                      · -- 74 f
                        refine x_iloadn X dX3_readNumbers_77 0 rfl ?_
                        exact x_ret X dX3_readNumbers_78 ⟨ret_i (by rw [rdN_c c_3 c_4 c_5, ← hq1, rdN_c c_8 c_9 c_10, ← hq2, rdN_s c_13 c_14, ← hq3]; rfl), ⟨(upd (upd (upd nu 0 (valN le nl p)) 1 (valN le nl q1)) 2 (valN le nl q2)), 3, rfl, by rw [rdN_c c_3 c_4 c_5, ← hq1, rdN_c c_8 c_9 c_10, ← hq2, rdN_s c_13 c_14, ← hq3]; intro _; rfl, by rw [rdN_c c_3 c_4 c_5, ← hq1, rdN_c c_8 c_9 c_10, ← hq2, rdN_s c_13 c_14, ← hq3]; intro _; rfl, by rw [rdN_c c_3 c_4 c_5, ← hq1, rdN_c c_8 c_9 c_10, ← hq2, rdN_s c_13 c_14, ← hq3]; intro _; simp only [nx, ← hq1]; rfl, by rw [rdN_c c_3 c_4 c_5, ← hq1, rdN_c c_8 c_9 c_10, ← hq2, rdN_s c_13 c_14, ← hq3]; intro _; simp only [nx, ← hq1, ← hq2]; rfl⟩, by decide, by decide⟩
                    · -- 24 f
                      refine x_bipush (v := (-4)) X dX3_readNumbers_27 (by decide) ?_
                      exact x_ret X dX3_readNumbers_29 ⟨ret_i (by rw [rdN_c c_3 c_4 c_5, ← hq1, rdN_c c_8 c_9 c_10, ← hq2, rdN_f c_13]; rfl), ⟨(upd (upd nu 0 (valN le nl p)) 1 (valN le nl q1)), 2, rfl, by rw [rdN_c c_3 c_4 c_5, ← hq1, rdN_c c_8 c_9 c_10, ← hq2, rdN_f c_13]; intro h; simp [bump] at h, by rw [rdN_c c_3 c_4 c_5, ← hq1, rdN_c c_8 c_9 c_10, ← hq2, rdN_f c_13]; intro h; simp [bump] at h, by rw [rdN_c c_3 c_4 c_5, ← hq1, rdN_c c_8 c_9 c_10, ← hq2, rdN_f c_13]; intro h; simp [bump] at h, by rw [rdN_c c_3 c_4 c_5, ← hq1, rdN_c c_8 c_9 c_10, ← hq2, rdN_f c_13]; intro h; simp [bump] at h⟩, by decide, by decide⟩
                · -- 83 f
                  refine x_bipush (v := (-4)) X dX3_readNumbers_86 (by decide) ?_
                  exact x_ret X dX3_readNumbers_88 ⟨ret_i (by rw [rdN_c c_3 c_4 c_5, ← hq1, rdN_b c_8 c_9 c_10]; rfl), ⟨(upd (upd nu 0 (valN le nl p)) 1 (valN le nl q1)), 2, rfl, by rw [rdN_c c_3 c_4 c_5, ← hq1, rdN_b c_8 c_9 c_10]; intro h; simp [bump] at h, by rw [rdN_c c_3 c_4 c_5, ← hq1, rdN_b c_8 c_9 c_10]; intro h; simp [bump] at h, by rw [rdN_c c_3 c_4 c_5, ← hq1, rdN_b c_8 c_9 c_10]; intro h; simp [bump] at h, by rw [rdN_c c_3 c_4 c_5, ← hq1, rdN_b c_8 c_9 c_10]; intro h; simp [bump] at h⟩, by decide, by decide⟩
              · -- 74 f
                refine x_iloadn X dX3_readNumbers_77 0 rfl ?_
                exact x_ret X dX3_readNumbers_78 ⟨ret_i (by rw [rdN_c c_3 c_4 c_5, ← hq1, rdN_s c_8 c_9, ← hq2]; rfl), ⟨(upd (upd nu 0 (valN le nl p)) 1 (valN le nl q1)), 2, rfl, by rw [rdN_c c_3 c_4 c_5, ← hq1, rdN_s c_8 c_9, ← hq2]; intro _; rfl, by rw [rdN_c c_3 c_4 c_5, ← hq1, rdN_s c_8 c_9, ← hq2]; intro _; rfl, by rw [rdN_c c_3 c_4 c_5, ← hq1, rdN_s c_8 c_9, ← hq2]; intro _; simp only [nx, ← hq1]; rfl, by rw [rdN_c c_3 c_4 c_5, ← hq1, rdN_s c_8 c_9, ← hq2]; intro h; simp [bump] at h⟩, by decide, by decide⟩
            · -- 24 f
              refine x_bipush (v := (-4)) X dX3_readNumbers_27 (by decide) ?_
              exact x_ret X dX3_readNumbers_29 ⟨ret_i (by rw [rdN_c c_3 c_4 c_5, ← hq1, rdN_f c_8]; rfl), ⟨(upd nu 0 (valN le nl p)), 1, rfl, by rw [rdN_c c_3 c_4 c_5, ← hq1, rdN_f c_8]; intro h; simp [bump] at h, by rw [rdN_c c_3 c_4 c_5, ← hq1, rdN_f c_8]; intro h; simp [bump] at h, by rw [rdN_c c_3 c_4 c_5, ← hq1, rdN_f c_8]; intro h; simp [bump] at h, by rw [rdN_c c_3 c_4 c_5, ← hq1, rdN_f c_8]; intro h; simp [bump] at h⟩, by decide, by decide⟩
        · -- 83 f
          refine x_bipush (v := (-4)) X dX3_readNumbers_86 (by decide) ?_
          exact x_ret X dX3_readNumbers_88 ⟨ret_i (by rw [rdN_b c_3 c_4 c_5]; rfl), ⟨(upd nu 0 (valN le nl p)), 1, rfl, by rw [rdN_b c_3 c_4 c_5]; intro h; simp [bump] at h, by rw [rdN_b c_3 c_4 c_5]; intro h; simp [bump] at h, by rw [rdN_b c_3 c_4 c_5]; intro h; simp [bump] at h, by rw [rdN_b c_3 c_4 c_5]; intro h; simp [bump] at h⟩, by decide, by decide⟩
      · -- 74 f
        refine x_iloadn X dX3_readNumbers_77 0 rfl ?_
        exact x_ret X dX3_readNumbers_78 ⟨ret_i (by rw [rdN_s c_3 c_4, ← hq1]; rfl), ⟨(upd nu 0 (valN le nl p)), 1, rfl, by rw [rdN_s c_3 c_4, ← hq1]; intro _; rfl, by rw [rdN_s c_3 c_4, ← hq1]; intro _; rfl, by rw [rdN_s c_3 c_4, ← hq1]; intro h; simp [bump] at h, by rw [rdN_s c_3 c_4, ← hq1]; intro h; simp [bump] at h⟩, by decide, by decide⟩
    · -- 24 f
      refine x_bipush (v := (-4)) X dX3_readNumbers_27 (by decide) ?_
      exact x_ret X dX3_readNumbers_29 ⟨ret_i (by rw [rdN_f c_3]; rfl), ⟨nu, 0, rfl, by rw [rdN_f c_3]; intro h; simp [bump] at h, by rw [rdN_f c_3]; intro h; simp [bump] at h, by rw [rdN_f c_3]; intro h; simp [bump] at h, by rw [rdN_f c_3]; intro h; simp [bump] at h⟩, by decide, by decide⟩
set_option maxRecDepth 100000 in
set_option maxHeartbeats 4000000 in
/-- X3_tellItem -/
theorem c_X3_tellItem (l : Launch) (G : xG) (a : Nat → Nat) (le : Nat → Int32) (nl : Nat) (nu : Nat → Int32) (nc : Nat) (b : Nat → Nat) (s : xS) (x : Int32) (hs : s.1 ≤ 6) (hc : nc < 2 ^ 31) : xM l G xE0 yX3_tellItem cX3_tellItem 3 (some .boolean) 3 68 0 0 [.ref (a 0), .int x, .ref (b 0)] (xJ [wTx G a le nl nu nc, wCq G b s]) (some (.int (bI (itB x nc (nu 0) (nu 1) (nu 2) s)))) (fun w2 => w2 = xJ [wTx G a le nl nu nc, wCq G b (itS x nc (nu 0) (nu 1) (nu 2) s)]) := by
  refine x_entry (by decide +kernel) (Nat.le_of_ble_eq_true rfl) rfl ⟨_, rfl, bI_narrow _⟩ (fun K X => ?_)
  refine x_iloadn X dX3_tellItem_0 1 rfl ?_
  by_cases c_1 : x = 97
  · -- case 97
    refine x_int c_1 ?_
    refine x_lookup (off := 117) 118 X dX3_tellItem_1 (by decide) (by decide) (by decide) ?_
    refine x_aloadn X dX3_tellItem_118 0 rfl ?_
    refine x_get X wu_X3 0 rfl rfl 3 (by decide) wf_X3_42 rfl rfl dX3_tellItem_119 ?_
    refine x_iconst (v := nI 1) X dX3_tellItem_122 (by decide) ?_
    refine x_icmp_ne_n 145 X dX3_tellItem_123 (by decide) (by omega) (by omega) (fun c_2 => ?_) (fun c_2 => ?_)
    · -- 123 t
      refine x_iconst (v := nI 0) X dX3_tellItem_145 (by decide) ?_
      exact x_ret X dX3_tellItem_146 ⟨ret_i (by rw [show itB x nc (nu 0) (nu 1) (nu 2) s = false from by simp [itB, c_1, c_2]]; rfl), (by simp [itS, c_1, c_2]), by decide, by decide⟩
    · -- 123 f
      refine x_aloadn X dX3_tellItem_126 2 rfl ?_
      refine x_aloadn X dX3_tellItem_127 0 rfl ?_
      refine x_get X wu_X3 0 rfl rfl 2 (by decide) wf_X3_15 rfl rfl dX3_tellItem_128 ?_
      refine x_iconst (v := nI 0) X dX3_tellItem_131 (by decide) ?_
      refine x_callNrv (As := [.ref (a 2), .int (nI 0)]) (rest := [.ref (b 0)]) X (c_X4_at l G (a 2) 3 nu 0 (by omega) (by omega)) xE0_ok (fun _ _ _ => trivial) [2] rfl rfl rfl wco_X4_at wi_X4 xd_X4_at wn_X3_52 wst_X4_at (by decide) (Nat.le_of_ble_eq_true rfl) dX3_tellItem_132 ?_
      refine x_callVfv (As := [.int (nu 0)]) (rest := []) (w1 := wCq G b (tellQ s (nu 0))) (ws' := xJ [wTx G a le nl nu nc, wCq G b (tellQ s (nu 0))]) X (c_X0_tellPapers l G b s (nu 0)) xE0_ok (fun _ _ _ => trivial) [3, 4, 5, 6, 7] rfl 0 rfl rfl rfl rfl wco_X0_tellPapers wi_X0 xd_X0_tellPapers wl_X3_64 win_X0_tellPapers wse_X0_tellPapers (by decide) (Nat.le_of_ble_eq_true rfl) dX3_tellItem_135 rfl (Eq.trans (b := [b 0, b 1, b 2, b 3, b 4]) rfl rfl) rfl ?_
      refine x_ifeq_b 145 X dX3_tellItem_138 (by decide) (fun c_3 => ?_) (fun c_3 => ?_)
      · -- 138 t
        refine x_iconst (v := nI 0) X dX3_tellItem_145 (by decide) ?_
        exact x_ret X dX3_tellItem_146 ⟨ret_i (by rw [show itB x nc (nu 0) (nu 1) (nu 2) s = false from by simp [itB, c_1, (eq_true c_2), c_3]]; rfl), (by simp [itS, c_1, (eq_true c_2), c_3]), by decide, by decide⟩
      · -- 138 f
        refine x_iconst (v := nI 1) X dX3_tellItem_141 (by decide) ?_
        refine x_goto 146 X dX3_tellItem_142 (by decide) ?_
        exact x_ret X dX3_tellItem_146 ⟨ret_i (by rw [show itB x nc (nu 0) (nu 1) (nu 2) s = true from by simp [itB, c_1, (eq_true c_2), c_3]]; rfl), (by simp [itS, c_1, (eq_true c_2), c_3]), by decide, by decide⟩
  by_cases c_4 : x = 112
  · -- case 112
    refine x_int c_4 ?_
    refine x_lookup (off := 35) 36 X dX3_tellItem_1 (by decide) (by decide) (by decide) ?_
    refine x_aloadn X dX3_tellItem_36 0 rfl ?_
    refine x_get X wu_X3 0 rfl rfl 3 (by decide) wf_X3_42 rfl rfl dX3_tellItem_37 ?_
    refine x_iconst (v := nI 2) X dX3_tellItem_40 (by decide) ?_
    refine x_icmp_ne_n 71 X dX3_tellItem_41 (by decide) (by omega) (by omega) (fun c_5 => ?_) (fun c_5 => ?_)
    · -- 41 t
      refine x_iconst (v := nI 0) X dX3_tellItem_71 (by decide) ?_
      exact x_ret X dX3_tellItem_72 ⟨ret_i (by rw [show itB x nc (nu 0) (nu 1) (nu 2) s = false from by simp [itB, c_1, c_4, c_5]]; rfl), (by simp [itS, c_1, c_4, c_5]), by decide, by decide⟩
    · -- 41 f
      refine x_aloadn X dX3_tellItem_44 2 rfl ?_
      refine x_aloadn X dX3_tellItem_45 0 rfl ?_
      refine x_get X wu_X3 0 rfl rfl 2 (by decide) wf_X3_15 rfl rfl dX3_tellItem_46 ?_
      refine x_iconst (v := nI 0) X dX3_tellItem_49 (by decide) ?_
      refine x_callNrv (As := [.ref (a 2), .int (nI 0)]) (rest := [.ref (b 0)]) X (c_X4_at l G (a 2) 3 nu 0 (by omega) (by omega)) xE0_ok (fun _ _ _ => trivial) [2] rfl rfl rfl wco_X4_at wi_X4 xd_X4_at wn_X3_52 wst_X4_at (by decide) (Nat.le_of_ble_eq_true rfl) dX3_tellItem_50 ?_
      refine x_aloadn X dX3_tellItem_53 0 rfl ?_
      refine x_get X wu_X3 0 rfl rfl 2 (by decide) wf_X3_15 rfl rfl dX3_tellItem_54 ?_
      refine x_iconst (v := nI 1) X dX3_tellItem_57 (by decide) ?_
      refine x_callNrv (As := [.ref (a 2), .int (nI 1)]) (rest := [.int (nu 0), .ref (b 0)]) X (c_X4_at l G (a 2) 3 nu 1 (by omega) (by omega)) xE0_ok (fun _ _ _ => trivial) [2] rfl rfl rfl wco_X4_at wi_X4 xd_X4_at wn_X3_52 wst_X4_at (by decide) (Nat.le_of_ble_eq_true rfl) dX3_tellItem_58 ?_
      refine x_callVfv (As := [.int (nu 0), .int (nu 1)]) (rest := []) (w1 := wCq G b (tellP s (nu 0) (nu 1))) (ws' := xJ [wTx G a le nl nu nc, wCq G b (tellP s (nu 0) (nu 1))]) X (c_X0_tellPerson l G b s (nu 0) (nu 1) (by omega)) xE0_ok (fun _ _ _ => trivial) [3, 4, 5, 6, 7] rfl 0 rfl rfl rfl rfl wco_X0_tellPerson wi_X0 xd_X0_tellPerson wl_X3_56 win_X0_tellPerson wse_X0_tellPerson (by decide) (Nat.le_of_ble_eq_true rfl) dX3_tellItem_61 rfl (Eq.trans (b := [b 0, b 1, b 2, b 3, b 4]) rfl rfl) rfl ?_
      refine x_ifeq_b 71 X dX3_tellItem_64 (by decide) (fun c_6 => ?_) (fun c_6 => ?_)
      · -- 64 t
        refine x_iconst (v := nI 0) X dX3_tellItem_71 (by decide) ?_
        exact x_ret X dX3_tellItem_72 ⟨ret_i (by rw [show itB x nc (nu 0) (nu 1) (nu 2) s = false from by simp [itB, c_1, c_4, (eq_true c_5), c_6]]; rfl), (by simp [itS, c_1, c_4, (eq_true c_5), c_6]), by decide, by decide⟩
      · -- 64 f
        refine x_iconst (v := nI 1) X dX3_tellItem_67 (by decide) ?_
        refine x_goto 72 X dX3_tellItem_68 (by decide) ?_
        exact x_ret X dX3_tellItem_72 ⟨ret_i (by rw [show itB x nc (nu 0) (nu 1) (nu 2) s = true from by simp [itB, c_1, c_4, (eq_true c_5), c_6]]; rfl), (by simp [itS, c_1, c_4, (eq_true c_5), c_6]), by decide, by decide⟩
  by_cases c_7 : x = 118
  · -- case 118
    refine x_int c_7 ?_
    refine x_lookup (off := 72) 73 X dX3_tellItem_1 (by decide) (by decide) (by decide) ?_
    refine x_aloadn X dX3_tellItem_73 0 rfl ?_
    refine x_get X wu_X3 0 rfl rfl 3 (by decide) wf_X3_42 rfl rfl dX3_tellItem_74 ?_
    refine x_iconst (v := nI 3) X dX3_tellItem_77 (by decide) ?_
    refine x_icmp_ne_n 116 X dX3_tellItem_78 (by decide) (by omega) (by omega) (fun c_8 => ?_) (fun c_8 => ?_)
    · -- 78 t
      refine x_iconst (v := nI 0) X dX3_tellItem_116 (by decide) ?_
      exact x_ret X dX3_tellItem_117 ⟨ret_i (by rw [show itB x nc (nu 0) (nu 1) (nu 2) s = false from by simp [itB, c_1, c_4, c_7, c_8]]; rfl), (by simp [itS, c_1, c_4, c_7, c_8]), by decide, by decide⟩
    · -- 78 f
      refine x_aloadn X dX3_tellItem_81 2 rfl ?_
      refine x_aloadn X dX3_tellItem_82 0 rfl ?_
      refine x_get X wu_X3 0 rfl rfl 2 (by decide) wf_X3_15 rfl rfl dX3_tellItem_83 ?_
      refine x_iconst (v := nI 0) X dX3_tellItem_86 (by decide) ?_
      refine x_callNrv (As := [.ref (a 2), .int (nI 0)]) (rest := [.ref (b 0)]) X (c_X4_at l G (a 2) 3 nu 0 (by omega) (by omega)) xE0_ok (fun _ _ _ => trivial) [2] rfl rfl rfl wco_X4_at wi_X4 xd_X4_at wn_X3_52 wst_X4_at (by decide) (Nat.le_of_ble_eq_true rfl) dX3_tellItem_87 ?_
      refine x_aloadn X dX3_tellItem_90 0 rfl ?_
      refine x_get X wu_X3 0 rfl rfl 2 (by decide) wf_X3_15 rfl rfl dX3_tellItem_91 ?_
      refine x_iconst (v := nI 1) X dX3_tellItem_94 (by decide) ?_
      refine x_callNrv (As := [.ref (a 2), .int (nI 1)]) (rest := [.int (nu 0), .ref (b 0)]) X (c_X4_at l G (a 2) 3 nu 1 (by omega) (by omega)) xE0_ok (fun _ _ _ => trivial) [2] rfl rfl rfl wco_X4_at wi_X4 xd_X4_at wn_X3_52 wst_X4_at (by decide) (Nat.le_of_ble_eq_true rfl) dX3_tellItem_95 ?_
      refine x_aloadn X dX3_tellItem_98 0 rfl ?_
      refine x_get X wu_X3 0 rfl rfl 2 (by decide) wf_X3_15 rfl rfl dX3_tellItem_99 ?_
      refine x_iconst (v := nI 2) X dX3_tellItem_102 (by decide) ?_
      refine x_callNrv (As := [.ref (a 2), .int (nI 2)]) (rest := [.int (nu 1), .int (nu 0), .ref (b 0)]) X (c_X4_at l G (a 2) 3 nu 2 (by omega) (by omega)) xE0_ok (fun _ _ _ => trivial) [2] rfl rfl rfl wco_X4_at wi_X4 xd_X4_at wn_X3_52 wst_X4_at (by decide) (Nat.le_of_ble_eq_true rfl) dX3_tellItem_103 ?_
      refine x_callVfv (As := [.int (nu 0), .int (nu 1), .int (nu 2)]) (rest := []) (w1 := wCq G b (tellV s (nu 0) (nu 1) (nu 2))) (ws' := xJ [wTx G a le nl nu nc, wCq G b (tellV s (nu 0) (nu 1) (nu 2))]) X (c_X0_tellView l G b s (nu 0) (nu 1) (nu 2) (by omega)) xE0_ok (fun _ _ _ => trivial) [3, 4, 5, 6, 7] rfl 0 rfl rfl rfl rfl wco_X0_tellView wi_X0 xd_X0_tellView wl_X3_60 win_X0_tellView wse_X0_tellView (by decide) (Nat.le_of_ble_eq_true rfl) dX3_tellItem_106 rfl (Eq.trans (b := [b 0, b 1, b 2, b 3, b 4]) rfl rfl) rfl ?_
      refine x_ifeq_b 116 X dX3_tellItem_109 (by decide) (fun c_9 => ?_) (fun c_9 => ?_)
      · -- 109 t
        refine x_iconst (v := nI 0) X dX3_tellItem_116 (by decide) ?_
        exact x_ret X dX3_tellItem_117 ⟨ret_i (by rw [show itB x nc (nu 0) (nu 1) (nu 2) s = false from by simp [itB, c_1, c_4, c_7, (eq_true c_8), c_9]]; rfl), (by simp [itS, c_1, c_4, c_7, (eq_true c_8), c_9]), by decide, by decide⟩
      · -- 109 f
        refine x_iconst (v := nI 1) X dX3_tellItem_112 (by decide) ?_
        refine x_goto 117 X dX3_tellItem_113 (by decide) ?_
        exact x_ret X dX3_tellItem_117 ⟨ret_i (by rw [show itB x nc (nu 0) (nu 1) (nu 2) s = true from by simp [itB, c_1, c_4, c_7, (eq_true c_8), c_9]]; rfl), (by simp [itS, c_1, c_4, c_7, (eq_true c_8), c_9]), by decide, by decide⟩
  refine x_lookup (off := 146) 147 X dX3_tellItem_1 (by decide) (by show Op.lookupswitch.offset [(97, 117), (112, 35), (118, 72)] 146 x.toInt = 146; rw [lv_osw (a := 97) c_1 rfl, lv_osw (a := 112) c_4 rfl, lv_osw (a := 118) c_7 rfl]; rfl) (by decide) ?_
  refine x_iconst (v := nI 0) X dX3_tellItem_147 (by decide) ?_
  exact x_ret X dX3_tellItem_148 ⟨ret_i (by rw [show itB x nc (nu 0) (nu 1) (nu 2) s = false from by simp [itB, c_1, c_4, c_7]]; rfl), (by simp [itS, c_1, c_4, c_7]), by decide, by decide⟩
