/-! ===== the reference: its calls ===== -/
theorem enc_own {x y : Int32} (hx : bl x) (hy : bd y) : enc x = y + nI 10 ↔ x = y := by
  rcases hx with rfl | hx
  · exact bd_all (P := fun y => enc (nI 100) = y + nI 10 ↔ nI 100 = y) (by decide +kernel) hy
  · rw [← enc_add (bd_n100 hx)]
    constructor
    · intro h
      have := congrArg (fun z => z - nI 10) h
      simpa using this
    · intro h
      rw [h]
theorem en_upli (s : xS) (b t : Nat) (x v : Int32) (hv : v = enc x) : upd (en s) (36 + 5 * b + t) v = en (s.1, s.2.1, s.2.2.1, s.2.2.2.1, s.2.2.2.2.1, upd s.2.2.2.2.2 (b * 5 + t) x) := by
  funext k
  simp only [upd, en]
  by_cases h : k = 36 + 5 * b + t
  · subst h
    rw [if_pos rfl, if_neg (by omega), if_neg (by omega), show 36 + 5 * b + t - 36 = b * 5 + t by omega, if_pos rfl, hv]
  · rw [if_neg h]
    by_cases h1 : k < 6
    · rw [if_pos h1, if_pos h1]
    · rw [if_neg h1, if_neg h1]
      by_cases h2 : k < 36
      · rw [if_pos h2, if_pos h2]
      · rw [if_neg h2, if_neg h2, if_neg (by omega)]
theorem en_upvi (s : xS) (p t : Nat) (v : Int32) (hp : p < 6) (ht : t < 5) : upd (en s) (6 + 5 * p + t) v = en (s.1, s.2.1, s.2.2.1, s.2.2.2.1, upd s.2.2.2.2.1 (p * 5 + t) v, s.2.2.2.2.2) := by
  funext k
  simp only [upd, en]
  by_cases h : k = 6 + 5 * p + t
  · subst h
    rw [if_pos rfl, if_neg (by omega), if_pos (by omega), show 6 + 5 * p + t - 6 = p * 5 + t by omega, if_pos rfl]
  · rw [if_neg h]
    by_cases h1 : k < 6
    · rw [if_pos h1, if_pos h1]
    · rw [if_neg h1, if_neg h1]
      by_cases h2 : k < 36
      · rw [if_pos h2, if_pos h2, if_neg (by omega)]
      · rw [if_neg h2, if_neg h2]
theorem en_upmi (s : xS) (p : Nat) (v : Int32) (hp : p < 6) : upd (en s) (0 + p) v = en (s.1, s.2.1, s.2.2.1, upd s.2.2.2.1 p v, s.2.2.2.2.1, s.2.2.2.2.2) := by
  funext k
  simp only [upd, en, Nat.zero_add]
  by_cases h : k = p
  · subst h
    rw [if_pos rfl, if_pos hp, if_pos rfl]
  · rw [if_neg h, if_neg h]
theorem wr_wf (s : xS) (p t : Nat) (n : Int32) : F_wr s p t n = F_wf s p (tn (s.2.2.2.1 p)) t n := rfl
theorem or0 (x : Int32) : x ||| nI 0 = x := Int32.or_zero
/-- s, with PAPER b written over from PAPER a by PERSON p, behind t THEMES -/
def cpS (s : xS) (p a b t : Nat) : xS := (s.1, s.2.1, s.2.2.1, s.2.2.2.1, s.2.2.2.2.1, cpP s.2.2.1 s.2.2.2.1 s.2.2.2.2.1 s.2.2.2.2.2 p a b t)
theorem cpS_0 (s : xS) (p a b : Nat) : s = cpS s p a b 0 := by rw [cpS, ← cpP_0]
theorem cpS_s (s : xS) (p a b t : Nat) : (s.1, s.2.1, s.2.2.1, s.2.2.2.1, s.2.2.2.2.1, upd (cpS s p a b t).2.2.2.2.2 (b * 5 + t) (F_cop (s.2.2.1 p) (s.2.2.2.2.1 (tn (s.2.2.2.1 p) * 5 + t)) (s.2.2.2.2.2 (a * 5 + t)))) = cpS s p a b (t + 1) := by
  rw [cpS, cpS, cpP_s]
theorem cpS_at (s : xS) (p a b t : Nat) (ht : t < 5) : (cpS s p a b t).2.2.2.2.2 (a * 5 + t) = s.2.2.2.2.2 (a * 5 + t) := cpP_at _ _ _ _ _ _ _ _ ht
theorem cop_bl {k x y : Int32} (hx : bl x) (hy : bd y) : bl (F_cop k y x) := by
  unfold F_cop
  rcases hx with rfl | hx
  · rw [if_pos rfl]
    exact Or.inl rfl
  · rw [if_neg (bd_n100 hx)]
    exact Or.inr (car_bd hx hy)
theorem ink_bd {kd x y : Int32} {n : Nat} (hx : bd x) (hy : bd y) (hn : n < 11) : bd (F_ink kd x y (nI n)) := by
  have hm : ∀ i, i < 19 → ∀ j, j < 19 → ∀ n, n < 11 → (∃ k, k < 19 ∧ F_mix (nI i - nI 9) (nI j - nI 9) (nI n) = nI k - nI 9) := by
    have h : ∀ i, i < 19 → ∀ j, j < 19 → ∀ n, n < 11 → (fun z => (fun k => k < 19 ∧ z = nI k - nI 9) (tn (z + nI 9))) (F_mix (nI i - nI 9) (nI j - nI 9) (nI n)) := by decide +kernel
    intro i hi j hj n hn
    exact ⟨_, h i hi j hj n hn⟩
  have hg : ∀ x, bd x → bd (-x) := fun x hx => bd_all (P := fun x => ∃ k, k < 19 ∧ -x = nI k - nI 9) (by decide +kernel) hx
  have hmx : ∀ x y, bd x → bd y → bd (F_mix x y (nI n)) := by
    rintro x y ⟨i, hi, rfl⟩ ⟨j, hj, rfl⟩
    exact hm i hi j hj n hn
  unfold F_ink
  split
  · exact hx
  · split
    · exact hmx _ _ (hg _ hx) hy
    · split
      · exact bd_0
      · split
        · exact bd_9
        · exact hmx _ _ hx hy
theorem wf_bd {s : xS} {p m t n : Nat} (hv : ∀ j, j < 30 → bd (s.2.2.2.2.1 j)) (hp : p < 6) (hm : m < 6) (ht : t < 5) (hn : n < 11) : bd (F_wf s p m t (nI n)) := ink_bd (hv _ (by omega)) (hv _ (by omega)) hn
theorem cpS_bl {s : xS} {p a b : Nat} (hm : ∀ j, j < 6 → inR (s.2.2.2.1 j) 6 = true) (hv : ∀ j, j < 30 → bd (s.2.2.2.2.1 j)) (hl : ∀ j, j < 25 → bl (s.2.2.2.2.2 j)) (hp : p < 6) (ha : a < 5) : ∀ j, j < 25 → bl ((cpS s p a b 5).2.2.2.2.2 j) := by
  intro j hj
  have h6 := (inR_eq (hm p hp) (by decide)).2
  show bl (if b * 5 ≤ j ∧ j < b * 5 + 5 then _ else _)
  split
  · exact cop_bl (hl _ (by omega)) (hv _ (by omega))
  · exact hl _ hj
theorem bd_sub {n : Nat} (h : n < 19) : bd (nI n - nI 9) := ⟨n, h, rfl⟩
def F_least2 (s : xS) (a p what : Int32) : Int32 := F_least s a p what
theorem own_not (s : xS) (a p : Nat) : nI 31 &&& ~~~ (F_owb s a p 5) = F_lsb s a p 5 := by
  simp only [F_owb, F_lsb]
  by_cases h0 : s.2.2.2.2.2 (a * 5 + 0) = s.2.2.2.2.1 (p * 5 + 0) <;> by_cases h1 : s.2.2.2.2.2 (a * 5 + 1) = s.2.2.2.2.1 (p * 5 + 1) <;> by_cases h2 : s.2.2.2.2.2 (a * 5 + 2) = s.2.2.2.2.1 (p * 5 + 2) <;> by_cases h3 : s.2.2.2.2.2 (a * 5 + 3) = s.2.2.2.2.1 (p * 5 + 3) <;> by_cases h4 : s.2.2.2.2.2 (a * 5 + 4) = s.2.2.2.2.1 (p * 5 + 4) <;> simp only [h0, h1, h2, h3, h4, if_true, if_false] <;> decide +kernel
/-- the set bits below t -/
def cBit (x : Int32) : Nat → Int32
  | 0 => nI 0
  | t + 1 => cBit x t + ((x >>> (nI t &&& 31)) &&& nI 1)
theorem cBit_bc (s : xS) (a p : Nat) : cBit (F_lsb s a p 5) 5 = F_bc (F_lsb s a p 5) := by
  simp only [F_lsb]
  by_cases h0 : s.2.2.2.2.2 (a * 5 + 0) = s.2.2.2.2.1 (p * 5 + 0) <;> by_cases h1 : s.2.2.2.2.2 (a * 5 + 1) = s.2.2.2.2.1 (p * 5 + 1) <;> by_cases h2 : s.2.2.2.2.2 (a * 5 + 2) = s.2.2.2.2.1 (p * 5 + 2) <;> by_cases h3 : s.2.2.2.2.2 (a * 5 + 3) = s.2.2.2.2.1 (p * 5 + 3) <;> by_cases h4 : s.2.2.2.2.2 (a * 5 + 4) = s.2.2.2.2.1 (p * 5 + 4) <;> simp only [h0, h1, h2, h3, h4, if_true, if_false] <;> decide +kernel
def shW (W : Nat → Int32) (k : Nat) : Nat → Int32 := fun j => if j < k then W (j + 61) else W j
theorem shW_0 (W : Nat → Int32) : W = shW W 0 := by funext j; simp [shW]
theorem shW_at (W : Nat → Int32) (k : Nat) : shW W k (k + 61) = W (k + 61) := by simp only [shW]; rw [if_neg (by omega)]
theorem shW_s (W : Nat → Int32) (k : Nat) : upd (shW W k) k (W (k + 61)) = shW W (k + 1) := by
  funext j
  simp only [upd, shW]
  by_cases h : j = k
  · subst h; simp
  · rw [if_neg h]
    by_cases h2 : j < k
    · rw [if_pos h2, if_pos (by omega)]
    · rw [if_neg h2, if_neg (by omega)]
def mNa (na : Nat) : Nat := if na = 8 then 8 else na + 1
def mW (W S : Nat → Int32) (na : Nat) : Nat → Int32 := if na = 8 then va_cpy S (shW W 427) 0 (61 * 7) 61 else va_cpy S W 0 (61 * na) 61
def mN (b : Bool) (na : Nat) : Nat := if b = true then mNa na else na
def mWb (b : Bool) (W S : Nat → Int32) (na : Nat) : Nat → Int32 := if b = true then mW W S na else W
theorem mN_t (na : Nat) : mN true na = mNa na := rfl
/-- what PERSON p writes with PERSON m's and n TEARS is each SIGNED -/
def mIs (s : xS) (sg : Nat → Int32) (p m : Nat) (n : Int32) : Nat → Bool
  | 0 => true
  | k + 1 => mIs s sg p m n k && decide (F_wf s p m (tn (sg (2 * k))) n = sg (2 * k + 1) - nI 9)

set_option maxRecDepth 100000 in
set_option maxHeartbeats 4000000 in
/-- X5_filled -/
theorem c_X5_filled (l : Launch) (G : xG) (a : Nat → Nat) (np : Nat) (nq : Nat) (na : Nat) (nk : Nat) (ns : Nat) (nl : Nat) (pa : Nat) (rp : Nat) (rq : Nat) (kd : Nat → Int32) (S : Nat → Int32) (W : Nat → Int32) (Kp : Nat → Int32) (sg : Nat → Int32) (le : Nat → Int32) (tl : Nat → Int32) (rk : Nat → Int32) (rd : Nat → Int32) (rw : Nat → Int32) (s : xS) (x : Nat) (hx : x < 5) (hbl : ∀ j, j < 25 → bl (s.2.2.2.2.2 j)) : xM l G xE0 yX5_filled cX5_filled 4 (some .int) 0 0 0 0 [.ref (a 0), .int (nI x)] (wMo G a np nq na nk ns nl pa rp rq kd S W Kp sg le tl rk rd (en s) rw) (some (.int (nI (F_fil s.2.2.2.2.2 x 5)))) (fun w2 => w2 = wMo G a np nq na nk ns nl pa rp rq kd S W Kp sg le tl rk rd (en s) rw) := by
  refine x_entry (by decide +kernel) (Nat.le_of_ble_eq_true rfl) rfl ⟨_, rfl, rfl⟩ (fun K X => ?_)
  refine x_iconst (v := nI 0) X dX5_filled_0 (by decide) ?_
  refine x_istoren (lv' := [(2, .int (nI 0)), (0, .ref (a 0)), (1, .int (nI x))]) X dX5_filled_1 (by decide) rfl ?_
  refine x_iconst (v := nI 0) X dX5_filled_2 (by decide) ?_
  refine x_istoren (lv' := [(3, .int (nI 0)), (2, .int (nI 0)), (0, .ref (a 0)), (1, .int (nI x))]) X dX5_filled_3 (by decide) rfl ?_
  have L4 : ∀ (fu : Nat) (t : Nat) (co : Nat), 5 - t < fu → (t ≤ 5) → (co ≤ t) → (co = F_fil s.2.2.2.2.2 x t) → K (wMo G a np nq na nk ns nl pa rp rq kd S W Kp sg le tl rk rd (en s) rw) 0 0 4 [(0, .ref (a 0)), (1, .int (nI x)), (2, .int (nI co)), (3, .int (nI t))] [] := by
    intro fu
    induction fu with
    | zero => intro t co hfu; exact absurd hfu (Nat.not_lt_zero _)
    | succ fu ih_L4 =>
      intro t co hfu_L4 ht5 hc5 hco
      refine x_iloadn X dX5_filled_4 3 rfl ?_
      refine x_iconst (v := nI 5) X dX5_filled_5 (by decide) ?_
      refine x_icmp_ge_n 39 X dX5_filled_6 (by decide) (by omega) (by omega) (fun c_1 => ?_) (fun c_1 => ?_)
      · -- 6 t
        have n_1 := Nat.not_lt.mpr c_1
        obtain rfl : t = 5 := by omega
        refine x_iloadn X dX5_filled_39 2 rfl ?_
        exact x_ret X dX5_filled_40 ⟨ret_i (by rw [hco]), rfl, by decide, by decide⟩
      · -- 6 f
        refine x_iloadn X dX5_filled_9 2 rfl ?_
        refine x_aloadn X dX5_filled_10 0 rfl ?_
        refine x_get X wu_X5 0 rfl rfl 18 (by decide) wf_X5_37 rfl rfl dX5_filled_11 ?_
        refine x_bipush (v := nI 36) X dX5_filled_14 (by decide) ?_
        refine x_iconst (v := nI 5) X dX5_filled_16 (by decide) ?_
        refine x_iloadn X dX5_filled_17 1 rfl ?_
        refine x_imul (v := nI (5 * x)) X dX5_filled_18 (pk_mul _ _) ?_
        refine x_iadd (v := nI (36 + (5 * x))) X dX5_filled_19 (nI_add _ _) ?_
        refine x_iloadn X dX5_filled_20 3 rfl ?_
        refine x_iadd (v := nI ((36 + (5 * x)) + t)) X dX5_filled_21 (nI_add _ _) ?_
        refine x_iald_n (v := enc (s.2.2.2.2.2 (x * 5 + t))) X 10 rfl (by omega) (by omega) (en_li _ (by omega) (by omega)) dX5_filled_22 ?_
        refine x_if_ne 30 X dX5_filled_23 (by decide) (fun c_2 => ?_) (fun c_2 => ?_)
        · -- 23 t
          refine x_iconst (v := nI 1) X dX5_filled_30 (by decide) ?_
          refine x_iadd (v := nI (co + 1)) X dX5_filled_31 (nI_add _ _) ?_
          refine x_istoren (lv' := [(2, .int (nI (co + 1))), (0, .ref (a 0)), (1, .int (nI x)), (3, .int (nI t))]) X dX5_filled_32 (by decide) rfl ?_
          refine x_iinc (v := nI (t + 1)) (lv' := [(3, .int (nI (t + 1))), (2, .int (nI (co + 1))), (0, .ref (a 0)), (1, .int (nI x))]) X dX5_filled_33 3 rfl (nI_1 _) (by decide) rfl ?_
          refine x_goto 4 X dX5_filled_36 (by decide) ?_
          refine x_lv (lv' := [(0, .ref (a 0)), (1, .int (nI x)), (2, .int (nI (co + 1))), (3, .int (nI (t + 1)))]) X [2, 3, 1, 0] rfl ?_
          exact ih_L4 (t + 1) (co + 1) (by omega) ((by omega)) ((by omega)) (by simp [F_fil, ← enc_0 (hbl (x * 5 + t) (by omega)), ht5, hc5, hco, c_1, c_2])
        · -- 23 f
          refine x_iconst (v := nI 0) X dX5_filled_26 (by decide) ?_
          refine x_goto 31 X dX5_filled_27 (by decide) ?_
          refine x_iadd (v := nI co) X dX5_filled_31 (nI_add _ 0) ?_
          refine x_istoren (lv' := [(2, .int (nI co)), (0, .ref (a 0)), (1, .int (nI x)), (3, .int (nI t))]) X dX5_filled_32 (by decide) rfl ?_
          refine x_iinc (v := nI (t + 1)) (lv' := [(3, .int (nI (t + 1))), (2, .int (nI co)), (0, .ref (a 0)), (1, .int (nI x))]) X dX5_filled_33 3 rfl (nI_1 _) (by decide) rfl ?_
          refine x_goto 4 X dX5_filled_36 (by decide) ?_
          refine x_lv (lv' := [(0, .ref (a 0)), (1, .int (nI x)), (2, .int (nI co)), (3, .int (nI (t + 1)))]) X [2, 3, 1, 0] rfl ?_
          exact ih_L4 (t + 1) co (by omega) ((by omega)) ((by omega)) (by simp [F_fil, ← enc_0 (hbl (x * 5 + t) (by omega)), ht5, hc5, hco, c_1, c_2])
  refine x_lv (lv' := [(0, .ref (a 0)), (1, .int (nI x)), (2, .int (nI 0)), (3, .int (nI 0))]) X [2, 3, 1, 0] rfl ?_
  exact L4 _ 0 0 (Nat.lt_succ_self _) ((by omega)) ((by omega)) (rfl)
set_option maxRecDepth 100000 in
set_option maxHeartbeats 4000000 in
/-- X5_ownOf -/
theorem c_X5_ownOf (l : Launch) (G : xG) (a : Nat → Nat) (np : Nat) (nq : Nat) (na : Nat) (nk : Nat) (ns : Nat) (nl : Nat) (pa : Nat) (rp : Nat) (rq : Nat) (kd : Nat → Int32) (W : Nat → Int32) (Kp : Nat → Int32) (sg : Nat → Int32) (le : Nat → Int32) (tl : Nat → Int32) (rk : Nat → Int32) (rd : Nat → Int32) (nw : Nat → Int32) (rw : Nat → Int32) (s : xS) (x : Nat) (p : Nat) (hx : x < 5) (hp : p < 6) (hbv : ∀ j, j < 30 → bd (s.2.2.2.2.1 j)) (hbl : ∀ j, j < 25 → bl (s.2.2.2.2.2 j)) : xM l G xE0 yX5_ownOf cX5_ownOf 5 (some .int) 0 0 0 0 [.ref (a 0), .int (nI x), .int (nI p)] (wMo G a np nq na nk ns nl pa rp rq kd (en s) W Kp sg le tl rk rd nw rw) (some (.int (F_owb s x p 5))) (fun w2 => w2 = wMo G a np nq na nk ns nl pa rp rq kd (en s) W Kp sg le tl rk rd nw rw) := by
  refine x_entry (by decide +kernel) (Nat.le_of_ble_eq_true rfl) rfl ⟨_, rfl, rfl⟩ (fun K X => ?_)
  refine x_iconst (v := nI 0) X dX5_ownOf_0 (by decide) ?_
  refine x_istoren (lv' := [(3, .int (nI 0)), (0, .ref (a 0)), (1, .int (nI x)), (2, .int (nI p))]) X dX5_ownOf_1 (by decide) rfl ?_
  refine x_iconst (v := nI 0) X dX5_ownOf_2 (by decide) ?_
  refine x_istore (lv' := [(4, .int (nI 0)), (3, .int (nI 0)), (0, .ref (a 0)), (1, .int (nI x)), (2, .int (nI p))]) X dX5_ownOf_3 (by decide) rfl ?_
  have L5 : ∀ (fu : Nat) (t : Nat) (u : Int32), 5 - t < fu → (t ≤ 5) → (u = F_owb s x p t) → K (wMo G a np nq na nk ns nl pa rp rq kd (en s) W Kp sg le tl rk rd nw rw) 0 0 5 [(0, .ref (a 0)), (1, .int (nI x)), (2, .int (nI p)), (3, .int u), (4, .int (nI t))] [] := by
    intro fu
    induction fu with
    | zero => intro t u hfu; exact absurd hfu (Nat.not_lt_zero _)
    | succ fu ih_L5 =>
      intro t u hfu_L5 ht5 hu
      refine x_iload X dX5_ownOf_5 4 rfl ?_
      refine x_iconst (v := nI 5) X dX5_ownOf_7 (by decide) ?_
      refine x_icmp_ge_n 62 X dX5_ownOf_8 (by decide) (by omega) (by omega) (fun c_1 => ?_) (fun c_1 => ?_)
      · -- 8 t
        have n_1 := Nat.not_lt.mpr c_1
        obtain rfl : t = 5 := by omega
        refine x_iloadn X dX5_ownOf_62 3 rfl ?_
        exact x_ret X dX5_ownOf_63 ⟨ret_i (by rw [hu]), rfl, by decide, by decide⟩
      · -- 8 f
        refine x_iloadn X dX5_ownOf_11 3 rfl ?_
        refine x_aloadn X dX5_ownOf_12 0 rfl ?_
        refine x_get X wu_X5 0 rfl rfl 3 (by decide) wf_X5_13 rfl rfl dX5_ownOf_13 ?_
        refine x_bipush (v := nI 36) X dX5_ownOf_16 (by decide) ?_
        refine x_iconst (v := nI 5) X dX5_ownOf_18 (by decide) ?_
        refine x_iloadn X dX5_ownOf_19 1 rfl ?_
        refine x_imul (v := nI (5 * x)) X dX5_ownOf_20 (pk_mul _ _) ?_
        refine x_iadd (v := nI (36 + (5 * x))) X dX5_ownOf_21 (nI_add _ _) ?_
        refine x_iload X dX5_ownOf_22 4 rfl ?_
        refine x_iadd (v := nI ((36 + (5 * x)) + t)) X dX5_ownOf_24 (nI_add _ _) ?_
        refine x_iald_n (v := enc (s.2.2.2.2.2 (x * 5 + t))) X 2 rfl (by omega) (by omega) (en_li _ (by omega) (by omega)) dX5_ownOf_25 ?_
        refine x_aloadn X dX5_ownOf_26 0 rfl ?_
        refine x_get X wu_X5 0 rfl rfl 3 (by decide) wf_X5_13 rfl rfl dX5_ownOf_27 ?_
        refine x_bipush (v := nI 6) X dX5_ownOf_30 (by decide) ?_
        refine x_iconst (v := nI 5) X dX5_ownOf_32 (by decide) ?_
        refine x_iloadn X dX5_ownOf_33 2 rfl ?_
        refine x_imul (v := nI (5 * p)) X dX5_ownOf_34 (pk_mul _ _) ?_
        refine x_iadd (v := nI (6 + (5 * p))) X dX5_ownOf_35 (nI_add _ _) ?_
        refine x_iload X dX5_ownOf_36 4 rfl ?_
        refine x_iadd (v := nI ((6 + (5 * p)) + t)) X dX5_ownOf_38 (nI_add _ _) ?_
        refine x_iald_n (v := s.2.2.2.2.1 (p * 5 + t)) X 2 rfl (by omega) (by omega) (en_vi _ (by omega) (by omega)) dX5_ownOf_39 ?_
        refine x_bipush (v := nI 10) X dX5_ownOf_40 (by decide) ?_
        refine x_iadd (v := (s.2.2.2.2.1 (p * 5 + t)) + (nI 10)) X dX5_ownOf_42 rfl ?_
        refine x_icmp_ne 53 X dX5_ownOf_43 (by decide) (fun c_2 => ?_) (fun c_2 => ?_)
        · -- 43 t
          refine x_iconst (v := nI 0) X dX5_ownOf_53 (by decide) ?_
          refine x_ior (v := u ||| (nI 0)) X dX5_ownOf_54 rfl ?_
          refine x_istoren (lv' := [(3, .int (u ||| (nI 0))), (0, .ref (a 0)), (1, .int (nI x)), (2, .int (nI p)), (4, .int (nI t))]) X dX5_ownOf_55 (by decide) rfl ?_
          refine x_iinc (v := nI (t + 1)) (lv' := [(4, .int (nI (t + 1))), (3, .int (u ||| (nI 0))), (0, .ref (a 0)), (1, .int (nI x)), (2, .int (nI p))]) X dX5_ownOf_56 4 rfl (nI_1 _) (by decide) rfl ?_
          refine x_goto 5 X dX5_ownOf_59 (by decide) ?_
          refine x_lv (lv' := [(0, .ref (a 0)), (1, .int (nI x)), (2, .int (nI p)), (3, .int (u ||| (nI 0))), (4, .int (nI (t + 1)))]) X [2, 3, 4, 1, 0] rfl ?_
          exact ih_L5 (t + 1) (u ||| (nI 0)) (by omega) ((by omega)) (by simp [F_owb, ← enc_own (hbl (x * 5 + t) (by omega)) (hbv (p * 5 + t) (by omega)), or0, ht5, hu, c_1, c_2])
        · -- 43 f
          refine x_iconst (v := nI 1) X dX5_ownOf_46 (by decide) ?_
          refine x_iload X dX5_ownOf_47 4 rfl ?_
          refine x_ishl (v := (nI 1) <<< ((nI t) &&& 31)) X dX5_ownOf_49 rfl ?_
          refine x_goto 54 X dX5_ownOf_50 (by decide) ?_
          refine x_ior (v := u ||| ((nI 1) <<< ((nI t) &&& 31))) X dX5_ownOf_54 rfl ?_
          refine x_istoren (lv' := [(3, .int (u ||| ((nI 1) <<< ((nI t) &&& 31)))), (0, .ref (a 0)), (1, .int (nI x)), (2, .int (nI p)), (4, .int (nI t))]) X dX5_ownOf_55 (by decide) rfl ?_
          refine x_iinc (v := nI (t + 1)) (lv' := [(4, .int (nI (t + 1))), (3, .int (u ||| ((nI 1) <<< ((nI t) &&& 31)))), (0, .ref (a 0)), (1, .int (nI x)), (2, .int (nI p))]) X dX5_ownOf_56 4 rfl (nI_1 _) (by decide) rfl ?_
          refine x_goto 5 X dX5_ownOf_59 (by decide) ?_
          refine x_lv (lv' := [(0, .ref (a 0)), (1, .int (nI x)), (2, .int (nI p)), (3, .int (u ||| ((nI 1) <<< ((nI t) &&& 31)))), (4, .int (nI (t + 1)))]) X [2, 3, 4, 1, 0] rfl ?_
          exact ih_L5 (t + 1) (u ||| ((nI 1) <<< ((nI t) &&& 31))) (by omega) ((by omega)) (by simp [F_owb, ← enc_own (hbl (x * 5 + t) (by omega)) (hbv (p * 5 + t) (by omega)), or0, ht5, hu, c_1, c_2])
  refine x_lv (lv' := [(0, .ref (a 0)), (1, .int (nI x)), (2, .int (nI p)), (3, .int (nI 0)), (4, .int (nI 0))]) X [2, 3, 4, 1, 0] rfl ?_
  exact L5 _ 0 (nI 0) (Nat.lt_succ_self _) ((by omega)) (rfl)
set_option maxRecDepth 100000 in
set_option maxHeartbeats 4000000 in
/-- X5_copying -/
theorem c_X5_copying (l : Launch) (G : xG) (a : Nat → Nat) (np : Nat) (nq : Nat) (na : Nat) (nk : Nat) (ns : Nat) (nl : Nat) (pa : Nat) (rp : Nat) (rq : Nat) (kd : Nat → Int32) (S : Nat → Int32) (W : Nat → Int32) (Kp : Nat → Int32) (sg : Nat → Int32) (le : Nat → Int32) (tl : Nat → Int32) (rk : Nat → Int32) (rd : Nat → Int32) (rw : Nat → Int32) (s : xS) (x : Nat) (y : Nat) (p : Nat) (hx : x < 5) (hy : y < 5) (hp : p < 6) (hk : kd p = s.2.2.1 p) (hmi : ∀ j, j < 6 → inR (s.2.2.2.1 j) 6 = true) (hbv : ∀ j, j < 30 → bd (s.2.2.2.2.1 j)) (hbl : ∀ j, j < 25 → bl (s.2.2.2.2.2 j)) : xM l G xE0 yX5_copying cX5_copying 6 none 2 49 0 0 [.ref (a 0), .int (nI x), .int (nI y), .int (nI p)] (wMo G a np nq na nk ns nl pa rp rq kd S W Kp sg le tl rk rd (en s) rw) none (fun w2 => w2 = wMo G a np nq na nk ns nl pa rp rq kd S W Kp sg le tl rk rd (en (cpS s p x y 5)) rw) := by
  refine x_entry (by decide +kernel) (Nat.le_of_ble_eq_true rfl) rfl rfl (fun K X => ?_)
  refine x_iconst (v := nI 0) X dX5_copying_0 (by decide) ?_
  refine x_istore (lv' := [(4, .int (nI 0)), (0, .ref (a 0)), (1, .int (nI x)), (2, .int (nI y)), (3, .int (nI p))]) X dX5_copying_1 (by decide) rfl ?_
  have L3 : ∀ (fu : Nat) (t : Nat) (g : xS), 5 - t < fu → (t ≤ 5) → (g = cpS s p x y t) → K (wMo G a np nq na nk ns nl pa rp rq kd S W Kp sg le tl rk rd (en g) rw) 0 0 3 [(0, .ref (a 0)), (1, .int (nI x)), (2, .int (nI y)), (3, .int (nI p)), (4, .int (nI t))] [] := by
    intro fu
    induction fu with
    | zero => intro t g hfu; exact absurd hfu (Nat.not_lt_zero _)
    | succ fu ih_L3 =>
      intro t g hfu_L3 ht5 hg
      refine x_iload X dX5_copying_3 4 rfl ?_
      refine x_iconst (v := nI 5) X dX5_copying_5 (by decide) ?_
      refine x_icmp_ge_n 69 X dX5_copying_6 (by decide) (by omega) (by omega) (fun c_1 => ?_) (fun c_1 => ?_)
      · -- 6 t
        have n_1 := Nat.not_lt.mpr c_1
        obtain rfl : t = 5 := by omega
        exact x_retv X dX5_copying_69 ⟨rfl, (by rw [hg]), by decide, by decide⟩
      · -- 6 f
        refine x_aloadn X dX5_copying_9 0 rfl ?_
        refine x_get X wu_X5 0 rfl rfl 18 (by decide) wf_X5_37 rfl rfl dX5_copying_10 ?_
        refine x_bipush (v := nI 36) X dX5_copying_13 (by decide) ?_
        refine x_iconst (v := nI 5) X dX5_copying_15 (by decide) ?_
        refine x_iloadn X dX5_copying_16 1 rfl ?_
        refine x_imul (v := nI (5 * x)) X dX5_copying_17 (pk_mul _ _) ?_
        refine x_iadd (v := nI (36 + (5 * x))) X dX5_copying_18 (nI_add _ _) ?_
        refine x_iload X dX5_copying_19 4 rfl ?_
        refine x_iadd (v := nI ((36 + (5 * x)) + t)) X dX5_copying_21 (nI_add _ _) ?_
        refine x_iald_n (v := enc (g.2.2.2.2.2 (x * 5 + t))) X 10 rfl (by omega) (by omega) (en_li _ (by omega) (by omega)) dX5_copying_22 ?_
        refine x_istore (lv' := [(5, .int (enc (g.2.2.2.2.2 (x * 5 + t)))), (0, .ref (a 0)), (1, .int (nI x)), (2, .int (nI y)), (3, .int (nI p)), (4, .int (nI t))]) X dX5_copying_23 (by decide) rfl ?_
        refine x_aloadn X dX5_copying_25 1 rfl ?_
        refine x_get X wu_X5 0 rfl rfl 18 (by decide) wf_X5_37 rfl rfl dX5_copying_26 ?_
        refine x_bipush (v := nI 36) X dX5_copying_29 (by decide) ?_
        refine x_iconst (v := nI 5) X dX5_copying_31 (by decide) ?_
        refine x_iloadn X dX5_copying_32 3 rfl ?_
        refine x_imul (v := nI (5 * y)) X dX5_copying_33 (pk_mul _ _) ?_
        refine x_iadd (v := nI (36 + (5 * y))) X dX5_copying_34 (nI_add _ _) ?_
        refine x_iload X dX5_copying_35 5 rfl ?_
        refine x_iadd (v := nI ((36 + (5 * y)) + t)) X dX5_copying_37 (nI_add _ _) ?_
        refine x_iload X dX5_copying_38 0 rfl ?_
        refine x_if_ne 47 X dX5_copying_40 (by decide) (fun c_2 => ?_) (fun c_2 => ?_)
        · -- 40 t
          have hgl : bl (g.2.2.2.2.2 (x * 5 + t)) := by rw [hg, cpS_at _ _ _ _ _ (by omega)]; exact hbl _ (by omega)
          have hgv : ∀ j, j < 30 → bd (g.2.2.2.2.1 j) := by rw [hg]; exact hbv
          have hgm : ∀ j, j < 6 → inR (g.2.2.2.1 j) 6 = true := by rw [hg]; exact hmi
          have hgk : kd p = g.2.2.1 p := by rw [hg]; exact hk
          have hgn : ¬ g.2.2.2.2.2 (x * 5 + t) = nI 100 := fun q => absurd ((enc_0 hgl).mpr q) (by simpa using c_2)
          have hvb : bd (enc (g.2.2.2.2.2 (x * 5 + t)) - nI 10) := by rw [enc_sub hgn]; rcases hgl with q | q; exact absurd q hgn; exact q
          refine x_aloadn X dX5_copying_47 1 rfl ?_
          refine x_iload X dX5_copying_48 0 rfl ?_
          refine x_bipush (v := nI 10) X dX5_copying_50 (by decide) ?_
          refine x_isub (v := (enc (g.2.2.2.2.2 (x * 5 + t))) - (nI 10)) X dX5_copying_52 rfl ?_
          refine x_iloadn X dX5_copying_53 4 rfl ?_
          refine x_iload X dX5_copying_54 5 rfl ?_
          refine x_callVrv (As := [.int ((enc (g.2.2.2.2.2 (x * 5 + t))) - (nI 10)), .int (nI p), .int (nI t)]) (rest := [.int (nI ((36 + (5 * y)) + t)), .ref (a 10)]) X (c_X5_copied l G a np nq na nk ns nl pa rp rq kd S W Kp sg le tl rk rd rw g ((enc (g.2.2.2.2.2 (x * 5 + t))) - (nI 10)) p t (by omega) (by omega) hgk hgm hgv hvb) xE0_ok (fun _ _ _ => trivial) [0, 1, 2, 3, 4, 5, 6, 7, 8, 9, 10, 11] rfl 0 rfl rfl rfl rfl wco_X5_copied wi_X5 xd_X5_copied wl_X5_128 win_X5_copied wse_X5_copied (by decide) (Nat.le_of_ble_eq_true rfl) dX5_copying_56 ?_
          refine x_bipush (v := nI 10) X dX5_copying_59 (by decide) ?_
          refine x_iadd (v := (F_car (kd p) ((enc (g.2.2.2.2.2 (x * 5 + t))) - (nI 10)) (g.2.2.2.2.1 (tn (g.2.2.2.1 p) * 5 + t))) + (nI 10)) X dX5_copying_61 rfl ?_
          refine x_iast_n (g := en (g.1, g.2.1, g.2.2.1, g.2.2.2.1, g.2.2.2.2.1, upd g.2.2.2.2.2 (y * 5 + t) (F_car (kd p) (enc (g.2.2.2.2.2 (x * 5 + t)) - nI 10) (g.2.2.2.2.1 (tn (g.2.2.2.1 p) * 5 + t))))) (ws' := wMo G a np nq na nk ns nl pa rp rq kd S W Kp sg le tl rk rd (en (g.1, g.2.1, g.2.2.1, g.2.2.2.1, g.2.2.2.2.1, upd g.2.2.2.2.2 (y * 5 + t) (F_car (kd p) (enc (g.2.2.2.2.2 (x * 5 + t)) - nI 10) (g.2.2.2.2.1 (tn (g.2.2.2.1 p) * 5 + t))))) rw) X 10 rfl (by omega) (by omega) (en_upli _ _ _ _ _ (enc_add (bd_n100 (car_bd hvb (hgv _ (by have := (inR_eq (hgm p (by omega)) (by decide)).2; omega)))))) rfl dX5_copying_62 ?_
          refine x_iinc (v := nI (t + 1)) (lv' := [(4, .int (nI (t + 1))), (5, .int (enc (g.2.2.2.2.2 (x * 5 + t)))), (0, .ref (a 0)), (1, .int (nI x)), (2, .int (nI y)), (3, .int (nI p))]) X dX5_copying_63 5 rfl (nI_1 _) (by decide) rfl ?_
          refine x_goto 3 X dX5_copying_66 (by decide) ?_
          refine x_lv (lv' := [(0, .ref (a 0)), (1, .int (nI x)), (2, .int (nI y)), (3, .int (nI p)), (4, .int (nI (t + 1)))]) X [2, 3, 4, 5, 0] rfl ?_
          exact ih_L3 (t + 1) (g.1, g.2.1, g.2.2.1, g.2.2.2.1, g.2.2.2.2.1, upd g.2.2.2.2.2 (y * 5 + t) (F_car (kd p) (enc (g.2.2.2.2.2 (x * 5 + t)) - nI 10) (g.2.2.2.2.1 (tn (g.2.2.2.1 p) * 5 + t)))) (by omega) ((by omega)) (by rw [enc_sub hgn, hk, hg, ← cpS_s]; rw [hg, cpS_at _ _ _ _ _ (by omega)] at hgn; rw [F_cop, if_neg hgn, cpS_at _ _ _ _ _ (by omega)]; rfl)
        · -- 40 f
          have hgl : bl (g.2.2.2.2.2 (x * 5 + t)) := by rw [hg, cpS_at _ _ _ _ _ (by omega)]; exact hbl _ (by omega)
          have hgv : ∀ j, j < 30 → bd (g.2.2.2.2.1 j) := by rw [hg]; exact hbv
          have hgm : ∀ j, j < 6 → inR (g.2.2.2.1 j) 6 = true := by rw [hg]; exact hmi
          have hgk : kd p = g.2.2.1 p := by rw [hg]; exact hk
          have hgz : g.2.2.2.2.2 (x * 5 + t) = nI 100 := (enc_0 hgl).mp (by simpa using c_2)
          refine x_iconst (v := nI 0) X dX5_copying_43 (by decide) ?_
          refine x_goto 62 X dX5_copying_44 (by decide) ?_
          refine x_iast_n (g := en (g.1, g.2.1, g.2.2.1, g.2.2.2.1, g.2.2.2.2.1, upd g.2.2.2.2.2 (y * 5 + t) (nI 100))) (ws' := wMo G a np nq na nk ns nl pa rp rq kd S W Kp sg le tl rk rd (en (g.1, g.2.1, g.2.2.1, g.2.2.2.1, g.2.2.2.2.1, upd g.2.2.2.2.2 (y * 5 + t) (nI 100))) rw) X 10 rfl (by omega) (by omega) (en_upli _ _ _ _ _ (by decide)) rfl dX5_copying_62 ?_
          refine x_iinc (v := nI (t + 1)) (lv' := [(4, .int (nI (t + 1))), (5, .int (enc (g.2.2.2.2.2 (x * 5 + t)))), (0, .ref (a 0)), (1, .int (nI x)), (2, .int (nI y)), (3, .int (nI p))]) X dX5_copying_63 5 rfl (nI_1 _) (by decide) rfl ?_
          refine x_goto 3 X dX5_copying_66 (by decide) ?_
          refine x_lv (lv' := [(0, .ref (a 0)), (1, .int (nI x)), (2, .int (nI y)), (3, .int (nI p)), (4, .int (nI (t + 1)))]) X [2, 3, 4, 5, 0] rfl ?_
          exact ih_L3 (t + 1) (g.1, g.2.1, g.2.2.1, g.2.2.2.1, g.2.2.2.2.1, upd g.2.2.2.2.2 (y * 5 + t) (nI 100)) (by omega) ((by omega)) (by rw [hg] at hgz ⊢; rw [← cpS_s, ← cpS_at s p x y t (by omega), hgz, F_cop, if_pos rfl]; rfl)
  refine x_lv (lv' := [(0, .ref (a 0)), (1, .int (nI x)), (2, .int (nI y)), (3, .int (nI p)), (4, .int (nI 0))]) X [1, 2, 3, 4, 0] rfl ?_
  exact L3 _ 0 s (Nat.lt_succ_self _) ((by omega)) (cpS_0 _ _ _ _)
set_option maxRecDepth 100000 in
set_option maxHeartbeats 4000000 in
/-- X5_person -/
theorem c_X5_person (l : Launch) (G : xG) (a : Nat → Nat) (na : Nat) (nk : Nat) (ns : Nat) (nl : Nat) (pa : Nat) (rp : Nat) (rq : Nat) (kd : Nat → Int32) (W : Nat → Int32) (Kp : Nat → Int32) (sg : Nat → Int32) (le : Nat → Int32) (tl : Nat → Int32) (rk : Nat → Int32) (rd : Nat → Int32) (nw : Nat → Int32) (rw : Nat → Int32) (s : xS) (i : Int32) (j : Int32) (hs6 : s.1 ≤ 6) (hs1 : 0 < s.1) (hq5 : s.2.1 ≤ 5) (hq1 : 0 < s.2.1) (hkd : ∀ p, p < s.1 → kd p = s.2.2.1 p) (hmi : ∀ j, j < 6 → inR (s.2.2.2.1 j) 6 = true) (hbv : ∀ j, j < 30 → bd (s.2.2.2.2.1 j)) (hbl : ∀ j, j < 25 → bl (s.2.2.2.2.2 j)) : xM l G xE0 yX5_person cX5_person 3 (some .int) 2 43 0 0 [.ref (a 0), .int i, .int j] (wMo G a s.1 s.2.1 na nk ns nl pa rp rq kd (en s) W Kp sg le tl rk rd nw rw) (some (.int (F_person s i j))) (fun w2 => w2 = wMo G a s.1 s.2.1 na nk ns nl pa rp rq kd (en s) W Kp sg le tl rk rd nw rw) := by
  refine x_entry (by decide +kernel) (Nat.le_of_ble_eq_true rfl) rfl ⟨_, rfl, rfl⟩ (fun K X => ?_)
  refine x_aloadn X dX5_person_0 0 rfl ?_
  refine x_iloadn X dX5_person_1 1 rfl ?_
  refine x_callVrv (As := [.int i]) (rest := []) X (c_X5_isPerson l G a s.1 s.2.1 na nk ns nl pa rp rq kd (en s) W Kp sg le tl rk rd nw rw i (by omega) (by omega)) xE0_ok (fun _ _ _ => trivial) [0, 1, 2, 3, 4, 5, 6, 7, 8, 9, 10, 11] rfl 0 rfl rfl rfl rfl wco_X5_isPerson wi_X5 xd_X5_isPerson wl_X5_131 win_X5_isPerson wse_X5_isPerson (by decide) (Nat.le_of_ble_eq_true rfl) dX5_person_2 ?_
  refine x_ifeq_b 17 X dX5_person_5 (by decide) (fun c_1 => ?_) (fun c_1 => ?_)
  · -- 5 t
    refine x_iconst (v := (-1)) X dX5_person_17 (by decide) ?_
    exact x_ret X dX5_person_18 ⟨ret_i (by first | (simp [F_person, tn, c_1]; done) | simp [F_person, tn, hkd _ (by assumption), c_1]), rfl, by decide, by decide⟩
  · -- 5 f
    obtain ⟨iN, hiN, rfl⟩ := inR_nat c_1 (by omega)
    have qiN : (nI iN).toNatClampNeg = iN := nI_clamp (by omega)
    refine x_iloadn X dX5_person_8 2 rfl ?_
    refine x_iconst (v := nI 0) X dX5_person_9 (by decide) ?_
    refine x_iconst (v := nI 1) X dX5_person_10 (by decide) ?_
    refine x_callSrv (As := [.int j, .int (nI 0), .int (nI 1)]) (rest := []) X (c_X5_in__R l G j 1 (by omega)) xE0_ok (fun _ _ _ => trivial) [] rfl rfl rfl wco_X5_in wi_X5 xd_X5_in wl_X5_63 wst_X5_in (by decide) (Nat.le_of_ble_eq_true rfl) dX5_person_11 ?_
    refine x_ifne_b 19 X dX5_person_14 (by decide) (fun c_2 => ?_) (fun c_2 => ?_)
    · -- 14 t
      obtain ⟨jN, hjN, rfl⟩ := inR_nat c_2 (by omega)
      have qjN : (nI jN).toNatClampNeg = jN := nI_clamp (by omega)
      refine x_iloadn X dX5_person_19 2 rfl ?_
      refine x_if_ne_n 32 X dX5_person_20 (by decide) (by omega) (fun c_3 => ?_) (fun c_3 => ?_)
      · -- 20 t
        refine x_aloadn X dX5_person_32 0 rfl ?_
        refine x_get X wu_X5 0 rfl rfl 3 (by decide) wf_X5_13 rfl rfl dX5_person_33 ?_
        refine x_iconst (v := nI 0) X dX5_person_36 (by decide) ?_
        refine x_iloadn X dX5_person_37 1 rfl ?_
        refine x_iadd (v := nI (0 + iN)) X dX5_person_38 (nI_add _ _) ?_
        refine x_iald_n (v := s.2.2.2.1 iN) X 2 rfl (by omega) (by omega) (en_mi _ (by omega)) dX5_person_39 ?_
        exact x_ret X dX5_person_40 ⟨ret_i (by first | (simp [F_person, tn, c_1, qiN, c_2, qjN, c_3]; done) | simp [F_person, tn, hkd _ (by assumption), c_1, qiN, c_2, qjN, c_3]), rfl, by decide, by decide⟩
      · -- 20 f
        refine x_aloadn X dX5_person_23 0 rfl ?_
        refine x_get X wu_X5 0 rfl rfl 1 (by decide) wf_X5_7 rfl rfl dX5_person_24 ?_
        refine x_iloadn X dX5_person_27 1 rfl ?_
        refine x_iald_n (v := kd iN) X 1 rfl (by omega) (by omega) rfl dX5_person_28 ?_
        refine x_goto 40 X dX5_person_29 (by decide) ?_
        exact x_ret X dX5_person_40 ⟨ret_i (by first | (simp [F_person, tn, c_1, qiN, c_2, qjN, (eq_true c_3)]; done) | simp [F_person, tn, hkd _ (by assumption), c_1, qiN, c_2, qjN, (eq_true c_3)]), rfl, by decide, by decide⟩
    · -- 14 f
      refine x_iconst (v := (-1)) X dX5_person_17 (by decide) ?_
      exact x_ret X dX5_person_18 ⟨ret_i (by first | (simp [F_person, tn, c_1, qiN, c_2]; done) | simp [F_person, tn, hkd _ (by assumption), c_1, qiN, c_2]), rfl, by decide, by decide⟩
set_option maxRecDepth 100000 in
set_option maxHeartbeats 4000000 in
/-- X5_view -/
theorem c_X5_view (l : Launch) (G : xG) (a : Nat → Nat) (na : Nat) (nk : Nat) (ns : Nat) (nl : Nat) (pa : Nat) (rp : Nat) (rq : Nat) (kd : Nat → Int32) (W : Nat → Int32) (Kp : Nat → Int32) (sg : Nat → Int32) (le : Nat → Int32) (tl : Nat → Int32) (rk : Nat → Int32) (rd : Nat → Int32) (nw : Nat → Int32) (rw : Nat → Int32) (s : xS) (i : Int32) (j : Int32) (hs6 : s.1 ≤ 6) (hs1 : 0 < s.1) (hq5 : s.2.1 ≤ 5) (hq1 : 0 < s.2.1) (hkd : ∀ p, p < s.1 → kd p = s.2.2.1 p) (hmi : ∀ j, j < 6 → inR (s.2.2.2.1 j) 6 = true) (hbv : ∀ j, j < 30 → bd (s.2.2.2.2.1 j)) (hbl : ∀ j, j < 25 → bl (s.2.2.2.2.2 j)) : xM l G xE0 yX5_view cX5_view 3 (some .int) 2 43 0 0 [.ref (a 0), .int i, .int j] (wMo G a s.1 s.2.1 na nk ns nl pa rp rq kd (en s) W Kp sg le tl rk rd nw rw) (some (.int (F_view s i j))) (fun w2 => w2 = wMo G a s.1 s.2.1 na nk ns nl pa rp rq kd (en s) W Kp sg le tl rk rd nw rw) := by
  refine x_entry (by decide +kernel) (Nat.le_of_ble_eq_true rfl) rfl ⟨_, rfl, rfl⟩ (fun K X => ?_)
  refine x_aloadn X dX5_view_0 0 rfl ?_
  refine x_iloadn X dX5_view_1 1 rfl ?_
  refine x_callVrv (As := [.int i]) (rest := []) X (c_X5_isPerson l G a s.1 s.2.1 na nk ns nl pa rp rq kd (en s) W Kp sg le tl rk rd nw rw i (by omega) (by omega)) xE0_ok (fun _ _ _ => trivial) [0, 1, 2, 3, 4, 5, 6, 7, 8, 9, 10, 11] rfl 0 rfl rfl rfl rfl wco_X5_isPerson wi_X5 xd_X5_isPerson wl_X5_131 win_X5_isPerson wse_X5_isPerson (by decide) (Nat.le_of_ble_eq_true rfl) dX5_view_2 ?_
  refine x_ifeq_b 34 X dX5_view_5 (by decide) (fun c_1 => ?_) (fun c_1 => ?_)
  · -- 5 t
    refine x_iconst (v := (-1)) X dX5_view_34 (by decide) ?_
    exact x_ret X dX5_view_35 ⟨ret_i (by simp [F_view, tn, c_1]), rfl, by decide, by decide⟩
  · -- 5 f
    obtain ⟨iN, hiN, rfl⟩ := inR_nat c_1 (by omega)
    have qiN : (nI iN).toNatClampNeg = iN := nI_clamp (by omega)
    refine x_iloadn X dX5_view_8 2 rfl ?_
    refine x_callSrv (As := [.int j]) (rest := []) X (c_X5_isTheme l G j) xE0_ok (fun _ _ _ => trivial) [] rfl rfl rfl wco_X5_isTheme wi_X5 xd_X5_isTheme wl_X5_134 wst_X5_isTheme (by decide) (Nat.le_of_ble_eq_true rfl) dX5_view_9 ?_
    refine x_ifeq_b 34 X dX5_view_12 (by decide) (fun c_2 => ?_) (fun c_2 => ?_)
    · -- 12 t
      refine x_iconst (v := (-1)) X dX5_view_34 (by decide) ?_
      exact x_ret X dX5_view_35 ⟨ret_i (by simp [F_view, tn, c_1, qiN, c_2]), rfl, by decide, by decide⟩
    · -- 12 f
      obtain ⟨jN, hjN, rfl⟩ := inR_nat c_2 (by omega)
      have qjN : (nI jN).toNatClampNeg = jN := nI_clamp (by omega)
      refine x_aloadn X dX5_view_15 0 rfl ?_
      refine x_get X wu_X5 0 rfl rfl 3 (by decide) wf_X5_13 rfl rfl dX5_view_16 ?_
      refine x_bipush (v := nI 6) X dX5_view_19 (by decide) ?_
      refine x_iconst (v := nI 5) X dX5_view_21 (by decide) ?_
      refine x_iloadn X dX5_view_22 1 rfl ?_
      refine x_imul (v := nI (5 * iN)) X dX5_view_23 (pk_mul _ _) ?_
      refine x_iadd (v := nI (6 + (5 * iN))) X dX5_view_24 (nI_add _ _) ?_
      refine x_iloadn X dX5_view_25 2 rfl ?_
      refine x_iadd (v := nI ((6 + (5 * iN)) + jN)) X dX5_view_26 (nI_add _ _) ?_
      refine x_iald_n (v := s.2.2.2.2.1 (iN * 5 + jN)) X 2 rfl (by omega) (by omega) (en_vi _ (by omega) (by omega)) dX5_view_27 ?_
      refine x_bipush (v := nI 9) X dX5_view_28 (by decide) ?_
      refine x_iadd (v := (s.2.2.2.2.1 (iN * 5 + jN)) + (nI 9)) X dX5_view_30 rfl ?_
      refine x_goto 35 X dX5_view_31 (by decide) ?_
      exact x_ret X dX5_view_35 ⟨ret_i (by simp [F_view, tn, c_1, qiN, c_2, qjN]), rfl, by decide, by decide⟩
set_option maxRecDepth 100000 in
set_option maxHeartbeats 4000000 in
/-- X5_line -/
theorem c_X5_line (l : Launch) (G : xG) (a : Nat → Nat) (na : Nat) (nk : Nat) (ns : Nat) (nl : Nat) (pa : Nat) (rp : Nat) (rq : Nat) (kd : Nat → Int32) (W : Nat → Int32) (Kp : Nat → Int32) (sg : Nat → Int32) (le : Nat → Int32) (tl : Nat → Int32) (rk : Nat → Int32) (rd : Nat → Int32) (nw : Nat → Int32) (rw : Nat → Int32) (s : xS) (i : Int32) (j : Int32) (hs6 : s.1 ≤ 6) (hs1 : 0 < s.1) (hq5 : s.2.1 ≤ 5) (hq1 : 0 < s.2.1) (hkd : ∀ p, p < s.1 → kd p = s.2.2.1 p) (hmi : ∀ j, j < 6 → inR (s.2.2.2.1 j) 6 = true) (hbv : ∀ j, j < 30 → bd (s.2.2.2.2.1 j)) (hbl : ∀ j, j < 25 → bl (s.2.2.2.2.2 j)) : xM l G xE0 yX5_line cX5_line 3 (some .int) 2 43 0 0 [.ref (a 0), .int i, .int j] (wMo G a s.1 s.2.1 na nk ns nl pa rp rq kd (en s) W Kp sg le tl rk rd nw rw) (some (.int (F_line s i j))) (fun w2 => w2 = wMo G a s.1 s.2.1 na nk ns nl pa rp rq kd (en s) W Kp sg le tl rk rd nw rw) := by
  refine x_entry (by decide +kernel) (Nat.le_of_ble_eq_true rfl) rfl ⟨_, rfl, rfl⟩ (fun K X => ?_)
  refine x_aloadn X dX5_line_0 0 rfl ?_
  refine x_iloadn X dX5_line_1 1 rfl ?_
  refine x_callVrv (As := [.int i]) (rest := []) X (c_X5_isPaper l G a s.1 s.2.1 na nk ns nl pa rp rq kd (en s) W Kp sg le tl rk rd nw rw i (by omega) (by omega)) xE0_ok (fun _ _ _ => trivial) [0, 1, 2, 3, 4, 5, 6, 7, 8, 9, 10, 11] rfl 0 rfl rfl rfl rfl wco_X5_isPaper wi_X5 xd_X5_isPaper wl_X5_137 win_X5_isPaper wse_X5_isPaper (by decide) (Nat.le_of_ble_eq_true rfl) dX5_line_2 ?_
  refine x_ifeq_b 34 X dX5_line_5 (by decide) (fun c_1 => ?_) (fun c_1 => ?_)
  · -- 5 t
    refine x_iconst (v := (-1)) X dX5_line_34 (by decide) ?_
    exact x_ret X dX5_line_35 ⟨ret_i (by simp [F_line, tn, c_1]), rfl, by decide, by decide⟩
  · -- 5 f
    obtain ⟨iN, hiN, rfl⟩ := inR_nat c_1 (by omega)
    have qiN : (nI iN).toNatClampNeg = iN := nI_clamp (by omega)
    refine x_iloadn X dX5_line_8 2 rfl ?_
    refine x_callSrv (As := [.int j]) (rest := []) X (c_X5_isTheme l G j) xE0_ok (fun _ _ _ => trivial) [] rfl rfl rfl wco_X5_isTheme wi_X5 xd_X5_isTheme wl_X5_134 wst_X5_isTheme (by decide) (Nat.le_of_ble_eq_true rfl) dX5_line_9 ?_
    refine x_ifeq_b 34 X dX5_line_12 (by decide) (fun c_2 => ?_) (fun c_2 => ?_)
    · -- 12 t
      refine x_iconst (v := (-1)) X dX5_line_34 (by decide) ?_
      exact x_ret X dX5_line_35 ⟨ret_i (by simp [F_line, tn, c_1, qiN, c_2]), rfl, by decide, by decide⟩
    · -- 12 f
      obtain ⟨jN, hjN, rfl⟩ := inR_nat c_2 (by omega)
      have qjN : (nI jN).toNatClampNeg = jN := nI_clamp (by omega)
      refine x_aloadn X dX5_line_15 0 rfl ?_
      refine x_get X wu_X5 0 rfl rfl 3 (by decide) wf_X5_13 rfl rfl dX5_line_16 ?_
      refine x_bipush (v := nI 36) X dX5_line_19 (by decide) ?_
      refine x_iconst (v := nI 5) X dX5_line_21 (by decide) ?_
      refine x_iloadn X dX5_line_22 1 rfl ?_
      refine x_imul (v := nI (5 * iN)) X dX5_line_23 (pk_mul _ _) ?_
      refine x_iadd (v := nI (36 + (5 * iN))) X dX5_line_24 (nI_add _ _) ?_
      refine x_iloadn X dX5_line_25 2 rfl ?_
      refine x_iadd (v := nI ((36 + (5 * iN)) + jN)) X dX5_line_26 (nI_add _ _) ?_
      refine x_iald_n (v := enc (s.2.2.2.2.2 (iN * 5 + jN))) X 2 rfl (by omega) (by omega) (en_li _ (by omega) (by omega)) dX5_line_27 ?_
      refine x_callSrv (As := [.int (enc (s.2.2.2.2.2 (iN * 5 + jN)))]) (rest := []) X (c_X5_says l G (enc (s.2.2.2.2.2 (iN * 5 + jN)))) xE0_ok (fun _ _ _ => trivial) [] rfl rfl rfl wco_X5_says wi_X5 xd_X5_says wl_X5_140 wst_X5_says (by decide) (Nat.le_of_ble_eq_true rfl) dX5_line_28 ?_
      refine x_goto 35 X dX5_line_31 (by decide) ?_
      exact x_ret X dX5_line_35 ⟨ret_i (by rw [says_enc (hbl (iN * 5 + jN) (by omega))]; simp [F_line, tn, c_1, qiN, c_2, qjN]), rfl, by decide, by decide⟩
set_option maxRecDepth 100000 in
set_option maxHeartbeats 4000000 in
/-- X5_would -/
theorem c_X5_would (l : Launch) (G : xG) (a : Nat → Nat) (na : Nat) (nk : Nat) (ns : Nat) (nl : Nat) (pa : Nat) (rp : Nat) (rq : Nat) (kd : Nat → Int32) (W : Nat → Int32) (Kp : Nat → Int32) (sg : Nat → Int32) (le : Nat → Int32) (tl : Nat → Int32) (rk : Nat → Int32) (rd : Nat → Int32) (nw : Nat → Int32) (rw : Nat → Int32) (s : xS) (i : Int32) (j : Int32) (k : Int32) (hs6 : s.1 ≤ 6) (hs1 : 0 < s.1) (hq5 : s.2.1 ≤ 5) (hq1 : 0 < s.2.1) (hkd : ∀ p, p < s.1 → kd p = s.2.2.1 p) (hmi : ∀ j, j < 6 → inR (s.2.2.2.1 j) 6 = true) (hbv : ∀ j, j < 30 → bd (s.2.2.2.2.1 j)) (hbl : ∀ j, j < 25 → bl (s.2.2.2.2.2 j)) : xM l G xE0 yX5_would cX5_would 4 (some .int) 2 48 0 0 [.ref (a 0), .int i, .int j, .int k] (wMo G a s.1 s.2.1 na nk ns nl pa rp rq kd (en s) W Kp sg le tl rk rd nw rw) (some (.int (F_would s i j k))) (fun w2 => ∃ nw' : Nat → Int32, w2 = wMo G a s.1 s.2.1 na nk ns nl pa rp rq kd (en s) W Kp sg le tl rk rd nw' rw) := by
  refine x_entry (by decide +kernel) (Nat.le_of_ble_eq_true rfl) rfl ⟨_, rfl, rfl⟩ (fun K X => ?_)
  refine x_aloadn X dX5_would_0 0 rfl ?_
  refine x_iloadn X dX5_would_1 1 rfl ?_
  refine x_callVrv (As := [.int i]) (rest := []) X (c_X5_isPerson l G a s.1 s.2.1 na nk ns nl pa rp rq kd (en s) W Kp sg le tl rk rd nw rw i (by omega) (by omega)) xE0_ok (fun _ _ _ => trivial) [0, 1, 2, 3, 4, 5, 6, 7, 8, 9, 10, 11] rfl 0 rfl rfl rfl rfl wco_X5_isPerson wi_X5 xd_X5_isPerson wl_X5_131 win_X5_isPerson wse_X5_isPerson (by decide) (Nat.le_of_ble_eq_true rfl) dX5_would_2 ?_
  refine x_ifeq_b 25 X dX5_would_5 (by decide) (fun c_1 => ?_) (fun c_1 => ?_)
  · -- 5 t
    refine x_iconst (v := (-1)) X dX5_would_25 (by decide) ?_
    exact x_ret X dX5_would_26 ⟨ret_i (by simp [F_would, F_wr, F_wf, tn, c_1]), ⟨nw, rfl⟩, by decide, by decide⟩
  · -- 5 f
    obtain ⟨iN, hiN, rfl⟩ := inR_nat c_1 (by omega)
    have qiN : (nI iN).toNatClampNeg = iN := nI_clamp (by omega)
    refine x_iloadn X dX5_would_8 2 rfl ?_
    refine x_callSrv (As := [.int j]) (rest := []) X (c_X5_isTheme l G j) xE0_ok (fun _ _ _ => trivial) [] rfl rfl rfl wco_X5_isTheme wi_X5 xd_X5_isTheme wl_X5_134 wst_X5_isTheme (by decide) (Nat.le_of_ble_eq_true rfl) dX5_would_9 ?_
    refine x_ifeq_b 25 X dX5_would_12 (by decide) (fun c_2 => ?_) (fun c_2 => ?_)
    · -- 12 t
      refine x_iconst (v := (-1)) X dX5_would_25 (by decide) ?_
      exact x_ret X dX5_would_26 ⟨ret_i (by simp [F_would, F_wr, F_wf, tn, c_1, qiN, c_2]), ⟨nw, rfl⟩, by decide, by decide⟩
    · -- 12 f
      obtain ⟨jN, hjN, rfl⟩ := inR_nat c_2 (by omega)
      have qjN : (nI jN).toNatClampNeg = jN := nI_clamp (by omega)
      refine x_iloadn X dX5_would_15 3 rfl ?_
      refine x_iconst (v := nI 0) X dX5_would_16 (by decide) ?_
      refine x_bipush (v := nI 10) X dX5_would_17 (by decide) ?_
      refine x_callSrv (As := [.int k, .int (nI 0), .int (nI 10)]) (rest := []) X (c_X5_in__R l G k 10 (by omega)) xE0_ok (fun _ _ _ => trivial) [] rfl rfl rfl wco_X5_in wi_X5 xd_X5_in wl_X5_63 wst_X5_in (by decide) (Nat.le_of_ble_eq_true rfl) dX5_would_19 ?_
      refine x_ifne_b 27 X dX5_would_22 (by decide) (fun c_3 => ?_) (fun c_3 => ?_)
      · -- 22 t
        obtain ⟨kN, hkN, rfl⟩ := inR_nat c_3 (by omega)
        have qkN : (nI kN).toNatClampNeg = kN := nI_clamp (by omega)
        refine x_aloadn X dX5_would_27 0 rfl ?_
        refine x_callVf0 (As := []) (rest := []) (w1 := wMo G a s.1 s.2.1 na nk ns nl pa rp rq kd (en s) W Kp sg le tl rk rd (en s) rw) (ws' := wMo G a s.1 s.2.1 na nk ns nl pa rp rq kd (en s) W Kp sg le tl rk rd (en s) rw) X (c_X5_asItIs l G a s.1 s.2.1 na nk ns nl pa rp rq kd (en s) W Kp sg le tl rk rd nw rw) xE0_ok (fun _ _ _ => trivial) [0, 1, 2, 3, 4, 5, 6, 7, 8, 9, 10, 11] rfl 0 rfl rfl rfl rfl wco_X5_asItIs wi_X5 xd_X5_asItIs wl_X5_143 win_X5_asItIs wse_X5_asItIs (by decide) (Nat.le_of_ble_eq_true rfl) dX5_would_28 rfl (Eq.trans (b := [a 0, a 1, a 2, a 3, a 4, a 5, a 6, a 7, a 8, a 9, a 10, a 11]) rfl rfl) rfl ?_
        refine x_aloadn X dX5_would_31 0 rfl ?_
        refine x_iloadn X dX5_would_32 1 rfl ?_
        refine x_aloadn X dX5_would_33 0 rfl ?_
        refine x_get X wu_X5 0 rfl rfl 18 (by decide) wf_X5_37 rfl rfl dX5_would_34 ?_
        refine x_iconst (v := nI 0) X dX5_would_37 (by decide) ?_
        refine x_iloadn X dX5_would_38 1 rfl ?_
        refine x_iadd (v := nI (0 + iN)) X dX5_would_39 (nI_add _ _) ?_
        refine x_iald_n (v := s.2.2.2.1 iN) X 10 rfl (by omega) (by omega) (en_mi _ (by omega)) dX5_would_40 ?_
        obtain ⟨em, hm6⟩ := inR_eq (hmi iN (by omega)) (by decide)
        refine x_int em ?_
        refine x_iloadn X dX5_would_41 2 rfl ?_
        refine x_iloadn X dX5_would_42 3 rfl ?_
        refine x_callVrv (As := [.int (nI iN), .int (nI (tn (s.2.2.2.1 iN))), .int (nI jN), .int (nI kN)]) (rest := []) X (c_X5_writes l G a s.1 s.2.1 na nk ns nl pa rp rq kd (en s) W Kp sg le tl rk rd rw s iN (tn (s.2.2.2.1 iN)) jN (nI kN) (by omega) (by omega) (by omega) (hkd _ (by omega))) xE0_ok (fun _ _ _ => trivial) [0, 1, 2, 3, 4, 5, 6, 7, 8, 9, 10, 11] rfl 0 rfl rfl rfl rfl wco_X5_writes wi_X5 xd_X5_writes wl_X5_146 win_X5_writes wse_X5_writes (by decide) (Nat.le_of_ble_eq_true rfl) dX5_would_43 ?_
        refine x_bipush (v := nI 9) X dX5_would_46 (by decide) ?_
        refine x_iadd (v := (F_wf s iN (tn (s.2.2.2.1 iN)) jN (nI kN)) + (nI 9)) X dX5_would_48 rfl ?_
        exact x_ret X dX5_would_49 ⟨ret_i (by simp [F_would, F_wr, F_wf, tn, c_1, qiN, c_2, qjN, c_3, qkN]), ⟨(en s), rfl⟩, by decide, by decide⟩
      · -- 22 f
        refine x_iconst (v := (-1)) X dX5_would_25 (by decide) ?_
        exact x_ret X dX5_would_26 ⟨ret_i (by simp [F_would, F_wr, F_wf, tn, c_1, qiN, c_2, qjN, c_3]), ⟨nw, rfl⟩, by decide, by decide⟩
set_option maxRecDepth 100000 in
set_option maxHeartbeats 4000000 in
/-- X5_own -/
theorem c_X5_own (l : Launch) (G : xG) (a : Nat → Nat) (na : Nat) (nk : Nat) (ns : Nat) (nl : Nat) (pa : Nat) (rp : Nat) (rq : Nat) (kd : Nat → Int32) (W : Nat → Int32) (Kp : Nat → Int32) (sg : Nat → Int32) (le : Nat → Int32) (tl : Nat → Int32) (rk : Nat → Int32) (rd : Nat → Int32) (nw : Nat → Int32) (rw : Nat → Int32) (s : xS) (i : Int32) (j : Int32) (hs6 : s.1 ≤ 6) (hs1 : 0 < s.1) (hq5 : s.2.1 ≤ 5) (hq1 : 0 < s.2.1) (hkd : ∀ p, p < s.1 → kd p = s.2.2.1 p) (hmi : ∀ j, j < 6 → inR (s.2.2.2.1 j) 6 = true) (hbv : ∀ j, j < 30 → bd (s.2.2.2.2.1 j)) (hbl : ∀ j, j < 25 → bl (s.2.2.2.2.2 j)) : xM l G xE0 yX5_own cX5_own 3 (some .int) 2 43 0 0 [.ref (a 0), .int i, .int j] (wMo G a s.1 s.2.1 na nk ns nl pa rp rq kd (en s) W Kp sg le tl rk rd nw rw) (some (.int (F_own s i j))) (fun w2 => w2 = wMo G a s.1 s.2.1 na nk ns nl pa rp rq kd (en s) W Kp sg le tl rk rd nw rw) := by
  refine x_entry (by decide +kernel) (Nat.le_of_ble_eq_true rfl) rfl ⟨_, rfl, rfl⟩ (fun K X => ?_)
  refine x_aloadn X dX5_own_0 0 rfl ?_
  refine x_iloadn X dX5_own_1 1 rfl ?_
  refine x_callVrv (As := [.int i]) (rest := []) X (c_X5_isPaper l G a s.1 s.2.1 na nk ns nl pa rp rq kd (en s) W Kp sg le tl rk rd nw rw i (by omega) (by omega)) xE0_ok (fun _ _ _ => trivial) [0, 1, 2, 3, 4, 5, 6, 7, 8, 9, 10, 11] rfl 0 rfl rfl rfl rfl wco_X5_isPaper wi_X5 xd_X5_isPaper wl_X5_137 win_X5_isPaper wse_X5_isPaper (by decide) (Nat.le_of_ble_eq_true rfl) dX5_own_2 ?_
  refine x_ifeq_b 25 X dX5_own_5 (by decide) (fun c_1 => ?_) (fun c_1 => ?_)
  · -- 5 t
    refine x_iconst (v := (-1)) X dX5_own_25 (by decide) ?_
    exact x_ret X dX5_own_26 ⟨ret_i (by simp [F_own, tn, c_1]), rfl, by decide, by decide⟩
  · -- 5 f
    obtain ⟨iN, hiN, rfl⟩ := inR_nat c_1 (by omega)
    have qiN : (nI iN).toNatClampNeg = iN := nI_clamp (by omega)
    refine x_aloadn X dX5_own_8 0 rfl ?_
    refine x_iloadn X dX5_own_9 2 rfl ?_
    refine x_callVrv (As := [.int j]) (rest := []) X (c_X5_isPerson l G a s.1 s.2.1 na nk ns nl pa rp rq kd (en s) W Kp sg le tl rk rd nw rw j (by omega) (by omega)) xE0_ok (fun _ _ _ => trivial) [0, 1, 2, 3, 4, 5, 6, 7, 8, 9, 10, 11] rfl 0 rfl rfl rfl rfl wco_X5_isPerson wi_X5 xd_X5_isPerson wl_X5_131 win_X5_isPerson wse_X5_isPerson (by decide) (Nat.le_of_ble_eq_true rfl) dX5_own_10 ?_
    refine x_ifeq_b 25 X dX5_own_13 (by decide) (fun c_2 => ?_) (fun c_2 => ?_)
    · -- 13 t
      refine x_iconst (v := (-1)) X dX5_own_25 (by decide) ?_
      exact x_ret X dX5_own_26 ⟨ret_i (by simp [F_own, tn, c_1, qiN, c_2]), rfl, by decide, by decide⟩
    · -- 13 f
      obtain ⟨jN, hjN, rfl⟩ := inR_nat c_2 (by omega)
      have qjN : (nI jN).toNatClampNeg = jN := nI_clamp (by omega)
      refine x_aloadn X dX5_own_16 0 rfl ?_
      refine x_iloadn X dX5_own_17 1 rfl ?_
      refine x_iloadn X dX5_own_18 2 rfl ?_
      refine x_callVrv (As := [.int (nI iN), .int (nI jN)]) (rest := []) X (c_X5_ownOf l G a s.1 s.2.1 na nk ns nl pa rp rq kd W Kp sg le tl rk rd nw rw s iN jN (by omega) (by omega) (by assumption) (by assumption)) xE0_ok (fun _ _ _ => trivial) [0, 1, 2, 3, 4, 5, 6, 7, 8, 9, 10, 11] rfl 0 rfl rfl rfl rfl wco_X5_ownOf wi_X5 xd_X5_ownOf wl_X5_160 win_X5_ownOf wse_X5_ownOf (by decide) (Nat.le_of_ble_eq_true rfl) dX5_own_19 ?_
      refine x_goto 26 X dX5_own_22 (by decide) ?_
      exact x_ret X dX5_own_26 ⟨ret_i (by simp [F_own, tn, c_1, qiN, c_2, qjN]), rfl, by decide, by decide⟩
set_option maxRecDepth 100000 in
set_option maxHeartbeats 4000000 in
/-- X5_tears -/
theorem c_X5_tears (l : Launch) (G : xG) (a : Nat → Nat) (na : Nat) (nk : Nat) (ns : Nat) (nl : Nat) (pa : Nat) (rp : Nat) (rq : Nat) (kd : Nat → Int32) (W : Nat → Int32) (Kp : Nat → Int32) (sg : Nat → Int32) (le : Nat → Int32) (tl : Nat → Int32) (rk : Nat → Int32) (rd : Nat → Int32) (nw : Nat → Int32) (rw : Nat → Int32) (s : xS) (i : Int32) (j : Int32) (k : Int32) (hs6 : s.1 ≤ 6) (hs1 : 0 < s.1) (hq5 : s.2.1 ≤ 5) (hq1 : 0 < s.2.1) (hkd : ∀ p, p < s.1 → kd p = s.2.2.1 p) (hmi : ∀ j, j < 6 → inR (s.2.2.2.1 j) 6 = true) (hbv : ∀ j, j < 30 → bd (s.2.2.2.2.1 j)) (hbl : ∀ j, j < 25 → bl (s.2.2.2.2.2 j)) : xM l G xE0 yX5_tears cX5_tears 5 (some .int) 2 48 0 0 [.ref (a 0), .int i, .int j, .int k] (wMo G a s.1 s.2.1 na nk ns nl pa rp rq kd (en s) W Kp sg le tl rk rd nw rw) (some (.int (F_tears s i j k))) (fun w2 => ∃ nw' : Nat → Int32, w2 = wMo G a s.1 s.2.1 na nk ns nl pa rp rq kd (en s) W Kp sg le tl rk rd nw' rw) := by
  refine x_entry (by decide +kernel) (Nat.le_of_ble_eq_true rfl) rfl ⟨_, rfl, rfl⟩ (fun K X => ?_)
  refine x_aloadn X dX5_tears_0 0 rfl ?_
  refine x_iloadn X dX5_tears_1 1 rfl ?_
  refine x_callVrv (As := [.int i]) (rest := []) X (c_X5_isPerson l G a s.1 s.2.1 na nk ns nl pa rp rq kd (en s) W Kp sg le tl rk rd nw rw i (by omega) (by omega)) xE0_ok (fun _ _ _ => trivial) [0, 1, 2, 3, 4, 5, 6, 7, 8, 9, 10, 11] rfl 0 rfl rfl rfl rfl wco_X5_isPerson wi_X5 xd_X5_isPerson wl_X5_131 win_X5_isPerson wse_X5_isPerson (by decide) (Nat.le_of_ble_eq_true rfl) dX5_tears_2 ?_
  refine x_ifeq_b 25 X dX5_tears_5 (by decide) (fun c_1 => ?_) (fun c_1 => ?_)
  · -- 5 t
    refine x_iconst (v := (-1)) X dX5_tears_25 (by decide) ?_
    exact x_ret X dX5_tears_26 ⟨ret_i (by simp [F_tears, tn, c_1]), ⟨nw, rfl⟩, by decide, by decide⟩
  · -- 5 f
    obtain ⟨iN, hiN, rfl⟩ := inR_nat c_1 (by omega)
    have qiN : (nI iN).toNatClampNeg = iN := nI_clamp (by omega)
    refine x_iloadn X dX5_tears_8 2 rfl ?_
    refine x_callSrv (As := [.int j]) (rest := []) X (c_X5_isTheme l G j) xE0_ok (fun _ _ _ => trivial) [] rfl rfl rfl wco_X5_isTheme wi_X5 xd_X5_isTheme wl_X5_134 wst_X5_isTheme (by decide) (Nat.le_of_ble_eq_true rfl) dX5_tears_9 ?_
    refine x_ifeq_b 25 X dX5_tears_12 (by decide) (fun c_2 => ?_) (fun c_2 => ?_)
    · -- 12 t
      refine x_iconst (v := (-1)) X dX5_tears_25 (by decide) ?_
      exact x_ret X dX5_tears_26 ⟨ret_i (by simp [F_tears, tn, c_1, qiN, c_2]), ⟨nw, rfl⟩, by decide, by decide⟩
    · -- 12 f
      obtain ⟨jN, hjN, rfl⟩ := inR_nat c_2 (by omega)
      have qjN : (nI jN).toNatClampNeg = jN := nI_clamp (by omega)
      refine x_iloadn X dX5_tears_15 3 rfl ?_
      refine x_iconst (v := nI 0) X dX5_tears_16 (by decide) ?_
      refine x_bipush (v := nI 18) X dX5_tears_17 (by decide) ?_
      refine x_callSrv (As := [.int k, .int (nI 0), .int (nI 18)]) (rest := []) X (c_X5_in__R l G k 18 (by omega)) xE0_ok (fun _ _ _ => trivial) [] rfl rfl rfl wco_X5_in wi_X5 xd_X5_in wl_X5_63 wst_X5_in (by decide) (Nat.le_of_ble_eq_true rfl) dX5_tears_19 ?_
      refine x_ifne_b 27 X dX5_tears_22 (by decide) (fun c_3 => ?_) (fun c_3 => ?_)
      · -- 22 t
        obtain ⟨kN, hkN, rfl⟩ := inR_nat c_3 (by omega)
        have qkN : (nI kN).toNatClampNeg = kN := nI_clamp (by omega)
        refine x_aloadn X dX5_tears_27 0 rfl ?_
        refine x_callVf0 (As := []) (rest := []) (w1 := wMo G a s.1 s.2.1 na nk ns nl pa rp rq kd (en s) W Kp sg le tl rk rd (en s) rw) (ws' := wMo G a s.1 s.2.1 na nk ns nl pa rp rq kd (en s) W Kp sg le tl rk rd (en s) rw) X (c_X5_asItIs l G a s.1 s.2.1 na nk ns nl pa rp rq kd (en s) W Kp sg le tl rk rd nw rw) xE0_ok (fun _ _ _ => trivial) [0, 1, 2, 3, 4, 5, 6, 7, 8, 9, 10, 11] rfl 0 rfl rfl rfl rfl wco_X5_asItIs wi_X5 xd_X5_asItIs wl_X5_143 win_X5_asItIs wse_X5_asItIs (by decide) (Nat.le_of_ble_eq_true rfl) dX5_tears_28 rfl (Eq.trans (b := [a 0, a 1, a 2, a 3, a 4, a 5, a 6, a 7, a 8, a 9, a 10, a 11]) rfl rfl) rfl ?_
        refine x_iconst (v := nI 0) X dX5_tears_31 (by decide) ?_
        refine x_istore (lv' := [(4, .int (nI 0)), (0, .ref (a 0)), (1, .int (nI iN)), (2, .int (nI jN)), (3, .int (nI kN))]) X dX5_tears_32 (by decide) rfl ?_
        have L34 : ∀ (fu : Nat) (q : Nat), 11 - q < fu → (q ≤ 11) → (F_fnd (P_tears s iN jN (nI kN)) (11 - q) q = F_fnd (P_tears s iN jN (nI kN)) 11 0) → K (wMo G a s.1 s.2.1 na nk ns nl pa rp rq kd (en s) W Kp sg le tl rk rd (en s) rw) 0 0 34 [(0, .ref (a 0)), (1, .int (nI iN)), (2, .int (nI jN)), (3, .int (nI kN)), (4, .int (nI q))] [] := by
          intro fu
          induction fu with
          | zero => intro q hfu; exact absurd hfu (Nat.not_lt_zero _)
          | succ fu ih_L34 =>
            intro q hfu_L34 hi hF
            refine x_iload X dX5_tears_34 4 rfl ?_
            refine x_bipush (v := nI 10) X dX5_tears_36 (by decide) ?_
            refine x_icmp_gt_n 73 X dX5_tears_38 (by decide) (by omega) (by omega) (fun c_4 => ?_) (fun c_4 => ?_)
            · -- 38 t
              refine x_bipush (v := (-4)) X dX5_tears_73 (by decide) ?_
              exact x_ret X dX5_tears_75 ⟨ret_i (by rw [show F_tears s (nI iN) (nI jN) (nI kN) = F_fnd (P_tears s iN jN (nI kN)) 11 0 from by simp [F_tears, tn, c_1, qiN, c_2, qjN, c_3, qkN, hi, hF, c_4], ← hF, F_fnd_e (by omega)]), ⟨(en s), rfl⟩, by decide, by decide⟩
            · -- 38 f
              have n_4 := Nat.not_lt.mpr c_4
              refine x_aloadn X dX5_tears_41 0 rfl ?_
              refine x_iloadn X dX5_tears_42 1 rfl ?_
              refine x_aloadn X dX5_tears_43 0 rfl ?_
              refine x_get X wu_X5 0 rfl rfl 18 (by decide) wf_X5_37 rfl rfl dX5_tears_44 ?_
              refine x_iconst (v := nI 0) X dX5_tears_47 (by decide) ?_
              refine x_iloadn X dX5_tears_48 1 rfl ?_
              refine x_iadd (v := nI (0 + iN)) X dX5_tears_49 (nI_add _ _) ?_
              refine x_iald_n (v := s.2.2.2.1 iN) X 10 rfl (by omega) (by omega) (en_mi _ (by omega)) dX5_tears_50 ?_
              obtain ⟨em, hm6⟩ := inR_eq (hmi iN (by omega)) (by decide)
              refine x_int em ?_
              refine x_iloadn X dX5_tears_51 2 rfl ?_
              refine x_iload X dX5_tears_52 4 rfl ?_
              refine x_callVrv (As := [.int (nI iN), .int (nI (tn (s.2.2.2.1 iN))), .int (nI jN), .int (nI q)]) (rest := []) X (c_X5_writes l G a s.1 s.2.1 na nk ns nl pa rp rq kd (en s) W Kp sg le tl rk rd rw s iN (tn (s.2.2.2.1 iN)) jN (nI q) (by omega) (by omega) (by omega) (hkd _ (by omega))) xE0_ok (fun _ _ _ => trivial) [0, 1, 2, 3, 4, 5, 6, 7, 8, 9, 10, 11] rfl 0 rfl rfl rfl rfl wco_X5_writes wi_X5 xd_X5_writes wl_X5_146 win_X5_writes wse_X5_writes (by decide) (Nat.le_of_ble_eq_true rfl) dX5_tears_54 ?_
              refine x_iloadn X dX5_tears_57 3 rfl ?_
              refine x_bipush (v := nI 9) X dX5_tears_58 (by decide) ?_
              refine x_isub (v := (nI kN) - (nI 9)) X dX5_tears_60 rfl ?_
              refine x_icmp_ne 67 X dX5_tears_61 (by decide) (fun c_5 => ?_) (fun c_5 => ?_)
              · -- 61 t
                refine x_iinc (v := nI (q + 1)) (lv' := [(4, .int (nI (q + 1))), (0, .ref (a 0)), (1, .int (nI iN)), (2, .int (nI jN)), (3, .int (nI kN))]) X dX5_tears_67 4 rfl (nI_1 _) (by decide) rfl ?_
                refine x_goto 34 X dX5_tears_70 (by decide) ?_
                refine x_lv (lv' := [(0, .ref (a 0)), (1, .int (nI iN)), (2, .int (nI jN)), (3, .int (nI kN)), (4, .int (nI (q + 1)))]) X [1, 2, 3, 4, 0] rfl ?_
                exact ih_L34 (q + 1) (by omega) (by omega) (by rw [F_fnd_n (by omega) (by simp [P_tears, wr_wf, c_1, qiN, c_2, qjN, c_3, qkN, hi, hF, c_4, n_4, c_5]), hF])
              · -- 61 f
                refine x_iload X dX5_tears_64 4 rfl ?_
                exact x_ret X dX5_tears_66 ⟨ret_i (by rw [show F_tears s (nI iN) (nI jN) (nI kN) = F_fnd (P_tears s iN jN (nI kN)) 11 0 from by simp [F_tears, tn, c_1, qiN, c_2, qjN, c_3, qkN, hi, hF, c_4, n_4, c_5], ← hF, F_fnd_y (by omega) (by simp [P_tears, wr_wf, c_1, qiN, c_2, qjN, c_3, qkN, hi, hF, c_4, n_4, c_5])]), ⟨(en s), rfl⟩, by decide, by decide⟩
        refine x_lv (lv' := [(0, .ref (a 0)), (1, .int (nI iN)), (2, .int (nI jN)), (3, .int (nI kN)), (4, .int (nI 0))]) X [1, 2, 3, 4, 0] rfl ?_
        exact L34 _ 0 (Nat.lt_succ_self _) (by omega) (rfl)
      · -- 22 f
        refine x_iconst (v := (-1)) X dX5_tears_25 (by decide) ?_
        exact x_ret X dX5_tears_26 ⟨ret_i (by simp [F_tears, tn, c_1, qiN, c_2, qjN, c_3]), ⟨nw, rfl⟩, by decide, by decide⟩
set_option maxRecDepth 100000 in
set_option maxHeartbeats 4000000 in
/-- X5_whom -/
theorem c_X5_whom (l : Launch) (G : xG) (a : Nat → Nat) (na : Nat) (nk : Nat) (ns : Nat) (nl : Nat) (pa : Nat) (rp : Nat) (rq : Nat) (kd : Nat → Int32) (W : Nat → Int32) (Kp : Nat → Int32) (sg : Nat → Int32) (le : Nat → Int32) (tl : Nat → Int32) (rk : Nat → Int32) (rd : Nat → Int32) (nw : Nat → Int32) (rw : Nat → Int32) (s : xS) (i : Int32) (j : Int32) (k : Int32) (hs6 : s.1 ≤ 6) (hs1 : 0 < s.1) (hq5 : s.2.1 ≤ 5) (hq1 : 0 < s.2.1) (hkd : ∀ p, p < s.1 → kd p = s.2.2.1 p) (hmi : ∀ j, j < 6 → inR (s.2.2.2.1 j) 6 = true) (hbv : ∀ j, j < 30 → bd (s.2.2.2.2.1 j)) (hbl : ∀ j, j < 25 → bl (s.2.2.2.2.2 j)) : xM l G xE0 yX5_whom cX5_whom 5 (some .int) 2 48 0 0 [.ref (a 0), .int i, .int j, .int k] (wMo G a s.1 s.2.1 na nk ns nl pa rp rq kd (en s) W Kp sg le tl rk rd nw rw) (some (.int (F_whom s i j k))) (fun w2 => ∃ nw' : Nat → Int32, w2 = wMo G a s.1 s.2.1 na nk ns nl pa rp rq kd (en s) W Kp sg le tl rk rd nw' rw) := by
  refine x_entry (by decide +kernel) (Nat.le_of_ble_eq_true rfl) rfl ⟨_, rfl, rfl⟩ (fun K X => ?_)
  refine x_aloadn X dX5_whom_0 0 rfl ?_
  refine x_iloadn X dX5_whom_1 1 rfl ?_
  refine x_callVrv (As := [.int i]) (rest := []) X (c_X5_isPerson l G a s.1 s.2.1 na nk ns nl pa rp rq kd (en s) W Kp sg le tl rk rd nw rw i (by omega) (by omega)) xE0_ok (fun _ _ _ => trivial) [0, 1, 2, 3, 4, 5, 6, 7, 8, 9, 10, 11] rfl 0 rfl rfl rfl rfl wco_X5_isPerson wi_X5 xd_X5_isPerson wl_X5_131 win_X5_isPerson wse_X5_isPerson (by decide) (Nat.le_of_ble_eq_true rfl) dX5_whom_2 ?_
  refine x_ifeq_b 25 X dX5_whom_5 (by decide) (fun c_1 => ?_) (fun c_1 => ?_)
  · -- 5 t
    refine x_iconst (v := (-1)) X dX5_whom_25 (by decide) ?_
    exact x_ret X dX5_whom_26 ⟨ret_i (by simp [F_whom, tn, c_1]), ⟨nw, rfl⟩, by decide, by decide⟩
  · -- 5 f
    obtain ⟨iN, hiN, rfl⟩ := inR_nat c_1 (by omega)
    have qiN : (nI iN).toNatClampNeg = iN := nI_clamp (by omega)
    refine x_iloadn X dX5_whom_8 2 rfl ?_
    refine x_callSrv (As := [.int j]) (rest := []) X (c_X5_isTheme l G j) xE0_ok (fun _ _ _ => trivial) [] rfl rfl rfl wco_X5_isTheme wi_X5 xd_X5_isTheme wl_X5_134 wst_X5_isTheme (by decide) (Nat.le_of_ble_eq_true rfl) dX5_whom_9 ?_
    refine x_ifeq_b 25 X dX5_whom_12 (by decide) (fun c_2 => ?_) (fun c_2 => ?_)
    · -- 12 t
      refine x_iconst (v := (-1)) X dX5_whom_25 (by decide) ?_
      exact x_ret X dX5_whom_26 ⟨ret_i (by simp [F_whom, tn, c_1, qiN, c_2]), ⟨nw, rfl⟩, by decide, by decide⟩
    · -- 12 f
      obtain ⟨jN, hjN, rfl⟩ := inR_nat c_2 (by omega)
      have qjN : (nI jN).toNatClampNeg = jN := nI_clamp (by omega)
      refine x_iloadn X dX5_whom_15 3 rfl ?_
      refine x_iconst (v := nI 0) X dX5_whom_16 (by decide) ?_
      refine x_bipush (v := nI 18) X dX5_whom_17 (by decide) ?_
      refine x_callSrv (As := [.int k, .int (nI 0), .int (nI 18)]) (rest := []) X (c_X5_in__R l G k 18 (by omega)) xE0_ok (fun _ _ _ => trivial) [] rfl rfl rfl wco_X5_in wi_X5 xd_X5_in wl_X5_63 wst_X5_in (by decide) (Nat.le_of_ble_eq_true rfl) dX5_whom_19 ?_
      refine x_ifne_b 27 X dX5_whom_22 (by decide) (fun c_3 => ?_) (fun c_3 => ?_)
      · -- 22 t
        obtain ⟨kN, hkN, rfl⟩ := inR_nat c_3 (by omega)
        have qkN : (nI kN).toNatClampNeg = kN := nI_clamp (by omega)
        refine x_aloadn X dX5_whom_27 0 rfl ?_
        refine x_callVf0 (As := []) (rest := []) (w1 := wMo G a s.1 s.2.1 na nk ns nl pa rp rq kd (en s) W Kp sg le tl rk rd (en s) rw) (ws' := wMo G a s.1 s.2.1 na nk ns nl pa rp rq kd (en s) W Kp sg le tl rk rd (en s) rw) X (c_X5_asItIs l G a s.1 s.2.1 na nk ns nl pa rp rq kd (en s) W Kp sg le tl rk rd nw rw) xE0_ok (fun _ _ _ => trivial) [0, 1, 2, 3, 4, 5, 6, 7, 8, 9, 10, 11] rfl 0 rfl rfl rfl rfl wco_X5_asItIs wi_X5 xd_X5_asItIs wl_X5_143 win_X5_asItIs wse_X5_asItIs (by decide) (Nat.le_of_ble_eq_true rfl) dX5_whom_28 rfl (Eq.trans (b := [a 0, a 1, a 2, a 3, a 4, a 5, a 6, a 7, a 8, a 9, a 10, a 11]) rfl rfl) rfl ?_
        refine x_iconst (v := nI 0) X dX5_whom_31 (by decide) ?_
        refine x_istore (lv' := [(4, .int (nI 0)), (0, .ref (a 0)), (1, .int (nI iN)), (2, .int (nI jN)), (3, .int (nI kN))]) X dX5_whom_32 (by decide) rfl ?_
        have L34 : ∀ (fu : Nat) (q : Nat), s.1 - q < fu → (q ≤ s.1) → (F_fnd (P_whom s iN jN (nI kN)) (s.1 - q) q = F_fnd (P_whom s iN jN (nI kN)) s.1 0) → K (wMo G a s.1 s.2.1 na nk ns nl pa rp rq kd (en s) W Kp sg le tl rk rd (en s) rw) 0 0 34 [(0, .ref (a 0)), (1, .int (nI iN)), (2, .int (nI jN)), (3, .int (nI kN)), (4, .int (nI q))] [] := by
          intro fu
          induction fu with
          | zero => intro q hfu; exact absurd hfu (Nat.not_lt_zero _)
          | succ fu ih_L34 =>
            intro q hfu_L34 hi hF
            refine x_iload X dX5_whom_34 4 rfl ?_
            refine x_aloadn X dX5_whom_36 0 rfl ?_
            refine x_get X wu_X5 0 rfl rfl 0 (by decide) wf_X5_60 rfl rfl dX5_whom_37 ?_
            refine x_icmp_ge_n 74 X dX5_whom_40 (by decide) (by omega) (by omega) (fun c_4 => ?_) (fun c_4 => ?_)
            · -- 40 t
              have n_4 := Nat.not_lt.mpr c_4
              refine x_bipush (v := (-4)) X dX5_whom_74 (by decide) ?_
              exact x_ret X dX5_whom_76 ⟨ret_i (by rw [show F_whom s (nI iN) (nI jN) (nI kN) = F_fnd (P_whom s iN jN (nI kN)) s.1 0 from by simp [F_whom, tn, c_1, qiN, c_2, qjN, c_3, qkN, hi, hF, c_4, n_4], ← hF, F_fnd_e (by omega)]), ⟨(en s), rfl⟩, by decide, by decide⟩
            · -- 40 f
              refine x_iload X dX5_whom_43 4 rfl ?_
              refine x_iloadn X dX5_whom_45 1 rfl ?_
              refine x_icmp_eq_n 68 X dX5_whom_46 (by decide) (by omega) (by omega) (fun c_5 => ?_) (fun c_5 => ?_)
              · -- 46 t
                refine x_iinc (v := nI (q + 1)) (lv' := [(4, .int (nI (q + 1))), (0, .ref (a 0)), (1, .int (nI iN)), (2, .int (nI jN)), (3, .int (nI kN))]) X dX5_whom_68 4 rfl (nI_1 _) (by decide) rfl ?_
                refine x_goto 34 X dX5_whom_71 (by decide) ?_
                refine x_lv (lv' := [(0, .ref (a 0)), (1, .int (nI iN)), (2, .int (nI jN)), (3, .int (nI kN)), (4, .int (nI (q + 1)))]) X [1, 2, 3, 4, 0] rfl ?_
                exact ih_L34 (q + 1) (by omega) (by omega) (by rw [F_fnd_n (by omega) (by simp [P_whom, c_1, qiN, c_2, qjN, c_3, qkN, hi, hF, c_4, (eq_true c_5)]), hF])
              · -- 46 f
                refine x_aloadn X dX5_whom_49 0 rfl ?_
                refine x_iloadn X dX5_whom_50 1 rfl ?_
                refine x_iload X dX5_whom_51 4 rfl ?_
                refine x_iloadn X dX5_whom_53 2 rfl ?_
                refine x_iconst (v := nI 0) X dX5_whom_54 (by decide) ?_
                refine x_callVrv (As := [.int (nI iN), .int (nI q), .int (nI jN), .int (nI 0)]) (rest := []) X (c_X5_writes l G a s.1 s.2.1 na nk ns nl pa rp rq kd (en s) W Kp sg le tl rk rd rw s iN q jN (nI 0) (by omega) (by omega) (by omega) (hkd _ (by omega))) xE0_ok (fun _ _ _ => trivial) [0, 1, 2, 3, 4, 5, 6, 7, 8, 9, 10, 11] rfl 0 rfl rfl rfl rfl wco_X5_writes wi_X5 xd_X5_writes wl_X5_146 win_X5_writes wse_X5_writes (by decide) (Nat.le_of_ble_eq_true rfl) dX5_whom_55 ?_
                refine x_iloadn X dX5_whom_58 3 rfl ?_
                refine x_bipush (v := nI 9) X dX5_whom_59 (by decide) ?_
                refine x_isub (v := (nI kN) - (nI 9)) X dX5_whom_61 rfl ?_
                refine x_icmp_ne 68 X dX5_whom_62 (by decide) (fun c_6 => ?_) (fun c_6 => ?_)
                · -- 62 t
                  refine x_iinc (v := nI (q + 1)) (lv' := [(4, .int (nI (q + 1))), (0, .ref (a 0)), (1, .int (nI iN)), (2, .int (nI jN)), (3, .int (nI kN))]) X dX5_whom_68 4 rfl (nI_1 _) (by decide) rfl ?_
                  refine x_goto 34 X dX5_whom_71 (by decide) ?_
                  refine x_lv (lv' := [(0, .ref (a 0)), (1, .int (nI iN)), (2, .int (nI jN)), (3, .int (nI kN)), (4, .int (nI (q + 1)))]) X [1, 2, 3, 4, 0] rfl ?_
                  exact ih_L34 (q + 1) (by omega) (by omega) (by rw [F_fnd_n (by omega) (by simp [P_whom, c_1, qiN, c_2, qjN, c_3, qkN, hi, hF, c_4, c_5, c_6]), hF])
                · -- 62 f
                  refine x_iload X dX5_whom_65 4 rfl ?_
                  exact x_ret X dX5_whom_67 ⟨ret_i (by rw [show F_whom s (nI iN) (nI jN) (nI kN) = F_fnd (P_whom s iN jN (nI kN)) s.1 0 from by simp [F_whom, tn, c_1, qiN, c_2, qjN, c_3, qkN, hi, hF, c_4, c_5, c_6], ← hF, F_fnd_y (by omega) (by simp [P_whom, c_1, qiN, c_2, qjN, c_3, qkN, hi, hF, c_4, c_5, c_6])]), ⟨(en s), rfl⟩, by decide, by decide⟩
        refine x_lv (lv' := [(0, .ref (a 0)), (1, .int (nI iN)), (2, .int (nI jN)), (3, .int (nI kN)), (4, .int (nI 0))]) X [1, 2, 3, 4, 0] rfl ?_
        exact L34 _ 0 (Nat.lt_succ_self _) (by omega) (rfl)
      · -- 22 f
        refine x_iconst (v := (-1)) X dX5_whom_25 (by decide) ?_
        exact x_ret X dX5_whom_26 ⟨ret_i (by simp [F_whom, tn, c_1, qiN, c_2, qjN, c_3]), ⟨nw, rfl⟩, by decide, by decide⟩
set_option maxRecDepth 100000 in
set_option maxHeartbeats 4000000 in
/-- X5_treaty -/
theorem c_X5_treaty (l : Launch) (G : xG) (a : Nat → Nat) (na : Nat) (nk : Nat) (ns : Nat) (nl : Nat) (pa : Nat) (rp : Nat) (rq : Nat) (kd : Nat → Int32) (W : Nat → Int32) (Kp : Nat → Int32) (sg : Nat → Int32) (le : Nat → Int32) (tl : Nat → Int32) (rk : Nat → Int32) (rd : Nat → Int32) (nw : Nat → Int32) (rw : Nat → Int32) (s : xS) (i : Int32) (j : Int32) (k : Int32) (hs6 : s.1 ≤ 6) (hs1 : 0 < s.1) (hq5 : s.2.1 ≤ 5) (hq1 : 0 < s.2.1) (hkd : ∀ p, p < s.1 → kd p = s.2.2.1 p) (hmi : ∀ j, j < 6 → inR (s.2.2.2.1 j) 6 = true) (hbv : ∀ j, j < 30 → bd (s.2.2.2.2.1 j)) (hbl : ∀ j, j < 25 → bl (s.2.2.2.2.2 j)) : xM l G xE0 yX5_treaty cX5_treaty 6 (some .int) 2 48 0 0 [.ref (a 0), .int i, .int j, .int k] (wMo G a s.1 s.2.1 na nk ns nl pa rp rq kd (en s) W Kp sg le tl rk rd nw rw) (some (.int (F_treaty s i j k))) (fun w2 => ∃ nw' : Nat → Int32, w2 = wMo G a s.1 s.2.1 na nk ns nl pa rp rq kd (en s) W Kp sg le tl rk rd nw' rw) := by
  refine x_entry (by decide +kernel) (Nat.le_of_ble_eq_true rfl) rfl ⟨_, rfl, rfl⟩ (fun K X => ?_)
  refine x_aloadn X dX5_treaty_0 0 rfl ?_
  refine x_iloadn X dX5_treaty_1 1 rfl ?_
  refine x_callVrv (As := [.int i]) (rest := []) X (c_X5_isPerson l G a s.1 s.2.1 na nk ns nl pa rp rq kd (en s) W Kp sg le tl rk rd nw rw i (by omega) (by omega)) xE0_ok (fun _ _ _ => trivial) [0, 1, 2, 3, 4, 5, 6, 7, 8, 9, 10, 11] rfl 0 rfl rfl rfl rfl wco_X5_isPerson wi_X5 xd_X5_isPerson wl_X5_131 win_X5_isPerson wse_X5_isPerson (by decide) (Nat.le_of_ble_eq_true rfl) dX5_treaty_2 ?_
  refine x_ifeq_b 31 X dX5_treaty_5 (by decide) (fun c_1 => ?_) (fun c_1 => ?_)
  · -- 5 t
    refine x_iconst (v := (-1)) X dX5_treaty_31 (by decide) ?_
    exact x_ret X dX5_treaty_32 ⟨ret_i (by simp [F_treaty, tn, c_1]), ⟨nw, rfl⟩, by decide, by decide⟩
  · -- 5 f
    obtain ⟨iN, hiN, rfl⟩ := inR_nat c_1 (by omega)
    have qiN : (nI iN).toNatClampNeg = iN := nI_clamp (by omega)
    refine x_aloadn X dX5_treaty_8 0 rfl ?_
    refine x_iloadn X dX5_treaty_9 2 rfl ?_
    refine x_callVrv (As := [.int j]) (rest := []) X (c_X5_isPerson l G a s.1 s.2.1 na nk ns nl pa rp rq kd (en s) W Kp sg le tl rk rd nw rw j (by omega) (by omega)) xE0_ok (fun _ _ _ => trivial) [0, 1, 2, 3, 4, 5, 6, 7, 8, 9, 10, 11] rfl 0 rfl rfl rfl rfl wco_X5_isPerson wi_X5 xd_X5_isPerson wl_X5_131 win_X5_isPerson wse_X5_isPerson (by decide) (Nat.le_of_ble_eq_true rfl) dX5_treaty_10 ?_
    refine x_ifeq_b 31 X dX5_treaty_13 (by decide) (fun c_2 => ?_) (fun c_2 => ?_)
    · -- 13 t
      refine x_iconst (v := (-1)) X dX5_treaty_31 (by decide) ?_
      exact x_ret X dX5_treaty_32 ⟨ret_i (by simp [F_treaty, tn, c_1, qiN, c_2]), ⟨nw, rfl⟩, by decide, by decide⟩
    · -- 13 f
      obtain ⟨jN, hjN, rfl⟩ := inR_nat c_2 (by omega)
      have qjN : (nI jN).toNatClampNeg = jN := nI_clamp (by omega)
      refine x_iloadn X dX5_treaty_16 1 rfl ?_
      refine x_iloadn X dX5_treaty_17 2 rfl ?_
      refine x_icmp_eq_n 31 X dX5_treaty_18 (by decide) (by omega) (by omega) (fun c_3 => ?_) (fun c_3 => ?_)
      · -- 18 t
        have heq : nI iN = nI jN := congrArg nI c_3
        refine x_iconst (v := (-1)) X dX5_treaty_31 (by decide) ?_
        exact x_ret X dX5_treaty_32 ⟨ret_i (by simp [F_treaty, tn, c_1, qiN, c_2, qjN, heq]), ⟨nw, rfl⟩, by decide, by decide⟩
      · -- 18 f
        have hne : ¬ nI iN = nI jN := fun q => c_3 ((nI_eq (by omega) (by omega)).mp q)
        refine x_iloadn X dX5_treaty_21 3 rfl ?_
        refine x_iconst (v := nI 0) X dX5_treaty_22 (by decide) ?_
        refine x_bipush (v := nI 10) X dX5_treaty_23 (by decide) ?_
        refine x_callSrv (As := [.int k, .int (nI 0), .int (nI 10)]) (rest := []) X (c_X5_in__R l G k 10 (by omega)) xE0_ok (fun _ _ _ => trivial) [] rfl rfl rfl wco_X5_in wi_X5 xd_X5_in wl_X5_63 wst_X5_in (by decide) (Nat.le_of_ble_eq_true rfl) dX5_treaty_25 ?_
        refine x_ifne_b 33 X dX5_treaty_28 (by decide) (fun c_4 => ?_) (fun c_4 => ?_)
        · -- 28 t
          obtain ⟨kN, hkN, rfl⟩ := inR_nat c_4 (by omega)
          have qkN : (nI kN).toNatClampNeg = kN := nI_clamp (by omega)
          refine x_aloadn X dX5_treaty_33 0 rfl ?_
          refine x_callVf0 (As := []) (rest := []) (w1 := wMo G a s.1 s.2.1 na nk ns nl pa rp rq kd (en s) W Kp sg le tl rk rd (en s) rw) (ws' := wMo G a s.1 s.2.1 na nk ns nl pa rp rq kd (en s) W Kp sg le tl rk rd (en s) rw) X (c_X5_asItIs l G a s.1 s.2.1 na nk ns nl pa rp rq kd (en s) W Kp sg le tl rk rd nw rw) xE0_ok (fun _ _ _ => trivial) [0, 1, 2, 3, 4, 5, 6, 7, 8, 9, 10, 11] rfl 0 rfl rfl rfl rfl wco_X5_asItIs wi_X5 xd_X5_asItIs wl_X5_143 win_X5_asItIs wse_X5_asItIs (by decide) (Nat.le_of_ble_eq_true rfl) dX5_treaty_34 rfl (Eq.trans (b := [a 0, a 1, a 2, a 3, a 4, a 5, a 6, a 7, a 8, a 9, a 10, a 11]) rfl rfl) rfl ?_
          refine x_iconst (v := nI 0) X dX5_treaty_37 (by decide) ?_
          refine x_istore (lv' := [(4, .int (nI 0)), (0, .ref (a 0)), (1, .int (nI iN)), (2, .int (nI jN)), (3, .int (nI kN))]) X dX5_treaty_38 (by decide) rfl ?_
          refine x_iconst (v := nI 0) X dX5_treaty_40 (by decide) ?_
          refine x_istore (lv' := [(5, .int (nI 0)), (4, .int (nI 0)), (0, .ref (a 0)), (1, .int (nI iN)), (2, .int (nI jN)), (3, .int (nI kN))]) X dX5_treaty_41 (by decide) rfl ?_
          have L43 : ∀ (fu : Nat) (t : Nat) (u : Int32), 5 - t < fu → (t ≤ 5) → (u = F_trb s iN jN (nI kN) t) → K (wMo G a s.1 s.2.1 na nk ns nl pa rp rq kd (en s) W Kp sg le tl rk rd (en s) rw) 0 0 43 [(0, .ref (a 0)), (1, .int (nI iN)), (2, .int (nI jN)), (3, .int (nI kN)), (4, .int u), (5, .int (nI t))] [] := by
            intro fu
            induction fu with
            | zero => intro t u hfu; exact absurd hfu (Nat.not_lt_zero _)
            | succ fu ih_L43 =>
              intro t u hfu_L43 ht5 hu
              refine x_iload X dX5_treaty_43 5 rfl ?_
              refine x_iconst (v := nI 5) X dX5_treaty_45 (by decide) ?_
              refine x_icmp_ge_n 89 X dX5_treaty_46 (by decide) (by omega) (by omega) (fun c_5 => ?_) (fun c_5 => ?_)
              · -- 46 t
                have n_5 := Nat.not_lt.mpr c_5
                obtain rfl : t = 5 := by omega
                refine x_iload X dX5_treaty_89 4 rfl ?_
                exact x_ret X dX5_treaty_91 ⟨ret_i (by simp [F_treaty, tn, c_1, qiN, c_2, qjN, c_3, hne, c_4, qkN, ht5, hu, c_5, n_5]), ⟨(en s), rfl⟩, by decide, by decide⟩
              · -- 46 f
                refine x_iload X dX5_treaty_49 4 rfl ?_
                refine x_aloadn X dX5_treaty_51 0 rfl ?_
                refine x_iloadn X dX5_treaty_52 1 rfl ?_
                refine x_iloadn X dX5_treaty_53 2 rfl ?_
                refine x_iload X dX5_treaty_54 5 rfl ?_
                refine x_iloadn X dX5_treaty_56 3 rfl ?_
                refine x_callVrv (As := [.int (nI iN), .int (nI jN), .int (nI t), .int (nI kN)]) (rest := [.int u]) X (c_X5_writes l G a s.1 s.2.1 na nk ns nl pa rp rq kd (en s) W Kp sg le tl rk rd rw s iN jN t (nI kN) (by omega) (by omega) (by omega) (hkd _ (by omega))) xE0_ok (fun _ _ _ => trivial) [0, 1, 2, 3, 4, 5, 6, 7, 8, 9, 10, 11] rfl 0 rfl rfl rfl rfl wco_X5_writes wi_X5 xd_X5_writes wl_X5_146 win_X5_writes wse_X5_writes (by decide) (Nat.le_of_ble_eq_true rfl) dX5_treaty_57 ?_
                refine x_aloadn X dX5_treaty_60 0 rfl ?_
                refine x_iloadn X dX5_treaty_61 2 rfl ?_
                refine x_iloadn X dX5_treaty_62 1 rfl ?_
                refine x_iload X dX5_treaty_63 5 rfl ?_
                refine x_iloadn X dX5_treaty_65 3 rfl ?_
                refine x_callVrv (As := [.int (nI jN), .int (nI iN), .int (nI t), .int (nI kN)]) (rest := [.int (F_wf s iN jN t (nI kN)), .int u]) X (c_X5_writes l G a s.1 s.2.1 na nk ns nl pa rp rq kd (en s) W Kp sg le tl rk rd rw s jN iN t (nI kN) (by omega) (by omega) (by omega) (hkd _ (by omega))) xE0_ok (fun _ _ _ => trivial) [0, 1, 2, 3, 4, 5, 6, 7, 8, 9, 10, 11] rfl 0 rfl rfl rfl rfl wco_X5_writes wi_X5 xd_X5_writes wl_X5_146 win_X5_writes wse_X5_writes (by decide) (Nat.le_of_ble_eq_true rfl) dX5_treaty_66 ?_
                refine x_icmp_ne 79 X dX5_treaty_69 (by decide) (fun c_6 => ?_) (fun c_6 => ?_)
                · -- 69 t
                  refine x_iconst (v := nI 0) X dX5_treaty_79 (by decide) ?_
                  refine x_ior (v := u ||| (nI 0)) X dX5_treaty_80 rfl ?_
                  refine x_istore (lv' := [(4, .int (u ||| (nI 0))), (0, .ref (a 0)), (1, .int (nI iN)), (2, .int (nI jN)), (3, .int (nI kN)), (5, .int (nI t))]) X dX5_treaty_81 (by decide) rfl ?_
                  refine x_iinc (v := nI (t + 1)) (lv' := [(5, .int (nI (t + 1))), (4, .int (u ||| (nI 0))), (0, .ref (a 0)), (1, .int (nI iN)), (2, .int (nI jN)), (3, .int (nI kN))]) X dX5_treaty_83 5 rfl (nI_1 _) (by decide) rfl ?_
                  refine x_goto 43 X dX5_treaty_86 (by decide) ?_
                  refine x_lv (lv' := [(0, .ref (a 0)), (1, .int (nI iN)), (2, .int (nI jN)), (3, .int (nI kN)), (4, .int (u ||| (nI 0))), (5, .int (nI (t + 1)))]) X [2, 3, 4, 5, 1, 0] rfl ?_
                  exact ih_L43 (t + 1) (u ||| (nI 0)) (by omega) (by omega) (by simp [F_trb, or0, c_1, qiN, c_2, qjN, c_3, hne, c_4, qkN, ht5, hu, c_5, c_6])
                · -- 69 f
                  refine x_iconst (v := nI 1) X dX5_treaty_72 (by decide) ?_
                  refine x_iload X dX5_treaty_73 5 rfl ?_
                  refine x_ishl (v := (nI 1) <<< ((nI t) &&& 31)) X dX5_treaty_75 rfl ?_
                  refine x_goto 80 X dX5_treaty_76 (by decide) ?_
                  refine x_ior (v := u ||| ((nI 1) <<< ((nI t) &&& 31))) X dX5_treaty_80 rfl ?_
                  refine x_istore (lv' := [(4, .int (u ||| ((nI 1) <<< ((nI t) &&& 31)))), (0, .ref (a 0)), (1, .int (nI iN)), (2, .int (nI jN)), (3, .int (nI kN)), (5, .int (nI t))]) X dX5_treaty_81 (by decide) rfl ?_
                  refine x_iinc (v := nI (t + 1)) (lv' := [(5, .int (nI (t + 1))), (4, .int (u ||| ((nI 1) <<< ((nI t) &&& 31)))), (0, .ref (a 0)), (1, .int (nI iN)), (2, .int (nI jN)), (3, .int (nI kN))]) X dX5_treaty_83 5 rfl (nI_1 _) (by decide) rfl ?_
                  refine x_goto 43 X dX5_treaty_86 (by decide) ?_
                  refine x_lv (lv' := [(0, .ref (a 0)), (1, .int (nI iN)), (2, .int (nI jN)), (3, .int (nI kN)), (4, .int (u ||| ((nI 1) <<< ((nI t) &&& 31)))), (5, .int (nI (t + 1)))]) X [2, 3, 4, 5, 1, 0] rfl ?_
                  exact ih_L43 (t + 1) (u ||| ((nI 1) <<< ((nI t) &&& 31))) (by omega) (by omega) (by simp [F_trb, or0, c_1, qiN, c_2, qjN, c_3, hne, c_4, qkN, ht5, hu, c_5, c_6])
          refine x_lv (lv' := [(0, .ref (a 0)), (1, .int (nI iN)), (2, .int (nI jN)), (3, .int (nI kN)), (4, .int (nI 0)), (5, .int (nI 0))]) X [2, 3, 4, 5, 1, 0] rfl ?_
          exact L43 _ 0 (nI 0) (Nat.lt_succ_self _) (by omega) (rfl)
        · -- 28 f
          refine x_iconst (v := (-1)) X dX5_treaty_31 (by decide) ?_
          exact x_ret X dX5_treaty_32 ⟨ret_i (by simp [F_treaty, tn, c_1, qiN, c_2, qjN, c_3, hne, c_4]), ⟨nw, rfl⟩, by decide, by decide⟩
set_option maxRecDepth 100000 in
set_option maxHeartbeats 4000000 in
/-- X5_remembers -/
theorem c_X5_remembers (l : Launch) (G : xG) (a : Nat → Nat) (np : Nat) (nq : Nat) (na : Nat) (nk : Nat) (ns : Nat) (nl : Nat) (pa : Nat) (rp : Nat) (rq : Nat) (kd : Nat → Int32) (W : Nat → Int32) (Kp : Nat → Int32) (sg : Nat → Int32) (le : Nat → Int32) (tl : Nat → Int32) (rk : Nat → Int32) (rd : Nat → Int32) (nw : Nat → Int32) (rw : Nat → Int32) (s : xS) (hna : na ≤ 8) : xM l G xE0 yX5_remembers cX5_remembers 2 none 1 24 0 0 [.ref (a 0)] (wMo G a np nq na nk ns nl pa rp rq kd (en s) W Kp sg le tl rk rd nw rw) none (fun w2 => w2 = wMo G a np nq (mNa na) nk ns nl pa rp rq kd (en s) (mW W (en s) na) Kp sg le tl rk rd nw rw) := by
  refine x_entry (by decide +kernel) (Nat.le_of_ble_eq_true rfl) rfl rfl (fun K X => ?_)
  refine x_aloadn X dX5_remembers_0 0 rfl ?_
  refine x_get X wu_X5 0 rfl rfl 4 (by decide) wf_X5_111 rfl rfl dX5_remembers_1 ?_
  refine x_bipush (v := nI 8) X dX5_remembers_4 (by decide) ?_
  refine x_icmp_ne_n 49 X dX5_remembers_6 (by decide) (by omega) (by omega) (fun c_1 => ?_) (fun c_1 => ?_)
  · -- 6 t
    refine x_aloadn X dX5_remembers_49 0 rfl ?_
    refine x_get X wu_X5 0 rfl rfl 5 (by decide) wf_X5_16 rfl rfl dX5_remembers_50 ?_
    refine x_bipush (v := nI 61) X dX5_remembers_53 (by decide) ?_
    refine x_aloadn X dX5_remembers_55 0 rfl ?_
    refine x_get X wu_X5 0 rfl rfl 4 (by decide) wf_X5_111 rfl rfl dX5_remembers_56 ?_
    refine x_imul (v := nI (61 * na)) X dX5_remembers_59 (pk_mul _ _) ?_
    refine x_aloadn X dX5_remembers_60 0 rfl ?_
    refine x_get X wu_X5 0 rfl rfl 3 (by decide) wf_X5_13 rfl rfl dX5_remembers_61 ?_
    refine x_iconst (v := nI 0) X dX5_remembers_64 (by decide) ?_
    refine x_callSf0 (As := [.ref (a 3), .int (nI (61 * na)), .ref (a 2), .int (nI 0)]) (rest := []) (w1 := xJ [wIA G (a 3) 488 (va_cpy (en s) W 0 (61 * na) 61), wIA G (a 2) 61 (en s)]) (ws' := wMo G a np nq na nk ns nl pa rp rq kd (en s) (va_cpy (en s) W 0 (61 * na) 61) Kp sg le tl rk rd nw rw) X (c_X5_copies l G (a 3) 488 W (a 2) 61 (en s) (61 * na) 0 (by omega) (by omega) (by omega) (by omega)) xE0_ok (fun _ _ _ => trivial) [3, 2] rfl rfl rfl wco_X5_copies wi_X5 xd_X5_copies wl_X5_107 wst_X5_copies (by decide) (Nat.le_of_ble_eq_true rfl) dX5_remembers_65 rfl (Eq.trans (b := [a 3, a 2]) rfl rfl) rfl ?_
    refine x_aloadn X dX5_remembers_68 0 rfl ?_
    refine x_dup X dX5_remembers_69 rfl ?_
    refine x_get X wu_X5 0 rfl rfl 4 (by decide) wf_X5_111 rfl rfl dX5_remembers_70 ?_
    refine x_iconst (v := nI 1) X dX5_remembers_73 (by decide) ?_
    refine x_iadd (v := nI (na + 1)) X dX5_remembers_74 (nI_add _ _) ?_
    refine x_put (ws' := wMo G a np nq (na + 1) nk ns nl pa rp rq kd (en s) (va_cpy (en s) W 0 (61 * na) 61) Kp sg le tl rk rd nw rw) (ty := tyX5 4) X wu_X5 tyX5_ok nmX5 0 rfl rfl 4 (by decide) wf_X5_111 rfl rfl (by decide +kernel) rfl rfl (Nat.le_of_ble_eq_true rfl) rfl dX5_remembers_75 ?_
    exact x_retv X dX5_remembers_78 ⟨rfl, (by rw [mNa, mW, if_neg (by omega), if_neg (by omega)]), by decide, by decide⟩
  · -- 6 f
    obtain rfl : na = 8 := by omega
    refine x_iconst (v := nI 0) X dX5_remembers_9 (by decide) ?_
    refine x_istoren (lv' := [(1, .int (nI 0)), (0, .ref (a 0))]) X dX5_remembers_10 (by decide) rfl ?_
    have L11 : ∀ (fu : Nat) (k : Nat) (V : Nat → Int32), 427 - k < fu → (k ≤ 427) → (V = shW W k) → K (wMo G a np nq 8 nk ns nl pa rp rq kd (en s) V Kp sg le tl rk rd nw rw) 0 0 11 [(0, .ref (a 0)), (1, .int (nI k))] [] := by
      intro fu
      induction fu with
      | zero => intro k V hfu; exact absurd hfu (Nat.not_lt_zero _)
      | succ fu ih_L11 =>
        intro k V hfu_L11 hk hV
        refine x_iloadn X dX5_remembers_11 1 rfl ?_
        refine x_sipush (v := nI 427) X dX5_remembers_12 (by decide) ?_
        refine x_icmp_ge_n 39 X dX5_remembers_15 (by decide) (by omega) (by omega) (fun c_2 => ?_) (fun c_2 => ?_)
        · -- 15 t
          have n_2 := Nat.not_lt.mpr c_2
          obtain rfl : k = 427 := by omega
          refine x_aloadn X dX5_remembers_39 0 rfl ?_
          refine x_dup X dX5_remembers_40 rfl ?_
          refine x_get X wu_X5 0 rfl rfl 4 (by decide) wf_X5_111 rfl rfl dX5_remembers_41 ?_
          refine x_iconst (v := nI 1) X dX5_remembers_44 (by decide) ?_
          refine x_isub (v := nI 7) X dX5_remembers_45 (by decide) ?_
          refine x_put (ws' := wMo G a np nq 7 nk ns nl pa rp rq kd (en s) V Kp sg le tl rk rd nw rw) (ty := tyX5 4) X wu_X5 tyX5_ok nmX5 0 rfl rfl 4 (by decide) wf_X5_111 rfl rfl (by decide +kernel) rfl rfl (Nat.le_of_ble_eq_true rfl) rfl dX5_remembers_46 ?_
          refine x_aloadn X dX5_remembers_49 0 rfl ?_
          refine x_get X wu_X5 0 rfl rfl 5 (by decide) wf_X5_16 rfl rfl dX5_remembers_50 ?_
          refine x_bipush (v := nI 61) X dX5_remembers_53 (by decide) ?_
          refine x_aloadn X dX5_remembers_55 0 rfl ?_
          refine x_get X wu_X5 0 rfl rfl 4 (by decide) wf_X5_111 rfl rfl dX5_remembers_56 ?_
          refine x_imul (v := nI 427) X dX5_remembers_59 (by decide) ?_
          refine x_aloadn X dX5_remembers_60 0 rfl ?_
          refine x_get X wu_X5 0 rfl rfl 3 (by decide) wf_X5_13 rfl rfl dX5_remembers_61 ?_
          refine x_iconst (v := nI 0) X dX5_remembers_64 (by decide) ?_
          refine x_callSf0 (As := [.ref (a 3), .int (nI 427), .ref (a 2), .int (nI 0)]) (rest := []) (w1 := xJ [wIA G (a 3) 488 (va_cpy (en s) V 0 427 61), wIA G (a 2) 61 (en s)]) (ws' := wMo G a np nq 7 nk ns nl pa rp rq kd (en s) (va_cpy (en s) V 0 427 61) Kp sg le tl rk rd nw rw) X (c_X5_copies l G (a 3) 488 V (a 2) 61 (en s) 427 0 (by omega) (by omega) (by omega) (by omega)) xE0_ok (fun _ _ _ => trivial) [3, 2] rfl rfl rfl wco_X5_copies wi_X5 xd_X5_copies wl_X5_107 wst_X5_copies (by decide) (Nat.le_of_ble_eq_true rfl) dX5_remembers_65 rfl (Eq.trans (b := [a 3, a 2]) rfl rfl) rfl ?_
          refine x_aloadn X dX5_remembers_68 0 rfl ?_
          refine x_dup X dX5_remembers_69 rfl ?_
          refine x_get X wu_X5 0 rfl rfl 4 (by decide) wf_X5_111 rfl rfl dX5_remembers_70 ?_
          refine x_iconst (v := nI 1) X dX5_remembers_73 (by decide) ?_
          refine x_iadd (v := nI 8) X dX5_remembers_74 (by decide) ?_
          refine x_put (ws' := wMo G a np nq 8 nk ns nl pa rp rq kd (en s) (va_cpy (en s) V 0 427 61) Kp sg le tl rk rd nw rw) (ty := tyX5 4) X wu_X5 tyX5_ok nmX5 0 rfl rfl 4 (by decide) wf_X5_111 rfl rfl (by decide +kernel) rfl rfl (Nat.le_of_ble_eq_true rfl) rfl dX5_remembers_75 ?_
          exact x_retv X dX5_remembers_78 ⟨rfl, (by simp only [mNa, mW, if_true, hV]), by decide, by decide⟩
        · -- 15 f
          refine x_aloadn X dX5_remembers_18 0 rfl ?_
          refine x_get X wu_X5 0 rfl rfl 5 (by decide) wf_X5_16 rfl rfl dX5_remembers_19 ?_
          refine x_iloadn X dX5_remembers_22 1 rfl ?_
          refine x_aloadn X dX5_remembers_23 0 rfl ?_
          refine x_get X wu_X5 0 rfl rfl 5 (by decide) wf_X5_16 rfl rfl dX5_remembers_24 ?_
          refine x_iloadn X dX5_remembers_27 1 rfl ?_
          refine x_bipush (v := nI 61) X dX5_remembers_28 (by decide) ?_
          refine x_iadd (v := nI (k + 61)) X dX5_remembers_30 (nI_add _ _) ?_
          refine x_iald_n (v := V (k + 61)) X 3 rfl (by omega) (by omega) rfl dX5_remembers_31 ?_
          refine x_iast_n (g := upd V k (V (k + 61))) (ws' := wMo G a np nq 8 nk ns nl pa rp rq kd (en s) (upd V k (V (k + 61))) Kp sg le tl rk rd nw rw) X 3 rfl (by omega) (by omega) rfl rfl dX5_remembers_32 ?_
          refine x_iinc (v := nI (k + 1)) (lv' := [(1, .int (nI (k + 1))), (0, .ref (a 0))]) X dX5_remembers_33 1 rfl (nI_1 _) (by decide) rfl ?_
          refine x_goto 11 X dX5_remembers_36 (by decide) ?_
          refine x_lv (lv' := [(0, .ref (a 0)), (1, .int (nI (k + 1)))]) X [1, 0] rfl ?_
          exact ih_L11 (k + 1) (upd V k (V (k + 61))) (by omega) (by omega) (by rw [hV, shW_at]; exact shW_s _ _)
    refine x_lv (lv' := [(0, .ref (a 0)), (1, .int (nI 0))]) X [1, 0] rfl ?_
    exact L11 _ 0 W (Nat.lt_succ_self _) (by omega) (shW_0 _)
set_option maxRecDepth 100000 in
set_option maxHeartbeats 4000000 in
/-- X5_set -/
theorem c_X5_set (l : Launch) (G : xG) (a : Nat → Nat) (na : Nat) (nk : Nat) (ns : Nat) (nl : Nat) (pa : Nat) (rp : Nat) (rq : Nat) (kd : Nat → Int32) (W : Nat → Int32) (Kp : Nat → Int32) (sg : Nat → Int32) (le : Nat → Int32) (tl : Nat → Int32) (rk : Nat → Int32) (rd : Nat → Int32) (nw : Nat → Int32) (rw : Nat → Int32) (s : xS) (i : Int32) (j : Int32) (k : Int32) (u : Int32) (hs6 : s.1 ≤ 6) (hs1 : 0 < s.1) (hq5 : s.2.1 ≤ 5) (hq1 : 0 < s.2.1) (hkd : ∀ p, p < s.1 → kd p = s.2.2.1 p) (hmi : ∀ j, j < 6 → inR (s.2.2.2.1 j) 6 = true) (hbv : ∀ j, j < 30 → bd (s.2.2.2.2.1 j)) (hbl : ∀ j, j < 25 → bl (s.2.2.2.2.2 j)) (hna : na ≤ 8) : xM l G xE0 yX5_set cX5_set 6 (some .int) 2 48 0 0 [.ref (a 0), .int i, .int j, .int k, .int u] (wMo G a s.1 s.2.1 na nk ns nl pa rp rq kd (en s) W Kp sg le tl rk rd nw rw) (some (.int (F_set s i j k u))) (fun w2 => ∃ nw' : Nat → Int32, w2 = wMo G a s.1 s.2.1 (mN (F_setOk s i j k u) na) nk ns nl pa rp rq kd (en (F_setS s i j k u)) (mWb (F_setOk s i j k u) W (en s) na) Kp sg le tl rk rd nw' rw) := by
  refine x_entry (by decide +kernel) (Nat.le_of_ble_eq_true rfl) rfl ⟨_, rfl, rfl⟩ (fun K X => ?_)
  refine x_aloadn X dX5_set_0 0 rfl ?_
  refine x_iloadn X dX5_set_1 1 rfl ?_
  refine x_callVrv (As := [.int i]) (rest := []) X (c_X5_isPaper l G a s.1 s.2.1 na nk ns nl pa rp rq kd (en s) W Kp sg le tl rk rd nw rw i (by omega) (by omega)) xE0_ok (fun _ _ _ => trivial) [0, 1, 2, 3, 4, 5, 6, 7, 8, 9, 10, 11] rfl 0 rfl rfl rfl rfl wco_X5_isPaper wi_X5 xd_X5_isPaper wl_X5_137 win_X5_isPaper wse_X5_isPaper (by decide) (Nat.le_of_ble_eq_true rfl) dX5_set_2 ?_
  refine x_ifeq_b 34 X dX5_set_5 (by decide) (fun c_1 => ?_) (fun c_1 => ?_)
  · -- 5 t
    refine x_iconst (v := (-1)) X dX5_set_34 (by decide) ?_
    exact x_ret X dX5_set_35 ⟨ret_i (by simp [F_set, F_setOk, tn, wr_wf, c_1]), ⟨nw, (by have ho : F_setOk s i j k u = false := (by simp [F_setOk, tn, c_1]); simp only [F_setS, mN, mWb, ho, tn, wr_wf, Bool.false_eq_true, if_false, if_true, if_true] <;> rfl)⟩, by decide, by decide⟩
  · -- 5 f
    obtain ⟨iN, hiN, rfl⟩ := inR_nat c_1 (by omega)
    have qiN : (nI iN).toNatClampNeg = iN := nI_clamp (by omega)
    refine x_aloadn X dX5_set_8 0 rfl ?_
    refine x_iloadn X dX5_set_9 2 rfl ?_
    refine x_callVrv (As := [.int j]) (rest := []) X (c_X5_isPerson l G a s.1 s.2.1 na nk ns nl pa rp rq kd (en s) W Kp sg le tl rk rd nw rw j (by omega) (by omega)) xE0_ok (fun _ _ _ => trivial) [0, 1, 2, 3, 4, 5, 6, 7, 8, 9, 10, 11] rfl 0 rfl rfl rfl rfl wco_X5_isPerson wi_X5 xd_X5_isPerson wl_X5_131 win_X5_isPerson wse_X5_isPerson (by decide) (Nat.le_of_ble_eq_true rfl) dX5_set_10 ?_
    refine x_ifeq_b 34 X dX5_set_13 (by decide) (fun c_2 => ?_) (fun c_2 => ?_)
    · -- 13 t
      refine x_iconst (v := (-1)) X dX5_set_34 (by decide) ?_
      exact x_ret X dX5_set_35 ⟨ret_i (by simp [F_set, F_setOk, tn, wr_wf, c_1, qiN, c_2]), ⟨nw, (by have ho : F_setOk s (nI iN) j k u = false := (by simp [F_setOk, tn, c_1, qiN, c_2]); simp only [F_setS, mN, mWb, ho, tn, wr_wf, Bool.false_eq_true, if_false, if_true, qiN] <;> rfl)⟩, by decide, by decide⟩
    · -- 13 f
      obtain ⟨jN, hjN, rfl⟩ := inR_nat c_2 (by omega)
      have qjN : (nI jN).toNatClampNeg = jN := nI_clamp (by omega)
      refine x_iloadn X dX5_set_16 3 rfl ?_
      refine x_callSrv (As := [.int k]) (rest := []) X (c_X5_isTheme l G k) xE0_ok (fun _ _ _ => trivial) [] rfl rfl rfl wco_X5_isTheme wi_X5 xd_X5_isTheme wl_X5_134 wst_X5_isTheme (by decide) (Nat.le_of_ble_eq_true rfl) dX5_set_17 ?_
      refine x_ifeq_b 34 X dX5_set_20 (by decide) (fun c_3 => ?_) (fun c_3 => ?_)
      · -- 20 t
        refine x_iconst (v := (-1)) X dX5_set_34 (by decide) ?_
        exact x_ret X dX5_set_35 ⟨ret_i (by simp [F_set, F_setOk, tn, wr_wf, c_1, qiN, c_2, qjN, c_3]), ⟨nw, (by have ho : F_setOk s (nI iN) (nI jN) k u = false := (by simp [F_setOk, tn, c_1, qiN, c_2, qjN, c_3]); simp only [F_setS, mN, mWb, ho, tn, wr_wf, Bool.false_eq_true, if_false, if_true, qiN, qjN] <;> rfl)⟩, by decide, by decide⟩
      · -- 20 f
        obtain ⟨kN, hkN, rfl⟩ := inR_nat c_3 (by omega)
        have qkN : (nI kN).toNatClampNeg = kN := nI_clamp (by omega)
        refine x_iload X dX5_set_23 4 rfl ?_
        refine x_iconst (v := nI 0) X dX5_set_25 (by decide) ?_
        refine x_bipush (v := nI 10) X dX5_set_26 (by decide) ?_
        refine x_callSrv (As := [.int u, .int (nI 0), .int (nI 10)]) (rest := []) X (c_X5_in__R l G u 10 (by omega)) xE0_ok (fun _ _ _ => trivial) [] rfl rfl rfl wco_X5_in wi_X5 xd_X5_in wl_X5_63 wst_X5_in (by decide) (Nat.le_of_ble_eq_true rfl) dX5_set_28 ?_
        refine x_ifne_b 36 X dX5_set_31 (by decide) (fun c_4 => ?_) (fun c_4 => ?_)
        · -- 31 t
          obtain ⟨uN, huN, rfl⟩ := inR_nat c_4 (by omega)
          have quN : (nI uN).toNatClampNeg = uN := nI_clamp (by omega)
          refine x_aloadn X dX5_set_36 0 rfl ?_
          refine x_callVf0 (As := []) (rest := []) (w1 := wMo G a s.1 s.2.1 (mNa na) nk ns nl pa rp rq kd (en s) (mW W (en s) na) Kp sg le tl rk rd nw rw) (ws' := wMo G a s.1 s.2.1 (mNa na) nk ns nl pa rp rq kd (en s) (mW W (en s) na) Kp sg le tl rk rd nw rw) X (c_X5_remembers l G a s.1 s.2.1 na nk ns nl pa rp rq kd W Kp sg le tl rk rd nw rw s (by omega)) xE0_ok (fun _ _ _ => trivial) [0, 1, 2, 3, 4, 5, 6, 7, 8, 9, 10, 11] rfl 0 rfl rfl rfl rfl wco_X5_remembers wi_X5 xd_X5_remembers wl_X5_150 win_X5_remembers wse_X5_remembers (by decide) (Nat.le_of_ble_eq_true rfl) dX5_set_37 rfl (Eq.trans (b := [a 0, a 1, a 2, a 3, a 4, a 5, a 6, a 7, a 8, a 9, a 10, a 11]) rfl rfl) rfl ?_
          refine x_aloadn X dX5_set_40 0 rfl ?_
          refine x_callVf0 (As := []) (rest := []) (w1 := wMo G a s.1 s.2.1 (mNa na) nk ns nl pa rp rq kd (en s) (mW W (en s) na) Kp sg le tl rk rd (en s) rw) (ws' := wMo G a s.1 s.2.1 (mNa na) nk ns nl pa rp rq kd (en s) (mW W (en s) na) Kp sg le tl rk rd (en s) rw) X (c_X5_asItIs l G a s.1 s.2.1 (mNa na) nk ns nl pa rp rq kd (en s) (mW W (en s) na) Kp sg le tl rk rd nw rw) xE0_ok (fun _ _ _ => trivial) [0, 1, 2, 3, 4, 5, 6, 7, 8, 9, 10, 11] rfl 0 rfl rfl rfl rfl wco_X5_asItIs wi_X5 xd_X5_asItIs wl_X5_143 win_X5_asItIs wse_X5_asItIs (by decide) (Nat.le_of_ble_eq_true rfl) dX5_set_41 rfl (Eq.trans (b := [a 0, a 1, a 2, a 3, a 4, a 5, a 6, a 7, a 8, a 9, a 10, a 11]) rfl rfl) rfl ?_
          refine x_aloadn X dX5_set_44 0 rfl ?_
          refine x_iloadn X dX5_set_45 2 rfl ?_
          refine x_aloadn X dX5_set_46 0 rfl ?_
          refine x_get X wu_X5 0 rfl rfl 18 (by decide) wf_X5_37 rfl rfl dX5_set_47 ?_
          refine x_iconst (v := nI 0) X dX5_set_50 (by decide) ?_
          refine x_iloadn X dX5_set_51 2 rfl ?_
          refine x_iadd (v := nI (0 + jN)) X dX5_set_52 (nI_add _ _) ?_
          refine x_iald_n (v := s.2.2.2.1 jN) X 10 rfl (by omega) (by omega) (en_mi _ (by omega)) dX5_set_53 ?_
          obtain ⟨em, hm6⟩ := inR_eq (hmi jN (by omega)) (by decide)
          refine x_int em ?_
          refine x_iloadn X dX5_set_54 3 rfl ?_
          refine x_iload X dX5_set_55 4 rfl ?_
          refine x_callVrv (As := [.int (nI jN), .int (nI (tn (s.2.2.2.1 jN))), .int (nI kN), .int (nI uN)]) (rest := []) X (c_X5_writes l G a s.1 s.2.1 (mNa na) nk ns nl pa rp rq kd (en s) (mW W (en s) na) Kp sg le tl rk rd rw s jN (tn (s.2.2.2.1 jN)) kN (nI uN) (by omega) (by omega) (by omega) (hkd _ (by omega))) xE0_ok (fun _ _ _ => trivial) [0, 1, 2, 3, 4, 5, 6, 7, 8, 9, 10, 11] rfl 0 rfl rfl rfl rfl wco_X5_writes wi_X5 xd_X5_writes wl_X5_146 win_X5_writes wse_X5_writes (by decide) (Nat.le_of_ble_eq_true rfl) dX5_set_57 ?_
          refine x_istore (lv' := [(5, .int (F_wf s jN (tn (s.2.2.2.1 jN)) kN (nI uN))), (0, .ref (a 0)), (1, .int (nI iN)), (2, .int (nI jN)), (3, .int (nI kN)), (4, .int (nI uN))]) X dX5_set_60 (by decide) rfl ?_
          refine x_aloadn X dX5_set_62 1 rfl ?_
          refine x_get X wu_X5 0 rfl rfl 3 (by decide) wf_X5_13 rfl rfl dX5_set_63 ?_
          refine x_bipush (v := nI 36) X dX5_set_66 (by decide) ?_
          refine x_iconst (v := nI 5) X dX5_set_68 (by decide) ?_
          refine x_iloadn X dX5_set_69 2 rfl ?_
          refine x_imul (v := nI (5 * iN)) X dX5_set_70 (pk_mul _ _) ?_
          refine x_iadd (v := nI (36 + (5 * iN))) X dX5_set_71 (nI_add _ _) ?_
          refine x_iloadn X dX5_set_72 4 rfl ?_
          refine x_iadd (v := nI ((36 + (5 * iN)) + kN)) X dX5_set_73 (nI_add _ _) ?_
          refine x_iload X dX5_set_74 0 rfl ?_
          refine x_bipush (v := nI 10) X dX5_set_76 (by decide) ?_
          refine x_iadd (v := (F_wf s jN (tn (s.2.2.2.1 jN)) kN (nI uN)) + (nI 10)) X dX5_set_78 rfl ?_
          refine x_iast_n (g := en (s.1, s.2.1, s.2.2.1, s.2.2.2.1, s.2.2.2.2.1, upd s.2.2.2.2.2 (iN * 5 + kN) (F_wf s jN (tn (s.2.2.2.1 jN)) kN (nI uN)))) (ws' := wMo G a s.1 s.2.1 (mNa na) nk ns nl pa rp rq kd (en (s.1, s.2.1, s.2.2.1, s.2.2.2.1, s.2.2.2.2.1, upd s.2.2.2.2.2 (iN * 5 + kN) (F_wf s jN (tn (s.2.2.2.1 jN)) kN (nI uN)))) (mW W (en s) na) Kp sg le tl rk rd (en s) rw) X 2 rfl (by omega) (by omega) (en_upli _ _ _ _ _ (enc_add (bd_n100 (wf_bd hbv (by omega) (by omega) (by omega) (by omega))))) rfl dX5_set_79 ?_
          refine x_iload X dX5_set_80 0 rfl ?_
          refine x_bipush (v := nI 9) X dX5_set_82 (by decide) ?_
          refine x_iadd (v := (F_wf s jN (tn (s.2.2.2.1 jN)) kN (nI uN)) + (nI 9)) X dX5_set_84 rfl ?_
          exact x_ret X dX5_set_85 ⟨ret_i (by simp [F_set, F_setOk, tn, wr_wf, c_1, qiN, c_2, qjN, c_3, qkN, c_4, quN]), ⟨(en s), (by have ho : F_setOk s (nI iN) (nI jN) (nI kN) (nI uN) = true := (by simp [F_setOk, tn, c_1, qiN, c_2, qjN, c_3, qkN, c_4, quN]); simp only [F_setS, mN, mWb, ho, tn, wr_wf, Bool.false_eq_true, if_false, if_true, qiN, qjN, qkN, quN] <;> rfl)⟩, by decide, by decide⟩
        · -- 31 f
          refine x_iconst (v := (-1)) X dX5_set_34 (by decide) ?_
          exact x_ret X dX5_set_35 ⟨ret_i (by simp [F_set, F_setOk, tn, wr_wf, c_1, qiN, c_2, qjN, c_3, qkN, c_4]), ⟨nw, (by have ho : F_setOk s (nI iN) (nI jN) (nI kN) u = false := (by simp [F_setOk, tn, c_1, qiN, c_2, qjN, c_3, qkN, c_4]); simp only [F_setS, mN, mWb, ho, tn, wr_wf, Bool.false_eq_true, if_false, if_true, qiN, qjN, qkN] <;> rfl)⟩, by decide, by decide⟩
set_option maxRecDepth 100000 in
set_option maxHeartbeats 4000000 in
/-- X5_erase -/
theorem c_X5_erase (l : Launch) (G : xG) (a : Nat → Nat) (na : Nat) (nk : Nat) (ns : Nat) (nl : Nat) (pa : Nat) (rp : Nat) (rq : Nat) (kd : Nat → Int32) (W : Nat → Int32) (Kp : Nat → Int32) (sg : Nat → Int32) (le : Nat → Int32) (tl : Nat → Int32) (rk : Nat → Int32) (rd : Nat → Int32) (nw : Nat → Int32) (rw : Nat → Int32) (s : xS) (i : Int32) (j : Int32) (k : Int32) (hs6 : s.1 ≤ 6) (hs1 : 0 < s.1) (hq5 : s.2.1 ≤ 5) (hq1 : 0 < s.2.1) (hkd : ∀ p, p < s.1 → kd p = s.2.2.1 p) (hmi : ∀ j, j < 6 → inR (s.2.2.2.1 j) 6 = true) (hbv : ∀ j, j < 30 → bd (s.2.2.2.2.1 j)) (hbl : ∀ j, j < 25 → bl (s.2.2.2.2.2 j)) (hna : na ≤ 8) : xM l G xE0 yX5_erase cX5_erase 5 (some .int) 2 45 0 0 [.ref (a 0), .int i, .int j, .int k] (wMo G a s.1 s.2.1 na nk ns nl pa rp rq kd (en s) W Kp sg le tl rk rd nw rw) (some (.int (F_erase s i j k))) (fun w2 => ∃ nw' : Nat → Int32, w2 = wMo G a s.1 s.2.1 (mN (F_eraseOk s i j k) na) nk ns nl pa rp rq kd (en (F_eraseS s i j k)) (mWb (F_eraseOk s i j k) W (en s) na) Kp sg le tl rk rd nw' rw) := by
  refine x_entry (by decide +kernel) (Nat.le_of_ble_eq_true rfl) rfl ⟨_, rfl, rfl⟩ (fun K X => ?_)
  refine x_aloadn X dX5_erase_0 0 rfl ?_
  refine x_iloadn X dX5_erase_1 1 rfl ?_
  refine x_callVrv (As := [.int i]) (rest := []) X (c_X5_isPaper l G a s.1 s.2.1 na nk ns nl pa rp rq kd (en s) W Kp sg le tl rk rd nw rw i (by omega) (by omega)) xE0_ok (fun _ _ _ => trivial) [0, 1, 2, 3, 4, 5, 6, 7, 8, 9, 10, 11] rfl 0 rfl rfl rfl rfl wco_X5_isPaper wi_X5 xd_X5_isPaper wl_X5_137 win_X5_isPaper wse_X5_isPaper (by decide) (Nat.le_of_ble_eq_true rfl) dX5_erase_2 ?_
  refine x_ifeq_b 23 X dX5_erase_5 (by decide) (fun c_1 => ?_) (fun c_1 => ?_)
  · -- 5 t
    refine x_iconst (v := (-1)) X dX5_erase_23 (by decide) ?_
    exact x_ret X dX5_erase_24 ⟨ret_i (by first | (simp [F_erase, F_eraseIn, tn, c_1]; done) | (have e0 := enc_0 (hbl (iN * 5 + kN) (by omega)); have e1 := says_enc (hbl (iN * 5 + kN) (by omega)); simp [F_erase, F_eraseIn, tn, F_told, e1, ← e0, c_1])), ⟨nw, (by have ho : F_eraseOk s i j k = false := (by simp [F_eraseOk, F_eraseIn, tn, c_1]); simp only [F_eraseS, mN, mWb, ho, tn, wr_wf, Bool.false_eq_true, if_false, if_true, if_true] <;> rfl)⟩, by decide, by decide⟩
  · -- 5 f
    obtain ⟨iN, hiN, rfl⟩ := inR_nat c_1 (by omega)
    have qiN : (nI iN).toNatClampNeg = iN := nI_clamp (by omega)
    refine x_aloadn X dX5_erase_8 0 rfl ?_
    refine x_iloadn X dX5_erase_9 2 rfl ?_
    refine x_callVrv (As := [.int j]) (rest := []) X (c_X5_isPerson l G a s.1 s.2.1 na nk ns nl pa rp rq kd (en s) W Kp sg le tl rk rd nw rw j (by omega) (by omega)) xE0_ok (fun _ _ _ => trivial) [0, 1, 2, 3, 4, 5, 6, 7, 8, 9, 10, 11] rfl 0 rfl rfl rfl rfl wco_X5_isPerson wi_X5 xd_X5_isPerson wl_X5_131 win_X5_isPerson wse_X5_isPerson (by decide) (Nat.le_of_ble_eq_true rfl) dX5_erase_10 ?_
    refine x_ifeq_b 23 X dX5_erase_13 (by decide) (fun c_2 => ?_) (fun c_2 => ?_)
    · -- 13 t
      refine x_iconst (v := (-1)) X dX5_erase_23 (by decide) ?_
      exact x_ret X dX5_erase_24 ⟨ret_i (by first | (simp [F_erase, F_eraseIn, tn, c_1, qiN, c_2]; done) | (have e0 := enc_0 (hbl (iN * 5 + kN) (by omega)); have e1 := says_enc (hbl (iN * 5 + kN) (by omega)); simp [F_erase, F_eraseIn, tn, F_told, e1, ← e0, c_1, qiN, c_2])), ⟨nw, (by have ho : F_eraseOk s (nI iN) j k = false := (by simp [F_eraseOk, F_eraseIn, tn, c_1, qiN, c_2]); simp only [F_eraseS, mN, mWb, ho, tn, wr_wf, Bool.false_eq_true, if_false, if_true, qiN] <;> rfl)⟩, by decide, by decide⟩
    · -- 13 f
      obtain ⟨jN, hjN, rfl⟩ := inR_nat c_2 (by omega)
      have qjN : (nI jN).toNatClampNeg = jN := nI_clamp (by omega)
      refine x_iloadn X dX5_erase_16 3 rfl ?_
      refine x_callSrv (As := [.int k]) (rest := []) X (c_X5_isTheme l G k) xE0_ok (fun _ _ _ => trivial) [] rfl rfl rfl wco_X5_isTheme wi_X5 xd_X5_isTheme wl_X5_134 wst_X5_isTheme (by decide) (Nat.le_of_ble_eq_true rfl) dX5_erase_17 ?_
      refine x_ifne_b 25 X dX5_erase_20 (by decide) (fun c_3 => ?_) (fun c_3 => ?_)
      · -- 20 t
        obtain ⟨kN, hkN, rfl⟩ := inR_nat c_3 (by omega)
        have qkN : (nI kN).toNatClampNeg = kN := nI_clamp (by omega)
        refine x_aloadn X dX5_erase_25 0 rfl ?_
        refine x_get X wu_X5 0 rfl rfl 3 (by decide) wf_X5_13 rfl rfl dX5_erase_26 ?_
        refine x_bipush (v := nI 36) X dX5_erase_29 (by decide) ?_
        refine x_iconst (v := nI 5) X dX5_erase_31 (by decide) ?_
        refine x_iloadn X dX5_erase_32 1 rfl ?_
        refine x_imul (v := nI (5 * iN)) X dX5_erase_33 (pk_mul _ _) ?_
        refine x_iadd (v := nI (36 + (5 * iN))) X dX5_erase_34 (nI_add _ _) ?_
        refine x_iloadn X dX5_erase_35 3 rfl ?_
        refine x_iadd (v := nI ((36 + (5 * iN)) + kN)) X dX5_erase_36 (nI_add _ _) ?_
        refine x_iald_n (v := enc (s.2.2.2.2.2 (iN * 5 + kN))) X 2 rfl (by omega) (by omega) (en_li _ (by omega) (by omega)) dX5_erase_37 ?_
        refine x_istore (lv' := [(4, .int (enc (s.2.2.2.2.2 (iN * 5 + kN)))), (0, .ref (a 0)), (1, .int (nI iN)), (2, .int (nI jN)), (3, .int (nI kN))]) X dX5_erase_38 (by decide) rfl ?_
        refine x_iload X dX5_erase_40 0 rfl ?_
        refine x_if_ne 48 X dX5_erase_42 (by decide) (fun c_4 => ?_) (fun c_4 => ?_)
        · -- 42 t
          have hz : ¬ s.2.2.2.2.2 (iN * 5 + kN) = nI 100 := fun q => c_4 ((enc_0 (hbl _ (by omega))).mpr q)
          refine x_aloadn X dX5_erase_48 1 rfl ?_
          refine x_callVf0 (As := []) (rest := []) (w1 := wMo G a s.1 s.2.1 (mNa na) nk ns nl pa rp rq kd (en s) (mW W (en s) na) Kp sg le tl rk rd nw rw) (ws' := wMo G a s.1 s.2.1 (mNa na) nk ns nl pa rp rq kd (en s) (mW W (en s) na) Kp sg le tl rk rd nw rw) X (c_X5_remembers l G a s.1 s.2.1 na nk ns nl pa rp rq kd W Kp sg le tl rk rd nw rw s (by omega)) xE0_ok (fun _ _ _ => trivial) [0, 1, 2, 3, 4, 5, 6, 7, 8, 9, 10, 11] rfl 0 rfl rfl rfl rfl wco_X5_remembers wi_X5 xd_X5_remembers wl_X5_150 win_X5_remembers wse_X5_remembers (by decide) (Nat.le_of_ble_eq_true rfl) dX5_erase_49 rfl (Eq.trans (b := [a 0, a 1, a 2, a 3, a 4, a 5, a 6, a 7, a 8, a 9, a 10, a 11]) rfl rfl) rfl ?_
          refine x_aloadn X dX5_erase_52 1 rfl ?_
          refine x_get X wu_X5 0 rfl rfl 3 (by decide) wf_X5_13 rfl rfl dX5_erase_53 ?_
          refine x_bipush (v := nI 36) X dX5_erase_56 (by decide) ?_
          refine x_iconst (v := nI 5) X dX5_erase_58 (by decide) ?_
          refine x_iloadn X dX5_erase_59 2 rfl ?_
          refine x_imul (v := nI (5 * iN)) X dX5_erase_60 (pk_mul _ _) ?_
          refine x_iadd (v := nI (36 + (5 * iN))) X dX5_erase_61 (nI_add _ _) ?_
          refine x_iloadn X dX5_erase_62 4 rfl ?_
          refine x_iadd (v := nI ((36 + (5 * iN)) + kN)) X dX5_erase_63 (nI_add _ _) ?_
          refine x_aloadn X dX5_erase_64 1 rfl ?_
          refine x_get X wu_X5 0 rfl rfl 3 (by decide) wf_X5_13 rfl rfl dX5_erase_65 ?_
          refine x_bipush (v := nI 6) X dX5_erase_68 (by decide) ?_
          refine x_iconst (v := nI 5) X dX5_erase_70 (by decide) ?_
          refine x_iloadn X dX5_erase_71 3 rfl ?_
          refine x_imul (v := nI (5 * jN)) X dX5_erase_72 (pk_mul _ _) ?_
          refine x_iadd (v := nI (6 + (5 * jN))) X dX5_erase_73 (nI_add _ _) ?_
          refine x_iloadn X dX5_erase_74 4 rfl ?_
          refine x_iadd (v := nI ((6 + (5 * jN)) + kN)) X dX5_erase_75 (nI_add _ _) ?_
          refine x_iald_n (v := s.2.2.2.2.1 (jN * 5 + kN)) X 2 rfl (by omega) (by omega) (en_vi _ (by omega) (by omega)) dX5_erase_76 ?_
          refine x_bipush (v := nI 10) X dX5_erase_77 (by decide) ?_
          refine x_iadd (v := (s.2.2.2.2.1 (jN * 5 + kN)) + (nI 10)) X dX5_erase_79 rfl ?_
          refine x_iast_n (g := en (s.1, s.2.1, s.2.2.1, s.2.2.2.1, s.2.2.2.2.1, upd s.2.2.2.2.2 (iN * 5 + kN) (s.2.2.2.2.1 (jN * 5 + kN)))) (ws' := wMo G a s.1 s.2.1 (mNa na) nk ns nl pa rp rq kd (en (s.1, s.2.1, s.2.2.1, s.2.2.2.1, s.2.2.2.2.1, upd s.2.2.2.2.2 (iN * 5 + kN) (s.2.2.2.2.1 (jN * 5 + kN)))) (mW W (en s) na) Kp sg le tl rk rd nw rw) X 2 rfl (by omega) (by omega) (en_upli _ _ _ _ _ (enc_add (bd_n100 (hbv _ (by omega))))) rfl dX5_erase_80 ?_
          refine x_iload X dX5_erase_81 0 rfl ?_
          refine x_callSrv (As := [.int (enc (s.2.2.2.2.2 (iN * 5 + kN)))]) (rest := []) X (c_X5_says l G (enc (s.2.2.2.2.2 (iN * 5 + kN)))) xE0_ok (fun _ _ _ => trivial) [] rfl rfl rfl wco_X5_says wi_X5 xd_X5_says wl_X5_140 wst_X5_says (by decide) (Nat.le_of_ble_eq_true rfl) dX5_erase_83 ?_
          exact x_ret X dX5_erase_86 ⟨ret_i (by first | (simp [F_erase, F_eraseIn, tn, c_1, qiN, c_2, qjN, c_3, qkN, c_4, hz]; done) | (have e0 := enc_0 (hbl (iN * 5 + kN) (by omega)); have e1 := says_enc (hbl (iN * 5 + kN) (by omega)); simp [F_erase, F_eraseIn, tn, F_told, e1, ← e0, c_1, qiN, c_2, qjN, c_3, qkN, c_4, hz])), ⟨nw, (by have ho : F_eraseOk s (nI iN) (nI jN) (nI kN) = true := (by simp [F_eraseOk, F_eraseIn, tn, c_1, qiN, c_2, qjN, c_3, qkN, c_4, hz]); simp only [F_eraseS, mN, mWb, ho, tn, wr_wf, Bool.false_eq_true, if_false, if_true, qiN, qjN, qkN] <;> rfl)⟩, by decide, by decide⟩
        · -- 42 f
          have hz : s.2.2.2.2.2 (iN * 5 + kN) = nI 100 := (enc_0 (hbl _ (by omega))).mp c_4
          refine x_bipush (v := (-2)) X dX5_erase_45 (by decide) ?_
          exact x_ret X dX5_erase_47 ⟨ret_i (by first | (simp [F_erase, F_eraseIn, tn, c_1, qiN, c_2, qjN, c_3, qkN, c_4, hz]; done) | (have e0 := enc_0 (hbl (iN * 5 + kN) (by omega)); have e1 := says_enc (hbl (iN * 5 + kN) (by omega)); simp [F_erase, F_eraseIn, tn, F_told, e1, ← e0, c_1, qiN, c_2, qjN, c_3, qkN, c_4, hz])), ⟨nw, (by have ho : F_eraseOk s (nI iN) (nI jN) (nI kN) = false := (by simp [F_eraseOk, F_eraseIn, tn, c_1, qiN, c_2, qjN, c_3, qkN, c_4, hz]); simp only [F_eraseS, mN, mWb, ho, tn, wr_wf, Bool.false_eq_true, if_false, if_true, qiN, qjN, qkN] <;> rfl)⟩, by decide, by decide⟩
      · -- 20 f
        refine x_iconst (v := (-1)) X dX5_erase_23 (by decide) ?_
        exact x_ret X dX5_erase_24 ⟨ret_i (by first | (simp [F_erase, F_eraseIn, tn, c_1, qiN, c_2, qjN, c_3]; done) | (have e0 := enc_0 (hbl (iN * 5 + kN) (by omega)); have e1 := says_enc (hbl (iN * 5 + kN) (by omega)); simp [F_erase, F_eraseIn, tn, F_told, e1, ← e0, c_1, qiN, c_2, qjN, c_3])), ⟨nw, (by have ho : F_eraseOk s (nI iN) (nI jN) k = false := (by simp [F_eraseOk, F_eraseIn, tn, c_1, qiN, c_2, qjN, c_3]); simp only [F_eraseS, mN, mWb, ho, tn, wr_wf, Bool.false_eq_true, if_false, if_true, qiN, qjN] <;> rfl)⟩, by decide, by decide⟩
set_option maxRecDepth 100000 in
set_option maxHeartbeats 4000000 in
/-- X5_think -/
theorem c_X5_think (l : Launch) (G : xG) (a : Nat → Nat) (na : Nat) (nk : Nat) (ns : Nat) (nl : Nat) (pa : Nat) (rp : Nat) (rq : Nat) (kd : Nat → Int32) (W : Nat → Int32) (Kp : Nat → Int32) (sg : Nat → Int32) (le : Nat → Int32) (tl : Nat → Int32) (rk : Nat → Int32) (rd : Nat → Int32) (nw : Nat → Int32) (rw : Nat → Int32) (s : xS) (i : Int32) (j : Int32) (k : Int32) (hs6 : s.1 ≤ 6) (hs1 : 0 < s.1) (hq5 : s.2.1 ≤ 5) (hq1 : 0 < s.2.1) (hkd : ∀ p, p < s.1 → kd p = s.2.2.1 p) (hmi : ∀ j, j < 6 → inR (s.2.2.2.1 j) 6 = true) (hbv : ∀ j, j < 30 → bd (s.2.2.2.2.1 j)) (hbl : ∀ j, j < 25 → bl (s.2.2.2.2.2 j)) (hna : na ≤ 8) : xM l G xE0 yX5_think cX5_think 5 (some .int) 2 45 0 0 [.ref (a 0), .int i, .int j, .int k] (wMo G a s.1 s.2.1 na nk ns nl pa rp rq kd (en s) W Kp sg le tl rk rd nw rw) (some (.int (F_think s i j k))) (fun w2 => ∃ nw' : Nat → Int32, w2 = wMo G a s.1 s.2.1 (mN (F_thinkOk s i j k) na) nk ns nl pa rp rq kd (en (F_thinkS s i j k)) (mWb (F_thinkOk s i j k) W (en s) na) Kp sg le tl rk rd nw' rw) := by
  refine x_entry (by decide +kernel) (Nat.le_of_ble_eq_true rfl) rfl ⟨_, rfl, rfl⟩ (fun K X => ?_)
  refine x_aloadn X dX5_think_0 0 rfl ?_
  refine x_iloadn X dX5_think_1 1 rfl ?_
  refine x_callVrv (As := [.int i]) (rest := []) X (c_X5_isPerson l G a s.1 s.2.1 na nk ns nl pa rp rq kd (en s) W Kp sg le tl rk rd nw rw i (by omega) (by omega)) xE0_ok (fun _ _ _ => trivial) [0, 1, 2, 3, 4, 5, 6, 7, 8, 9, 10, 11] rfl 0 rfl rfl rfl rfl wco_X5_isPerson wi_X5 xd_X5_isPerson wl_X5_131 win_X5_isPerson wse_X5_isPerson (by decide) (Nat.le_of_ble_eq_true rfl) dX5_think_2 ?_
  refine x_ifeq_b 25 X dX5_think_5 (by decide) (fun c_1 => ?_) (fun c_1 => ?_)
  · -- 5 t
    refine x_iconst (v := (-1)) X dX5_think_25 (by decide) ?_
    exact x_ret X dX5_think_26 ⟨ret_i (by simp [F_think, F_thinkOk, tn, wr_wf, c_1]), ⟨nw, (by have ho : F_thinkOk s i j k = false := (by simp [F_thinkOk, tn, c_1]); simp only [F_thinkS, mN, mWb, ho, tn, wr_wf, Bool.false_eq_true, if_false, if_true, if_true] <;> rfl)⟩, by decide, by decide⟩
  · -- 5 f
    obtain ⟨iN, hiN, rfl⟩ := inR_nat c_1 (by omega)
    have qiN : (nI iN).toNatClampNeg = iN := nI_clamp (by omega)
    refine x_iloadn X dX5_think_8 2 rfl ?_
    refine x_callSrv (As := [.int j]) (rest := []) X (c_X5_isTheme l G j) xE0_ok (fun _ _ _ => trivial) [] rfl rfl rfl wco_X5_isTheme wi_X5 xd_X5_isTheme wl_X5_134 wst_X5_isTheme (by decide) (Nat.le_of_ble_eq_true rfl) dX5_think_9 ?_
    refine x_ifeq_b 25 X dX5_think_12 (by decide) (fun c_2 => ?_) (fun c_2 => ?_)
    · -- 12 t
      refine x_iconst (v := (-1)) X dX5_think_25 (by decide) ?_
      exact x_ret X dX5_think_26 ⟨ret_i (by simp [F_think, F_thinkOk, tn, wr_wf, c_1, qiN, c_2]), ⟨nw, (by have ho : F_thinkOk s (nI iN) j k = false := (by simp [F_thinkOk, tn, c_1, qiN, c_2]); simp only [F_thinkS, mN, mWb, ho, tn, wr_wf, Bool.false_eq_true, if_false, if_true, qiN] <;> rfl)⟩, by decide, by decide⟩
    · -- 12 f
      obtain ⟨jN, hjN, rfl⟩ := inR_nat c_2 (by omega)
      have qjN : (nI jN).toNatClampNeg = jN := nI_clamp (by omega)
      refine x_iloadn X dX5_think_15 3 rfl ?_
      refine x_iconst (v := nI 0) X dX5_think_16 (by decide) ?_
      refine x_bipush (v := nI 18) X dX5_think_17 (by decide) ?_
      refine x_callSrv (As := [.int k, .int (nI 0), .int (nI 18)]) (rest := []) X (c_X5_in__R l G k 18 (by omega)) xE0_ok (fun _ _ _ => trivial) [] rfl rfl rfl wco_X5_in wi_X5 xd_X5_in wl_X5_63 wst_X5_in (by decide) (Nat.le_of_ble_eq_true rfl) dX5_think_19 ?_
      refine x_ifne_b 27 X dX5_think_22 (by decide) (fun c_3 => ?_) (fun c_3 => ?_)
      · -- 22 t
        obtain ⟨kN, hkN, rfl⟩ := inR_nat c_3 (by omega)
        have qkN : (nI kN).toNatClampNeg = kN := nI_clamp (by omega)
        refine x_aloadn X dX5_think_27 0 rfl ?_
        refine x_callVf0 (As := []) (rest := []) (w1 := wMo G a s.1 s.2.1 (mNa na) nk ns nl pa rp rq kd (en s) (mW W (en s) na) Kp sg le tl rk rd nw rw) (ws' := wMo G a s.1 s.2.1 (mNa na) nk ns nl pa rp rq kd (en s) (mW W (en s) na) Kp sg le tl rk rd nw rw) X (c_X5_remembers l G a s.1 s.2.1 na nk ns nl pa rp rq kd W Kp sg le tl rk rd nw rw s (by omega)) xE0_ok (fun _ _ _ => trivial) [0, 1, 2, 3, 4, 5, 6, 7, 8, 9, 10, 11] rfl 0 rfl rfl rfl rfl wco_X5_remembers wi_X5 xd_X5_remembers wl_X5_150 win_X5_remembers wse_X5_remembers (by decide) (Nat.le_of_ble_eq_true rfl) dX5_think_28 rfl (Eq.trans (b := [a 0, a 1, a 2, a 3, a 4, a 5, a 6, a 7, a 8, a 9, a 10, a 11]) rfl rfl) rfl ?_
        refine x_aloadn X dX5_think_31 0 rfl ?_
        refine x_get X wu_X5 0 rfl rfl 3 (by decide) wf_X5_13 rfl rfl dX5_think_32 ?_
        refine x_bipush (v := nI 6) X dX5_think_35 (by decide) ?_
        refine x_iconst (v := nI 5) X dX5_think_37 (by decide) ?_
        refine x_iloadn X dX5_think_38 1 rfl ?_
        refine x_imul (v := nI (5 * iN)) X dX5_think_39 (pk_mul _ _) ?_
        refine x_iadd (v := nI (6 + (5 * iN))) X dX5_think_40 (nI_add _ _) ?_
        refine x_iloadn X dX5_think_41 2 rfl ?_
        refine x_iadd (v := nI ((6 + (5 * iN)) + jN)) X dX5_think_42 (nI_add _ _) ?_
        refine x_iald_n (v := s.2.2.2.2.1 (iN * 5 + jN)) X 2 rfl (by omega) (by omega) (en_vi _ (by omega) (by omega)) dX5_think_43 ?_
        refine x_istore (lv' := [(4, .int (s.2.2.2.2.1 (iN * 5 + jN))), (0, .ref (a 0)), (1, .int (nI iN)), (2, .int (nI jN)), (3, .int (nI kN))]) X dX5_think_44 (by decide) rfl ?_
        refine x_aloadn X dX5_think_46 1 rfl ?_
        refine x_get X wu_X5 0 rfl rfl 3 (by decide) wf_X5_13 rfl rfl dX5_think_47 ?_
        refine x_bipush (v := nI 6) X dX5_think_50 (by decide) ?_
        refine x_iconst (v := nI 5) X dX5_think_52 (by decide) ?_
        refine x_iloadn X dX5_think_53 2 rfl ?_
        refine x_imul (v := nI (5 * iN)) X dX5_think_54 (pk_mul _ _) ?_
        refine x_iadd (v := nI (6 + (5 * iN))) X dX5_think_55 (nI_add _ _) ?_
        refine x_iloadn X dX5_think_56 3 rfl ?_
        refine x_iadd (v := nI ((6 + (5 * iN)) + jN)) X dX5_think_57 (nI_add _ _) ?_
        refine x_iloadn X dX5_think_58 4 rfl ?_
        refine x_bipush (v := nI 9) X dX5_think_59 (by decide) ?_
        refine x_isub (v := (nI kN) - (nI 9)) X dX5_think_61 rfl ?_
        refine x_iast_n (g := en (s.1, s.2.1, s.2.2.1, s.2.2.2.1, upd s.2.2.2.2.1 (iN * 5 + jN) (nI kN - nI 9), s.2.2.2.2.2)) (ws' := wMo G a s.1 s.2.1 (mNa na) nk ns nl pa rp rq kd (en (s.1, s.2.1, s.2.2.1, s.2.2.2.1, upd s.2.2.2.2.1 (iN * 5 + jN) (nI kN - nI 9), s.2.2.2.2.2)) (mW W (en s) na) Kp sg le tl rk rd nw rw) X 2 rfl (by omega) (by omega) (en_upvi _ _ _ _ (by omega) (by omega)) rfl dX5_think_62 ?_
        refine x_iload X dX5_think_63 0 rfl ?_
        refine x_bipush (v := nI 9) X dX5_think_65 (by decide) ?_
        refine x_iadd (v := (s.2.2.2.2.1 (iN * 5 + jN)) + (nI 9)) X dX5_think_67 rfl ?_
        exact x_ret X dX5_think_68 ⟨ret_i (by simp [F_think, F_thinkOk, tn, wr_wf, c_1, qiN, c_2, qjN, c_3, qkN]), ⟨nw, (by have ho : F_thinkOk s (nI iN) (nI jN) (nI kN) = true := (by simp [F_thinkOk, tn, c_1, qiN, c_2, qjN, c_3, qkN]); simp only [F_thinkS, mN, mWb, ho, tn, wr_wf, Bool.false_eq_true, if_false, if_true, qiN, qjN, qkN] <;> rfl)⟩, by decide, by decide⟩
      · -- 22 f
        refine x_iconst (v := (-1)) X dX5_think_25 (by decide) ?_
        exact x_ret X dX5_think_26 ⟨ret_i (by simp [F_think, F_thinkOk, tn, wr_wf, c_1, qiN, c_2, qjN, c_3]), ⟨nw, (by have ho : F_thinkOk s (nI iN) (nI jN) k = false := (by simp [F_thinkOk, tn, c_1, qiN, c_2, qjN, c_3]); simp only [F_thinkS, mN, mWb, ho, tn, wr_wf, Bool.false_eq_true, if_false, if_true, qiN, qjN] <;> rfl)⟩, by decide, by decide⟩
set_option maxRecDepth 100000 in
set_option maxHeartbeats 4000000 in
/-- X5_mind -/
theorem c_X5_mind (l : Launch) (G : xG) (a : Nat → Nat) (na : Nat) (nk : Nat) (ns : Nat) (nl : Nat) (pa : Nat) (rp : Nat) (rq : Nat) (kd : Nat → Int32) (W : Nat → Int32) (Kp : Nat → Int32) (sg : Nat → Int32) (le : Nat → Int32) (tl : Nat → Int32) (rk : Nat → Int32) (rd : Nat → Int32) (nw : Nat → Int32) (rw : Nat → Int32) (s : xS) (i : Int32) (j : Int32) (hs6 : s.1 ≤ 6) (hs1 : 0 < s.1) (hq5 : s.2.1 ≤ 5) (hq1 : 0 < s.2.1) (hkd : ∀ p, p < s.1 → kd p = s.2.2.1 p) (hmi : ∀ j, j < 6 → inR (s.2.2.2.1 j) 6 = true) (hbv : ∀ j, j < 30 → bd (s.2.2.2.2.1 j)) (hbl : ∀ j, j < 25 → bl (s.2.2.2.2.2 j)) (hna : na ≤ 8) : xM l G xE0 yX5_mind cX5_mind 4 (some .int) 2 45 0 0 [.ref (a 0), .int i, .int j] (wMo G a s.1 s.2.1 na nk ns nl pa rp rq kd (en s) W Kp sg le tl rk rd nw rw) (some (.int (F_mind s i j))) (fun w2 => ∃ nw' : Nat → Int32, w2 = wMo G a s.1 s.2.1 (mN (F_mindOk s i j) na) nk ns nl pa rp rq kd (en (F_mindS s i j)) (mWb (F_mindOk s i j) W (en s) na) Kp sg le tl rk rd nw' rw) := by
  refine x_entry (by decide +kernel) (Nat.le_of_ble_eq_true rfl) rfl ⟨_, rfl, rfl⟩ (fun K X => ?_)
  refine x_aloadn X dX5_mind_0 0 rfl ?_
  refine x_iloadn X dX5_mind_1 1 rfl ?_
  refine x_callVrv (As := [.int i]) (rest := []) X (c_X5_isPerson l G a s.1 s.2.1 na nk ns nl pa rp rq kd (en s) W Kp sg le tl rk rd nw rw i (by omega) (by omega)) xE0_ok (fun _ _ _ => trivial) [0, 1, 2, 3, 4, 5, 6, 7, 8, 9, 10, 11] rfl 0 rfl rfl rfl rfl wco_X5_isPerson wi_X5 xd_X5_isPerson wl_X5_131 win_X5_isPerson wse_X5_isPerson (by decide) (Nat.le_of_ble_eq_true rfl) dX5_mind_2 ?_
  refine x_ifeq_b 16 X dX5_mind_5 (by decide) (fun c_1 => ?_) (fun c_1 => ?_)
  · -- 5 t
    refine x_iconst (v := (-1)) X dX5_mind_16 (by decide) ?_
    exact x_ret X dX5_mind_17 ⟨ret_i (by simp [F_mind, F_mindOk, tn, wr_wf, c_1]), ⟨nw, (by have ho : F_mindOk s i j = false := (by simp [F_mindOk, tn, c_1]); simp only [F_mindS, mN, mWb, ho, tn, wr_wf, Bool.false_eq_true, if_false, if_true, if_true] <;> rfl)⟩, by decide, by decide⟩
  · -- 5 f
    obtain ⟨iN, hiN, rfl⟩ := inR_nat c_1 (by omega)
    have qiN : (nI iN).toNatClampNeg = iN := nI_clamp (by omega)
    refine x_aloadn X dX5_mind_8 0 rfl ?_
    refine x_iloadn X dX5_mind_9 2 rfl ?_
    refine x_callVrv (As := [.int j]) (rest := []) X (c_X5_isPerson l G a s.1 s.2.1 na nk ns nl pa rp rq kd (en s) W Kp sg le tl rk rd nw rw j (by omega) (by omega)) xE0_ok (fun _ _ _ => trivial) [0, 1, 2, 3, 4, 5, 6, 7, 8, 9, 10, 11] rfl 0 rfl rfl rfl rfl wco_X5_isPerson wi_X5 xd_X5_isPerson wl_X5_131 win_X5_isPerson wse_X5_isPerson (by decide) (Nat.le_of_ble_eq_true rfl) dX5_mind_10 ?_
    refine x_ifne_b 18 X dX5_mind_13 (by decide) (fun c_2 => ?_) (fun c_2 => ?_)
    · -- 13 t
      obtain ⟨jN, hjN, rfl⟩ := inR_nat c_2 (by omega)
      have qjN : (nI jN).toNatClampNeg = jN := nI_clamp (by omega)
      refine x_aloadn X dX5_mind_18 0 rfl ?_
      refine x_callVf0 (As := []) (rest := []) (w1 := wMo G a s.1 s.2.1 (mNa na) nk ns nl pa rp rq kd (en s) (mW W (en s) na) Kp sg le tl rk rd nw rw) (ws' := wMo G a s.1 s.2.1 (mNa na) nk ns nl pa rp rq kd (en s) (mW W (en s) na) Kp sg le tl rk rd nw rw) X (c_X5_remembers l G a s.1 s.2.1 na nk ns nl pa rp rq kd W Kp sg le tl rk rd nw rw s (by omega)) xE0_ok (fun _ _ _ => trivial) [0, 1, 2, 3, 4, 5, 6, 7, 8, 9, 10, 11] rfl 0 rfl rfl rfl rfl wco_X5_remembers wi_X5 xd_X5_remembers wl_X5_150 win_X5_remembers wse_X5_remembers (by decide) (Nat.le_of_ble_eq_true rfl) dX5_mind_19 rfl (Eq.trans (b := [a 0, a 1, a 2, a 3, a 4, a 5, a 6, a 7, a 8, a 9, a 10, a 11]) rfl rfl) rfl ?_
      refine x_aloadn X dX5_mind_22 0 rfl ?_
      refine x_get X wu_X5 0 rfl rfl 3 (by decide) wf_X5_13 rfl rfl dX5_mind_23 ?_
      refine x_iconst (v := nI 0) X dX5_mind_26 (by decide) ?_
      refine x_iloadn X dX5_mind_27 1 rfl ?_
      refine x_iadd (v := nI (0 + iN)) X dX5_mind_28 (nI_add _ _) ?_
      refine x_iald_n (v := s.2.2.2.1 iN) X 2 rfl (by omega) (by omega) (en_mi _ (by omega)) dX5_mind_29 ?_
      refine x_istoren (lv' := [(3, .int (s.2.2.2.1 iN)), (0, .ref (a 0)), (1, .int (nI iN)), (2, .int (nI jN))]) X dX5_mind_30 (by decide) rfl ?_
      refine x_aloadn X dX5_mind_31 1 rfl ?_
      refine x_get X wu_X5 0 rfl rfl 3 (by decide) wf_X5_13 rfl rfl dX5_mind_32 ?_
      refine x_iconst (v := nI 0) X dX5_mind_35 (by decide) ?_
      refine x_iloadn X dX5_mind_36 2 rfl ?_
      refine x_iadd (v := nI (0 + iN)) X dX5_mind_37 (nI_add _ _) ?_
      refine x_iloadn X dX5_mind_38 3 rfl ?_
      refine x_iast_n (g := en (s.1, s.2.1, s.2.2.1, upd s.2.2.2.1 iN (nI jN), s.2.2.2.2.1, s.2.2.2.2.2)) (ws' := wMo G a s.1 s.2.1 (mNa na) nk ns nl pa rp rq kd (en (s.1, s.2.1, s.2.2.1, upd s.2.2.2.1 iN (nI jN), s.2.2.2.2.1, s.2.2.2.2.2)) (mW W (en s) na) Kp sg le tl rk rd nw rw) X 2 rfl (by omega) (by omega) (en_upmi _ _ _ (by omega)) rfl dX5_mind_39 ?_
      refine x_iloadn X dX5_mind_40 0 rfl ?_
      exact x_ret X dX5_mind_41 ⟨ret_i (by simp [F_mind, F_mindOk, tn, wr_wf, c_1, qiN, c_2, qjN]), ⟨nw, (by have ho : F_mindOk s (nI iN) (nI jN) = true := (by simp [F_mindOk, tn, c_1, qiN, c_2, qjN]); simp only [F_mindS, mN, mWb, ho, tn, wr_wf, Bool.false_eq_true, if_false, if_true, qiN, qjN] <;> rfl)⟩, by decide, by decide⟩
    · -- 13 f
      refine x_iconst (v := (-1)) X dX5_mind_16 (by decide) ?_
      exact x_ret X dX5_mind_17 ⟨ret_i (by simp [F_mind, F_mindOk, tn, wr_wf, c_1, qiN, c_2]), ⟨nw, (by have ho : F_mindOk s (nI iN) j = false := (by simp [F_mindOk, tn, c_1, qiN, c_2]); simp only [F_mindS, mN, mWb, ho, tn, wr_wf, Bool.false_eq_true, if_false, if_true, qiN] <;> rfl)⟩, by decide, by decide⟩
