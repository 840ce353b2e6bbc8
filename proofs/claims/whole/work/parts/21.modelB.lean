/-! ===== the reference: its calls ===== -/
theorem enc_own {x y : Int32} (hx : bl x) (hy : bd y) : enc x = y + nI 10 ↔ x = y := by
  rcases hx with rfl | hx
  · exact bd_all (P := fun y => enc (nI 100) = y + nI 10 ↔ nI 100 = y) (by decide +kernel) hy
  · rw [← enc_add (bd_n100 hx)]
    constructor
    · intro h
      have := congrArg (fun z => z - nI 10) h
      simpa using this
    · intro h
      rw [h]
theorem en_upli (s : xS) (b t : Nat) (x v : Int32) (hv : v = enc x) : upd (en s) (36 + 5 * b + t) v = en (s.1, s.2.1, s.2.2.1, s.2.2.2.1, s.2.2.2.2.1, upd s.2.2.2.2.2 (b * 5 + t) x) := by
  funext k
  simp only [upd, en]
  by_cases h : k = 36 + 5 * b + t
  · subst h
    rw [if_pos rfl, if_neg (by omega), if_neg (by omega), show 36 + 5 * b + t - 36 = b * 5 + t by omega, if_pos rfl, hv]
  · rw [if_neg h]
    by_cases h1 : k < 6
    · rw [if_pos h1, if_pos h1]
    · rw [if_neg h1, if_neg h1]
      by_cases h2 : k < 36
      · rw [if_pos h2, if_pos h2]
      · rw [if_neg h2, if_neg h2, if_neg (by omega)]
theorem en_upvi (s : xS) (p t : Nat) (v : Int32) (hp : p < 6) (ht : t < 5) : upd (en s) (6 + 5 * p + t) v = en (s.1, s.2.1, s.2.2.1, s.2.2.2.1, upd s.2.2.2.2.1 (p * 5 + t) v, s.2.2.2.2.2) := by
  funext k
  simp only [upd, en]
  by_cases h : k = 6 + 5 * p + t
  · subst h
    rw [if_pos rfl, if_neg (by omega), if_pos (by omega), show 6 + 5 * p + t - 6 = p * 5 + t by omega, if_pos rfl]
  · rw [if_neg h]
    by_cases h1 : k < 6
    · rw [if_pos h1, if_pos h1]
    · rw [if_neg h1, if_neg h1]
      by_cases h2 : k < 36
      · rw [if_pos h2, if_pos h2, if_neg (by omega)]
      · rw [if_neg h2, if_neg h2]
theorem en_upmi (s : xS) (p : Nat) (v : Int32) (hp : p < 6) : upd (en s) (0 + p) v = en (s.1, s.2.1, s.2.2.1, upd s.2.2.2.1 p v, s.2.2.2.2.1, s.2.2.2.2.2) := by
  funext k
  simp only [upd, en, Nat.zero_add]
  by_cases h : k = p
  · subst h
    rw [if_pos rfl, if_pos hp, if_pos rfl]
  · rw [if_neg h, if_neg h]
theorem or0 (x : Int32) : x ||| nI 0 = x := Int32.or_zero
/-- s, with PAPER b written over from PAPER a by PERSON p, behind t THEMES -/
def cpS (s : xS) (p a b t : Nat) : xS := (s.1, s.2.1, s.2.2.1, s.2.2.2.1, s.2.2.2.2.1, cpP s.2.2.1 s.2.2.2.1 s.2.2.2.2.1 s.2.2.2.2.2 p a b t)
theorem cpS_0 (s : xS) (p a b : Nat) : s = cpS s p a b 0 := by rw [cpS, ← cpP_0]
theorem cpS_s (s : xS) (p a b t : Nat) : (s.1, s.2.1, s.2.2.1, s.2.2.2.1, s.2.2.2.2.1, upd (cpS s p a b t).2.2.2.2.2 (b * 5 + t) (F_cop (s.2.2.1 p) (s.2.2.2.2.1 (tn (s.2.2.2.1 p) * 5 + t)) (s.2.2.2.2.2 (a * 5 + t)))) = cpS s p a b (t + 1) := by
  rw [cpS, cpS, cpP_s]
theorem cpS_at (s : xS) (p a b t : Nat) (ht : t < 5) : (cpS s p a b t).2.2.2.2.2 (a * 5 + t) = s.2.2.2.2.2 (a * 5 + t) := cpP_at _ _ _ _ _ _ _ _ ht
theorem cop_bl {k x y : Int32} (hx : bl x) (hy : bd y) : bl (F_cop k y x) := by
  unfold F_cop
  rcases hx with rfl | hx
  · rw [if_pos rfl]
    exact Or.inl rfl
  · rw [if_neg (bd_n100 hx)]
    exact Or.inr (car_bd hx hy)
def F_least2 (s : xS) (a p what : Int32) : Int32 := F_least s a p what
theorem own_not (s : xS) (a p : Nat) : nI 31 &&& ~~~ (F_owb s a p 5) = F_lsb s a p 5 := by
  simp only [F_owb, F_lsb]
  by_cases h0 : s.2.2.2.2.2 (a * 5 + 0) = s.2.2.2.2.1 (p * 5 + 0) <;> by_cases h1 : s.2.2.2.2.2 (a * 5 + 1) = s.2.2.2.2.1 (p * 5 + 1) <;> by_cases h2 : s.2.2.2.2.2 (a * 5 + 2) = s.2.2.2.2.1 (p * 5 + 2) <;> by_cases h3 : s.2.2.2.2.2 (a * 5 + 3) = s.2.2.2.2.1 (p * 5 + 3) <;> by_cases h4 : s.2.2.2.2.2 (a * 5 + 4) = s.2.2.2.2.1 (p * 5 + 4) <;> simp only [h0, h1, h2, h3, h4, if_true, if_false] <;> decide +kernel
/-- the set bits below t -/
def cBit (x : Int32) : Nat → Int32
  | 0 => nI 0
  | t + 1 => cBit x t + ((x >>> (nI t &&& 31)) &&& nI 1)
theorem cBit_bc (s : xS) (a p : Nat) : cBit (F_lsb s a p 5) 5 = F_bc (F_lsb s a p 5) := by
  simp only [F_lsb]
  by_cases h0 : s.2.2.2.2.2 (a * 5 + 0) = s.2.2.2.2.1 (p * 5 + 0) <;> by_cases h1 : s.2.2.2.2.2 (a * 5 + 1) = s.2.2.2.2.1 (p * 5 + 1) <;> by_cases h2 : s.2.2.2.2.2 (a * 5 + 2) = s.2.2.2.2.1 (p * 5 + 2) <;> by_cases h3 : s.2.2.2.2.2 (a * 5 + 3) = s.2.2.2.2.1 (p * 5 + 3) <;> by_cases h4 : s.2.2.2.2.2 (a * 5 + 4) = s.2.2.2.2.1 (p * 5 + 4) <;> simp only [h0, h1, h2, h3, h4, if_true, if_false] <;> decide +kernel
def shW (W : Nat → Int32) (k : Nat) : Nat → Int32 := fun j => if j < k then W (j + 61) else W j
theorem shW_0 (W : Nat → Int32) : W = shW W 0 := by funext j; simp [shW]
theorem shW_at (W : Nat → Int32) (k : Nat) : shW W k (k + 61) = W (k + 61) := by simp only [shW]; rw [if_neg (by omega)]
theorem shW_s (W : Nat → Int32) (k : Nat) : upd (shW W k) k (W (k + 61)) = shW W (k + 1) := by
  funext j
  simp only [upd, shW]
  by_cases h : j = k
  · subst h; simp
  · rw [if_neg h]
    by_cases h2 : j < k
    · rw [if_pos h2, if_pos (by omega)]
    · rw [if_neg h2, if_neg (by omega)]
def mNa (na : Nat) : Nat := if na = 8 then 8 else na + 1
def mW (W S : Nat → Int32) (na : Nat) : Nat → Int32 := if na = 8 then va_cpy S (shW W 427) 0 (61 * 7) 61 else va_cpy S W 0 (61 * na) 61
def mN (b : Bool) (na : Nat) : Nat := if b = true then mNa na else na
def mWb (b : Bool) (W S : Nat → Int32) (na : Nat) : Nat → Int32 := if b = true then mW W S na else W
theorem mN_t (na : Nat) : mN true na = mNa na := rfl
/-- what PERSON p writes with PERSON m's and n TEARS is each SIGNED -/
def mIs (s : xS) (sg : Nat → Int32) (p m : Nat) (n : Int32) : Nat → Bool
  | 0 => true
  | k + 1 => mIs s sg p m n k && decide (F_wf s p m (tn (sg (2 * k))) n = sg (2 * k + 1) - nI 9)

set_option maxRecDepth 100000 in
set_option maxHeartbeats 4000000 in
/-- X5_filled -/
theorem c_X5_filled (l : Launch) (G : xG) (a : Nat → Nat) (np : Nat) (nq : Nat) (na : Nat) (nk : Nat) (ns : Nat) (nl : Nat) (pa : Nat) (rp : Nat) (rq : Nat) (kd : Nat → Int32) (S : Nat → Int32) (W : Nat → Int32) (Kp : Nat → Int32) (sg : Nat → Int32) (le : Nat → Int32) (tl : Nat → Int32) (rk : Nat → Int32) (rd : Nat → Int32) (rw : Nat → Int32) (s : xS) (x : Nat) (hx : x < 5) (hbl : ∀ j, j < 25 → bl (s.2.2.2.2.2 j)) : xM l G xE0 yX5_filled cX5_filled 4 (some .int) 0 0 0 0 [.ref (a 0), .int (nI x)] (wMo G a np nq na nk ns nl pa rp rq kd S W Kp sg le tl rk rd (en s) rw) (some (.int (nI (F_fil s.2.2.2.2.2 x 5)))) (fun w2 => w2 = wMo G a np nq na nk ns nl pa rp rq kd S W Kp sg le tl rk rd (en s) rw) := by
  refine x_entry (by decide +kernel) (Nat.le_of_ble_eq_true rfl) rfl ⟨_, rfl, rfl⟩ (fun K X => ?_)
  refine x_iconst (v := nI 0) X dX5_filled_0 (by decide) ?_
  refine x_istoren (lv' := [(2, .int (nI 0)), (0, .ref (a 0)), (1, .int (nI x))]) X dX5_filled_1 (by decide) rfl ?_
  refine x_iconst (v := nI 0) X dX5_filled_2 (by decide) ?_
  refine x_istoren (lv' := [(3, .int (nI 0)), (2, .int (nI 0)), (0, .ref (a 0)), (1, .int (nI x))]) X dX5_filled_3 (by decide) rfl ?_
  have L4 : ∀ (fu : Nat) (t : Nat) (co : Nat), 5 - t < fu → (t ≤ 5) → (co ≤ t) → (co = F_fil s.2.2.2.2.2 x t) → K (wMo G a np nq na nk ns nl pa rp rq kd S W Kp sg le tl rk rd (en s) rw) 0 0 4 [(0, .ref (a 0)), (1, .int (nI x)), (2, .int (nI co)), (3, .int (nI t))] [] := by
    intro fu
    induction fu with
    | zero => intro t co hfu; exact absurd hfu (Nat.not_lt_zero _)
    | succ fu ih_L4 =>
      intro t co hfu_L4 ht5 hc5 hco
      refine x_iloadn X dX5_filled_4 3 rfl ?_
      refine x_iconst (v := nI 5) X dX5_filled_5 (by decide) ?_
      refine x_icmp_ge_n 39 X dX5_filled_6 (by decide) (by omega) (by omega) (fun c_1 => ?_) (fun c_1 => ?_)
      · -- 6 t
        have n_1 := Nat.not_lt.mpr c_1
        obtain rfl : t = 5 := by omega
        refine x_iloadn X dX5_filled_39 2 rfl ?_
        exact x_ret X dX5_filled_40 ⟨ret_i (by rw [hco]), rfl, by decide, by decide⟩
      · -- 6 f
        refine x_iloadn X dX5_filled_9 2 rfl ?_
        refine x_aloadn X dX5_filled_10 0 rfl ?_
        refine x_get X wu_X5 0 rfl rfl 18 (by decide) wf_X5_37 rfl rfl dX5_filled_11 ?_
        refine x_bipush (v := nI 36) X dX5_filled_14 (by decide) ?_
        refine x_iconst (v := nI 5) X dX5_filled_16 (by decide) ?_
        refine x_iloadn X dX5_filled_17 1 rfl ?_
        refine x_imul (v := nI (5 * x)) X dX5_filled_18 (pk_mul _ _) ?_
        refine x_iadd (v := nI (36 + (5 * x))) X dX5_filled_19 (nI_add _ _) ?_
        refine x_iloadn X dX5_filled_20 3 rfl ?_
        refine x_iadd (v := nI ((36 + (5 * x)) + t)) X dX5_filled_21 (nI_add _ _) ?_
        refine x_iald_n (v := enc (s.2.2.2.2.2 (x * 5 + t))) X 10 rfl (by omega) (by omega) (en_li _ (by omega) (by omega)) dX5_filled_22 ?_
        refine x_if_ne 30 X dX5_filled_23 (by decide) (fun c_2 => ?_) (fun c_2 => ?_)
        · -- 23 t
          refine x_iconst (v := nI 1) X dX5_filled_30 (by decide) ?_
          refine x_iadd (v := nI (co + 1)) X dX5_filled_31 (nI_add _ _) ?_
          refine x_istoren (lv' := [(2, .int (nI (co + 1))), (0, .ref (a 0)), (1, .int (nI x)), (3, .int (nI t))]) X dX5_filled_32 (by decide) rfl ?_
          refine x_iinc (v := nI (t + 1)) (lv' := [(3, .int (nI (t + 1))), (2, .int (nI (co + 1))), (0, .ref (a 0)), (1, .int (nI x))]) X dX5_filled_33 3 rfl (nI_1 _) (by decide) rfl ?_
          refine x_goto 4 X dX5_filled_36 (by decide) ?_
          refine x_lv (lv' := [(0, .ref (a 0)), (1, .int (nI x)), (2, .int (nI (co + 1))), (3, .int (nI (t + 1)))]) X [2, 3, 1, 0] rfl ?_
          exact ih_L4 (t + 1) (co + 1) (by omega) ((by omega)) ((by omega)) (by simp [F_fil, ← enc_0 (hbl (x * 5 + t) (by omega)), ht5, hc5, hco, c_1, c_2])
        · -- 23 f
          refine x_iconst (v := nI 0) X dX5_filled_26 (by decide) ?_
          refine x_goto 31 X dX5_filled_27 (by decide) ?_
          refine x_iadd (v := nI co) X dX5_filled_31 (nI_add _ 0) ?_
          refine x_istoren (lv' := [(2, .int (nI co)), (0, .ref (a 0)), (1, .int (nI x)), (3, .int (nI t))]) X dX5_filled_32 (by decide) rfl ?_
          refine x_iinc (v := nI (t + 1)) (lv' := [(3, .int (nI (t + 1))), (2, .int (nI co)), (0, .ref (a 0)), (1, .int (nI x))]) X dX5_filled_33 3 rfl (nI_1 _) (by decide) rfl ?_
          refine x_goto 4 X dX5_filled_36 (by decide) ?_
          refine x_lv (lv' := [(0, .ref (a 0)), (1, .int (nI x)), (2, .int (nI co)), (3, .int (nI (t + 1)))]) X [2, 3, 1, 0] rfl ?_
          exact ih_L4 (t + 1) co (by omega) ((by omega)) ((by omega)) (by simp [F_fil, ← enc_0 (hbl (x * 5 + t) (by omega)), ht5, hc5, hco, c_1, c_2])
  refine x_lv (lv' := [(0, .ref (a 0)), (1, .int (nI x)), (2, .int (nI 0)), (3, .int (nI 0))]) X [2, 3, 1, 0] rfl ?_
  exact L4 _ 0 0 (Nat.lt_succ_self _) ((by omega)) ((by omega)) (rfl)
set_option maxRecDepth 100000 in
set_option maxHeartbeats 4000000 in
/-- X5_ownOf -/
theorem c_X5_ownOf (l : Launch) (G : xG) (a : Nat → Nat) (np : Nat) (nq : Nat) (na : Nat) (nk : Nat) (ns : Nat) (nl : Nat) (pa : Nat) (rp : Nat) (rq : Nat) (kd : Nat → Int32) (W : Nat → Int32) (Kp : Nat → Int32) (sg : Nat → Int32) (le : Nat → Int32) (tl : Nat → Int32) (rk : Nat → Int32) (rd : Nat → Int32) (nw : Nat → Int32) (rw : Nat → Int32) (s : xS) (x : Nat) (p : Nat) (hx : x < 5) (hp : p < 6) (hbv : ∀ j, j < 30 → bd (s.2.2.2.2.1 j)) (hbl : ∀ j, j < 25 → bl (s.2.2.2.2.2 j)) : xM l G xE0 yX5_ownOf cX5_ownOf 5 (some .int) 0 0 0 0 [.ref (a 0), .int (nI x), .int (nI p)] (wMo G a np nq na nk ns nl pa rp rq kd (en s) W Kp sg le tl rk rd nw rw) (some (.int (F_owb s x p 5))) (fun w2 => w2 = wMo G a np nq na nk ns nl pa rp rq kd (en s) W Kp sg le tl rk rd nw rw) := by
  refine x_entry (by decide +kernel) (Nat.le_of_ble_eq_true rfl) rfl ⟨_, rfl, rfl⟩ (fun K X => ?_)
  refine x_iconst (v := nI 0) X dX5_ownOf_0 (by decide) ?_
  refine x_istoren (lv' := [(3, .int (nI 0)), (0, .ref (a 0)), (1, .int (nI x)), (2, .int (nI p))]) X dX5_ownOf_1 (by decide) rfl ?_
  refine x_iconst (v := nI 0) X dX5_ownOf_2 (by decide) ?_
  refine x_istore (lv' := [(4, .int (nI 0)), (3, .int (nI 0)), (0, .ref (a 0)), (1, .int (nI x)), (2, .int (nI p))]) X dX5_ownOf_3 (by decide) rfl ?_
  have L5 : ∀ (fu : Nat) (t : Nat) (u : Int32), 5 - t < fu → (t ≤ 5) → (u = F_owb s x p t) → K (wMo G a np nq na nk ns nl pa rp rq kd (en s) W Kp sg le tl rk rd nw rw) 0 0 5 [(0, .ref (a 0)), (1, .int (nI x)), (2, .int (nI p)), (3, .int u), (4, .int (nI t))] [] := by
    intro fu
    induction fu with
    | zero => intro t u hfu; exact absurd hfu (Nat.not_lt_zero _)
    | succ fu ih_L5 =>
      intro t u hfu_L5 ht5 hu
      refine x_iload X dX5_ownOf_5 4 rfl ?_
      refine x_iconst (v := nI 5) X dX5_ownOf_7 (by decide) ?_
      refine x_icmp_ge_n 62 X dX5_ownOf_8 (by decide) (by omega) (by omega) (fun c_1 => ?_) (fun c_1 => ?_)
      · -- 8 t
        have n_1 := Nat.not_lt.mpr c_1
        obtain rfl : t = 5 := by omega
        refine x_iloadn X dX5_ownOf_62 3 rfl ?_
        exact x_ret X dX5_ownOf_63 ⟨ret_i (by rw [hu]), rfl, by decide, by decide⟩
      · -- 8 f
        refine x_iloadn X dX5_ownOf_11 3 rfl ?_
        refine x_aloadn X dX5_ownOf_12 0 rfl ?_
        refine x_get X wu_X5 0 rfl rfl 3 (by decide) wf_X5_13 rfl rfl dX5_ownOf_13 ?_
        refine x_bipush (v := nI 36) X dX5_ownOf_16 (by decide) ?_
        refine x_iconst (v := nI 5) X dX5_ownOf_18 (by decide) ?_
        refine x_iloadn X dX5_ownOf_19 1 rfl ?_
        refine x_imul (v := nI (5 * x)) X dX5_ownOf_20 (pk_mul _ _) ?_
        refine x_iadd (v := nI (36 + (5 * x))) X dX5_ownOf_21 (nI_add _ _) ?_
        refine x_iload X dX5_ownOf_22 4 rfl ?_
        refine x_iadd (v := nI ((36 + (5 * x)) + t)) X dX5_ownOf_24 (nI_add _ _) ?_
        refine x_iald_n (v := enc (s.2.2.2.2.2 (x * 5 + t))) X 2 rfl (by omega) (by omega) (en_li _ (by omega) (by omega)) dX5_ownOf_25 ?_
        refine x_aloadn X dX5_ownOf_26 0 rfl ?_
        refine x_get X wu_X5 0 rfl rfl 3 (by decide) wf_X5_13 rfl rfl dX5_ownOf_27 ?_
        refine x_bipush (v := nI 6) X dX5_ownOf_30 (by decide) ?_
        refine x_iconst (v := nI 5) X dX5_ownOf_32 (by decide) ?_
        refine x_iloadn X dX5_ownOf_33 2 rfl ?_
        refine x_imul (v := nI (5 * p)) X dX5_ownOf_34 (pk_mul _ _) ?_
        refine x_iadd (v := nI (6 + (5 * p))) X dX5_ownOf_35 (nI_add _ _) ?_
        refine x_iload X dX5_ownOf_36 4 rfl ?_
        refine x_iadd (v := nI ((6 + (5 * p)) + t)) X dX5_ownOf_38 (nI_add _ _) ?_
        refine x_iald_n (v := s.2.2.2.2.1 (p * 5 + t)) X 2 rfl (by omega) (by omega) (en_vi _ (by omega) (by omega)) dX5_ownOf_39 ?_
        refine x_bipush (v := nI 10) X dX5_ownOf_40 (by decide) ?_
        refine x_iadd (v := (s.2.2.2.2.1 (p * 5 + t)) + (nI 10)) X dX5_ownOf_42 rfl ?_
        refine x_icmp_ne 53 X dX5_ownOf_43 (by decide) (fun c_2 => ?_) (fun c_2 => ?_)
        · -- 43 t
          refine x_iconst (v := nI 0) X dX5_ownOf_53 (by decide) ?_
          refine x_ior (v := u ||| (nI 0)) X dX5_ownOf_54 rfl ?_
          refine x_istoren (lv' := [(3, .int (u ||| (nI 0))), (0, .ref (a 0)), (1, .int (nI x)), (2, .int (nI p)), (4, .int (nI t))]) X dX5_ownOf_55 (by decide) rfl ?_
          refine x_iinc (v := nI (t + 1)) (lv' := [(4, .int (nI (t + 1))), (3, .int (u ||| (nI 0))), (0, .ref (a 0)), (1, .int (nI x)), (2, .int (nI p))]) X dX5_ownOf_56 4 rfl (nI_1 _) (by decide) rfl ?_
          refine x_goto 5 X dX5_ownOf_59 (by decide) ?_
          refine x_lv (lv' := [(0, .ref (a 0)), (1, .int (nI x)), (2, .int (nI p)), (3, .int (u ||| (nI 0))), (4, .int (nI (t + 1)))]) X [2, 3, 4, 1, 0] rfl ?_
          exact ih_L5 (t + 1) (u ||| (nI 0)) (by omega) ((by omega)) (by simp [F_owb, ← enc_own (hbl (x * 5 + t) (by omega)) (hbv (p * 5 + t) (by omega)), or0, ht5, hu, c_1, c_2])
        · -- 43 f
          refine x_iconst (v := nI 1) X dX5_ownOf_46 (by decide) ?_
          refine x_iload X dX5_ownOf_47 4 rfl ?_
          refine x_ishl (v := (nI 1) <<< ((nI t) &&& 31)) X dX5_ownOf_49 rfl ?_
          refine x_goto 54 X dX5_ownOf_50 (by decide) ?_
          refine x_ior (v := u ||| ((nI 1) <<< ((nI t) &&& 31))) X dX5_ownOf_54 rfl ?_
          refine x_istoren (lv' := [(3, .int (u ||| ((nI 1) <<< ((nI t) &&& 31)))), (0, .ref (a 0)), (1, .int (nI x)), (2, .int (nI p)), (4, .int (nI t))]) X dX5_ownOf_55 (by decide) rfl ?_
          refine x_iinc (v := nI (t + 1)) (lv' := [(4, .int (nI (t + 1))), (3, .int (u ||| ((nI 1) <<< ((nI t) &&& 31)))), (0, .ref (a 0)), (1, .int (nI x)), (2, .int (nI p))]) X dX5_ownOf_56 4 rfl (nI_1 _) (by decide) rfl ?_
          refine x_goto 5 X dX5_ownOf_59 (by decide) ?_
          refine x_lv (lv' := [(0, .ref (a 0)), (1, .int (nI x)), (2, .int (nI p)), (3, .int (u ||| ((nI 1) <<< ((nI t) &&& 31)))), (4, .int (nI (t + 1)))]) X [2, 3, 4, 1, 0] rfl ?_
          exact ih_L5 (t + 1) (u ||| ((nI 1) <<< ((nI t) &&& 31))) (by omega) ((by omega)) (by simp [F_owb, ← enc_own (hbl (x * 5 + t) (by omega)) (hbv (p * 5 + t) (by omega)), or0, ht5, hu, c_1, c_2])
  refine x_lv (lv' := [(0, .ref (a 0)), (1, .int (nI x)), (2, .int (nI p)), (3, .int (nI 0)), (4, .int (nI 0))]) X [2, 3, 4, 1, 0] rfl ?_
  exact L5 _ 0 (nI 0) (Nat.lt_succ_self _) ((by omega)) (rfl)
set_option maxRecDepth 100000 in
set_option maxHeartbeats 4000000 in
/-- X5_copying -/
theorem c_X5_copying (l : Launch) (G : xG) (a : Nat → Nat) (np : Nat) (nq : Nat) (na : Nat) (nk : Nat) (ns : Nat) (nl : Nat) (pa : Nat) (rp : Nat) (rq : Nat) (kd : Nat → Int32) (S : Nat → Int32) (W : Nat → Int32) (Kp : Nat → Int32) (sg : Nat → Int32) (le : Nat → Int32) (tl : Nat → Int32) (rk : Nat → Int32) (rd : Nat → Int32) (rw : Nat → Int32) (s : xS) (x : Nat) (y : Nat) (p : Nat) (hx : x < 5) (hy : y < 5) (hp : p < 6) (hk : kd p = s.2.2.1 p) (hmi : ∀ j, j < 6 → inR (s.2.2.2.1 j) 6 = true) (hbv : ∀ j, j < 30 → bd (s.2.2.2.2.1 j)) (hbl : ∀ j, j < 25 → bl (s.2.2.2.2.2 j)) : xM l G xE0 yX5_copying cX5_copying 6 none 2 49 0 0 [.ref (a 0), .int (nI x), .int (nI y), .int (nI p)] (wMo G a np nq na nk ns nl pa rp rq kd S W Kp sg le tl rk rd (en s) rw) none (fun w2 => w2 = wMo G a np nq na nk ns nl pa rp rq kd S W Kp sg le tl rk rd (en (cpS s p x y 5)) rw) := by
  refine x_entry (by decide +kernel) (Nat.le_of_ble_eq_true rfl) rfl rfl (fun K X => ?_)
  refine x_iconst (v := nI 0) X dX5_copying_0 (by decide) ?_
  refine x_istore (lv' := [(4, .int (nI 0)), (0, .ref (a 0)), (1, .int (nI x)), (2, .int (nI y)), (3, .int (nI p))]) X dX5_copying_1 (by decide) rfl ?_
  have L3 : ∀ (fu : Nat) (t : Nat) (g : xS), 5 - t < fu → (t ≤ 5) → (g = cpS s p x y t) → K (wMo G a np nq na nk ns nl pa rp rq kd S W Kp sg le tl rk rd (en g) rw) 0 0 3 [(0, .ref (a 0)), (1, .int (nI x)), (2, .int (nI y)), (3, .int (nI p)), (4, .int (nI t))] [] := by
    intro fu
    induction fu with
    | zero => intro t g hfu; exact absurd hfu (Nat.not_lt_zero _)
    | succ fu ih_L3 =>
      intro t g hfu_L3 ht5 hg
      refine x_iload X dX5_copying_3 4 rfl ?_
      refine x_iconst (v := nI 5) X dX5_copying_5 (by decide) ?_
      refine x_icmp_ge_n 69 X dX5_copying_6 (by decide) (by omega) (by omega) (fun c_1 => ?_) (fun c_1 => ?_)
      · -- 6 t
        have n_1 := Nat.not_lt.mpr c_1
        obtain rfl : t = 5 := by omega
        exact x_retv X dX5_copying_69 ⟨rfl, (by rw [hg]), by decide, by decide⟩
      · -- 6 f
        refine x_aloadn X dX5_copying_9 0 rfl ?_
        refine x_get X wu_X5 0 rfl rfl 18 (by decide) wf_X5_37 rfl rfl dX5_copying_10 ?_
        refine x_bipush (v := nI 36) X dX5_copying_13 (by decide) ?_
        refine x_iconst (v := nI 5) X dX5_copying_15 (by decide) ?_
        refine x_iloadn X dX5_copying_16 1 rfl ?_
        refine x_imul (v := nI (5 * x)) X dX5_copying_17 (pk_mul _ _) ?_
        refine x_iadd (v := nI (36 + (5 * x))) X dX5_copying_18 (nI_add _ _) ?_
        refine x_iload X dX5_copying_19 4 rfl ?_
        refine x_iadd (v := nI ((36 + (5 * x)) + t)) X dX5_copying_21 (nI_add _ _) ?_
        refine x_iald_n (v := enc (g.2.2.2.2.2 (x * 5 + t))) X 10 rfl (by omega) (by omega) (en_li _ (by omega) (by omega)) dX5_copying_22 ?_
        refine x_istore (lv' := [(5, .int (enc (g.2.2.2.2.2 (x * 5 + t)))), (0, .ref (a 0)), (1, .int (nI x)), (2, .int (nI y)), (3, .int (nI p)), (4, .int (nI t))]) X dX5_copying_23 (by decide) rfl ?_
        refine x_aloadn X dX5_copying_25 1 rfl ?_
        refine x_get X wu_X5 0 rfl rfl 18 (by decide) wf_X5_37 rfl rfl dX5_copying_26 ?_
        refine x_bipush (v := nI 36) X dX5_copying_29 (by decide) ?_
        refine x_iconst (v := nI 5) X dX5_copying_31 (by decide) ?_
        refine x_iloadn X dX5_copying_32 3 rfl ?_
        refine x_imul (v := nI (5 * y)) X dX5_copying_33 (pk_mul _ _) ?_
        refine x_iadd (v := nI (36 + (5 * y))) X dX5_copying_34 (nI_add _ _) ?_
        refine x_iload X dX5_copying_35 5 rfl ?_
        refine x_iadd (v := nI ((36 + (5 * y)) + t)) X dX5_copying_37 (nI_add _ _) ?_
        refine x_iload X dX5_copying_38 0 rfl ?_
        refine x_if_ne 47 X dX5_copying_40 (by decide) (fun c_2 => ?_) (fun c_2 => ?_)
        · -- 40 t
          have hgl : bl (g.2.2.2.2.2 (x * 5 + t)) := by rw [hg, cpS_at _ _ _ _ _ (by omega)]; exact hbl _ (by omega)
          have hgv : ∀ j, j < 30 → bd (g.2.2.2.2.1 j) := by rw [hg]; exact hbv
          have hgm : ∀ j, j < 6 → inR (g.2.2.2.1 j) 6 = true := by rw [hg]; exact hmi
          have hgk : kd p = g.2.2.1 p := by rw [hg]; exact hk
          have hgn : ¬ g.2.2.2.2.2 (x * 5 + t) = nI 100 := fun q => absurd ((enc_0 hgl).mpr q) (by simpa using c_2)
          have hvb : bd (enc (g.2.2.2.2.2 (x * 5 + t)) - nI 10) := by rw [enc_sub hgn]; rcases hgl with q | q; exact absurd q hgn; exact q
          refine x_aloadn X dX5_copying_47 1 rfl ?_
          refine x_iload X dX5_copying_48 0 rfl ?_
          refine x_bipush (v := nI 10) X dX5_copying_50 (by decide) ?_
          refine x_isub (v := (enc (g.2.2.2.2.2 (x * 5 + t))) - (nI 10)) X dX5_copying_52 rfl ?_
          refine x_iloadn X dX5_copying_53 4 rfl ?_
          refine x_iload X dX5_copying_54 5 rfl ?_
          refine x_callVrv (As := [.int ((enc (g.2.2.2.2.2 (x * 5 + t))) - (nI 10)), .int (nI p), .int (nI t)]) (rest := [.int (nI ((36 + (5 * y)) + t)), .ref (a 10)]) X (c_X5_copied l G a np nq na nk ns nl pa rp rq kd S W Kp sg le tl rk rd rw g ((enc (g.2.2.2.2.2 (x * 5 + t))) - (nI 10)) p t (by omega) (by omega) hgk hgm hgv hvb) xE0_ok (fun _ _ _ => trivial) [0, 1, 2, 3, 4, 5, 6, 7, 8, 9, 10, 11] rfl 0 rfl rfl rfl rfl wco_X5_copied wi_X5 xd_X5_copied wl_X5_128 win_X5_copied wse_X5_copied (by decide) (Nat.le_of_ble_eq_true rfl) dX5_copying_56 ?_
          refine x_bipush (v := nI 10) X dX5_copying_59 (by decide) ?_
          refine x_iadd (v := (F_car (kd p) ((enc (g.2.2.2.2.2 (x * 5 + t))) - (nI 10)) (g.2.2.2.2.1 (tn (g.2.2.2.1 p) * 5 + t))) + (nI 10)) X dX5_copying_61 rfl ?_
          refine x_iast_n (g := en (g.1, g.2.1, g.2.2.1, g.2.2.2.1, g.2.2.2.2.1, upd g.2.2.2.2.2 (y * 5 + t) (F_car (kd p) (enc (g.2.2.2.2.2 (x * 5 + t)) - nI 10) (g.2.2.2.2.1 (tn (g.2.2.2.1 p) * 5 + t))))) (ws' := wMo G a np nq na nk ns nl pa rp rq kd S W Kp sg le tl rk rd (en (g.1, g.2.1, g.2.2.1, g.2.2.2.1, g.2.2.2.2.1, upd g.2.2.2.2.2 (y * 5 + t) (F_car (kd p) (enc (g.2.2.2.2.2 (x * 5 + t)) - nI 10) (g.2.2.2.2.1 (tn (g.2.2.2.1 p) * 5 + t))))) rw) X 10 rfl (by omega) (by omega) (en_upli _ _ _ _ _ (enc_add (bd_n100 (car_bd hvb (hgv _ (by have := (inR_eq (hgm p (by omega)) (by decide)).2; omega)))))) rfl dX5_copying_62 ?_
          refine x_iinc (v := nI (t + 1)) (lv' := [(4, .int (nI (t + 1))), (5, .int (enc (g.2.2.2.2.2 (x * 5 + t)))), (0, .ref (a 0)), (1, .int (nI x)), (2, .int (nI y)), (3, .int (nI p))]) X dX5_copying_63 5 rfl (nI_1 _) (by decide) rfl ?_
          refine x_goto 3 X dX5_copying_66 (by decide) ?_
          refine x_lv (lv' := [(0, .ref (a 0)), (1, .int (nI x)), (2, .int (nI y)), (3, .int (nI p)), (4, .int (nI (t + 1)))]) X [2, 3, 4, 5, 0] rfl ?_
          exact ih_L3 (t + 1) (g.1, g.2.1, g.2.2.1, g.2.2.2.1, g.2.2.2.2.1, upd g.2.2.2.2.2 (y * 5 + t) (F_car (kd p) (enc (g.2.2.2.2.2 (x * 5 + t)) - nI 10) (g.2.2.2.2.1 (tn (g.2.2.2.1 p) * 5 + t)))) (by omega) ((by omega)) (by rw [enc_sub hgn, hk, hg, ← cpS_s]; rw [hg, cpS_at _ _ _ _ _ (by omega)] at hgn; rw [F_cop, if_neg hgn, cpS_at _ _ _ _ _ (by omega)]; rfl)
        · -- 40 f
          have hgl : bl (g.2.2.2.2.2 (x * 5 + t)) := by rw [hg, cpS_at _ _ _ _ _ (by omega)]; exact hbl _ (by omega)
          have hgv : ∀ j, j < 30 → bd (g.2.2.2.2.1 j) := by rw [hg]; exact hbv
          have hgm : ∀ j, j < 6 → inR (g.2.2.2.1 j) 6 = true := by rw [hg]; exact hmi
          have hgk : kd p = g.2.2.1 p := by rw [hg]; exact hk
          have hgz : g.2.2.2.2.2 (x * 5 + t) = nI 100 := (enc_0 hgl).mp (by simpa using c_2)
          refine x_iconst (v := nI 0) X dX5_copying_43 (by decide) ?_
          refine x_goto 62 X dX5_copying_44 (by decide) ?_
          refine x_iast_n (g := en (g.1, g.2.1, g.2.2.1, g.2.2.2.1, g.2.2.2.2.1, upd g.2.2.2.2.2 (y * 5 + t) (nI 100))) (ws' := wMo G a np nq na nk ns nl pa rp rq kd S W Kp sg le tl rk rd (en (g.1, g.2.1, g.2.2.1, g.2.2.2.1, g.2.2.2.2.1, upd g.2.2.2.2.2 (y * 5 + t) (nI 100))) rw) X 10 rfl (by omega) (by omega) (en_upli _ _ _ _ _ (by decide)) rfl dX5_copying_62 ?_
          refine x_iinc (v := nI (t + 1)) (lv' := [(4, .int (nI (t + 1))), (5, .int (enc (g.2.2.2.2.2 (x * 5 + t)))), (0, .ref (a 0)), (1, .int (nI x)), (2, .int (nI y)), (3, .int (nI p))]) X dX5_copying_63 5 rfl (nI_1 _) (by decide) rfl ?_
          refine x_goto 3 X dX5_copying_66 (by decide) ?_
          refine x_lv (lv' := [(0, .ref (a 0)), (1, .int (nI x)), (2, .int (nI y)), (3, .int (nI p)), (4, .int (nI (t + 1)))]) X [2, 3, 4, 5, 0] rfl ?_
          exact ih_L3 (t + 1) (g.1, g.2.1, g.2.2.1, g.2.2.2.1, g.2.2.2.2.1, upd g.2.2.2.2.2 (y * 5 + t) (nI 100)) (by omega) ((by omega)) (by rw [hg] at hgz ⊢; rw [← cpS_s, ← cpS_at s p x y t (by omega), hgz, F_cop, if_pos rfl]; rfl)
  refine x_lv (lv' := [(0, .ref (a 0)), (1, .int (nI x)), (2, .int (nI y)), (3, .int (nI p)), (4, .int (nI 0))]) X [1, 2, 3, 4, 0] rfl ?_
  exact L3 _ 0 s (Nat.lt_succ_self _) ((by omega)) (cpS_0 _ _ _ _)
