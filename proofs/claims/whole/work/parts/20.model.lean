/-! ===== the reference: its object, its rows; small methods ===== -/
abbrev wMo (G : xG) (a : Nat → Nat) (np nq na nk ns nl pa rp rq : Nat) (kd S W Kp sg le tl rk rd nw rw : Nat → Int32) : va_W := [(a 0, .inr (5, [.int (nI np), .ref (a 1), .int (nI nq), .ref (a 2), .int (nI na), .ref (a 3), .int (nI nk), .ref (a 4), .int (nI ns), .ref (a 5), .ref (a 6), .int (nI nl), .int (nI pa), .ref (a 7), .int (nI rp), .ref (a 8), .int (nI rq), .ref (a 9), .ref (a 10), .ref (a 11)])),
  (a 1, .inl (G.2.1, 6, .inl kd)), (a 2, .inl (G.2.1, 61, .inl S)), (a 3, .inl (G.2.1, 488, .inl W)), (a 4, .inl (G.2.1, 122, .inl Kp)), (a 5, .inl (G.2.1, 12, .inl sg)), (a 6, .inl (G.2.1, 200, .inl le)), (a 7, .inl (G.2.1, 3, .inl tl)), (a 8, .inl (G.2.1, 6, .inl rk)), (a 9, .inl (G.2.1, 61, .inl rd)), (a 10, .inl (G.2.1, 61, .inl nw)), (a 11, .inl (G.2.1, 205, .inl rw))]
/-- a LINE as the reference holds it -/
def enc (x : Int32) : Int32 := if x = nI 100 then nI 0 else x + nI 10
/-- the reference's row of a state -/
def en (s : xS) : Nat → Int32 := fun k => if k < 6 then s.2.2.2.1 k else if k < 36 then s.2.2.2.2.1 (k - 6) else enc (s.2.2.2.2.2 (k - 36))
theorem en_mi (s : xS) {p : Nat} (hp : p < 6) : en s (0 + p) = s.2.2.2.1 p := by rw [Nat.zero_add, en, if_pos hp]
theorem en_vi (s : xS) {p t : Nat} (hp : p < 6) (ht : t < 5) : en s (6 + 5 * p + t) = s.2.2.2.2.1 (p * 5 + t) := by
  rw [en, if_neg (by omega), if_pos (by omega), show 6 + 5 * p + t - 6 = p * 5 + t by omega]
theorem en_li (s : xS) {p t : Nat} (hp : p < 5) (ht : t < 5) : en s (36 + 5 * p + t) = enc (s.2.2.2.2.2 (p * 5 + t)) := by
  rw [en, if_neg (by omega), if_neg (by omega), show 36 + 5 * p + t - 36 = p * 5 + t by omega]
/-- a VIEW's range; a LINE's -/
def bd (x : Int32) : Prop := ∃ k : Nat, k < 19 ∧ x = nI k - nI 9
def bl (x : Int32) : Prop := x = nI 100 ∨ bd x
theorem bd_all {P : Int32 → Prop} (h : ∀ k, k < 19 → P (nI k - nI 9)) {x : Int32} (hx : bd x) : P x := by
  obtain ⟨k, hk, rfl⟩ := hx
  exact h k hk
theorem bd_n100 {x : Int32} (hx : bd x) : ¬ x = nI 100 := bd_all (P := fun x => ¬ x = nI 100) (by decide +kernel) hx
theorem enc_0 {x : Int32} (hx : bl x) : enc x = 0 ↔ x = nI 100 := by
  rcases hx with rfl | hx
  · decide
  · exact bd_all (P := fun x => enc x = 0 ↔ x = nI 100) (by decide +kernel) hx
theorem enc_sub {x : Int32} (h : ¬ x = nI 100) : enc x - nI 10 = x := by
  rw [enc, if_neg h]
  apply Int32.toBitVec_inj.mp
  simp
theorem enc_add {x : Int32} (h : ¬ x = nI 100) : x + nI 10 = enc x := by rw [enc, if_neg h]
def F_says (x : Int32) : Int32 := if x = 0 then (-4) else x - nI 1
theorem says_enc {x : Int32} (hx : bl x) : F_says (enc x) = F_told x := by
  rcases hx with rfl | hx
  · decide
  · exact bd_all (P := fun x => F_says (enc x) = F_told x) (by decide +kernel) hx
def mTow (x y m : Int32) : Int32 := if x < y then x + (if y - x < m then y - x else m) else x - (if x - y < m then x - y else m)
theorem mTow_eq {x y m : Int32} (hx : bd x) (hy : bd y) (hm : m = nI 1 ∨ m = nI 2) : mTow x y m = F_tow x y m := by
  have h : ∀ i, i < 19 → ∀ j, j < 19 → mTow (nI i - nI 9) (nI j - nI 9) (nI 1) = F_tow (nI i - nI 9) (nI j - nI 9) (nI 1) ∧ mTow (nI i - nI 9) (nI j - nI 9) (nI 2) = F_tow (nI i - nI 9) (nI j - nI 9) (nI 2) := by decide +kernel
  obtain ⟨i, hi, rfl⟩ := hx
  obtain ⟨j, hj, rfl⟩ := hy
  rcases hm with rfl | rfl
  · exact (h i hi j hj).1
  · exact (h i hi j hj).2
theorem girl_eq {x : Int32} (hx : bd x) : (if x < nI 9 then x + nI 1 else nI 9) = F_tow x (nI 9) (nI 1) := bd_all (P := fun x => (if x < nI 9 then x + nI 1 else nI 9) = F_tow x (nI 9) (nI 1)) (by decide +kernel) hx
theorem bd_0 : bd (nI 0) := ⟨9, by decide, by decide⟩
theorem bd_9 : bd (nI 9) := ⟨18, by decide, by decide⟩
theorem tow_bd {x y m : Int32} (hx : bd x) (hy : bd y) (hm : m = nI 1 ∨ m = nI 2) : bd (F_tow x y m) := by
  have h : ∀ i, i < 19 → ∀ j, j < 19 → (∃ k, k < 19 ∧ F_tow (nI i - nI 9) (nI j - nI 9) (nI 1) = nI k - nI 9) ∧ (∃ k, k < 19 ∧ F_tow (nI i - nI 9) (nI j - nI 9) (nI 2) = nI k - nI 9) := by decide +kernel
  obtain ⟨i, hi, rfl⟩ := hx
  obtain ⟨j, hj, rfl⟩ := hy
  rcases hm with rfl | rfl
  · exact (h i hi j hj).1
  · exact (h i hi j hj).2
theorem car_bd {k x y : Int32} (hx : bd x) (hy : bd y) : bd (F_car k x y) := by
  unfold F_car
  split
  · exact tow_bd hx hy (Or.inr rfl)
  · split
    · exact tow_bd hx bd_0 (Or.inl rfl)
    · split
      · exact tow_bd hx bd_9 (Or.inl rfl)
      · exact tow_bd hx hy (Or.inl rfl)
def inB (v lo hi : Int32) : Bool := !decide (v < lo) && !decide (hi < v)
theorem inB_R {v : Int32} {m : Nat} (hm : m + 1 < 2 ^ 31) : inB v (nI 0) (nI m) = inR v (m + 1) := by
  unfold inB
  by_cases h1 : v < nI 0
  · rw [inR_neg h1]; simp [h1]
  · by_cases h2 : nI m < v
    · rw [inR_gt hm h2]; simp [h2]
    · rw [inR_le hm h1 (Int32.not_lt.mp h2)]; simp [h1, h2]
/-- a letter as the reference reads it -/
def ltM (le : Nat → Int32) (nl j : Nat) : Int32 := if j < nl then le j else (-1)
theorem isFg_M (le : Nat → Int32) (nl j : Nat) : isFg (ltM le nl j) = isFg (ltA le nl j) := by
  unfold ltM ltA
  split
  · rfl
  · decide
theorem ltM_fg {le : Nat → Int32} {nl j : Nat} (h : isFg (ltA le nl j) = true) : ltM le nl j = ltA le nl j := by
  unfold ltM ltA at *
  split
  · rfl
  · rename_i h2
    rw [if_neg h2] at h
    exact absurd h (by decide)
theorem cpy_0 (f g : Nat → Int32) (j i : Nat) : g = va_cpy f g j i 0 := by
  funext k
  simp only [va_cpy]
  rw [if_neg (by omega)]
theorem cpy_s (f g : Nat → Int32) (j i k : Nat) : upd (va_cpy f g j i k) (i + k) (f (j + k)) = va_cpy f g j i (k + 1) := by
  funext q
  simp only [upd, va_cpy]
  by_cases h : q = i + k
  · subst h
    rw [if_pos rfl, if_pos (by omega), show i + k - i = k by omega]
  · rw [if_neg h]
    by_cases h2 : i ≤ q ∧ q < i + k
    · rw [if_pos h2, if_pos (by omega)]
    · rw [if_neg h2, if_neg (by omega)]

set_option maxRecDepth 100000 in
set_option maxHeartbeats 4000000 in
/-- X5_in__R -/
theorem c_X5_in__R (l : Launch) (G : xG) (x : Int32) (m : Nat) (hm : m + 1 < 2 ^ 31) : xM l G xE0 yX5_in cX5_in 3 (some .boolean) 0 0 0 0 [.int x, .int (nI 0), .int (nI m)] ([]) (some (.int (bI (inR x (m + 1))))) (fun w2 => w2 = []) := by
  refine x_entry (by decide +kernel) (Nat.le_of_ble_eq_true rfl) rfl ⟨_, rfl, bI_narrow _⟩ (fun K X => ?_)
  refine x_iloadn X dX5_in_0 0 rfl ?_
  refine x_iloadn X dX5_in_1 1 rfl ?_
  refine x_icmp_lt 14 X dX5_in_2 (by decide) (fun c_1 => ?_) (fun c_1 => ?_)
  · -- 2 t
    refine x_iconst (v := nI 0) X dX5_in_14 (by decide) ?_
    exact x_ret X dX5_in_15 ⟨ret_i (by rw [← inB_R hm, show inB x (nI 0) (nI m) = false from by simp [inB, c_1]]; rfl), rfl, by decide, by decide⟩
  · -- 2 f
    refine x_iloadn X dX5_in_5 0 rfl ?_
    refine x_iloadn X dX5_in_6 2 rfl ?_
    refine x_icmp_gt 14 X dX5_in_7 (by decide) (fun c_2 => ?_) (fun c_2 => ?_)
    · -- 7 t
      refine x_iconst (v := nI 0) X dX5_in_14 (by decide) ?_
      exact x_ret X dX5_in_15 ⟨ret_i (by rw [← inB_R hm, show inB x (nI 0) (nI m) = false from by simp [inB, c_1, c_2]]; rfl), rfl, by decide, by decide⟩
    · -- 7 f
      refine x_iconst (v := nI 1) X dX5_in_10 (by decide) ?_
      refine x_goto 15 X dX5_in_11 (by decide) ?_
      exact x_ret X dX5_in_15 ⟨ret_i (by rw [← inB_R hm, show inB x (nI 0) (nI m) = true from by simp [inB, c_1, c_2]]; rfl), rfl, by decide, by decide⟩
set_option maxRecDepth 100000 in
set_option maxHeartbeats 4000000 in
/-- X5_in__B -/
theorem c_X5_in__B (l : Launch) (G : xG) (x : Int32) (y : Int32) (z : Int32)  : xM l G xE0 yX5_in cX5_in 3 (some .boolean) 0 0 0 0 [.int x, .int y, .int z] ([]) (some (.int (bI (inB x y z)))) (fun w2 => w2 = []) := by
  refine x_entry (by decide +kernel) (Nat.le_of_ble_eq_true rfl) rfl ⟨_, rfl, bI_narrow _⟩ (fun K X => ?_)
  refine x_iloadn X dX5_in_0 0 rfl ?_
  refine x_iloadn X dX5_in_1 1 rfl ?_
  refine x_icmp_lt 14 X dX5_in_2 (by decide) (fun c_1 => ?_) (fun c_1 => ?_)
  · -- 2 t
    refine x_iconst (v := nI 0) X dX5_in_14 (by decide) ?_
    exact x_ret X dX5_in_15 ⟨ret_i (by rw [show inB x y z = false from by simp [inB, c_1]]; rfl), rfl, by decide, by decide⟩
  · -- 2 f
    refine x_iloadn X dX5_in_5 0 rfl ?_
    refine x_iloadn X dX5_in_6 2 rfl ?_
    refine x_icmp_gt 14 X dX5_in_7 (by decide) (fun c_2 => ?_) (fun c_2 => ?_)
    · -- 7 t
      refine x_iconst (v := nI 0) X dX5_in_14 (by decide) ?_
      exact x_ret X dX5_in_15 ⟨ret_i (by rw [show inB x y z = false from by simp [inB, c_1, c_2]]; rfl), rfl, by decide, by decide⟩
    · -- 7 f
      refine x_iconst (v := nI 1) X dX5_in_10 (by decide) ?_
      refine x_goto 15 X dX5_in_11 (by decide) ?_
      exact x_ret X dX5_in_15 ⟨ret_i (by rw [show inB x y z = true from by simp [inB, c_1, c_2]]; rfl), rfl, by decide, by decide⟩
set_option maxRecDepth 100000 in
set_option maxHeartbeats 4000000 in
/-- X5_isPerson -/
theorem c_X5_isPerson (l : Launch) (G : xG) (a : Nat → Nat) (np : Nat) (nq : Nat) (na : Nat) (nk : Nat) (ns : Nat) (nl : Nat) (pa : Nat) (rp : Nat) (rq : Nat) (kd : Nat → Int32) (S : Nat → Int32) (W : Nat → Int32) (Kp : Nat → Int32) (sg : Nat → Int32) (le : Nat → Int32) (tl : Nat → Int32) (rk : Nat → Int32) (rd : Nat → Int32) (nw : Nat → Int32) (rw : Nat → Int32) (x : Int32) (h1 : 0 < np) (h6 : np ≤ 6) : xM l G xE0 yX5_isPerson cX5_isPerson 2 (some .boolean) 1 22 0 0 [.ref (a 0), .int x] (wMo G a np nq na nk ns nl pa rp rq kd S W Kp sg le tl rk rd nw rw) (some (.int (bI (inR x np)))) (fun w2 => w2 = wMo G a np nq na nk ns nl pa rp rq kd S W Kp sg le tl rk rd nw rw) := by
  refine x_entry (by decide +kernel) (Nat.le_of_ble_eq_true rfl) rfl ⟨_, rfl, bI_narrow _⟩ (fun K X => ?_)
  refine x_iloadn X dX5_isPerson_0 1 rfl ?_
  refine x_iconst (v := nI 0) X dX5_isPerson_1 (by decide) ?_
  refine x_aloadn X dX5_isPerson_2 0 rfl ?_
  refine x_get X wu_X5 0 rfl rfl 0 (by decide) wf_X5_60 rfl rfl dX5_isPerson_3 ?_
  refine x_iconst (v := nI 1) X dX5_isPerson_6 (by decide) ?_
  refine x_isub (v := nI (np - 1)) X dX5_isPerson_7 (pk_sub (by omega)) ?_
  refine x_callSrv (As := [.int x, .int (nI 0), .int (nI (np - 1))]) (rest := []) X (c_X5_in__R l G x (np - 1) (by omega)) xE0_ok (fun _ _ _ => trivial) [] rfl rfl rfl wco_X5_in wi_X5 xd_X5_in wl_X5_63 wst_X5_in (by decide) (Nat.le_of_ble_eq_true rfl) dX5_isPerson_8 ?_
  exact x_ret X dX5_isPerson_11 ⟨ret_i (by rw [Nat.sub_add_cancel h1]), rfl, by decide, by decide⟩
set_option maxRecDepth 100000 in
set_option maxHeartbeats 4000000 in
/-- X5_isPaper -/
theorem c_X5_isPaper (l : Launch) (G : xG) (a : Nat → Nat) (np : Nat) (nq : Nat) (na : Nat) (nk : Nat) (ns : Nat) (nl : Nat) (pa : Nat) (rp : Nat) (rq : Nat) (kd : Nat → Int32) (S : Nat → Int32) (W : Nat → Int32) (Kp : Nat → Int32) (sg : Nat → Int32) (le : Nat → Int32) (tl : Nat → Int32) (rk : Nat → Int32) (rd : Nat → Int32) (nw : Nat → Int32) (rw : Nat → Int32) (x : Int32) (h1 : 0 < nq) (h6 : nq ≤ 5) : xM l G xE0 yX5_isPaper cX5_isPaper 2 (some .boolean) 1 22 0 0 [.ref (a 0), .int x] (wMo G a np nq na nk ns nl pa rp rq kd S W Kp sg le tl rk rd nw rw) (some (.int (bI (inR x nq)))) (fun w2 => w2 = wMo G a np nq na nk ns nl pa rp rq kd S W Kp sg le tl rk rd nw rw) := by
  refine x_entry (by decide +kernel) (Nat.le_of_ble_eq_true rfl) rfl ⟨_, rfl, bI_narrow _⟩ (fun K X => ?_)
  refine x_iloadn X dX5_isPaper_0 1 rfl ?_
  refine x_iconst (v := nI 0) X dX5_isPaper_1 (by decide) ?_
  refine x_aloadn X dX5_isPaper_2 0 rfl ?_
  refine x_get X wu_X5 0 rfl rfl 2 (by decide) wf_X5_67 rfl rfl dX5_isPaper_3 ?_
  refine x_iconst (v := nI 1) X dX5_isPaper_6 (by decide) ?_
  refine x_isub (v := nI (nq - 1)) X dX5_isPaper_7 (pk_sub (by omega)) ?_
  refine x_callSrv (As := [.int x, .int (nI 0), .int (nI (nq - 1))]) (rest := []) X (c_X5_in__R l G x (nq - 1) (by omega)) xE0_ok (fun _ _ _ => trivial) [] rfl rfl rfl wco_X5_in wi_X5 xd_X5_in wl_X5_63 wst_X5_in (by decide) (Nat.le_of_ble_eq_true rfl) dX5_isPaper_8 ?_
  exact x_ret X dX5_isPaper_11 ⟨ret_i (by rw [Nat.sub_add_cancel h1]), rfl, by decide, by decide⟩
set_option maxRecDepth 100000 in
set_option maxHeartbeats 4000000 in
/-- X5_isTheme -/
theorem c_X5_isTheme (l : Launch) (G : xG) (x : Int32)  : xM l G xE0 yX5_isTheme cX5_isTheme 1 (some .boolean) 1 22 0 0 [.int x] ([]) (some (.int (bI (inR x 5)))) (fun w2 => w2 = []) := by
  refine x_entry (by decide +kernel) (Nat.le_of_ble_eq_true rfl) rfl ⟨_, rfl, bI_narrow _⟩ (fun K X => ?_)
  refine x_iloadn X dX5_isTheme_0 0 rfl ?_
  refine x_iconst (v := nI 0) X dX5_isTheme_1 (by decide) ?_
  refine x_iconst (v := nI 4) X dX5_isTheme_2 (by decide) ?_
  refine x_callSrv (As := [.int x, .int (nI 0), .int (nI 4)]) (rest := []) X (c_X5_in__R l G x 4 (by omega)) xE0_ok (fun _ _ _ => trivial) [] rfl rfl rfl wco_X5_in wi_X5 xd_X5_in wl_X5_63 wst_X5_in (by decide) (Nat.le_of_ble_eq_true rfl) dX5_isTheme_3 ?_
  exact x_ret X dX5_isTheme_6 ⟨rfl, rfl, by decide, by decide⟩
set_option maxRecDepth 100000 in
set_option maxHeartbeats 4000000 in
/-- X5_isFigure -/
theorem c_X5_isFigure (l : Launch) (G : xG) (x : Int32)  : xM l G xE0 yX5_isFigure cX5_isFigure 1 (some .boolean) 1 22 0 0 [.int x] ([]) (some (.int (bI (isFg x)))) (fun w2 => w2 = []) := by
  refine x_entry (by decide +kernel) (Nat.le_of_ble_eq_true rfl) rfl ⟨_, rfl, bI_narrow _⟩ (fun K X => ?_)
  refine x_iloadn X dX5_isFigure_0 0 rfl ?_
  refine x_bipush (v := nI 48) X dX5_isFigure_1 (by decide) ?_
  refine x_bipush (v := nI 57) X dX5_isFigure_3 (by decide) ?_
  refine x_callSrv (As := [.int x, .int (nI 48), .int (nI 57)]) (rest := []) X (c_X5_in__B l G x (nI 48) (nI 57)) xE0_ok (fun _ _ _ => trivial) [] rfl rfl rfl wco_X5_in wi_X5 xd_X5_in wl_X5_63 wst_X5_in (by decide) (Nat.le_of_ble_eq_true rfl) dX5_isFigure_5 ?_
  exact x_ret X dX5_isFigure_8 ⟨ret_i (by rfl), rfl, by decide, by decide⟩
set_option maxRecDepth 100000 in
set_option maxHeartbeats 4000000 in
/-- X5_letterAt -/
theorem c_X5_letterAt (l : Launch) (G : xG) (a : Nat → Nat) (np : Nat) (nq : Nat) (na : Nat) (nk : Nat) (ns : Nat) (nl : Nat) (pa : Nat) (rp : Nat) (rq : Nat) (kd : Nat → Int32) (S : Nat → Int32) (W : Nat → Int32) (Kp : Nat → Int32) (sg : Nat → Int32) (le : Nat → Int32) (tl : Nat → Int32) (rk : Nat → Int32) (rd : Nat → Int32) (nw : Nat → Int32) (rw : Nat → Int32) (j : Nat) (hj : j < 2 ^ 31) (hl : nl ≤ 200) : xM l G xE0 yX5_letterAt cX5_letterAt 2 (some .int) 0 0 0 0 [.ref (a 0), .int (nI j)] (wMo G a np nq na nk ns nl pa rp rq kd S W Kp sg le tl rk rd nw rw) (some (.int (ltM le nl j))) (fun w2 => w2 = wMo G a np nq na nk ns nl pa rp rq kd S W Kp sg le tl rk rd nw rw) := by
  refine x_entry (by decide +kernel) (Nat.le_of_ble_eq_true rfl) rfl ⟨_, rfl, rfl⟩ (fun K X => ?_)
  refine x_iloadn X dX5_letterAt_0 1 rfl ?_
  refine x_aloadn X dX5_letterAt_1 0 rfl ?_
  refine x_get X wu_X5 0 rfl rfl 11 (by decide) wf_X5_70 rfl rfl dX5_letterAt_2 ?_
  refine x_icmp_ge_n 17 X dX5_letterAt_5 (by decide) (by omega) (by omega) (fun c_1 => ?_) (fun c_1 => ?_)
  · -- 5 t
    have n_1 := Nat.not_lt.mpr c_1
    refine x_iconst (v := (-1)) X dX5_letterAt_17 (by decide) ?_
    exact x_ret X dX5_letterAt_18 ⟨ret_i (by first | rw [ltM, if_pos (by omega)] | rw [ltM, if_neg (by omega)]), rfl, by decide, by decide⟩
  · -- 5 f
    refine x_aloadn X dX5_letterAt_8 0 rfl ?_
    refine x_get X wu_X5 0 rfl rfl 10 (by decide) wf_X5_25 rfl rfl dX5_letterAt_9 ?_
    refine x_iloadn X dX5_letterAt_12 1 rfl ?_
    refine x_iald_n (v := le j) X 6 rfl (by omega) (by omega) rfl dX5_letterAt_13 ?_
    refine x_goto 18 X dX5_letterAt_14 (by decide) ?_
    exact x_ret X dX5_letterAt_18 ⟨ret_i (by first | rw [ltM, if_pos (by omega)] | rw [ltM, if_neg (by omega)]), rfl, by decide, by decide⟩
set_option maxRecDepth 100000 in
set_option maxHeartbeats 4000000 in
/-- X5_wipe -/
theorem c_X5_wipe (l : Launch) (G : xG) (a : Nat → Nat) (np : Nat) (nq : Nat) (na : Nat) (nk : Nat) (ns : Nat) (nl : Nat) (pa : Nat) (rp : Nat) (rq : Nat) (kd : Nat → Int32) (S : Nat → Int32) (W : Nat → Int32) (Kp : Nat → Int32) (sg : Nat → Int32) (le : Nat → Int32) (tl : Nat → Int32) (rk : Nat → Int32) (rd : Nat → Int32) (nw : Nat → Int32) (rw : Nat → Int32)  : xM l G xE0 yX5_wipe cX5_wipe 2 (some .int) 0 0 0 0 [.ref (a 0)] (wMo G a np nq na nk ns nl pa rp rq kd S W Kp sg le tl rk rd nw rw) (some (.int (nI nl))) (fun w2 => w2 = wMo G a np nq na nk ns 0 pa rp rq kd S W Kp sg le tl rk rd nw rw) := by
  refine x_entry (by decide +kernel) (Nat.le_of_ble_eq_true rfl) rfl ⟨_, rfl, rfl⟩ (fun K X => ?_)
  refine x_aloadn X dX5_wipe_0 0 rfl ?_
  refine x_get X wu_X5 0 rfl rfl 11 (by decide) wf_X5_70 rfl rfl dX5_wipe_1 ?_
  refine x_istoren (lv' := [(1, .int (nI nl)), (0, .ref (a 0))]) X dX5_wipe_4 (by decide) rfl ?_
  refine x_aloadn X dX5_wipe_5 1 rfl ?_
  refine x_iconst (v := nI 0) X dX5_wipe_6 (by decide) ?_
  refine x_put (ws' := wMo G a np nq na nk ns 0 pa rp rq kd S W Kp sg le tl rk rd nw rw) (ty := tyX5 11) X wu_X5 tyX5_ok nmX5 0 rfl rfl 11 (by decide) wf_X5_70 rfl rfl (by decide +kernel) rfl rfl (Nat.le_of_ble_eq_true rfl) rfl dX5_wipe_7 ?_
  refine x_iloadn X dX5_wipe_10 0 rfl ?_
  exact x_ret X dX5_wipe_11 ⟨rfl, rfl, by decide, by decide⟩
set_option maxRecDepth 100000 in
set_option maxHeartbeats 4000000 in
/-- X5_forget -/
theorem c_X5_forget (l : Launch) (G : xG) (a : Nat → Nat) (np : Nat) (nq : Nat) (na : Nat) (nk : Nat) (ns : Nat) (nl : Nat) (pa : Nat) (rp : Nat) (rq : Nat) (kd : Nat → Int32) (S : Nat → Int32) (W : Nat → Int32) (Kp : Nat → Int32) (sg : Nat → Int32) (le : Nat → Int32) (tl : Nat → Int32) (rk : Nat → Int32) (rd : Nat → Int32) (nw : Nat → Int32) (rw : Nat → Int32)  : xM l G xE0 yX5_forget cX5_forget 2 (some .int) 0 0 0 0 [.ref (a 0)] (wMo G a np nq na nk ns nl pa rp rq kd S W Kp sg le tl rk rd nw rw) (some (.int (nI ns))) (fun w2 => w2 = wMo G a np nq na nk 0 nl pa rp rq kd S W Kp sg le tl rk rd nw rw) := by
  refine x_entry (by decide +kernel) (Nat.le_of_ble_eq_true rfl) rfl ⟨_, rfl, rfl⟩ (fun K X => ?_)
  refine x_aloadn X dX5_forget_0 0 rfl ?_
  refine x_get X wu_X5 0 rfl rfl 8 (by decide) wf_X5_117 rfl rfl dX5_forget_1 ?_
  refine x_istoren (lv' := [(1, .int (nI ns)), (0, .ref (a 0))]) X dX5_forget_4 (by decide) rfl ?_
  refine x_aloadn X dX5_forget_5 1 rfl ?_
  refine x_iconst (v := nI 0) X dX5_forget_6 (by decide) ?_
  refine x_put (ws' := wMo G a np nq na nk 0 nl pa rp rq kd S W Kp sg le tl rk rd nw rw) (ty := tyX5 8) X wu_X5 tyX5_ok nmX5 0 rfl rfl 8 (by decide) wf_X5_117 rfl rfl (by decide +kernel) rfl rfl (Nat.le_of_ble_eq_true rfl) rfl dX5_forget_7 ?_
  refine x_iloadn X dX5_forget_10 0 rfl ?_
  exact x_ret X dX5_forget_11 ⟨rfl, rfl, by decide, by decide⟩
set_option maxRecDepth 100000 in
set_option maxHeartbeats 4000000 in
/-- X5_says -/
theorem c_X5_says (l : Launch) (G : xG) (x : Int32)  : xM l G xE0 yX5_says cX5_says 1 (some .int) 0 0 0 0 [.int x] ([]) (some (.int (F_says x))) (fun w2 => w2 = []) := by
  refine x_entry (by decide +kernel) (Nat.le_of_ble_eq_true rfl) rfl ⟨_, rfl, rfl⟩ (fun K X => ?_)
  refine x_iloadn X dX5_says_0 0 rfl ?_
  refine x_if_ne 9 X dX5_says_1 (by decide) (fun c_1 => ?_) (fun c_1 => ?_)
  · -- 1 t
    refine x_iloadn X dX5_says_9 0 rfl ?_
    refine x_iconst (v := nI 1) X dX5_says_10 (by decide) ?_
    refine x_isub (v := x - (nI 1)) X dX5_says_11 rfl ?_
    exact x_ret X dX5_says_12 ⟨ret_i (by simp [F_says, c_1]), rfl, by decide, by decide⟩
  · -- 1 f
    refine x_bipush (v := (-4)) X dX5_says_4 (by decide) ?_
    refine x_goto 12 X dX5_says_6 (by decide) ?_
    exact x_ret X dX5_says_12 ⟨ret_i (by simp [F_says, c_1]), rfl, by decide, by decide⟩
set_option maxRecDepth 100000 in
set_option maxHeartbeats 4000000 in
/-- X5_toward -/
theorem c_X5_toward (l : Launch) (G : xG) (a : Nat → Nat) (np : Nat) (nq : Nat) (na : Nat) (nk : Nat) (ns : Nat) (nl : Nat) (pa : Nat) (rp : Nat) (rq : Nat) (kd : Nat → Int32) (S : Nat → Int32) (W : Nat → Int32) (Kp : Nat → Int32) (sg : Nat → Int32) (le : Nat → Int32) (tl : Nat → Int32) (rk : Nat → Int32) (rd : Nat → Int32) (nw : Nat → Int32) (rw : Nat → Int32) (x : Int32) (y : Int32) (m : Int32) (hx : bd x) (hy : bd y) (hm : m = nI 1 ∨ m = nI 2) : xM l G xE0 yX5_toward cX5_toward 6 (some .int) 0 0 0 0 [.ref (a 0), .int x, .int y, .int m] (wMo G a np nq na nk ns nl pa rp rq kd S W Kp sg le tl rk rd nw rw) (some (.int (F_tow x y m))) (fun w2 => w2 = wMo G a np nq na nk ns nl pa rp rq kd S W Kp sg le tl rk rd nw rw) := by
  refine x_entry (by decide +kernel) (Nat.le_of_ble_eq_true rfl) rfl ⟨_, rfl, rfl⟩ (fun K X => ?_)
  refine x_iloadn X dX5_toward_0 2 rfl ?_
  refine x_iloadn X dX5_toward_1 1 rfl ?_
  refine x_icmp_le 11 X dX5_toward_2 (by decide) (fun c_1 => ?_) (fun c_1 => ?_)
  · -- 2 t
    replace c_1 := Int32.not_lt.mpr c_1
    refine x_iloadn X dX5_toward_11 1 rfl ?_
    refine x_iloadn X dX5_toward_12 2 rfl ?_
    refine x_isub (v := x - y) X dX5_toward_13 rfl ?_
    refine x_istore (lv' := [(4, .int (x - y)), (0, .ref (a 0)), (1, .int x), (2, .int y), (3, .int m)]) X dX5_toward_14 (by decide) rfl ?_
    refine x_iload X dX5_toward_16 0 rfl ?_
    refine x_iloadn X dX5_toward_18 4 rfl ?_
    refine x_icmp_ge 27 X dX5_toward_19 (by decide) (fun c_2 => ?_) (fun c_2 => ?_)
    · -- 19 t
      replace c_2 := Int32.not_lt.mpr c_2
      refine x_iloadn X dX5_toward_27 4 rfl ?_
      refine x_istore (lv' := [(5, .int m), (4, .int (x - y)), (0, .ref (a 0)), (1, .int x), (2, .int y), (3, .int m)]) X dX5_toward_28 (by decide) rfl ?_
      refine x_iloadn X dX5_toward_30 4 rfl ?_
      refine x_iloadn X dX5_toward_31 3 rfl ?_
      refine x_icmp_le 42 X dX5_toward_32 (by decide) (fun c_3 => ?_) (fun c_3 => ?_)
      · -- 32 t
        replace c_3 := Int32.not_lt.mpr c_3
        refine x_iloadn X dX5_toward_42 3 rfl ?_
        refine x_iload X dX5_toward_43 0 rfl ?_
        refine x_isub (v := x - m) X dX5_toward_45 rfl ?_
        exact x_ret X dX5_toward_46 ⟨ret_i (by first | contradiction | (rw [← mTow_eq hx hy hm]; simp [mTow, c_1, c_2, c_3])), rfl, by decide, by decide⟩
      · -- 32 f
        replace c_3 := Int32.not_le.mp c_3
        refine x_iloadn X dX5_toward_35 3 rfl ?_
        refine x_iload X dX5_toward_36 0 rfl ?_
        refine x_iadd (v := x + m) X dX5_toward_38 rfl ?_
        refine x_goto 46 X dX5_toward_39 (by decide) ?_
        exact x_ret X dX5_toward_46 ⟨ret_i (by first | contradiction | (rw [← mTow_eq hx hy hm]; simp [mTow, c_1, c_2, c_3])), rfl, by decide, by decide⟩
    · -- 19 f
      replace c_2 := Int32.not_le.mp c_2
      refine x_iload X dX5_toward_22 0 rfl ?_
      refine x_goto 28 X dX5_toward_24 (by decide) ?_
      refine x_istore (lv' := [(5, .int (x - y)), (4, .int (x - y)), (0, .ref (a 0)), (1, .int x), (2, .int y), (3, .int m)]) X dX5_toward_28 (by decide) rfl ?_
      refine x_iloadn X dX5_toward_30 4 rfl ?_
      refine x_iloadn X dX5_toward_31 3 rfl ?_
      refine x_icmp_le 42 X dX5_toward_32 (by decide) (fun c_4 => ?_) (fun c_4 => ?_)
      · -- 32 t
        replace c_4 := Int32.not_lt.mpr c_4
        refine x_iloadn X dX5_toward_42 3 rfl ?_
        refine x_iload X dX5_toward_43 0 rfl ?_
        refine x_isub (v := x - (x - y)) X dX5_toward_45 rfl ?_
        exact x_ret X dX5_toward_46 ⟨ret_i (by first | contradiction | (rw [← mTow_eq hx hy hm]; simp [mTow, c_1, c_2, c_4])), rfl, by decide, by decide⟩
      · -- 32 f
        replace c_4 := Int32.not_le.mp c_4
        refine x_iloadn X dX5_toward_35 3 rfl ?_
        refine x_iload X dX5_toward_36 0 rfl ?_
        refine x_iadd (v := x + (x - y)) X dX5_toward_38 rfl ?_
        refine x_goto 46 X dX5_toward_39 (by decide) ?_
        exact x_ret X dX5_toward_46 ⟨ret_i (by first | contradiction | (rw [← mTow_eq hx hy hm]; simp [mTow, c_1, c_2, c_4])), rfl, by decide, by decide⟩
  · -- 2 f
    replace c_1 := Int32.not_le.mp c_1
    refine x_iloadn X dX5_toward_5 2 rfl ?_
    refine x_iloadn X dX5_toward_6 1 rfl ?_
    refine x_isub (v := y - x) X dX5_toward_7 rfl ?_
    refine x_goto 14 X dX5_toward_8 (by decide) ?_
    refine x_istore (lv' := [(4, .int (y - x)), (0, .ref (a 0)), (1, .int x), (2, .int y), (3, .int m)]) X dX5_toward_14 (by decide) rfl ?_
    refine x_iload X dX5_toward_16 0 rfl ?_
    refine x_iloadn X dX5_toward_18 4 rfl ?_
    refine x_icmp_ge 27 X dX5_toward_19 (by decide) (fun c_5 => ?_) (fun c_5 => ?_)
    · -- 19 t
      replace c_5 := Int32.not_lt.mpr c_5
      refine x_iloadn X dX5_toward_27 4 rfl ?_
      refine x_istore (lv' := [(5, .int m), (4, .int (y - x)), (0, .ref (a 0)), (1, .int x), (2, .int y), (3, .int m)]) X dX5_toward_28 (by decide) rfl ?_
      refine x_iloadn X dX5_toward_30 4 rfl ?_
      refine x_iloadn X dX5_toward_31 3 rfl ?_
      refine x_icmp_le 42 X dX5_toward_32 (by decide) (fun c_6 => ?_) (fun c_6 => ?_)
      · -- 32 t
        replace c_6 := Int32.not_lt.mpr c_6
        refine x_iloadn X dX5_toward_42 3 rfl ?_
        refine x_iload X dX5_toward_43 0 rfl ?_
        refine x_isub (v := x - m) X dX5_toward_45 rfl ?_
        exact x_ret X dX5_toward_46 ⟨ret_i (by first | contradiction | (rw [← mTow_eq hx hy hm]; simp [mTow, c_1, c_5, c_6])), rfl, by decide, by decide⟩
      · -- 32 f
        replace c_6 := Int32.not_le.mp c_6
        refine x_iloadn X dX5_toward_35 3 rfl ?_
        refine x_iload X dX5_toward_36 0 rfl ?_
        refine x_iadd (v := x + m) X dX5_toward_38 rfl ?_
        refine x_goto 46 X dX5_toward_39 (by decide) ?_
        exact x_ret X dX5_toward_46 ⟨ret_i (by first | contradiction | (rw [← mTow_eq hx hy hm]; simp [mTow, c_1, c_5, c_6])), rfl, by decide, by decide⟩
    · -- 19 f
      replace c_5 := Int32.not_le.mp c_5
      refine x_iload X dX5_toward_22 0 rfl ?_
      refine x_goto 28 X dX5_toward_24 (by decide) ?_
      refine x_istore (lv' := [(5, .int (y - x)), (4, .int (y - x)), (0, .ref (a 0)), (1, .int x), (2, .int y), (3, .int m)]) X dX5_toward_28 (by decide) rfl ?_
      refine x_iloadn X dX5_toward_30 4 rfl ?_
      refine x_iloadn X dX5_toward_31 3 rfl ?_
      refine x_icmp_le 42 X dX5_toward_32 (by decide) (fun c_7 => ?_) (fun c_7 => ?_)
      · -- 32 t
        replace c_7 := Int32.not_lt.mpr c_7
        refine x_iloadn X dX5_toward_42 3 rfl ?_
        refine x_iload X dX5_toward_43 0 rfl ?_
        refine x_isub (v := x - (y - x)) X dX5_toward_45 rfl ?_
        exact x_ret X dX5_toward_46 ⟨ret_i (by first | contradiction | (rw [← mTow_eq hx hy hm]; simp [mTow, c_1, c_5, c_7])), rfl, by decide, by decide⟩
      · -- 32 f
        replace c_7 := Int32.not_le.mp c_7
        refine x_iloadn X dX5_toward_35 3 rfl ?_
        refine x_iload X dX5_toward_36 0 rfl ?_
        refine x_iadd (v := x + (y - x)) X dX5_toward_38 rfl ?_
        refine x_goto 46 X dX5_toward_39 (by decide) ?_
        exact x_ret X dX5_toward_46 ⟨ret_i (by first | contradiction | (rw [← mTow_eq hx hy hm]; simp [mTow, c_1, c_5, c_7])), rfl, by decide, by decide⟩
set_option maxRecDepth 100000 in
set_option maxHeartbeats 4000000 in
/-- X5_copies -/
theorem c_X5_copies (l : Launch) (G : xG) (d : Nat) (m : Nat) (g : Nat → Int32) (p : Nat) (n : Nat) (f : Nat → Int32) (i : Nat) (j : Nat) (hn : j + 61 ≤ n) (hm : i + 61 ≤ m) (hn2 : n ≤ 1000) (hm2 : m ≤ 1000) : xM l G xE0 yX5_copies cX5_copies 5 none 0 0 0 0 [.ref d, .int (nI i), .ref p, .int (nI j)] (xJ [wIA G d m g, wIA G p n f]) none (fun w2 => w2 = xJ [wIA G d m (va_cpy f g j i 61), wIA G p n f]) := by
  refine x_entry (by decide +kernel) (Nat.le_of_ble_eq_true rfl) rfl rfl (fun K X => ?_)
  refine x_iconst (v := nI 0) X dX5_copies_0 (by decide) ?_
  refine x_istore (lv' := [(4, .int (nI 0)), (0, .ref d), (1, .int (nI i)), (2, .ref p), (3, .int (nI j))]) X dX5_copies_1 (by decide) rfl ?_
  have L3 : ∀ (fu : Nat) (k : Nat) (y : Nat → Int32), 61 - k < fu → (k ≤ 61) → (y = va_cpy f g j i k) → K (xJ [wIA G d m y, wIA G p n f]) 0 0 3 [(0, .ref d), (1, .int (nI i)), (2, .ref p), (3, .int (nI j)), (4, .int (nI k))] [] := by
    intro fu
    induction fu with
    | zero => intro k y hfu; exact absurd hfu (Nat.not_lt_zero _)
    | succ fu ih_L3 =>
      intro k y hfu_L3 hk hy
      refine x_iload X dX5_copies_3 4 rfl ?_
      refine x_bipush (v := nI 61) X dX5_copies_5 (by decide) ?_
      refine x_icmp_ge_n 28 X dX5_copies_7 (by decide) (by omega) (by omega) (fun c_1 => ?_) (fun c_1 => ?_)
      · -- 7 t
        have n_1 := Nat.not_lt.mpr c_1
        have e : k = 61 := by omega
        rw [e] at hy
        exact x_retv X dX5_copies_28 ⟨rfl, (by rw [hy]), by decide, by decide⟩
      · -- 7 f
        refine x_aloadn X dX5_copies_10 0 rfl ?_
        refine x_iloadn X dX5_copies_11 1 rfl ?_
        refine x_iload X dX5_copies_12 4 rfl ?_
        refine x_iadd (v := nI (i + k)) X dX5_copies_14 (nI_add _ _) ?_
        refine x_aloadn X dX5_copies_15 2 rfl ?_
        refine x_iloadn X dX5_copies_16 3 rfl ?_
        refine x_iload X dX5_copies_17 4 rfl ?_
        refine x_iadd (v := nI (j + k)) X dX5_copies_19 (nI_add _ _) ?_
        refine x_iald_n (v := f (j + k)) X 1 rfl (by omega) (by omega) rfl dX5_copies_20 ?_
        refine x_iast_n (g := upd y (i + k) (f (j + k))) (ws' := xJ [wIA G d m (upd y (i + k) (f (j + k))), wIA G p n f]) X 0 rfl (by omega) (by omega) rfl rfl dX5_copies_21 ?_
        refine x_iinc (v := nI (k + 1)) (lv' := [(4, .int (nI (k + 1))), (0, .ref d), (1, .int (nI i)), (2, .ref p), (3, .int (nI j))]) X dX5_copies_22 4 rfl (nI_1 _) (by decide) rfl ?_
        refine x_goto 3 X dX5_copies_25 (by decide) ?_
        refine x_lv (lv' := [(0, .ref d), (1, .int (nI i)), (2, .ref p), (3, .int (nI j)), (4, .int (nI (k + 1)))]) X [1, 2, 3, 4, 0] rfl ?_
        exact ih_L3 (k + 1) (upd y (i + k) (f (j + k))) (by omega) (by omega) (by rw [hy]; exact cpy_s _ _ _ _ _)
  refine x_lv (lv' := [(0, .ref d), (1, .int (nI i)), (2, .ref p), (3, .int (nI j)), (4, .int (nI 0))]) X [1, 2, 3, 4, 0] rfl ?_
  exact L3 _ 0 g (Nat.lt_succ_self _) (by omega) (cpy_0 _ _ _ _)
set_option maxRecDepth 100000 in
set_option maxHeartbeats 4000000 in
/-- X5_asItIs -/
theorem c_X5_asItIs (l : Launch) (G : xG) (a : Nat → Nat) (np : Nat) (nq : Nat) (na : Nat) (nk : Nat) (ns : Nat) (nl : Nat) (pa : Nat) (rp : Nat) (rq : Nat) (kd : Nat → Int32) (S : Nat → Int32) (W : Nat → Int32) (Kp : Nat → Int32) (sg : Nat → Int32) (le : Nat → Int32) (tl : Nat → Int32) (rk : Nat → Int32) (rd : Nat → Int32) (nw : Nat → Int32) (rw : Nat → Int32)  : xM l G xE0 yX5_asItIs cX5_asItIs 1 none 1 24 0 0 [.ref (a 0)] (wMo G a np nq na nk ns nl pa rp rq kd S W Kp sg le tl rk rd nw rw) none (fun w2 => w2 = wMo G a np nq na nk ns nl pa rp rq kd S W Kp sg le tl rk rd S rw) := by
  refine x_entry (by decide +kernel) (Nat.le_of_ble_eq_true rfl) rfl rfl (fun K X => ?_)
  refine x_aloadn X dX5_asItIs_0 0 rfl ?_
  refine x_get X wu_X5 0 rfl rfl 18 (by decide) wf_X5_37 rfl rfl dX5_asItIs_1 ?_
  refine x_iconst (v := nI 0) X dX5_asItIs_4 (by decide) ?_
  refine x_aloadn X dX5_asItIs_5 0 rfl ?_
  refine x_get X wu_X5 0 rfl rfl 3 (by decide) wf_X5_13 rfl rfl dX5_asItIs_6 ?_
  refine x_iconst (v := nI 0) X dX5_asItIs_9 (by decide) ?_
  refine x_callSf0 (As := [.ref (a 10), .int (nI 0), .ref (a 2), .int (nI 0)]) (rest := []) (w1 := xJ [wIA G (a 10) 61 (va_cpy S nw 0 0 61), wIA G (a 2) 61 S]) (ws' := wMo G a np nq na nk ns nl pa rp rq kd S W Kp sg le tl rk rd (va_cpy S nw 0 0 61) rw) X (c_X5_copies l G (a 10) 61 nw (a 2) 61 S 0 0 (by omega) (by omega) (by omega) (by omega)) xE0_ok (fun _ _ _ => trivial) [10, 2] rfl rfl rfl wco_X5_copies wi_X5 xd_X5_copies wl_X5_107 wst_X5_copies (by decide) (Nat.le_of_ble_eq_true rfl) dX5_asItIs_10 rfl (Eq.trans (b := [a 10, a 2]) rfl rfl) rfl ?_
  refine x_rowc (ws' := wMo G a np nq na nk ns nl pa rp rq kd S W Kp sg le tl rk rd S rw) S X 10 rfl (fun k hk => by simp [va_cpy]; omega) rfl ?_
  exact x_retv X dX5_asItIs_13 ⟨rfl, rfl, by decide, by decide⟩
set_option maxRecDepth 100000 in
set_option maxHeartbeats 4000000 in
/-- X5_viewOf -/
theorem c_X5_viewOf (l : Launch) (G : xG) (a : Nat → Nat) (np : Nat) (nq : Nat) (na : Nat) (nk : Nat) (ns : Nat) (nl : Nat) (pa : Nat) (rp : Nat) (rq : Nat) (kd : Nat → Int32) (S : Nat → Int32) (W : Nat → Int32) (Kp : Nat → Int32) (sg : Nat → Int32) (le : Nat → Int32) (tl : Nat → Int32) (rk : Nat → Int32) (rd : Nat → Int32) (rw : Nat → Int32) (s : xS) (p : Nat) (t : Nat) (hp : p < 6) (ht : t < 5) : xM l G xE0 yX5_viewOf cX5_viewOf 3 (some .int) 0 0 0 0 [.ref (a 0), .int (nI p), .int (nI t)] (wMo G a np nq na nk ns nl pa rp rq kd S W Kp sg le tl rk rd (en s) rw) (some (.int (s.2.2.2.2.1 (p * 5 + t)))) (fun w2 => w2 = wMo G a np nq na nk ns nl pa rp rq kd S W Kp sg le tl rk rd (en s) rw) := by
  refine x_entry (by decide +kernel) (Nat.le_of_ble_eq_true rfl) rfl ⟨_, rfl, rfl⟩ (fun K X => ?_)
  refine x_aloadn X dX5_viewOf_0 0 rfl ?_
  refine x_get X wu_X5 0 rfl rfl 18 (by decide) wf_X5_37 rfl rfl dX5_viewOf_1 ?_
  refine x_bipush (v := nI 6) X dX5_viewOf_4 (by decide) ?_
  refine x_iconst (v := nI 5) X dX5_viewOf_6 (by decide) ?_
  refine x_iloadn X dX5_viewOf_7 1 rfl ?_
  refine x_imul (v := nI (5 * p)) X dX5_viewOf_8 (pk_mul _ _) ?_
  refine x_iadd (v := nI (6 + (5 * p))) X dX5_viewOf_9 (nI_add _ _) ?_
  refine x_iloadn X dX5_viewOf_10 2 rfl ?_
  refine x_iadd (v := nI ((6 + (5 * p)) + t)) X dX5_viewOf_11 (nI_add _ _) ?_
  refine x_iald_n (v := s.2.2.2.2.1 (p * 5 + t)) X 10 rfl (by omega) (by omega) (en_vi _ (by omega) (by omega)) dX5_viewOf_12 ?_
  exact x_ret X dX5_viewOf_13 ⟨rfl, rfl, by decide, by decide⟩
set_option maxRecDepth 100000 in
set_option maxHeartbeats 4000000 in
/-- X5_writes -/
theorem c_X5_writes (l : Launch) (G : xG) (a : Nat → Nat) (np : Nat) (nq : Nat) (na : Nat) (nk : Nat) (ns : Nat) (nl : Nat) (pa : Nat) (rp : Nat) (rq : Nat) (kd : Nat → Int32) (S : Nat → Int32) (W : Nat → Int32) (Kp : Nat → Int32) (sg : Nat → Int32) (le : Nat → Int32) (tl : Nat → Int32) (rk : Nat → Int32) (rd : Nat → Int32) (rw : Nat → Int32) (s : xS) (p : Nat) (m : Nat) (t : Nat) (n : Int32) (hp : p < 6) (hm : m < 6) (ht : t < 5) (hk : kd p = s.2.2.1 p) : xM l G xE0 yX5_writes cX5_writes 7 (some .int) 1 22 0 0 [.ref (a 0), .int (nI p), .int (nI m), .int (nI t), .int n] (wMo G a np nq na nk ns nl pa rp rq kd S W Kp sg le tl rk rd (en s) rw) (some (.int (F_wf s p m t n))) (fun w2 => w2 = wMo G a np nq na nk ns nl pa rp rq kd S W Kp sg le tl rk rd (en s) rw) := by
  refine x_entry (by decide +kernel) (Nat.le_of_ble_eq_true rfl) rfl ⟨_, rfl, rfl⟩ (fun K X => ?_)
  refine x_aloadn X dX5_writes_0 0 rfl ?_
  refine x_iloadn X dX5_writes_1 2 rfl ?_
  refine x_iloadn X dX5_writes_2 3 rfl ?_
  refine x_callVrv (As := [.int (nI m), .int (nI t)]) (rest := []) X (c_X5_viewOf l G a np nq na nk ns nl pa rp rq kd S W Kp sg le tl rk rd rw s m t (by omega) (by omega)) xE0_ok (fun _ _ _ => trivial) [0, 1, 2, 3, 4, 5, 6, 7, 8, 9, 10, 11] rfl 0 rfl rfl rfl rfl wco_X5_viewOf wi_X5 xd_X5_viewOf wl_X5_120 win_X5_viewOf wse_X5_viewOf (by decide) (Nat.le_of_ble_eq_true rfl) dX5_writes_3 ?_
  refine x_istore (lv' := [(5, .int (s.2.2.2.2.1 (m * 5 + t))), (0, .ref (a 0)), (1, .int (nI p)), (2, .int (nI m)), (3, .int (nI t)), (4, .int n)]) X dX5_writes_6 (by decide) rfl ?_
  refine x_aloadn X dX5_writes_8 1 rfl ?_
  refine x_iloadn X dX5_writes_9 2 rfl ?_
  refine x_iloadn X dX5_writes_10 4 rfl ?_
  refine x_callVrv (As := [.int (nI p), .int (nI t)]) (rest := []) X (c_X5_viewOf l G a np nq na nk ns nl pa rp rq kd S W Kp sg le tl rk rd rw s p t (by omega) (by omega)) xE0_ok (fun _ _ _ => trivial) [0, 1, 2, 3, 4, 5, 6, 7, 8, 9, 10, 11] rfl 0 rfl rfl rfl rfl wco_X5_viewOf wi_X5 xd_X5_viewOf wl_X5_120 win_X5_viewOf wse_X5_viewOf (by decide) (Nat.le_of_ble_eq_true rfl) dX5_writes_11 ?_
  refine x_istore (lv' := [(6, .int (s.2.2.2.2.1 (p * 5 + t))), (5, .int (s.2.2.2.2.1 (m * 5 + t))), (0, .ref (a 0)), (1, .int (nI p)), (2, .int (nI m)), (3, .int (nI t)), (4, .int n)]) X dX5_writes_14 (by decide) rfl ?_
  refine x_aloadn X dX5_writes_16 2 rfl ?_
  refine x_get X wu_X5 0 rfl rfl 1 (by decide) wf_X5_7 rfl rfl dX5_writes_17 ?_
  refine x_iloadn X dX5_writes_20 3 rfl ?_
  refine x_iald_n (v := kd p) X 1 rfl (by omega) (by omega) rfl dX5_writes_21 ?_
  by_cases c_1 : kd p = 1
  · -- case 1
    refine x_int c_1 ?_
    refine x_tableIn 52 X dX5_writes_22 (by decide) (by decide) rfl (by decide) ?_
    refine x_iload X dX5_writes_52 1 rfl ?_
    exact x_ret X dX5_writes_54 ⟨ret_i (by rw [F_wf, F_ink, ← hk]; simp [F_mix, c_1]), rfl, by decide, by decide⟩
  by_cases c_2 : kd p = 2
  · -- case 2
    refine x_int c_2 ?_
    refine x_tableIn 55 X dX5_writes_22 (by decide) (by decide) rfl (by decide) ?_
    refine x_bipush (v := nI 10) X dX5_writes_55 (by decide) ?_
    refine x_iload X dX5_writes_57 6 rfl ?_
    refine x_isub (v := (nI 10) - n) X dX5_writes_59 rfl ?_
    refine x_iload X dX5_writes_60 1 rfl ?_
    refine x_ineg (v := -(s.2.2.2.2.1 (m * 5 + t))) X dX5_writes_62 rfl ?_
    refine x_imul (v := ((nI 10) - n) * (-(s.2.2.2.2.1 (m * 5 + t)))) X dX5_writes_63 rfl ?_
    refine x_iload X dX5_writes_64 6 rfl ?_
    refine x_iload X dX5_writes_66 0 rfl ?_
    refine x_imul (v := n * (s.2.2.2.2.1 (p * 5 + t))) X dX5_writes_68 rfl ?_
    refine x_iadd (v := (((nI 10) - n) * (-(s.2.2.2.2.1 (m * 5 + t)))) + (n * (s.2.2.2.2.1 (p * 5 + t)))) X dX5_writes_69 rfl ?_
    refine x_bipush (v := nI 10) X dX5_writes_70 (by decide) ?_
    refine x_idiv (v := ((((nI 10) - n) * (-(s.2.2.2.2.1 (m * 5 + t)))) + (n * (s.2.2.2.2.1 (p * 5 + t)))) / (nI 10)) X dX5_writes_72 (by decide) rfl ?_
    exact x_ret X dX5_writes_73 ⟨ret_i (by rw [F_wf, F_ink, ← hk]; simp [F_mix, c_1, c_2]), rfl, by decide, by decide⟩
  by_cases c_3 : kd p = 3
  · -- case 3
    refine x_int c_3 ?_
    refine x_tableIn 74 X dX5_writes_22 (by decide) (by decide) rfl (by decide) ?_
    refine x_iconst (v := nI 0) X dX5_writes_74 (by decide) ?_
    exact x_ret X dX5_writes_75 ⟨ret_i (by rw [F_wf, F_ink, ← hk]; simp [F_mix, c_1, c_2, c_3]), rfl, by decide, by decide⟩
  by_cases c_4 : kd p = 4
  · -- case 4
    refine x_int c_4 ?_
    refine x_tableIn 76 X dX5_writes_22 (by decide) (by decide) rfl (by decide) ?_
    refine x_bipush (v := nI 9) X dX5_writes_76 (by decide) ?_
    exact x_ret X dX5_writes_78 ⟨ret_i (by rw [F_wf, F_ink, ← hk]; simp [F_mix, c_1, c_2, c_3, c_4]), rfl, by decide, by decide⟩
  refine x_tableOut 79 X dX5_writes_22 (by have := lv_neT (a := 1) c_1 rfl; have := lv_neT (a := 2) c_2 rfl; have := lv_neT (a := 3) c_3 rfl; have := lv_neT (a := 4) c_4 rfl; omega) (by decide) ?_
  refine x_bipush (v := nI 10) X dX5_writes_79 (by decide) ?_
  refine x_iload X dX5_writes_81 6 rfl ?_
  refine x_isub (v := (nI 10) - n) X dX5_writes_83 rfl ?_
  refine x_iload X dX5_writes_84 1 rfl ?_
  refine x_imul (v := ((nI 10) - n) * (s.2.2.2.2.1 (m * 5 + t))) X dX5_writes_86 rfl ?_
  refine x_iload X dX5_writes_87 6 rfl ?_
  refine x_iload X dX5_writes_89 0 rfl ?_
  refine x_imul (v := n * (s.2.2.2.2.1 (p * 5 + t))) X dX5_writes_91 rfl ?_
  refine x_iadd (v := (((nI 10) - n) * (s.2.2.2.2.1 (m * 5 + t))) + (n * (s.2.2.2.2.1 (p * 5 + t)))) X dX5_writes_92 rfl ?_
  refine x_bipush (v := nI 10) X dX5_writes_93 (by decide) ?_
  refine x_idiv (v := ((((nI 10) - n) * (s.2.2.2.2.1 (m * 5 + t))) + (n * (s.2.2.2.2.1 (p * 5 + t)))) / (nI 10)) X dX5_writes_95 (by decide) rfl ?_
  exact x_ret X dX5_writes_96 ⟨ret_i (by rw [F_wf, F_ink, ← hk]; simp [F_mix, c_1, c_2, c_3, c_4]), rfl, by decide, by decide⟩
set_option maxRecDepth 100000 in
set_option maxHeartbeats 4000000 in
/-- X5_copied -/
theorem c_X5_copied (l : Launch) (G : xG) (a : Nat → Nat) (np : Nat) (nq : Nat) (na : Nat) (nk : Nat) (ns : Nat) (nl : Nat) (pa : Nat) (rp : Nat) (rq : Nat) (kd : Nat → Int32) (S : Nat → Int32) (W : Nat → Int32) (Kp : Nat → Int32) (sg : Nat → Int32) (le : Nat → Int32) (tl : Nat → Int32) (rk : Nat → Int32) (rd : Nat → Int32) (rw : Nat → Int32) (s : xS) (v : Int32) (p : Nat) (t : Nat) (hp : p < 6) (ht : t < 5) (hk : kd p = s.2.2.1 p) (hmi : ∀ j, j < 6 → inR (s.2.2.2.1 j) 6 = true) (hbv : ∀ j, j < 30 → bd (s.2.2.2.2.1 j)) (hv : bd v) : xM l G xE0 yX5_copied cX5_copied 5 (some .int) 1 25 0 0 [.ref (a 0), .int v, .int (nI p), .int (nI t)] (wMo G a np nq na nk ns nl pa rp rq kd S W Kp sg le tl rk rd (en s) rw) (some (.int (F_car (kd p) v (s.2.2.2.2.1 (tn (s.2.2.2.1 p) * 5 + t))))) (fun w2 => w2 = wMo G a np nq na nk ns nl pa rp rq kd S W Kp sg le tl rk rd (en s) rw) := by
  refine x_entry (by decide +kernel) (Nat.le_of_ble_eq_true rfl) rfl ⟨_, rfl, rfl⟩ (fun K X => ?_)
  refine x_aloadn X dX5_copied_0 0 rfl ?_
  refine x_aloadn X dX5_copied_1 0 rfl ?_
  refine x_get X wu_X5 0 rfl rfl 18 (by decide) wf_X5_37 rfl rfl dX5_copied_2 ?_
  refine x_iconst (v := nI 0) X dX5_copied_5 (by decide) ?_
  refine x_iloadn X dX5_copied_6 2 rfl ?_
  refine x_iadd (v := nI (0 + p)) X dX5_copied_7 (nI_add _ _) ?_
  refine x_iald_n (v := s.2.2.2.1 p) X 10 rfl (by omega) (by omega) (en_mi _ (by omega)) dX5_copied_8 ?_
  obtain ⟨em, hm6⟩ := inR_eq (hmi p (by omega)) (by decide)
  refine x_int em ?_
  refine x_iloadn X dX5_copied_9 3 rfl ?_
  refine x_callVrv (As := [.int (nI (tn (s.2.2.2.1 p))), .int (nI t)]) (rest := []) X (c_X5_viewOf l G a np nq na nk ns nl pa rp rq kd S W Kp sg le tl rk rd rw s (tn (s.2.2.2.1 p)) t (by omega) (by omega)) xE0_ok (fun _ _ _ => trivial) [0, 1, 2, 3, 4, 5, 6, 7, 8, 9, 10, 11] rfl 0 rfl rfl rfl rfl wco_X5_viewOf wi_X5 xd_X5_viewOf wl_X5_120 win_X5_viewOf wse_X5_viewOf (by decide) (Nat.le_of_ble_eq_true rfl) dX5_copied_10 ?_
  refine x_istore (lv' := [(4, .int (s.2.2.2.2.1 ((tn (s.2.2.2.1 p)) * 5 + t))), (0, .ref (a 0)), (1, .int v), (2, .int (nI p)), (3, .int (nI t))]) X dX5_copied_13 (by decide) rfl ?_
  refine x_aloadn X dX5_copied_15 1 rfl ?_
  refine x_get X wu_X5 0 rfl rfl 1 (by decide) wf_X5_7 rfl rfl dX5_copied_16 ?_
  refine x_iloadn X dX5_copied_19 3 rfl ?_
  refine x_iald_n (v := kd p) X 1 rfl (by omega) (by omega) rfl dX5_copied_20 ?_
  by_cases c_1 : kd p = 1
  · -- case 1
    refine x_int c_1 ?_
    refine x_tableIn 52 X dX5_copied_21 (by decide) (by decide) rfl (by decide) ?_
    refine x_aloadn X dX5_copied_52 1 rfl ?_
    refine x_iloadn X dX5_copied_53 2 rfl ?_
    refine x_iload X dX5_copied_54 0 rfl ?_
    refine x_iconst (v := nI 2) X dX5_copied_56 (by decide) ?_
    refine x_callVrv (As := [.int v, .int (s.2.2.2.2.1 ((tn (s.2.2.2.1 p)) * 5 + t)), .int (nI 2)]) (rest := []) X (c_X5_toward l G a np nq na nk ns nl pa rp rq kd S W Kp sg le tl rk rd (en s) rw v (s.2.2.2.2.1 ((tn (s.2.2.2.1 p)) * 5 + t)) (nI 2) hv (by first | exact bd_0 | exact hbv _ (by omega)) (by first | exact Or.inl rfl | exact Or.inr rfl)) xE0_ok (fun _ _ _ => trivial) [0, 1, 2, 3, 4, 5, 6, 7, 8, 9, 10, 11] rfl 0 rfl rfl rfl rfl wco_X5_toward wi_X5 xd_X5_toward wl_X5_124 win_X5_toward wse_X5_toward (by decide) (Nat.le_of_ble_eq_true rfl) dX5_copied_57 ?_
    exact x_ret X dX5_copied_60 ⟨ret_i (by simp [F_car, ← girl_eq hv, c_1]), rfl, by decide, by decide⟩
  by_cases c_2 : kd p = 2
  · -- case 2
    refine x_int c_2 ?_
    refine x_tableIn 84 X dX5_copied_21 (by decide) (by decide) rfl (by decide) ?_
    refine x_aloadn X dX5_copied_84 1 rfl ?_
    refine x_iloadn X dX5_copied_85 2 rfl ?_
    refine x_iload X dX5_copied_86 0 rfl ?_
    refine x_iconst (v := nI 1) X dX5_copied_88 (by decide) ?_
    refine x_callVrv (As := [.int v, .int (s.2.2.2.2.1 ((tn (s.2.2.2.1 p)) * 5 + t)), .int (nI 1)]) (rest := []) X (c_X5_toward l G a np nq na nk ns nl pa rp rq kd S W Kp sg le tl rk rd (en s) rw v (s.2.2.2.2.1 ((tn (s.2.2.2.1 p)) * 5 + t)) (nI 1) hv (by first | exact bd_0 | exact hbv _ (by omega)) (by first | exact Or.inl rfl | exact Or.inr rfl)) xE0_ok (fun _ _ _ => trivial) [0, 1, 2, 3, 4, 5, 6, 7, 8, 9, 10, 11] rfl 0 rfl rfl rfl rfl wco_X5_toward wi_X5 xd_X5_toward wl_X5_124 win_X5_toward wse_X5_toward (by decide) (Nat.le_of_ble_eq_true rfl) dX5_copied_89 ?_
    exact x_ret X dX5_copied_92 ⟨ret_i (by simp [F_car, ← girl_eq hv, c_1, c_2]), rfl, by decide, by decide⟩
  by_cases c_3 : kd p = 3
  · -- case 3
    refine x_int c_3 ?_
    refine x_tableIn 61 X dX5_copied_21 (by decide) (by decide) rfl (by decide) ?_
    refine x_aloadn X dX5_copied_61 1 rfl ?_
    refine x_iloadn X dX5_copied_62 2 rfl ?_
    refine x_iconst (v := nI 0) X dX5_copied_63 (by decide) ?_
    refine x_iconst (v := nI 1) X dX5_copied_64 (by decide) ?_
    refine x_callVrv (As := [.int v, .int (nI 0), .int (nI 1)]) (rest := []) X (c_X5_toward l G a np nq na nk ns nl pa rp rq kd S W Kp sg le tl rk rd (en s) rw v (nI 0) (nI 1) hv (by first | exact bd_0 | exact hbv _ (by omega)) (by first | exact Or.inl rfl | exact Or.inr rfl)) xE0_ok (fun _ _ _ => trivial) [0, 1, 2, 3, 4, 5, 6, 7, 8, 9, 10, 11] rfl 0 rfl rfl rfl rfl wco_X5_toward wi_X5 xd_X5_toward wl_X5_124 win_X5_toward wse_X5_toward (by decide) (Nat.le_of_ble_eq_true rfl) dX5_copied_65 ?_
    exact x_ret X dX5_copied_68 ⟨ret_i (by simp [F_car, ← girl_eq hv, c_1, c_2, c_3]), rfl, by decide, by decide⟩
  by_cases c_4 : kd p = 4
  · -- case 4
    refine x_int c_4 ?_
    refine x_tableIn 69 X dX5_copied_21 (by decide) (by decide) rfl (by decide) ?_
    refine x_iloadn X dX5_copied_69 2 rfl ?_
    refine x_bipush (v := nI 9) X dX5_copied_70 (by decide) ?_
    refine x_icmp_ge 81 X dX5_copied_72 (by decide) (fun c_5 => ?_) (fun c_5 => ?_)
    · -- 72 t
      replace c_5 := Int32.not_lt.mpr c_5
      refine x_bipush (v := nI 9) X dX5_copied_81 (by decide) ?_
      exact x_ret X dX5_copied_83 ⟨ret_i (by simp [F_car, ← girl_eq hv, c_1, c_2, c_3, c_4, c_5]), rfl, by decide, by decide⟩
    · -- 72 f
      replace c_5 := Int32.not_le.mp c_5
      refine x_iloadn X dX5_copied_75 2 rfl ?_
      refine x_iconst (v := nI 1) X dX5_copied_76 (by decide) ?_
      refine x_iadd (v := v + (nI 1)) X dX5_copied_77 rfl ?_
      refine x_goto 83 X dX5_copied_78 (by decide) ?_
      exact x_ret X dX5_copied_83 ⟨ret_i (by simp [F_car, ← girl_eq hv, c_1, c_2, c_3, c_4, c_5]), rfl, by decide, by decide⟩
  refine x_tableOut 84 X dX5_copied_21 (by have := lv_neT (a := 1) c_1 rfl; have := lv_neT (a := 2) c_2 rfl; have := lv_neT (a := 3) c_3 rfl; have := lv_neT (a := 4) c_4 rfl; omega) (by decide) ?_
  refine x_aloadn X dX5_copied_84 1 rfl ?_
  refine x_iloadn X dX5_copied_85 2 rfl ?_
  refine x_iload X dX5_copied_86 0 rfl ?_
  refine x_iconst (v := nI 1) X dX5_copied_88 (by decide) ?_
  refine x_callVrv (As := [.int v, .int (s.2.2.2.2.1 ((tn (s.2.2.2.1 p)) * 5 + t)), .int (nI 1)]) (rest := []) X (c_X5_toward l G a np nq na nk ns nl pa rp rq kd S W Kp sg le tl rk rd (en s) rw v (s.2.2.2.2.1 ((tn (s.2.2.2.1 p)) * 5 + t)) (nI 1) hv (by first | exact bd_0 | exact hbv _ (by omega)) (by first | exact Or.inl rfl | exact Or.inr rfl)) xE0_ok (fun _ _ _ => trivial) [0, 1, 2, 3, 4, 5, 6, 7, 8, 9, 10, 11] rfl 0 rfl rfl rfl rfl wco_X5_toward wi_X5 xd_X5_toward wl_X5_124 win_X5_toward wse_X5_toward (by decide) (Nat.le_of_ble_eq_true rfl) dX5_copied_89 ?_
  exact x_ret X dX5_copied_92 ⟨ret_i (by simp [F_car, ← girl_eq hv, c_1, c_2, c_3, c_4]), rfl, by decide, by decide⟩
