/-! ===== what the class computes on numbers alone; its readers and writers of a row; the Chancery's ===== -/
def F_mix (x y n : Int32) : Int32 := ((nI 10 - n) * x + n * y) / nI 10
def F_ink (kd th ow n : Int32) : Int32 := if kd = 1 then th else if kd = 2 then F_mix (-th) ow n else if kd = 3 then nI 0 else if kd = 4 then nI 9 else F_mix th ow n
def F_tow (a b m : Int32) : Int32 := if a < b then (if a + m < b then a + m else b) else (if b < a - m then a - m else b)
def F_car (kd sy th : Int32) : Int32 := if kd = 1 then F_tow sy th (nI 2) else if kd = 3 then F_tow sy (nI 0) (nI 1) else if kd = 4 then F_tow sy (nI 9) (nI 1) else F_tow sy th (nI 1)
def F_told (x : Int32) : Int32 := if x = nI 100 then (-4) else x + nI 9
def F_cop (kd th x : Int32) : Int32 := if x = nI 100 then nI 100 else F_car kd x th

set_option maxRecDepth 100000 in
set_option maxHeartbeats 4000000 in
/-- X4_isUpTo -/
theorem c_X4_isUpTo (l : Launch) (G : xG) (x : Int32) (m : Nat) (hm : m + 1 < 2 ^ 31) : xM l G xE0 yX4_isUpTo cX4_isUpTo 2 (some .boolean) 0 0 0 0 [.int x, .int (nI m)] ([]) (some (.int (bI (inR x (m + 1))))) (fun w2 => w2 = []) := by
  refine x_entry (by decide +kernel) (Nat.le_of_ble_eq_true rfl) rfl ⟨_, rfl, bI_narrow _⟩ (fun K X => ?_)
  refine x_iloadn X dX4_isUpTo_0 0 rfl ?_
  refine x_if_lt 13 X dX4_isUpTo_1 (by decide) (fun c_1 => ?_) (fun c_1 => ?_)
  · -- 1 t
    refine x_iconst (v := nI 0) X dX4_isUpTo_13 (by decide) ?_
    exact x_ret X dX4_isUpTo_14 ⟨ret_i (by simp only [bI]; first | rw [inR_neg (by assumption)]; rfl | rw [inR_gt hm (by assumption)]; rfl | rw [inR_le hm (by assumption) (Int32.not_lt.mp (by assumption))]; rfl), rfl, by decide, by decide⟩
  · -- 1 f
    refine x_iloadn X dX4_isUpTo_4 0 rfl ?_
    refine x_iloadn X dX4_isUpTo_5 1 rfl ?_
    refine x_icmp_gt 13 X dX4_isUpTo_6 (by decide) (fun c_2 => ?_) (fun c_2 => ?_)
    · -- 6 t
      refine x_iconst (v := nI 0) X dX4_isUpTo_13 (by decide) ?_
      exact x_ret X dX4_isUpTo_14 ⟨ret_i (by simp only [bI]; first | rw [inR_neg (by assumption)]; rfl | rw [inR_gt hm (by assumption)]; rfl | rw [inR_le hm (by assumption) (Int32.not_lt.mp (by assumption))]; rfl), rfl, by decide, by decide⟩
    · -- 6 f
      refine x_iconst (v := nI 1) X dX4_isUpTo_9 (by decide) ?_
      refine x_goto 14 X dX4_isUpTo_10 (by decide) ?_
      exact x_ret X dX4_isUpTo_14 ⟨ret_i (by simp only [bI]; first | rw [inR_neg (by assumption)]; rfl | rw [inR_gt hm (by assumption)]; rfl | rw [inR_le hm (by assumption) (Int32.not_lt.mp (by assumption))]; rfl), rfl, by decide, by decide⟩
set_option maxRecDepth 100000 in
set_option maxHeartbeats 4000000 in
/-- X4_isTheme -/
theorem c_X4_isTheme (l : Launch) (G : xG) (x : Int32)  : xM l G xE0 yX4_isTheme cX4_isTheme 1 (some .boolean) 0 0 0 0 [.int x] ([]) (some (.int (bI (inR x 5)))) (fun w2 => w2 = []) := by
  refine x_entry (by decide +kernel) (Nat.le_of_ble_eq_true rfl) rfl ⟨_, rfl, bI_narrow _⟩ (fun K X => ?_)
  refine x_iloadn X dX4_isTheme_0 0 rfl ?_
  refine x_if_lt 13 X dX4_isTheme_1 (by decide) (fun c_1 => ?_) (fun c_1 => ?_)
  · -- 1 t
    refine x_iconst (v := nI 0) X dX4_isTheme_13 (by decide) ?_
    exact x_ret X dX4_isTheme_14 ⟨ret_i (by simp only [bI]; first | rw [inR_in (by assumption) (Int32.not_le.mpr (by assumption))]; rfl | rw [inR_neg (by assumption)]; rfl | rw [inR_ge (Int32.not_lt.mp (by assumption))]; rfl), rfl, by decide, by decide⟩
  · -- 1 f
    refine x_iloadn X dX4_isTheme_4 0 rfl ?_
    refine x_iconst (v := nI 5) X dX4_isTheme_5 (by decide) ?_
    refine x_icmp_ge 13 X dX4_isTheme_6 (by decide) (fun c_2 => ?_) (fun c_2 => ?_)
    · -- 6 t
      replace c_2 := Int32.not_lt.mpr c_2
      refine x_iconst (v := nI 0) X dX4_isTheme_13 (by decide) ?_
      exact x_ret X dX4_isTheme_14 ⟨ret_i (by simp only [bI]; first | rw [inR_in (by assumption) (Int32.not_le.mpr (by assumption))]; rfl | rw [inR_neg (by assumption)]; rfl | rw [inR_ge (Int32.not_lt.mp (by assumption))]; rfl), rfl, by decide, by decide⟩
    · -- 6 f
      replace c_2 := Int32.not_le.mp c_2
      refine x_iconst (v := nI 1) X dX4_isTheme_9 (by decide) ?_
      refine x_goto 14 X dX4_isTheme_10 (by decide) ?_
      exact x_ret X dX4_isTheme_14 ⟨ret_i (by simp only [bI]; first | rw [inR_in (by assumption) (Int32.not_le.mpr (by assumption))]; rfl | rw [inR_neg (by assumption)]; rfl | rw [inR_ge (Int32.not_lt.mp (by assumption))]; rfl), rfl, by decide, by decide⟩
set_option maxRecDepth 100000 in
set_option maxHeartbeats 4000000 in
/-- X4_told -/
theorem c_X4_told (l : Launch) (G : xG) (x : Int32)  : xM l G xE0 yX4_told cX4_told 1 (some .int) 0 0 0 0 [.int x] ([]) (some (.int (F_told x))) (fun w2 => w2 = []) := by
  refine x_entry (by decide +kernel) (Nat.le_of_ble_eq_true rfl) rfl ⟨_, rfl, rfl⟩ (fun K X => ?_)
  refine x_iloadn X dX4_told_0 0 rfl ?_
  refine x_bipush (v := nI 100) X dX4_told_1 (by decide) ?_
  refine x_icmp_ne 11 X dX4_told_3 (by decide) (fun c_1 => ?_) (fun c_1 => ?_)
  · -- 3 t
    refine x_iloadn X dX4_told_11 0 rfl ?_
    refine x_bipush (v := nI 9) X dX4_told_12 (by decide) ?_
    refine x_iadd (v := x + (nI 9)) X dX4_told_14 rfl ?_
    exact x_ret X dX4_told_15 ⟨ret_i (by simp [F_told, c_1]), rfl, by decide, by decide⟩
  · -- 3 f
    refine x_bipush (v := (-4)) X dX4_told_6 (by decide) ?_
    refine x_goto 15 X dX4_told_8 (by decide) ?_
    exact x_ret X dX4_told_15 ⟨ret_i (by simp [F_told, c_1]), rfl, by decide, by decide⟩
set_option maxRecDepth 100000 in
set_option maxHeartbeats 4000000 in
/-- X4_at -/
theorem c_X4_at (l : Launch) (G : xG) (a : Nat) (n : Nat) (f : Nat → Int32) (j : Nat) (hj : j < n) (hn : n < 2 ^ 31) : xM l G xE0 yX4_at cX4_at 2 (some .int) 0 0 0 0 [.ref a, .int (nI j)] (wIA G a n f) (some (.int (f j))) (fun w2 => w2 = wIA G a n f) := by
  refine x_entry (by decide +kernel) (Nat.le_of_ble_eq_true rfl) rfl ⟨_, rfl, rfl⟩ (fun K X => ?_)
  refine x_iloadn X dX4_at_0 1 rfl ?_
  refine x_if_lt_n 16 X dX4_at_1 (by decide) (by omega) (fun c_1 => ?_) (fun c_1 => ?_)
  · -- 1 t
    exact absurd c_1 (by omega)
  · -- 1 f
    refine x_iloadn X dX4_at_4 1 rfl ?_
    refine x_aloadn X dX4_at_5 0 rfl ?_
    refine x_alen X 0 rfl dX4_at_6 ?_
    refine x_icmp_ge_n 16 X dX4_at_7 (by decide) (by omega) (by omega) (fun c_2 => ?_) (fun c_2 => ?_)
    · -- 7 t
      exact absurd c_2 (by omega)
    · -- 7 f
      refine x_aloadn X dX4_at_10 0 rfl ?_
      refine x_iloadn X dX4_at_11 1 rfl ?_
      refine x_iald_n (v := f j) X 0 rfl (by omega) (by omega) rfl dX4_at_12 ?_
      refine x_goto 17 X dX4_at_13 (by decide) ?_
      exact x_ret X dX4_at_17 ⟨rfl, rfl, by decide, by decide⟩
set_option maxRecDepth 100000 in
set_option maxHeartbeats 4000000 in
/-- X4_put -/
theorem c_X4_put (l : Launch) (G : xG) (a : Nat) (n : Nat) (f : Nat → Int32) (j : Nat) (v : Int32) (hj : j < n) (hn : n < 2 ^ 31) : xM l G xE0 yX4_put cX4_put 3 none 0 0 0 0 [.ref a, .int (nI j), .int v] (wIA G a n f) none (fun w2 => w2 = wIA G a n (upd f j v)) := by
  refine x_entry (by decide +kernel) (Nat.le_of_ble_eq_true rfl) rfl rfl (fun K X => ?_)
  refine x_iloadn X dX4_put_0 1 rfl ?_
  refine x_if_lt_n 14 X dX4_put_1 (by decide) (by omega) (fun c_1 => ?_) (fun c_1 => ?_)
  · -- 1 t
    exact absurd c_1 (by omega)
  · -- 1 f
    refine x_iloadn X dX4_put_4 1 rfl ?_
    refine x_aloadn X dX4_put_5 0 rfl ?_
    refine x_alen X 0 rfl dX4_put_6 ?_
    refine x_icmp_ge_n 14 X dX4_put_7 (by decide) (by omega) (by omega) (fun c_2 => ?_) (fun c_2 => ?_)
    · -- 7 t
      exact absurd c_2 (by omega)
    · -- 7 f
      refine x_aloadn X dX4_put_10 0 rfl ?_
      refine x_iloadn X dX4_put_11 1 rfl ?_
      refine x_iloadn X dX4_put_12 2 rfl ?_
      refine x_iast_n (g := upd f j v) (ws' := wIA G a n (upd f j v)) X 0 rfl (by omega) (by omega) rfl rfl dX4_put_13 ?_
      exact x_retv X dX4_put_14 ⟨rfl, rfl, by decide, by decide⟩
set_option maxRecDepth 100000 in
set_option maxHeartbeats 4000000 in
/-- X4_remainder -/
theorem c_X4_remainder (l : Launch) (G : xG) (x : Nat) (y : Nat) (hx : x < 2 ^ 31) (hy0 : 0 < y) (hy : y < 2 ^ 31) : xM l G xE0 yX4_remainder cX4_remainder 2 (some .int) 0 0 0 0 [.int (nI x), .int (nI y)] ([]) (some (.int (nI (x % y)))) (fun w2 => w2 = []) := by
  refine x_entry (by decide +kernel) (Nat.le_of_ble_eq_true rfl) rfl ⟨_, rfl, rfl⟩ (fun K X => ?_)
  refine x_iloadn X dX4_remainder_0 1 rfl ?_
  refine x_if_le_n 10 X dX4_remainder_1 (by decide) (by omega) (fun c_1 => ?_) (fun c_1 => ?_)
  · -- 1 t
    exact absurd c_1 (by omega)
  · -- 1 f
    refine x_iloadn X dX4_remainder_4 0 rfl ?_
    refine x_iloadn X dX4_remainder_5 1 rfl ?_
    refine x_irem (v := nI (x % y)) X dX4_remainder_6 (nI_ne0 (by omega) (by omega)) (pk_rem (by omega) (by omega) (by omega)) ?_
    refine x_goto 11 X dX4_remainder_7 (by decide) ?_
    exact x_ret X dX4_remainder_11 ⟨rfl, rfl, by decide, by decide⟩
set_option maxRecDepth 100000 in
set_option maxHeartbeats 4000000 in
/-- X4_mixed -/
theorem c_X4_mixed (l : Launch) (G : xG) (x : Int32) (y : Int32) (n : Int32)  : xM l G xE0 yX4_mixed cX4_mixed 3 (some .int) 0 0 0 0 [.int x, .int y, .int n] ([]) (some (.int (F_mix x y n))) (fun w2 => w2 = []) := by
  refine x_entry (by decide +kernel) (Nat.le_of_ble_eq_true rfl) rfl ⟨_, rfl, rfl⟩ (fun K X => ?_)
  refine x_bipush (v := nI 10) X dX4_mixed_0 (by decide) ?_
  refine x_iloadn X dX4_mixed_2 2 rfl ?_
  refine x_isub (v := (nI 10) - n) X dX4_mixed_3 rfl ?_
  refine x_iloadn X dX4_mixed_4 0 rfl ?_
  refine x_imul (v := ((nI 10) - n) * x) X dX4_mixed_5 rfl ?_
  refine x_iloadn X dX4_mixed_6 2 rfl ?_
  refine x_iloadn X dX4_mixed_7 1 rfl ?_
  refine x_imul (v := n * y) X dX4_mixed_8 rfl ?_
  refine x_iadd (v := (((nI 10) - n) * x) + (n * y)) X dX4_mixed_9 rfl ?_
  refine x_bipush (v := nI 10) X dX4_mixed_10 (by decide) ?_
  refine x_idiv (v := ((((nI 10) - n) * x) + (n * y)) / (nI 10)) X dX4_mixed_12 (by decide) rfl ?_
  exact x_ret X dX4_mixed_13 ⟨ret_i (by rfl), rfl, by decide, by decide⟩
set_option maxRecDepth 100000 in
set_option maxHeartbeats 4000000 in
/-- X4_inked -/
theorem c_X4_inked (l : Launch) (G : xG) (kd : Int32) (th : Int32) (ow : Int32) (n : Int32)  : xM l G xE0 yX4_inked cX4_inked 4 (some .int) 1 22 0 0 [.int kd, .int th, .int ow, .int n] ([]) (some (.int (F_ink kd th ow n))) (fun w2 => w2 = []) := by
  refine x_entry (by decide +kernel) (Nat.le_of_ble_eq_true rfl) rfl ⟨_, rfl, rfl⟩ (fun K X => ?_)
  refine x_iloadn X dX4_inked_0 0 rfl ?_
  by_cases c_1 : kd = 1
  · -- case 1
    refine x_int c_1 ?_
    refine x_tableIn 32 X dX4_inked_1 (by decide) (by decide) rfl (by decide) ?_
    refine x_iloadn X dX4_inked_32 1 rfl ?_
    exact x_ret X dX4_inked_33 ⟨ret_i (by simp [F_ink, c_1]), rfl, by decide, by decide⟩
  by_cases c_2 : kd = 2
  · -- case 2
    refine x_int c_2 ?_
    refine x_tableIn 34 X dX4_inked_1 (by decide) (by decide) rfl (by decide) ?_
    refine x_iloadn X dX4_inked_34 1 rfl ?_
    refine x_ineg (v := -th) X dX4_inked_35 rfl ?_
    refine x_iloadn X dX4_inked_36 2 rfl ?_
    refine x_iloadn X dX4_inked_37 3 rfl ?_
    refine x_callSrv (As := [.int (-th), .int ow, .int n]) (rest := []) X (c_X4_mixed l G (-th) ow n) xE0_ok (fun _ _ _ => trivial) [] rfl rfl rfl wco_X4_mixed wi_X4 xd_X4_mixed wl_X4_223 wst_X4_mixed (by decide) (Nat.le_of_ble_eq_true rfl) dX4_inked_38 ?_
    exact x_ret X dX4_inked_41 ⟨ret_i (by simp [F_ink, c_1, c_2]), rfl, by decide, by decide⟩
  by_cases c_3 : kd = 3
  · -- case 3
    refine x_int c_3 ?_
    refine x_tableIn 42 X dX4_inked_1 (by decide) (by decide) rfl (by decide) ?_
    refine x_iconst (v := nI 0) X dX4_inked_42 (by decide) ?_
    exact x_ret X dX4_inked_43 ⟨ret_i (by simp [F_ink, c_1, c_2, c_3]), rfl, by decide, by decide⟩
  by_cases c_4 : kd = 4
  · -- case 4
    refine x_int c_4 ?_
    refine x_tableIn 44 X dX4_inked_1 (by decide) (by decide) rfl (by decide) ?_
    refine x_bipush (v := nI 9) X dX4_inked_44 (by decide) ?_
    exact x_ret X dX4_inked_46 ⟨ret_i (by simp [F_ink, c_1, c_2, c_3, c_4]), rfl, by decide, by decide⟩
  refine x_tableOut 47 X dX4_inked_1 (by have := lv_neT (a := 1) c_1 rfl; have := lv_neT (a := 2) c_2 rfl; have := lv_neT (a := 3) c_3 rfl; have := lv_neT (a := 4) c_4 rfl; omega) (by decide) ?_
  refine x_iloadn X dX4_inked_47 1 rfl ?_
  refine x_iloadn X dX4_inked_48 2 rfl ?_
  refine x_iloadn X dX4_inked_49 3 rfl ?_
  refine x_callSrv (As := [.int th, .int ow, .int n]) (rest := []) X (c_X4_mixed l G th ow n) xE0_ok (fun _ _ _ => trivial) [] rfl rfl rfl wco_X4_mixed wi_X4 xd_X4_mixed wl_X4_223 wst_X4_mixed (by decide) (Nat.le_of_ble_eq_true rfl) dX4_inked_50 ?_
  exact x_ret X dX4_inked_53 ⟨ret_i (by simp [F_ink, c_1, c_2, c_3, c_4]), rfl, by decide, by decide⟩
set_option maxRecDepth 100000 in
set_option maxHeartbeats 4000000 in
/-- X4_toward -/
theorem c_X4_toward (l : Launch) (G : xG) (x : Int32) (y : Int32) (m : Int32)  : xM l G xE0 yX4_toward cX4_toward 3 (some .int) 1 13 0 0 [.int x, .int y, .int m] ([]) (some (.int (F_tow x y m))) (fun w2 => w2 = []) := by
  refine x_entry (by decide +kernel) (Nat.le_of_ble_eq_true rfl) rfl ⟨_, rfl, rfl⟩ (fun K X => ?_)
  refine x_iloadn X dX4_toward_0 0 rfl ?_
  refine x_iloadn X dX4_toward_1 1 rfl ?_
  refine x_icmp_ge 15 X dX4_toward_2 (by decide) (fun c_1 => ?_) (fun c_1 => ?_)
  · -- 2 t
    replace c_1 := Int32.not_lt.mpr c_1
    refine x_iloadn X dX4_toward_15 1 rfl ?_
    refine x_iloadn X dX4_toward_16 0 rfl ?_
    refine x_iloadn X dX4_toward_17 2 rfl ?_
    refine x_isub (v := x - m) X dX4_toward_18 rfl ?_
    refine x_max (v := if y < x - m then x - m else y) X wl_X4_234 (by decide) (Nat.le_of_ble_eq_true rfl) (by decide) rfl dX4_toward_19 ?_
    exact x_ret X dX4_toward_22 ⟨ret_i (by simp [F_tow, c_1]), rfl, by decide, by decide⟩
  · -- 2 f
    replace c_1 := Int32.not_le.mp c_1
    refine x_iloadn X dX4_toward_5 1 rfl ?_
    refine x_iloadn X dX4_toward_6 0 rfl ?_
    refine x_iloadn X dX4_toward_7 2 rfl ?_
    refine x_iadd (v := x + m) X dX4_toward_8 rfl ?_
    refine x_min (v := if x + m < y then x + m else y) X wl_X4_229 (by decide) (Nat.le_of_ble_eq_true rfl) (by decide) rfl dX4_toward_9 ?_
    refine x_goto 22 X dX4_toward_12 (by decide) ?_
    exact x_ret X dX4_toward_22 ⟨ret_i (by simp [F_tow, c_1]), rfl, by decide, by decide⟩
set_option maxRecDepth 100000 in
set_option maxHeartbeats 4000000 in
/-- X4_carried -/
theorem c_X4_carried (l : Launch) (G : xG) (kd : Int32) (sy : Int32) (th : Int32)  : xM l G xE0 yX4_carried cX4_carried 3 (some .int) 2 35 0 0 [.int kd, .int sy, .int th] ([]) (some (.int (F_car kd sy th))) (fun w2 => w2 = []) := by
  refine x_entry (by decide +kernel) (Nat.le_of_ble_eq_true rfl) rfl ⟨_, rfl, rfl⟩ (fun K X => ?_)
  refine x_iloadn X dX4_carried_0 0 rfl ?_
  by_cases c_1 : kd = 1
  · -- case 1
    refine x_int c_1 ?_
    refine x_tableIn 32 X dX4_carried_1 (by decide) (by decide) rfl (by decide) ?_
    refine x_iloadn X dX4_carried_32 1 rfl ?_
    refine x_iloadn X dX4_carried_33 2 rfl ?_
    refine x_iconst (v := nI 2) X dX4_carried_34 (by decide) ?_
    refine x_callSrv (As := [.int sy, .int th, .int (nI 2)]) (rest := []) X (c_X4_toward l G sy th (nI 2)) xE0_ok (fun _ _ _ => trivial) [] rfl rfl rfl wco_X4_toward wi_X4 xd_X4_toward wl_X4_226 wst_X4_toward (by decide) (Nat.le_of_ble_eq_true rfl) dX4_carried_35 ?_
    exact x_ret X dX4_carried_38 ⟨ret_i (by simp [F_car, c_1]), rfl, by decide, by decide⟩
  by_cases c_2 : kd = 2
  · -- case 2
    refine x_int c_2 ?_
    refine x_tableIn 54 X dX4_carried_1 (by decide) (by decide) rfl (by decide) ?_
    refine x_iloadn X dX4_carried_54 1 rfl ?_
    refine x_iloadn X dX4_carried_55 2 rfl ?_
    refine x_iconst (v := nI 1) X dX4_carried_56 (by decide) ?_
    refine x_callSrv (As := [.int sy, .int th, .int (nI 1)]) (rest := []) X (c_X4_toward l G sy th (nI 1)) xE0_ok (fun _ _ _ => trivial) [] rfl rfl rfl wco_X4_toward wi_X4 xd_X4_toward wl_X4_226 wst_X4_toward (by decide) (Nat.le_of_ble_eq_true rfl) dX4_carried_57 ?_
    exact x_ret X dX4_carried_60 ⟨ret_i (by simp [F_car, c_1, c_2]), rfl, by decide, by decide⟩
  by_cases c_3 : kd = 3
  · -- case 3
    refine x_int c_3 ?_
    refine x_tableIn 39 X dX4_carried_1 (by decide) (by decide) rfl (by decide) ?_
    refine x_iloadn X dX4_carried_39 1 rfl ?_
    refine x_iconst (v := nI 0) X dX4_carried_40 (by decide) ?_
    refine x_iconst (v := nI 1) X dX4_carried_41 (by decide) ?_
    refine x_callSrv (As := [.int sy, .int (nI 0), .int (nI 1)]) (rest := []) X (c_X4_toward l G sy (nI 0) (nI 1)) xE0_ok (fun _ _ _ => trivial) [] rfl rfl rfl wco_X4_toward wi_X4 xd_X4_toward wl_X4_226 wst_X4_toward (by decide) (Nat.le_of_ble_eq_true rfl) dX4_carried_42 ?_
    exact x_ret X dX4_carried_45 ⟨ret_i (by simp [F_car, c_1, c_2, c_3]), rfl, by decide, by decide⟩
  by_cases c_4 : kd = 4
  · -- case 4
    refine x_int c_4 ?_
    refine x_tableIn 46 X dX4_carried_1 (by decide) (by decide) rfl (by decide) ?_
    refine x_iloadn X dX4_carried_46 1 rfl ?_
    refine x_bipush (v := nI 9) X dX4_carried_47 (by decide) ?_
    refine x_iconst (v := nI 1) X dX4_carried_49 (by decide) ?_
    refine x_callSrv (As := [.int sy, .int (nI 9), .int (nI 1)]) (rest := []) X (c_X4_toward l G sy (nI 9) (nI 1)) xE0_ok (fun _ _ _ => trivial) [] rfl rfl rfl wco_X4_toward wi_X4 xd_X4_toward wl_X4_226 wst_X4_toward (by decide) (Nat.le_of_ble_eq_true rfl) dX4_carried_50 ?_
    exact x_ret X dX4_carried_53 ⟨ret_i (by simp [F_car, c_1, c_2, c_3, c_4]), rfl, by decide, by decide⟩
  refine x_tableOut 54 X dX4_carried_1 (by have := lv_neT (a := 1) c_1 rfl; have := lv_neT (a := 2) c_2 rfl; have := lv_neT (a := 3) c_3 rfl; have := lv_neT (a := 4) c_4 rfl; omega) (by decide) ?_
  refine x_iloadn X dX4_carried_54 1 rfl ?_
  refine x_iloadn X dX4_carried_55 2 rfl ?_
  refine x_iconst (v := nI 1) X dX4_carried_56 (by decide) ?_
  refine x_callSrv (As := [.int sy, .int th, .int (nI 1)]) (rest := []) X (c_X4_toward l G sy th (nI 1)) xE0_ok (fun _ _ _ => trivial) [] rfl rfl rfl wco_X4_toward wi_X4 xd_X4_toward wl_X4_226 wst_X4_toward (by decide) (Nat.le_of_ble_eq_true rfl) dX4_carried_57 ?_
  exact x_ret X dX4_carried_60 ⟨ret_i (by simp [F_car, c_1, c_2, c_3, c_4]), rfl, by decide, by decide⟩
set_option maxRecDepth 100000 in
set_option maxHeartbeats 4000000 in
/-- X0_persons -/
theorem c_X0_persons (l : Launch) (G : xG) (a : Nat → Nat) (np : Nat) (nq : Nat) (kd : Nat → Int32) (mi : Nat → Int32) (vi : Nat → Int32) (li : Nat → Int32)  : xM l G xE0 yX0_persons cX0_persons 1 (some .int) 0 0 0 0 [.ref (a 0)] (wCh G a np nq kd mi vi li) (some (.int (nI np))) (fun w2 => w2 = wCh G a np nq kd mi vi li) := by
  refine x_entry (by decide +kernel) (Nat.le_of_ble_eq_true rfl) rfl ⟨_, rfl, rfl⟩ (fun K X => ?_)
  refine x_aloadn X dX0_persons_0 0 rfl ?_
  refine x_get X wu_X0 0 rfl rfl 0 (by decide) wf_X0_24 rfl rfl dX0_persons_1 ?_
  exact x_ret X dX0_persons_4 ⟨rfl, rfl, by decide, by decide⟩
set_option maxRecDepth 100000 in
set_option maxHeartbeats 4000000 in
/-- X0_papers -/
theorem c_X0_papers (l : Launch) (G : xG) (a : Nat → Nat) (np : Nat) (nq : Nat) (kd : Nat → Int32) (mi : Nat → Int32) (vi : Nat → Int32) (li : Nat → Int32)  : xM l G xE0 yX0_papers cX0_papers 1 (some .int) 0 0 0 0 [.ref (a 0)] (wCh G a np nq kd mi vi li) (some (.int (nI nq))) (fun w2 => w2 = wCh G a np nq kd mi vi li) := by
  refine x_entry (by decide +kernel) (Nat.le_of_ble_eq_true rfl) rfl ⟨_, rfl, rfl⟩ (fun K X => ?_)
  refine x_aloadn X dX0_papers_0 0 rfl ?_
  refine x_get X wu_X0 0 rfl rfl 1 (by decide) wf_X0_28 rfl rfl dX0_papers_1 ?_
  exact x_ret X dX0_papers_4 ⟨rfl, rfl, by decide, by decide⟩
set_option maxRecDepth 100000 in
set_option maxHeartbeats 4000000 in
/-- X0_hasPerson -/
theorem c_X0_hasPerson (l : Launch) (G : xG) (a : Nat → Nat) (np : Nat) (nq : Nat) (kd : Nat → Int32) (mi : Nat → Int32) (vi : Nat → Int32) (li : Nat → Int32) (p : Int32) (hnp : np < 2 ^ 31) : xM l G xE0 yX0_hasPerson cX0_hasPerson 2 (some .boolean) 0 0 0 0 [.ref (a 0), .int p] (wCh G a np nq kd mi vi li) (some (.int (bI (inR p np)))) (fun w2 => w2 = wCh G a np nq kd mi vi li) := by
  refine x_entry (by decide +kernel) (Nat.le_of_ble_eq_true rfl) rfl ⟨_, rfl, bI_narrow _⟩ (fun K X => ?_)
  refine x_iloadn X dX0_hasPerson_0 1 rfl ?_
  refine x_if_lt 16 X dX0_hasPerson_1 (by decide) (fun c_1 => ?_) (fun c_1 => ?_)
  · -- 1 t
    refine x_iconst (v := nI 0) X dX0_hasPerson_16 (by decide) ?_
    exact x_ret X dX0_hasPerson_17 ⟨ret_i (by simp only [bI]; first | rw [inR_in (by assumption) (Int32.not_le.mpr (by assumption))]; rfl | rw [inR_neg (by assumption)]; rfl | rw [inR_ge (Int32.not_lt.mp (by assumption))]; rfl), rfl, by decide, by decide⟩
  · -- 1 f
    refine x_iloadn X dX0_hasPerson_4 1 rfl ?_
    refine x_aloadn X dX0_hasPerson_5 0 rfl ?_
    refine x_get X wu_X0 0 rfl rfl 0 (by decide) wf_X0_24 rfl rfl dX0_hasPerson_6 ?_
    refine x_icmp_ge 16 X dX0_hasPerson_9 (by decide) (fun c_2 => ?_) (fun c_2 => ?_)
    · -- 9 t
      replace c_2 := Int32.not_lt.mpr c_2
      refine x_iconst (v := nI 0) X dX0_hasPerson_16 (by decide) ?_
      exact x_ret X dX0_hasPerson_17 ⟨ret_i (by simp only [bI]; first | rw [inR_in (by assumption) (Int32.not_le.mpr (by assumption))]; rfl | rw [inR_neg (by assumption)]; rfl | rw [inR_ge (Int32.not_lt.mp (by assumption))]; rfl), rfl, by decide, by decide⟩
    · -- 9 f
      replace c_2 := Int32.not_le.mp c_2
      refine x_iconst (v := nI 1) X dX0_hasPerson_12 (by decide) ?_
      refine x_goto 17 X dX0_hasPerson_13 (by decide) ?_
      exact x_ret X dX0_hasPerson_17 ⟨ret_i (by simp only [bI]; first | rw [inR_in (by assumption) (Int32.not_le.mpr (by assumption))]; rfl | rw [inR_neg (by assumption)]; rfl | rw [inR_ge (Int32.not_lt.mp (by assumption))]; rfl), rfl, by decide, by decide⟩
set_option maxRecDepth 100000 in
set_option maxHeartbeats 4000000 in
/-- X0_hasPaper -/
theorem c_X0_hasPaper (l : Launch) (G : xG) (a : Nat → Nat) (np : Nat) (nq : Nat) (kd : Nat → Int32) (mi : Nat → Int32) (vi : Nat → Int32) (li : Nat → Int32) (p : Int32) (hnq : nq < 2 ^ 31) : xM l G xE0 yX0_hasPaper cX0_hasPaper 2 (some .boolean) 0 0 0 0 [.ref (a 0), .int p] (wCh G a np nq kd mi vi li) (some (.int (bI (inR p nq)))) (fun w2 => w2 = wCh G a np nq kd mi vi li) := by
  refine x_entry (by decide +kernel) (Nat.le_of_ble_eq_true rfl) rfl ⟨_, rfl, bI_narrow _⟩ (fun K X => ?_)
  refine x_iloadn X dX0_hasPaper_0 1 rfl ?_
  refine x_if_lt 16 X dX0_hasPaper_1 (by decide) (fun c_1 => ?_) (fun c_1 => ?_)
  · -- 1 t
    refine x_iconst (v := nI 0) X dX0_hasPaper_16 (by decide) ?_
    exact x_ret X dX0_hasPaper_17 ⟨ret_i (by simp only [bI]; first | rw [inR_in (by assumption) (Int32.not_le.mpr (by assumption))]; rfl | rw [inR_neg (by assumption)]; rfl | rw [inR_ge (Int32.not_lt.mp (by assumption))]; rfl), rfl, by decide, by decide⟩
  · -- 1 f
    refine x_iloadn X dX0_hasPaper_4 1 rfl ?_
    refine x_aloadn X dX0_hasPaper_5 0 rfl ?_
    refine x_get X wu_X0 0 rfl rfl 1 (by decide) wf_X0_28 rfl rfl dX0_hasPaper_6 ?_
    refine x_icmp_ge 16 X dX0_hasPaper_9 (by decide) (fun c_2 => ?_) (fun c_2 => ?_)
    · -- 9 t
      replace c_2 := Int32.not_lt.mpr c_2
      refine x_iconst (v := nI 0) X dX0_hasPaper_16 (by decide) ?_
      exact x_ret X dX0_hasPaper_17 ⟨ret_i (by simp only [bI]; first | rw [inR_in (by assumption) (Int32.not_le.mpr (by assumption))]; rfl | rw [inR_neg (by assumption)]; rfl | rw [inR_ge (Int32.not_lt.mp (by assumption))]; rfl), rfl, by decide, by decide⟩
    · -- 9 f
      replace c_2 := Int32.not_le.mp c_2
      refine x_iconst (v := nI 1) X dX0_hasPaper_12 (by decide) ?_
      refine x_goto 17 X dX0_hasPaper_13 (by decide) ?_
      exact x_ret X dX0_hasPaper_17 ⟨ret_i (by simp only [bI]; first | rw [inR_in (by assumption) (Int32.not_le.mpr (by assumption))]; rfl | rw [inR_neg (by assumption)]; rfl | rw [inR_ge (Int32.not_lt.mp (by assumption))]; rfl), rfl, by decide, by decide⟩
set_option maxRecDepth 100000 in
set_option maxHeartbeats 4000000 in
/-- X0_kindOf -/
theorem c_X0_kindOf (l : Launch) (G : xG) (a : Nat → Nat) (np : Nat) (nq : Nat) (kd : Nat → Int32) (mi : Nat → Int32) (vi : Nat → Int32) (li : Nat → Int32) (p : Nat) (hp : p < 6) : xM l G xE0 yX0_kindOf cX0_kindOf 2 (some .int) 1 21 0 0 [.ref (a 0), .int (nI p)] (wCh G a np nq kd mi vi li) (some (.int (kd p))) (fun w2 => w2 = wCh G a np nq kd mi vi li) := by
  refine x_entry (by decide +kernel) (Nat.le_of_ble_eq_true rfl) rfl ⟨_, rfl, rfl⟩ (fun K X => ?_)
  refine x_aloadn X dX0_kindOf_0 0 rfl ?_
  refine x_get X wu_X0 0 rfl rfl 2 (by decide) wf_X0_9 rfl rfl dX0_kindOf_1 ?_
  refine x_iloadn X dX0_kindOf_4 1 rfl ?_
  refine x_callNrv (As := [.ref (a 1), .int (nI p)]) (rest := []) X (c_X4_at l G (a 1) 6 kd p (by omega) (by omega)) xE0_ok (fun _ _ _ => trivial) [1] rfl rfl rfl wco_X4_at wi_X4 xd_X4_at wn_X0_76 wst_X4_at (by decide) (Nat.le_of_ble_eq_true rfl) dX0_kindOf_5 ?_
  exact x_ret X dX0_kindOf_8 ⟨rfl, rfl, by decide, by decide⟩
set_option maxRecDepth 100000 in
set_option maxHeartbeats 4000000 in
/-- X0_mindOf -/
theorem c_X0_mindOf (l : Launch) (G : xG) (a : Nat → Nat) (np : Nat) (nq : Nat) (kd : Nat → Int32) (mi : Nat → Int32) (vi : Nat → Int32) (li : Nat → Int32) (p : Nat) (hp : p < 6) : xM l G xE0 yX0_mindOf cX0_mindOf 2 (some .int) 1 21 0 0 [.ref (a 0), .int (nI p)] (wCh G a np nq kd mi vi li) (some (.int (mi p))) (fun w2 => w2 = wCh G a np nq kd mi vi li) := by
  refine x_entry (by decide +kernel) (Nat.le_of_ble_eq_true rfl) rfl ⟨_, rfl, rfl⟩ (fun K X => ?_)
  refine x_aloadn X dX0_mindOf_0 0 rfl ?_
  refine x_get X wu_X0 0 rfl rfl 3 (by decide) wf_X0_15 rfl rfl dX0_mindOf_1 ?_
  refine x_iloadn X dX0_mindOf_4 1 rfl ?_
  refine x_callNrv (As := [.ref (a 2), .int (nI p)]) (rest := []) X (c_X4_at l G (a 2) 6 mi p (by omega) (by omega)) xE0_ok (fun _ _ _ => trivial) [2] rfl rfl rfl wco_X4_at wi_X4 xd_X4_at wn_X0_76 wst_X4_at (by decide) (Nat.le_of_ble_eq_true rfl) dX0_mindOf_5 ?_
  exact x_ret X dX0_mindOf_8 ⟨rfl, rfl, by decide, by decide⟩
set_option maxRecDepth 100000 in
set_option maxHeartbeats 4000000 in
/-- X0_putMind -/
theorem c_X0_putMind (l : Launch) (G : xG) (a : Nat → Nat) (np : Nat) (nq : Nat) (kd : Nat → Int32) (mi : Nat → Int32) (vi : Nat → Int32) (li : Nat → Int32) (p : Nat) (m : Int32) (hp : p < 6) : xM l G xE0 yX0_putMind cX0_putMind 3 none 1 22 0 0 [.ref (a 0), .int (nI p), .int m] (wCh G a np nq kd mi vi li) none (fun w2 => w2 = wCh G a np nq kd (upd mi p m) vi li) := by
  refine x_entry (by decide +kernel) (Nat.le_of_ble_eq_true rfl) rfl rfl (fun K X => ?_)
  refine x_aloadn X dX0_putMind_0 0 rfl ?_
  refine x_get X wu_X0 0 rfl rfl 3 (by decide) wf_X0_15 rfl rfl dX0_putMind_1 ?_
  refine x_iloadn X dX0_putMind_4 1 rfl ?_
  refine x_iloadn X dX0_putMind_5 2 rfl ?_
  refine x_callNf0 (As := [.ref (a 2), .int (nI p), .int m]) (rest := []) (w1 := wIA G (a 2) 6 (upd mi p m)) (ws' := wCh G a np nq kd (upd mi p m) vi li) X (c_X4_put l G (a 2) 6 mi p m (by omega) (by omega)) xE0_ok (fun _ _ _ => trivial) [2] rfl rfl rfl wco_X4_put wi_X4 xd_X4_put wn_X0_57 wst_X4_put (by decide) (Nat.le_of_ble_eq_true rfl) dX0_putMind_6 rfl (Eq.trans (b := [a 2]) rfl rfl) rfl ?_
  exact x_retv X dX0_putMind_9 ⟨rfl, rfl, by decide, by decide⟩
set_option maxRecDepth 100000 in
set_option maxHeartbeats 4000000 in
/-- X0_viewOf -/
theorem c_X0_viewOf (l : Launch) (G : xG) (a : Nat → Nat) (np : Nat) (nq : Nat) (kd : Nat → Int32) (mi : Nat → Int32) (vi : Nat → Int32) (li : Nat → Int32) (p : Nat) (t : Nat) (hp : p < 6) (ht : t < 5) : xM l G xE0 yX0_viewOf cX0_viewOf 3 (some .int) 1 21 0 0 [.ref (a 0), .int (nI p), .int (nI t)] (wCh G a np nq kd mi vi li) (some (.int (vi (p * 5 + t)))) (fun w2 => w2 = wCh G a np nq kd mi vi li) := by
  refine x_entry (by decide +kernel) (Nat.le_of_ble_eq_true rfl) rfl ⟨_, rfl, rfl⟩ (fun K X => ?_)
  refine x_aloadn X dX0_viewOf_0 0 rfl ?_
  refine x_get X wu_X0 0 rfl rfl 4 (by decide) wf_X0_18 rfl rfl dX0_viewOf_1 ?_
  refine x_iloadn X dX0_viewOf_4 1 rfl ?_
  refine x_iconst (v := nI 5) X dX0_viewOf_5 (by decide) ?_
  refine x_imul (v := nI (p * 5)) X dX0_viewOf_6 (pk_mul _ _) ?_
  refine x_iloadn X dX0_viewOf_7 2 rfl ?_
  refine x_iadd (v := nI (p * 5 + t)) X dX0_viewOf_8 (nI_add _ _) ?_
  refine x_callNrv (As := [.ref (a 3), .int (nI (p * 5 + t))]) (rest := []) X (c_X4_at l G (a 3) 30 vi (p * 5 + t) (by omega) (by omega)) xE0_ok (fun _ _ _ => trivial) [3] rfl rfl rfl wco_X4_at wi_X4 xd_X4_at wn_X0_76 wst_X4_at (by decide) (Nat.le_of_ble_eq_true rfl) dX0_viewOf_9 ?_
  exact x_ret X dX0_viewOf_12 ⟨rfl, rfl, by decide, by decide⟩
set_option maxRecDepth 100000 in
set_option maxHeartbeats 4000000 in
/-- X0_putView -/
theorem c_X0_putView (l : Launch) (G : xG) (a : Nat → Nat) (np : Nat) (nq : Nat) (kd : Nat → Int32) (mi : Nat → Int32) (vi : Nat → Int32) (li : Nat → Int32) (p : Nat) (t : Nat) (v : Int32) (hp : p < 6) (ht : t < 5) : xM l G xE0 yX0_putView cX0_putView 4 none 1 22 0 0 [.ref (a 0), .int (nI p), .int (nI t), .int v] (wCh G a np nq kd mi vi li) none (fun w2 => w2 = wCh G a np nq kd mi (upd vi (p * 5 + t) v) li) := by
  refine x_entry (by decide +kernel) (Nat.le_of_ble_eq_true rfl) rfl rfl (fun K X => ?_)
  refine x_aloadn X dX0_putView_0 0 rfl ?_
  refine x_get X wu_X0 0 rfl rfl 4 (by decide) wf_X0_18 rfl rfl dX0_putView_1 ?_
  refine x_iloadn X dX0_putView_4 1 rfl ?_
  refine x_iconst (v := nI 5) X dX0_putView_5 (by decide) ?_
  refine x_imul (v := nI (p * 5)) X dX0_putView_6 (pk_mul _ _) ?_
  refine x_iloadn X dX0_putView_7 2 rfl ?_
  refine x_iadd (v := nI (p * 5 + t)) X dX0_putView_8 (nI_add _ _) ?_
  refine x_iloadn X dX0_putView_9 3 rfl ?_
  refine x_callNf0 (As := [.ref (a 3), .int (nI (p * 5 + t)), .int v]) (rest := []) (w1 := wIA G (a 3) 30 (upd vi (p * 5 + t) v)) (ws' := wCh G a np nq kd mi (upd vi (p * 5 + t) v) li) X (c_X4_put l G (a 3) 30 vi (p * 5 + t) v (by omega) (by omega)) xE0_ok (fun _ _ _ => trivial) [3] rfl rfl rfl wco_X4_put wi_X4 xd_X4_put wn_X0_57 wst_X4_put (by decide) (Nat.le_of_ble_eq_true rfl) dX0_putView_10 rfl (Eq.trans (b := [a 3]) rfl rfl) rfl ?_
  exact x_retv X dX0_putView_13 ⟨rfl, rfl, by decide, by decide⟩
set_option maxRecDepth 100000 in
set_option maxHeartbeats 4000000 in
/-- X0_lineOf -/
theorem c_X0_lineOf (l : Launch) (G : xG) (a : Nat → Nat) (np : Nat) (nq : Nat) (kd : Nat → Int32) (mi : Nat → Int32) (vi : Nat → Int32) (li : Nat → Int32) (p : Nat) (t : Nat) (hp : p < 5) (ht : t < 5) : xM l G xE0 yX0_lineOf cX0_lineOf 3 (some .int) 1 21 0 0 [.ref (a 0), .int (nI p), .int (nI t)] (wCh G a np nq kd mi vi li) (some (.int (li (p * 5 + t)))) (fun w2 => w2 = wCh G a np nq kd mi vi li) := by
  refine x_entry (by decide +kernel) (Nat.le_of_ble_eq_true rfl) rfl ⟨_, rfl, rfl⟩ (fun K X => ?_)
  refine x_aloadn X dX0_lineOf_0 0 rfl ?_
  refine x_get X wu_X0 0 rfl rfl 5 (by decide) wf_X0_21 rfl rfl dX0_lineOf_1 ?_
  refine x_iloadn X dX0_lineOf_4 1 rfl ?_
  refine x_iconst (v := nI 5) X dX0_lineOf_5 (by decide) ?_
  refine x_imul (v := nI (p * 5)) X dX0_lineOf_6 (pk_mul _ _) ?_
  refine x_iloadn X dX0_lineOf_7 2 rfl ?_
  refine x_iadd (v := nI (p * 5 + t)) X dX0_lineOf_8 (nI_add _ _) ?_
  refine x_callNrv (As := [.ref (a 4), .int (nI (p * 5 + t))]) (rest := []) X (c_X4_at l G (a 4) 25 li (p * 5 + t) (by omega) (by omega)) xE0_ok (fun _ _ _ => trivial) [4] rfl rfl rfl wco_X4_at wi_X4 xd_X4_at wn_X0_76 wst_X4_at (by decide) (Nat.le_of_ble_eq_true rfl) dX0_lineOf_9 ?_
  exact x_ret X dX0_lineOf_12 ⟨rfl, rfl, by decide, by decide⟩
set_option maxRecDepth 100000 in
set_option maxHeartbeats 4000000 in
/-- X0_putLine -/
theorem c_X0_putLine (l : Launch) (G : xG) (a : Nat → Nat) (np : Nat) (nq : Nat) (kd : Nat → Int32) (mi : Nat → Int32) (vi : Nat → Int32) (li : Nat → Int32) (p : Nat) (t : Nat) (v : Int32) (hp : p < 5) (ht : t < 5) : xM l G xE0 yX0_putLine cX0_putLine 4 none 1 22 0 0 [.ref (a 0), .int (nI p), .int (nI t), .int v] (wCh G a np nq kd mi vi li) none (fun w2 => w2 = wCh G a np nq kd mi vi (upd li (p * 5 + t) v)) := by
  refine x_entry (by decide +kernel) (Nat.le_of_ble_eq_true rfl) rfl rfl (fun K X => ?_)
  refine x_aloadn X dX0_putLine_0 0 rfl ?_
  refine x_get X wu_X0 0 rfl rfl 5 (by decide) wf_X0_21 rfl rfl dX0_putLine_1 ?_
  refine x_iloadn X dX0_putLine_4 1 rfl ?_
  refine x_iconst (v := nI 5) X dX0_putLine_5 (by decide) ?_
  refine x_imul (v := nI (p * 5)) X dX0_putLine_6 (pk_mul _ _) ?_
  refine x_iloadn X dX0_putLine_7 2 rfl ?_
  refine x_iadd (v := nI (p * 5 + t)) X dX0_putLine_8 (nI_add _ _) ?_
  refine x_iloadn X dX0_putLine_9 3 rfl ?_
  refine x_callNf0 (As := [.ref (a 4), .int (nI (p * 5 + t)), .int v]) (rest := []) (w1 := wIA G (a 4) 25 (upd li (p * 5 + t) v)) (ws' := wCh G a np nq kd mi vi (upd li (p * 5 + t) v)) X (c_X4_put l G (a 4) 25 li (p * 5 + t) v (by omega) (by omega)) xE0_ok (fun _ _ _ => trivial) [4] rfl rfl rfl wco_X4_put wi_X4 xd_X4_put wn_X0_57 wst_X4_put (by decide) (Nat.le_of_ble_eq_true rfl) dX0_putLine_10 rfl (Eq.trans (b := [a 4]) rfl rfl) rfl ?_
  exact x_retv X dX0_putLine_13 ⟨rfl, rfl, by decide, by decide⟩
set_option maxRecDepth 100000 in
set_option maxHeartbeats 4000000 in
/-- X0_writtenFor -/
theorem c_X0_writtenFor (l : Launch) (G : xG) (a : Nat → Nat) (np : Nat) (nq : Nat) (kd : Nat → Int32) (mi : Nat → Int32) (vi : Nat → Int32) (li : Nat → Int32) (p : Nat) (m : Nat) (t : Nat) (n : Int32) (hp : p < 6) (hm : m < 6) (ht : t < 5) : xM l G xE0 yX0_writtenFor cX0_writtenFor 5 (some .int) 2 45 0 0 [.ref (a 0), .int (nI p), .int (nI m), .int (nI t), .int n] (wCh G a np nq kd mi vi li) (some (.int (F_ink (kd p) (vi (m * 5 + t)) (vi (p * 5 + t)) n))) (fun w2 => w2 = wCh G a np nq kd mi vi li) := by
  refine x_entry (by decide +kernel) (Nat.le_of_ble_eq_true rfl) rfl ⟨_, rfl, rfl⟩ (fun K X => ?_)
  refine x_aloadn X dX0_writtenFor_0 0 rfl ?_
  refine x_iloadn X dX0_writtenFor_1 1 rfl ?_
  refine x_callVrv (As := [.int (nI p)]) (rest := []) X (c_X0_kindOf l G a np nq kd mi vi li p (by omega)) xE0_ok (fun _ _ _ => trivial) [0, 1, 2, 3, 4] rfl 0 rfl rfl rfl rfl wco_X0_kindOf wi_X0 xd_X0_kindOf wl_X0_84 win_X0_kindOf wse_X0_kindOf (by decide) (Nat.le_of_ble_eq_true rfl) dX0_writtenFor_2 ?_
  refine x_aloadn X dX0_writtenFor_5 0 rfl ?_
  refine x_iloadn X dX0_writtenFor_6 2 rfl ?_
  refine x_iloadn X dX0_writtenFor_7 3 rfl ?_
  refine x_callVrv (As := [.int (nI m), .int (nI t)]) (rest := [.int (kd p)]) X (c_X0_viewOf l G a np nq kd mi vi li m t (by omega) (by omega)) xE0_ok (fun _ _ _ => trivial) [0, 1, 2, 3, 4] rfl 0 rfl rfl rfl rfl wco_X0_viewOf wi_X0 xd_X0_viewOf wl_X0_87 win_X0_viewOf wse_X0_viewOf (by decide) (Nat.le_of_ble_eq_true rfl) dX0_writtenFor_8 ?_
  refine x_aloadn X dX0_writtenFor_11 0 rfl ?_
  refine x_iloadn X dX0_writtenFor_12 1 rfl ?_
  refine x_iloadn X dX0_writtenFor_13 3 rfl ?_
  refine x_callVrv (As := [.int (nI p), .int (nI t)]) (rest := [.int (vi (m * 5 + t)), .int (kd p)]) X (c_X0_viewOf l G a np nq kd mi vi li p t (by omega) (by omega)) xE0_ok (fun _ _ _ => trivial) [0, 1, 2, 3, 4] rfl 0 rfl rfl rfl rfl wco_X0_viewOf wi_X0 xd_X0_viewOf wl_X0_87 win_X0_viewOf wse_X0_viewOf (by decide) (Nat.le_of_ble_eq_true rfl) dX0_writtenFor_14 ?_
  refine x_iload X dX0_writtenFor_17 4 rfl ?_
  refine x_callNrv (As := [.int (kd p), .int (vi (m * 5 + t)), .int (vi (p * 5 + t)), .int n]) (rest := []) X (c_X4_inked l G (kd p) (vi (m * 5 + t)) (vi (p * 5 + t)) n) xE0_ok (fun _ _ _ => trivial) [] rfl rfl rfl wco_X4_inked wi_X4 xd_X4_inked wn_X0_90 wst_X4_inked (by decide) (Nat.le_of_ble_eq_true rfl) dX0_writtenFor_19 ?_
  exact x_ret X dX0_writtenFor_22 ⟨rfl, rfl, by decide, by decide⟩
