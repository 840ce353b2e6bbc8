/-! ===== the reference: copy, undo, keep, back, round, least, count, sign, write ===== -/
theorem own_not2 (s : xS) (a p : Nat) : nI 31 &&& (F_owb s a p 5 ^^^ (-1)) = F_lsb s a p 5 := by
  rw [← own_not]
  congr 1
  apply Int32.toBitVec_inj.mp
  rw [Int32.toBitVec_xor, Int32.toBitVec_not]
  rw [show (-1 : Int32).toBitVec = BitVec.allOnes 32 by decide, BitVec.xor_allOnes]
theorem wOk_B (x : Int32) : F_wOk x = inB x (nI 32) (nI 126) := rfl
def mUn (s : xS) (us : Nat → xS) (n : Nat) : xS := if n = 0 then s else us (n - 1)
def mSg (b : Bool) (t v : Int32) (sg : Nat → Int32) (ns : Nat) : Nat → Int32 := if b = true then (if ns < 6 then upd (upd sg (2 * ns) t) (2 * ns + 1) v else sg) else sg
def mKp (Kp S : Nat → Int32) (nk : Nat) : Nat → Int32 := if nk < 2 then va_cpy S Kp 0 (61 * nk) 61 else Kp
/-- after k COPIES onto the same PAPER -/
def rdS (s : xS) (a : Nat) : Nat → xS
  | 0 => s
  | k + 1 => cpS (rdS s a k) (k % s.1) a a 5
theorem rdS_p (s : xS) (a : Nat) : ∀ k, (rdS s a k).1 = s.1 ∧ (rdS s a k).2.1 = s.2.1 ∧ (rdS s a k).2.2.1 = s.2.2.1 ∧ (rdS s a k).2.2.2.1 = s.2.2.2.1 ∧ (rdS s a k).2.2.2.2.1 = s.2.2.2.2.1
  | 0 => ⟨rfl, rfl, rfl, rfl, rfl⟩
  | k + 1 => rdS_p s a k
theorem rdS_at (s : xS) (a t : Nat) (ht : t < 5) : ∀ k, (rdS s a k).2.2.2.2.2 (a * 5 + t) = F_rnd s a t k
  | 0 => rfl
  | k + 1 => by
    show (if a * 5 ≤ a * 5 + t ∧ a * 5 + t < a * 5 + 5 then _ else _) = _
    rw [if_pos (by omega)]
    simp only [show a * 5 + t - a * 5 = t by omega]
    rw [rdS_at s a t ht k, (rdS_p s a k).2.2.1, (rdS_p s a k).2.2.2.1, (rdS_p s a k).2.2.2.2, F_rnd]
theorem rdS_bl {s : xS} {a : Nat} (hs : s.1 ≤ 6) (h1 : 0 < s.1) (ha : a < 5) (hm : ∀ j, j < 6 → inR (s.2.2.2.1 j) 6 = true) (hv : ∀ j, j < 30 → bd (s.2.2.2.2.1 j)) (hl : ∀ j, j < 25 → bl (s.2.2.2.2.2 j)) : ∀ k, ∀ j, j < 25 → bl ((rdS s a k).2.2.2.2.2 j)
  | 0 => hl
  | k + 1 => cpS_bl (by rw [(rdS_p s a k).2.2.2.1]; exact hm) (by rw [(rdS_p s a k).2.2.2.2]; exact hv) (rdS_bl hs h1 ha hm hv hl k) (Nat.lt_of_lt_of_le (Nat.mod_lt k h1) hs) ha

set_option maxRecDepth 100000 in
set_option maxHeartbeats 4000000 in
/-- X5_copy -/
theorem c_X5_copy (l : Launch) (G : xG) (a : Nat → Nat) (na : Nat) (nk : Nat) (ns : Nat) (nl : Nat) (pa : Nat) (rp : Nat) (rq : Nat) (kd : Nat → Int32) (W : Nat → Int32) (Kp : Nat → Int32) (sg : Nat → Int32) (le : Nat → Int32) (tl : Nat → Int32) (rk : Nat → Int32) (rd : Nat → Int32) (nw : Nat → Int32) (rw : Nat → Int32) (s : xS) (i : Int32) (j : Int32) (k : Int32) (hs6 : s.1 ≤ 6) (hs1 : 0 < s.1) (hq5 : s.2.1 ≤ 5) (hq1 : 0 < s.2.1) (hkd : ∀ p, p < s.1 → kd p = s.2.2.1 p) (hmi : ∀ j, j < 6 → inR (s.2.2.2.1 j) 6 = true) (hbv : ∀ j, j < 30 → bd (s.2.2.2.2.1 j)) (hbl : ∀ j, j < 25 → bl (s.2.2.2.2.2 j)) (hna : na ≤ 8) : xM l G xE0 yX5_copy cX5_copy 4 (some .int) 3 74 0 0 [.ref (a 0), .int i, .int j, .int k] (wMo G a s.1 s.2.1 na nk ns nl pa rp rq kd (en s) W Kp sg le tl rk rd nw rw) (some (.int (F_copy s i j k))) (fun w2 => ∃ nw' : Nat → Int32, w2 = wMo G a s.1 s.2.1 (mN (F_copyOk s i j k) na) nk ns nl pa rp rq kd (en (F_copyS s i j k)) (mWb (F_copyOk s i j k) W (en s) na) Kp sg le tl rk rd nw' rw) := by
  refine x_entry (by decide +kernel) (Nat.le_of_ble_eq_true rfl) rfl ⟨_, rfl, rfl⟩ (fun K X => ?_)
  refine x_aloadn X dX5_copy_0 0 rfl ?_
  refine x_iloadn X dX5_copy_1 1 rfl ?_
  refine x_callVrv (As := [.int i]) (rest := []) X (c_X5_isPaper l G a s.1 s.2.1 na nk ns nl pa rp rq kd (en s) W Kp sg le tl rk rd nw rw i (by omega) (by omega)) xE0_ok (fun _ _ _ => trivial) [0, 1, 2, 3, 4, 5, 6, 7, 8, 9, 10, 11] rfl 0 rfl rfl rfl rfl wco_X5_isPaper wi_X5 xd_X5_isPaper wl_X5_137 win_X5_isPaper wse_X5_isPaper (by decide) (Nat.le_of_ble_eq_true rfl) dX5_copy_2 ?_
  refine x_ifeq_b 29 X dX5_copy_5 (by decide) (fun c_1 => ?_) (fun c_1 => ?_)
  · -- 5 t
    refine x_iconst (v := (-1)) X dX5_copy_29 (by decide) ?_
    exact x_ret X dX5_copy_30 ⟨ret_i (by simp [F_copy, F_copyOk, tn, cpS, c_1]), ⟨nw, (by have ho : F_copyOk s i j k = false := (by simp [F_copyOk, tn, c_1]); simp only [F_copyS, mN, mWb, ho, tn, wr_wf, Bool.false_eq_true, if_false, if_true, if_true] <;> rfl)⟩, by decide, by decide⟩
  · -- 5 f
    obtain ⟨iN, hiN, rfl⟩ := inR_nat c_1 (by omega)
    have qiN : (nI iN).toNatClampNeg = iN := nI_clamp (by omega)
    refine x_aloadn X dX5_copy_8 0 rfl ?_
    refine x_iloadn X dX5_copy_9 2 rfl ?_
    refine x_callVrv (As := [.int j]) (rest := []) X (c_X5_isPaper l G a s.1 s.2.1 na nk ns nl pa rp rq kd (en s) W Kp sg le tl rk rd nw rw j (by omega) (by omega)) xE0_ok (fun _ _ _ => trivial) [0, 1, 2, 3, 4, 5, 6, 7, 8, 9, 10, 11] rfl 0 rfl rfl rfl rfl wco_X5_isPaper wi_X5 xd_X5_isPaper wl_X5_137 win_X5_isPaper wse_X5_isPaper (by decide) (Nat.le_of_ble_eq_true rfl) dX5_copy_10 ?_
    refine x_ifeq_b 29 X dX5_copy_13 (by decide) (fun c_2 => ?_) (fun c_2 => ?_)
    · -- 13 t
      refine x_iconst (v := (-1)) X dX5_copy_29 (by decide) ?_
      exact x_ret X dX5_copy_30 ⟨ret_i (by simp [F_copy, F_copyOk, tn, cpS, c_1, qiN, c_2]), ⟨nw, (by have ho : F_copyOk s (nI iN) j k = false := (by simp [F_copyOk, tn, c_1, qiN, c_2]); simp only [F_copyS, mN, mWb, ho, tn, wr_wf, Bool.false_eq_true, if_false, if_true, qiN] <;> rfl)⟩, by decide, by decide⟩
    · -- 13 f
      obtain ⟨jN, hjN, rfl⟩ := inR_nat c_2 (by omega)
      have qjN : (nI jN).toNatClampNeg = jN := nI_clamp (by omega)
      refine x_iloadn X dX5_copy_16 1 rfl ?_
      refine x_iloadn X dX5_copy_17 2 rfl ?_
      refine x_icmp_eq_n 29 X dX5_copy_18 (by decide) (by omega) (by omega) (fun c_3 => ?_) (fun c_3 => ?_)
      · -- 18 t
        have heq : nI iN = nI jN := congrArg nI c_3
        refine x_iconst (v := (-1)) X dX5_copy_29 (by decide) ?_
        exact x_ret X dX5_copy_30 ⟨ret_i (by simp [F_copy, F_copyOk, tn, cpS, c_1, qiN, c_2, qjN, heq]), ⟨nw, (by have ho : F_copyOk s (nI iN) (nI jN) k = false := (by simp [F_copyOk, tn, c_1, qiN, c_2, qjN, heq]); simp only [F_copyS, mN, mWb, ho, tn, wr_wf, Bool.false_eq_true, if_false, if_true, qiN, qjN] <;> rfl)⟩, by decide, by decide⟩
      · -- 18 f
        have hne : ¬ nI iN = nI jN := fun q => c_3 ((nI_eq (by omega) (by omega)).mp q)
        refine x_aloadn X dX5_copy_21 0 rfl ?_
        refine x_iloadn X dX5_copy_22 3 rfl ?_
        refine x_callVrv (As := [.int k]) (rest := []) X (c_X5_isPerson l G a s.1 s.2.1 na nk ns nl pa rp rq kd (en s) W Kp sg le tl rk rd nw rw k (by omega) (by omega)) xE0_ok (fun _ _ _ => trivial) [0, 1, 2, 3, 4, 5, 6, 7, 8, 9, 10, 11] rfl 0 rfl rfl rfl rfl wco_X5_isPerson wi_X5 xd_X5_isPerson wl_X5_131 win_X5_isPerson wse_X5_isPerson (by decide) (Nat.le_of_ble_eq_true rfl) dX5_copy_23 ?_
        refine x_ifne_b 31 X dX5_copy_26 (by decide) (fun c_4 => ?_) (fun c_4 => ?_)
        · -- 26 t
          obtain ⟨kN, hkN, rfl⟩ := inR_nat c_4 (by omega)
          have qkN : (nI kN).toNatClampNeg = kN := nI_clamp (by omega)
          refine x_aloadn X dX5_copy_31 0 rfl ?_
          refine x_callVf0 (As := []) (rest := []) (w1 := wMo G a s.1 s.2.1 (mNa na) nk ns nl pa rp rq kd (en s) (mW W (en s) na) Kp sg le tl rk rd nw rw) (ws' := wMo G a s.1 s.2.1 (mNa na) nk ns nl pa rp rq kd (en s) (mW W (en s) na) Kp sg le tl rk rd nw rw) X (c_X5_remembers l G a s.1 s.2.1 na nk ns nl pa rp rq kd W Kp sg le tl rk rd nw rw s (by omega)) xE0_ok (fun _ _ _ => trivial) [0, 1, 2, 3, 4, 5, 6, 7, 8, 9, 10, 11] rfl 0 rfl rfl rfl rfl wco_X5_remembers wi_X5 xd_X5_remembers wl_X5_150 win_X5_remembers wse_X5_remembers (by decide) (Nat.le_of_ble_eq_true rfl) dX5_copy_32 rfl (Eq.trans (b := [a 0, a 1, a 2, a 3, a 4, a 5, a 6, a 7, a 8, a 9, a 10, a 11]) rfl rfl) rfl ?_
          refine x_aloadn X dX5_copy_35 0 rfl ?_
          refine x_callVf0 (As := []) (rest := []) (w1 := wMo G a s.1 s.2.1 (mNa na) nk ns nl pa rp rq kd (en s) (mW W (en s) na) Kp sg le tl rk rd (en s) rw) (ws' := wMo G a s.1 s.2.1 (mNa na) nk ns nl pa rp rq kd (en s) (mW W (en s) na) Kp sg le tl rk rd (en s) rw) X (c_X5_asItIs l G a s.1 s.2.1 (mNa na) nk ns nl pa rp rq kd (en s) (mW W (en s) na) Kp sg le tl rk rd nw rw) xE0_ok (fun _ _ _ => trivial) [0, 1, 2, 3, 4, 5, 6, 7, 8, 9, 10, 11] rfl 0 rfl rfl rfl rfl wco_X5_asItIs wi_X5 xd_X5_asItIs wl_X5_143 win_X5_asItIs wse_X5_asItIs (by decide) (Nat.le_of_ble_eq_true rfl) dX5_copy_36 rfl (Eq.trans (b := [a 0, a 1, a 2, a 3, a 4, a 5, a 6, a 7, a 8, a 9, a 10, a 11]) rfl rfl) rfl ?_
          refine x_aloadn X dX5_copy_39 0 rfl ?_
          refine x_iloadn X dX5_copy_40 1 rfl ?_
          refine x_iloadn X dX5_copy_41 2 rfl ?_
          refine x_iloadn X dX5_copy_42 3 rfl ?_
          refine x_callVf0 (As := [.int (nI iN), .int (nI jN), .int (nI kN)]) (rest := []) (w1 := wMo G a s.1 s.2.1 (mNa na) nk ns nl pa rp rq kd (en s) (mW W (en s) na) Kp sg le tl rk rd (en (cpS s kN iN jN 5)) rw) (ws' := wMo G a s.1 s.2.1 (mNa na) nk ns nl pa rp rq kd (en s) (mW W (en s) na) Kp sg le tl rk rd (en (cpS s kN iN jN 5)) rw) X (c_X5_copying l G a s.1 s.2.1 (mNa na) nk ns nl pa rp rq kd (en s) (mW W (en s) na) Kp sg le tl rk rd rw s iN jN kN (by omega) (by omega) (by omega) (hkd _ (by omega)) (by assumption) (by assumption) (by assumption)) xE0_ok (fun _ _ _ => trivial) [0, 1, 2, 3, 4, 5, 6, 7, 8, 9, 10, 11] rfl 0 rfl rfl rfl rfl wco_X5_copying wi_X5 xd_X5_copying wl_X5_153 win_X5_copying wse_X5_copying (by decide) (Nat.le_of_ble_eq_true rfl) dX5_copy_43 rfl (Eq.trans (b := [a 0, a 1, a 2, a 3, a 4, a 5, a 6, a 7, a 8, a 9, a 10, a 11]) rfl rfl) rfl ?_
          refine x_aloadn X dX5_copy_46 0 rfl ?_
          refine x_get X wu_X5 0 rfl rfl 3 (by decide) wf_X5_13 rfl rfl dX5_copy_47 ?_
          refine x_iconst (v := nI 0) X dX5_copy_50 (by decide) ?_
          refine x_aloadn X dX5_copy_51 0 rfl ?_
          refine x_get X wu_X5 0 rfl rfl 18 (by decide) wf_X5_37 rfl rfl dX5_copy_52 ?_
          refine x_iconst (v := nI 0) X dX5_copy_55 (by decide) ?_
          refine x_callSf0 (As := [.ref (a 2), .int (nI 0), .ref (a 10), .int (nI 0)]) (rest := []) (w1 := xJ [wIA G (a 2) 61 (va_cpy (en (cpS s kN iN jN 5)) (en s) 0 0 61), wIA G (a 10) 61 (en (cpS s kN iN jN 5))]) (ws' := wMo G a s.1 s.2.1 (mNa na) nk ns nl pa rp rq kd (va_cpy (en (cpS s kN iN jN 5)) (en s) 0 0 61) (mW W (en s) na) Kp sg le tl rk rd (en (cpS s kN iN jN 5)) rw) X (c_X5_copies l G (a 2) 61 (en s) (a 10) 61 (en (cpS s kN iN jN 5)) 0 0 (by omega) (by omega) (by omega) (by omega)) xE0_ok (fun _ _ _ => trivial) [2, 10] rfl rfl rfl wco_X5_copies wi_X5 xd_X5_copies wl_X5_107 wst_X5_copies (by decide) (Nat.le_of_ble_eq_true rfl) dX5_copy_56 rfl (Eq.trans (b := [a 2, a 10]) rfl rfl) rfl ?_
          refine x_rowc (ws' := wMo G a s.1 s.2.1 (mNa na) nk ns nl pa rp rq kd (en (cpS s kN iN jN 5)) (mW W (en s) na) Kp sg le tl rk rd (en (cpS s kN iN jN 5)) rw) (en (cpS s kN iN jN 5)) X 2 rfl (fun k hk => by simp [va_cpy]; omega) rfl ?_
          refine x_aloadn X dX5_copy_59 0 rfl ?_
          refine x_iloadn X dX5_copy_60 2 rfl ?_
          refine x_callVrv (As := [.int (nI jN)]) (rest := []) X (c_X5_filled l G a s.1 s.2.1 (mNa na) nk ns nl pa rp rq kd (en (cpS s kN iN jN 5)) (mW W (en s) na) Kp sg le tl rk rd rw (cpS s kN iN jN 5) jN (by omega) (cpS_bl hmi hbv hbl (by omega) (by omega))) xE0_ok (fun _ _ _ => trivial) [0, 1, 2, 3, 4, 5, 6, 7, 8, 9, 10, 11] rfl 0 rfl rfl rfl rfl wco_X5_filled wi_X5 xd_X5_filled wl_X5_157 win_X5_filled wse_X5_filled (by decide) (Nat.le_of_ble_eq_true rfl) dX5_copy_61 ?_
          exact x_ret X dX5_copy_64 ⟨ret_i (by simp [F_copy, F_copyOk, tn, cpS, c_1, qiN, c_2, qjN, c_3, hne, c_4, qkN]), ⟨(en (cpS s kN iN jN 5)), (by have ho : F_copyOk s (nI iN) (nI jN) (nI kN) = true := (by simp [F_copyOk, tn, c_1, qiN, c_2, qjN, c_3, hne, c_4, qkN]); simp only [F_copyS, mN, mWb, ho, tn, wr_wf, Bool.false_eq_true, if_false, if_true, qiN, qjN, qkN] <;> rfl)⟩, by decide, by decide⟩
        · -- 26 f
          refine x_iconst (v := (-1)) X dX5_copy_29 (by decide) ?_
          exact x_ret X dX5_copy_30 ⟨ret_i (by simp [F_copy, F_copyOk, tn, cpS, c_1, qiN, c_2, qjN, c_3, hne, c_4]), ⟨nw, (by have ho : F_copyOk s (nI iN) (nI jN) k = false := (by simp [F_copyOk, tn, c_1, qiN, c_2, qjN, c_3, hne, c_4]); simp only [F_copyS, mN, mWb, ho, tn, wr_wf, Bool.false_eq_true, if_false, if_true, qiN, qjN] <;> rfl)⟩, by decide, by decide⟩
set_option maxRecDepth 100000 in
set_option maxHeartbeats 4000000 in
/-- X5_undo -/
theorem c_X5_undo (l : Launch) (G : xG) (a : Nat → Nat) (na : Nat) (nk : Nat) (ns : Nat) (nl : Nat) (pa : Nat) (rp : Nat) (rq : Nat) (kd : Nat → Int32) (W : Nat → Int32) (Kp : Nat → Int32) (sg : Nat → Int32) (le : Nat → Int32) (tl : Nat → Int32) (rk : Nat → Int32) (rd : Nat → Int32) (nw : Nat → Int32) (rw : Nat → Int32) (s : xS) (us : Nat → xS) (hW : ∀ j, j < na → ∀ i, i < 61 → W (61 * j + i) = en (us j) i) (hna : na ≤ 8) : xM l G xE0 yX5_undo cX5_undo 1 (some .int) 1 24 0 0 [.ref (a 0)] (wMo G a s.1 s.2.1 na nk ns nl pa rp rq kd (en s) W Kp sg le tl rk rd nw rw) (some (.int (F_undo na))) (fun w2 => w2 = wMo G a s.1 s.2.1 (na - 1) nk ns nl pa rp rq kd (en (mUn s us na)) W Kp sg le tl rk rd nw rw) := by
  refine x_entry (by decide +kernel) (Nat.le_of_ble_eq_true rfl) rfl ⟨_, rfl, rfl⟩ (fun K X => ?_)
  rcases Nat.eq_zero_or_pos na with rfl | h0
  · -- 0
    refine x_aloadn X dX5_undo_0 0 rfl ?_
    refine x_get X wu_X5 0 rfl rfl 4 (by decide) wf_X5_111 rfl rfl dX5_undo_1 ?_
    refine x_if_ne_n 10 X dX5_undo_4 (by decide) (by omega) (fun c_1 => ?_) (fun c_1 => ?_)
    · -- 4 t
      exact absurd c_1 (by omega)
    · -- 4 f
      refine x_bipush (v := (-2)) X dX5_undo_7 (by decide) ?_
      exact x_ret X dX5_undo_9 ⟨ret_i (by rfl), rfl, by decide, by decide⟩
  · -- some
    refine x_aloadn X dX5_undo_0 0 rfl ?_
    refine x_get X wu_X5 0 rfl rfl 4 (by decide) wf_X5_111 rfl rfl dX5_undo_1 ?_
    refine x_if_ne_n 10 X dX5_undo_4 (by decide) (by omega) (fun c_2 => ?_) (fun c_2 => ?_)
    · -- 4 t
      refine x_aloadn X dX5_undo_10 0 rfl ?_
      refine x_dup X dX5_undo_11 rfl ?_
      refine x_get X wu_X5 0 rfl rfl 4 (by decide) wf_X5_111 rfl rfl dX5_undo_12 ?_
      refine x_iconst (v := nI 1) X dX5_undo_15 (by decide) ?_
      refine x_isub (v := nI (na - 1)) X dX5_undo_16 (pk_sub (by omega)) ?_
      refine x_put (ws' := wMo G a s.1 s.2.1 (na - 1) nk ns nl pa rp rq kd (en s) W Kp sg le tl rk rd nw rw) (ty := tyX5 4) X wu_X5 tyX5_ok nmX5 0 rfl rfl 4 (by decide) wf_X5_111 rfl rfl (by decide +kernel) rfl rfl (Nat.le_of_ble_eq_true rfl) rfl dX5_undo_17 ?_
      refine x_aloadn X dX5_undo_20 0 rfl ?_
      refine x_get X wu_X5 0 rfl rfl 3 (by decide) wf_X5_13 rfl rfl dX5_undo_21 ?_
      refine x_iconst (v := nI 0) X dX5_undo_24 (by decide) ?_
      refine x_aloadn X dX5_undo_25 0 rfl ?_
      refine x_get X wu_X5 0 rfl rfl 5 (by decide) wf_X5_16 rfl rfl dX5_undo_26 ?_
      refine x_bipush (v := nI 61) X dX5_undo_29 (by decide) ?_
      refine x_aloadn X dX5_undo_31 0 rfl ?_
      refine x_get X wu_X5 0 rfl rfl 4 (by decide) wf_X5_111 rfl rfl dX5_undo_32 ?_
      refine x_imul (v := nI (61 * (na - 1))) X dX5_undo_35 (pk_mul _ _) ?_
      refine x_callSf0 (As := [.ref (a 2), .int (nI 0), .ref (a 3), .int (nI (61 * (na - 1)))]) (rest := []) (w1 := xJ [wIA G (a 2) 61 (va_cpy W (en s) (61 * (na - 1)) 0 61), wIA G (a 3) 488 W]) (ws' := wMo G a s.1 s.2.1 (na - 1) nk ns nl pa rp rq kd (va_cpy W (en s) (61 * (na - 1)) 0 61) W Kp sg le tl rk rd nw rw) X (c_X5_copies l G (a 2) 61 (en s) (a 3) 488 W 0 (61 * (na - 1)) (by omega) (by omega) (by omega) (by omega)) xE0_ok (fun _ _ _ => trivial) [2, 3] rfl rfl rfl wco_X5_copies wi_X5 xd_X5_copies wl_X5_107 wst_X5_copies (by decide) (Nat.le_of_ble_eq_true rfl) dX5_undo_36 rfl (Eq.trans (b := [a 2, a 3]) rfl rfl) rfl ?_
      refine x_rowc (ws' := wMo G a s.1 s.2.1 (na - 1) nk ns nl pa rp rq kd (en (us (na - 1))) W Kp sg le tl rk rd nw rw) (en (us (na - 1))) X 2 rfl (fun k hk => by rw [va_cpy, if_pos (by omega)]; exact hW _ (by omega) _ (by omega)) rfl ?_
      refine x_aloadn X dX5_undo_39 0 rfl ?_
      refine x_get X wu_X5 0 rfl rfl 4 (by decide) wf_X5_111 rfl rfl dX5_undo_40 ?_
      exact x_ret X dX5_undo_43 ⟨ret_i (by first | (exfalso; omega) | rw [F_undo, if_neg (by omega)]), (by first | (exfalso; omega) | rw [mUn, if_neg (by omega)]), by decide, by decide⟩
    · -- 4 f
      refine x_bipush (v := (-2)) X dX5_undo_7 (by decide) ?_
      exact x_ret X dX5_undo_9 ⟨ret_i (by first | (exfalso; omega) | rw [F_undo, if_neg (by omega)]), (by first | (exfalso; omega) | rw [mUn, if_neg (by omega)]), by decide, by decide⟩
set_option maxRecDepth 100000 in
set_option maxHeartbeats 4000000 in
/-- X5_back -/
theorem c_X5_back (l : Launch) (G : xG) (a : Nat → Nat) (na : Nat) (nk : Nat) (ns : Nat) (nl : Nat) (pa : Nat) (rp : Nat) (rq : Nat) (kd : Nat → Int32) (W : Nat → Int32) (Kp : Nat → Int32) (sg : Nat → Int32) (le : Nat → Int32) (tl : Nat → Int32) (rk : Nat → Int32) (rd : Nat → Int32) (nw : Nat → Int32) (rw : Nat → Int32) (s : xS) (us : Nat → xS) (hW : ∀ j, j < nk → ∀ i, i < 61 → Kp (61 * j + i) = en (us j) i) (hnk : nk ≤ 2) : xM l G xE0 yX5_back cX5_back 1 (some .int) 1 24 0 0 [.ref (a 0)] (wMo G a s.1 s.2.1 na nk ns nl pa rp rq kd (en s) W Kp sg le tl rk rd nw rw) (some (.int (F_undo nk))) (fun w2 => w2 = wMo G a s.1 s.2.1 (if nk = 0 then na else 0) (nk - 1) ns nl pa rp rq kd (en (mUn s us nk)) W Kp sg le tl rk rd nw rw) := by
  refine x_entry (by decide +kernel) (Nat.le_of_ble_eq_true rfl) rfl ⟨_, rfl, rfl⟩ (fun K X => ?_)
  rcases Nat.eq_zero_or_pos nk with rfl | h0
  · -- 0
    refine x_aloadn X dX5_back_0 0 rfl ?_
    refine x_get X wu_X5 0 rfl rfl 6 (by decide) wf_X5_114 rfl rfl dX5_back_1 ?_
    refine x_if_ne_n 10 X dX5_back_4 (by decide) (by omega) (fun c_1 => ?_) (fun c_1 => ?_)
    · -- 4 t
      exact absurd c_1 (by omega)
    · -- 4 f
      refine x_bipush (v := (-2)) X dX5_back_7 (by decide) ?_
      exact x_ret X dX5_back_9 ⟨ret_i (by rfl), rfl, by decide, by decide⟩
  · -- some
    refine x_aloadn X dX5_back_0 0 rfl ?_
    refine x_get X wu_X5 0 rfl rfl 6 (by decide) wf_X5_114 rfl rfl dX5_back_1 ?_
    refine x_if_ne_n 10 X dX5_back_4 (by decide) (by omega) (fun c_2 => ?_) (fun c_2 => ?_)
    · -- 4 t
      refine x_aloadn X dX5_back_10 0 rfl ?_
      refine x_dup X dX5_back_11 rfl ?_
      refine x_get X wu_X5 0 rfl rfl 6 (by decide) wf_X5_114 rfl rfl dX5_back_12 ?_
      refine x_iconst (v := nI 1) X dX5_back_15 (by decide) ?_
      refine x_isub (v := nI (nk - 1)) X dX5_back_16 (pk_sub (by omega)) ?_
      refine x_put (ws' := wMo G a s.1 s.2.1 na (nk - 1) ns nl pa rp rq kd (en s) W Kp sg le tl rk rd nw rw) (ty := tyX5 6) X wu_X5 tyX5_ok nmX5 0 rfl rfl 6 (by decide) wf_X5_114 rfl rfl (by decide +kernel) rfl rfl (Nat.le_of_ble_eq_true rfl) rfl dX5_back_17 ?_
      refine x_aloadn X dX5_back_20 0 rfl ?_
      refine x_get X wu_X5 0 rfl rfl 3 (by decide) wf_X5_13 rfl rfl dX5_back_21 ?_
      refine x_iconst (v := nI 0) X dX5_back_24 (by decide) ?_
      refine x_aloadn X dX5_back_25 0 rfl ?_
      refine x_get X wu_X5 0 rfl rfl 7 (by decide) wf_X5_19 rfl rfl dX5_back_26 ?_
      refine x_bipush (v := nI 61) X dX5_back_29 (by decide) ?_
      refine x_aloadn X dX5_back_31 0 rfl ?_
      refine x_get X wu_X5 0 rfl rfl 6 (by decide) wf_X5_114 rfl rfl dX5_back_32 ?_
      refine x_imul (v := nI (61 * (nk - 1))) X dX5_back_35 (pk_mul _ _) ?_
      refine x_callSf0 (As := [.ref (a 2), .int (nI 0), .ref (a 4), .int (nI (61 * (nk - 1)))]) (rest := []) (w1 := xJ [wIA G (a 2) 61 (va_cpy Kp (en s) (61 * (nk - 1)) 0 61), wIA G (a 4) 122 Kp]) (ws' := wMo G a s.1 s.2.1 na (nk - 1) ns nl pa rp rq kd (va_cpy Kp (en s) (61 * (nk - 1)) 0 61) W Kp sg le tl rk rd nw rw) X (c_X5_copies l G (a 2) 61 (en s) (a 4) 122 Kp 0 (61 * (nk - 1)) (by omega) (by omega) (by omega) (by omega)) xE0_ok (fun _ _ _ => trivial) [2, 4] rfl rfl rfl wco_X5_copies wi_X5 xd_X5_copies wl_X5_107 wst_X5_copies (by decide) (Nat.le_of_ble_eq_true rfl) dX5_back_36 rfl (Eq.trans (b := [a 2, a 4]) rfl rfl) rfl ?_
      refine x_rowc (ws' := wMo G a s.1 s.2.1 na (nk - 1) ns nl pa rp rq kd (en (us (nk - 1))) W Kp sg le tl rk rd nw rw) (en (us (nk - 1))) X 2 rfl (fun k hk => by rw [va_cpy, if_pos (by omega)]; exact hW _ (by omega) _ (by omega)) rfl ?_
      refine x_aloadn X dX5_back_39 0 rfl ?_
      refine x_iconst (v := nI 0) X dX5_back_40 (by decide) ?_
      refine x_put (ws' := wMo G a s.1 s.2.1 0 (nk - 1) ns nl pa rp rq kd (en (us (nk - 1))) W Kp sg le tl rk rd nw rw) (ty := tyX5 4) X wu_X5 tyX5_ok nmX5 0 rfl rfl 4 (by decide) wf_X5_111 rfl rfl (by decide +kernel) rfl rfl (Nat.le_of_ble_eq_true rfl) rfl dX5_back_41 ?_
      refine x_aloadn X dX5_back_44 0 rfl ?_
      refine x_get X wu_X5 0 rfl rfl 6 (by decide) wf_X5_114 rfl rfl dX5_back_45 ?_
      exact x_ret X dX5_back_48 ⟨ret_i (by first | (exfalso; omega) | rw [F_undo, if_neg (by omega)]), (by first | (exfalso; omega) | rw [mUn, if_neg (by omega), if_neg (by omega)]), by decide, by decide⟩
    · -- 4 f
      refine x_bipush (v := (-2)) X dX5_back_7 (by decide) ?_
      exact x_ret X dX5_back_9 ⟨ret_i (by first | (exfalso; omega) | rw [F_undo, if_neg (by omega)]), (by first | (exfalso; omega) | rw [mUn, if_neg (by omega), if_neg (by omega)]), by decide, by decide⟩
set_option maxRecDepth 100000 in
set_option maxHeartbeats 4000000 in
/-- X5_keep -/
theorem c_X5_keep (l : Launch) (G : xG) (a : Nat → Nat) (na : Nat) (nk : Nat) (ns : Nat) (nl : Nat) (pa : Nat) (rp : Nat) (rq : Nat) (kd : Nat → Int32) (W : Nat → Int32) (Kp : Nat → Int32) (sg : Nat → Int32) (le : Nat → Int32) (tl : Nat → Int32) (rk : Nat → Int32) (rd : Nat → Int32) (nw : Nat → Int32) (rw : Nat → Int32) (s : xS) (hnk : nk ≤ 2) : xM l G xE0 yX5_keep cX5_keep 1 (some .int) 1 24 0 0 [.ref (a 0)] (wMo G a s.1 s.2.1 na nk ns nl pa rp rq kd (en s) W Kp sg le tl rk rd nw rw) (some (.int (F_keep nk))) (fun w2 => w2 = wMo G a s.1 s.2.1 na (kSz nk) ns nl pa rp rq kd (en s) W (mKp Kp (en s) nk) sg le tl rk rd nw rw) := by
  refine x_entry (by decide +kernel) (Nat.le_of_ble_eq_true rfl) rfl ⟨_, rfl, rfl⟩ (fun K X => ?_)
  refine x_aloadn X dX5_keep_0 0 rfl ?_
  refine x_get X wu_X5 0 rfl rfl 6 (by decide) wf_X5_114 rfl rfl dX5_keep_1 ?_
  refine x_iconst (v := nI 2) X dX5_keep_4 (by decide) ?_
  refine x_icmp_ne_n 11 X dX5_keep_5 (by decide) (by omega) (by omega) (fun c_1 => ?_) (fun c_1 => ?_)
  · -- 5 t
    refine x_aloadn X dX5_keep_11 0 rfl ?_
    refine x_get X wu_X5 0 rfl rfl 7 (by decide) wf_X5_19 rfl rfl dX5_keep_12 ?_
    refine x_bipush (v := nI 61) X dX5_keep_15 (by decide) ?_
    refine x_aloadn X dX5_keep_17 0 rfl ?_
    refine x_get X wu_X5 0 rfl rfl 6 (by decide) wf_X5_114 rfl rfl dX5_keep_18 ?_
    refine x_imul (v := nI (61 * nk)) X dX5_keep_21 (pk_mul _ _) ?_
    refine x_aloadn X dX5_keep_22 0 rfl ?_
    refine x_get X wu_X5 0 rfl rfl 3 (by decide) wf_X5_13 rfl rfl dX5_keep_23 ?_
    refine x_iconst (v := nI 0) X dX5_keep_26 (by decide) ?_
    refine x_callSf0 (As := [.ref (a 4), .int (nI (61 * nk)), .ref (a 2), .int (nI 0)]) (rest := []) (w1 := xJ [wIA G (a 4) 122 (va_cpy (en s) Kp 0 (61 * nk) 61), wIA G (a 2) 61 (en s)]) (ws' := wMo G a s.1 s.2.1 na nk ns nl pa rp rq kd (en s) W (va_cpy (en s) Kp 0 (61 * nk) 61) sg le tl rk rd nw rw) X (c_X5_copies l G (a 4) 122 Kp (a 2) 61 (en s) (61 * nk) 0 (by omega) (by omega) (by omega) (by omega)) xE0_ok (fun _ _ _ => trivial) [4, 2] rfl rfl rfl wco_X5_copies wi_X5 xd_X5_copies wl_X5_107 wst_X5_copies (by decide) (Nat.le_of_ble_eq_true rfl) dX5_keep_27 rfl (Eq.trans (b := [a 4, a 2]) rfl rfl) rfl ?_
    refine x_aloadn X dX5_keep_30 0 rfl ?_
    refine x_dup X dX5_keep_31 rfl ?_
    refine x_get X wu_X5 0 rfl rfl 6 (by decide) wf_X5_114 rfl rfl dX5_keep_32 ?_
    refine x_iconst (v := nI 1) X dX5_keep_35 (by decide) ?_
    refine x_iadd (v := nI (nk + 1)) X dX5_keep_36 (nI_add _ _) ?_
    refine x_put (ws' := wMo G a s.1 s.2.1 na (nk + 1) ns nl pa rp rq kd (en s) W (va_cpy (en s) Kp 0 (61 * nk) 61) sg le tl rk rd nw rw) (ty := tyX5 6) X wu_X5 tyX5_ok nmX5 0 rfl rfl 6 (by decide) wf_X5_114 rfl rfl (by decide +kernel) rfl rfl (Nat.le_of_ble_eq_true rfl) rfl dX5_keep_37 ?_
    refine x_aloadn X dX5_keep_40 0 rfl ?_
    refine x_get X wu_X5 0 rfl rfl 6 (by decide) wf_X5_114 rfl rfl dX5_keep_41 ?_
    exact x_ret X dX5_keep_44 ⟨ret_i (by rw [F_keep, if_pos (by omega)]), (by rw [kSz, mKp, if_pos (by omega), if_pos (by omega)]), by decide, by decide⟩
  · -- 5 f
    refine x_bipush (v := (-3)) X dX5_keep_8 (by decide) ?_
    exact x_ret X dX5_keep_10 ⟨ret_i (by rw [F_keep, if_neg (by omega)]), (by rw [kSz, mKp, if_neg (by omega), if_neg (by omega)]), by decide, by decide⟩
set_option maxRecDepth 100000 in
set_option maxHeartbeats 4000000 in
/-- X5_sign -/
theorem c_X5_sign (l : Launch) (G : xG) (a : Nat → Nat) (np : Nat) (nq : Nat) (na : Nat) (nk : Nat) (ns : Nat) (nl : Nat) (pa : Nat) (rp : Nat) (rq : Nat) (kd : Nat → Int32) (S : Nat → Int32) (W : Nat → Int32) (Kp : Nat → Int32) (sg : Nat → Int32) (le : Nat → Int32) (tl : Nat → Int32) (rk : Nat → Int32) (rd : Nat → Int32) (nw : Nat → Int32) (rw : Nat → Int32) (i : Int32) (j : Int32) (hns : ns ≤ 6) : xM l G xE0 yX5_sign cX5_sign 3 (some .int) 2 42 0 0 [.ref (a 0), .int i, .int j] (wMo G a np nq na nk ns nl pa rp rq kd S W Kp sg le tl rk rd nw rw) (some (.int (F_sign i j ns))) (fun w2 => w2 = wMo G a np nq na nk (F_sNs i j ns) nl pa rp rq kd S W Kp (mSg (F_sOk i j) i j sg ns) le tl rk rd nw rw) := by
  refine x_entry (by decide +kernel) (Nat.le_of_ble_eq_true rfl) rfl ⟨_, rfl, rfl⟩ (fun K X => ?_)
  refine x_iloadn X dX5_sign_0 1 rfl ?_
  refine x_callSrv (As := [.int i]) (rest := []) X (c_X5_isTheme l G i) xE0_ok (fun _ _ _ => trivial) [] rfl rfl rfl wco_X5_isTheme wi_X5 xd_X5_isTheme wl_X5_134 wst_X5_isTheme (by decide) (Nat.le_of_ble_eq_true rfl) dX5_sign_1 ?_
  refine x_ifeq_b 17 X dX5_sign_4 (by decide) (fun c_1 => ?_) (fun c_1 => ?_)
  · -- 4 t
    refine x_iconst (v := (-1)) X dX5_sign_17 (by decide) ?_
    exact x_ret X dX5_sign_18 ⟨ret_i (by simp [F_sign, F_sOk, c_1]), (by simp only [mSg, F_sNs, F_sOk]; simp [c_1]), by decide, by decide⟩
  · -- 4 f
    obtain ⟨iN, hiN, rfl⟩ := inR_nat c_1 (by omega)
    have qiN : (nI iN).toNatClampNeg = iN := nI_clamp (by omega)
    refine x_iloadn X dX5_sign_7 2 rfl ?_
    refine x_iconst (v := nI 0) X dX5_sign_8 (by decide) ?_
    refine x_bipush (v := nI 18) X dX5_sign_9 (by decide) ?_
    refine x_callSrv (As := [.int j, .int (nI 0), .int (nI 18)]) (rest := []) X (c_X5_in__R l G j 18 (by omega)) xE0_ok (fun _ _ _ => trivial) [] rfl rfl rfl wco_X5_in wi_X5 xd_X5_in wl_X5_63 wst_X5_in (by decide) (Nat.le_of_ble_eq_true rfl) dX5_sign_11 ?_
    refine x_ifne_b 19 X dX5_sign_14 (by decide) (fun c_2 => ?_) (fun c_2 => ?_)
    · -- 14 t
      obtain ⟨jN, hjN, rfl⟩ := inR_nat c_2 (by omega)
      have qjN : (nI jN).toNatClampNeg = jN := nI_clamp (by omega)
      refine x_aloadn X dX5_sign_19 0 rfl ?_
      refine x_get X wu_X5 0 rfl rfl 8 (by decide) wf_X5_117 rfl rfl dX5_sign_20 ?_
      refine x_bipush (v := nI 6) X dX5_sign_23 (by decide) ?_
      refine x_icmp_ne_n 31 X dX5_sign_25 (by decide) (by omega) (by omega) (fun c_3 => ?_) (fun c_3 => ?_)
      · -- 25 t
        have h6 : ns < 6 := by omega
        refine x_aloadn X dX5_sign_31 0 rfl ?_
        refine x_get X wu_X5 0 rfl rfl 9 (by decide) wf_X5_22 rfl rfl dX5_sign_32 ?_
        refine x_iconst (v := nI 2) X dX5_sign_35 (by decide) ?_
        refine x_aloadn X dX5_sign_36 0 rfl ?_
        refine x_get X wu_X5 0 rfl rfl 8 (by decide) wf_X5_117 rfl rfl dX5_sign_37 ?_
        refine x_imul (v := nI (2 * ns)) X dX5_sign_40 (pk_mul _ _) ?_
        refine x_iloadn X dX5_sign_41 1 rfl ?_
        refine x_iast_n (g := upd sg (2 * ns) (nI iN)) (ws' := wMo G a np nq na nk ns nl pa rp rq kd S W Kp (upd sg (2 * ns) (nI iN)) le tl rk rd nw rw) X 5 rfl (by omega) (by omega) rfl rfl dX5_sign_42 ?_
        refine x_aloadn X dX5_sign_43 0 rfl ?_
        refine x_get X wu_X5 0 rfl rfl 9 (by decide) wf_X5_22 rfl rfl dX5_sign_44 ?_
        refine x_iconst (v := nI 2) X dX5_sign_47 (by decide) ?_
        refine x_aloadn X dX5_sign_48 0 rfl ?_
        refine x_get X wu_X5 0 rfl rfl 8 (by decide) wf_X5_117 rfl rfl dX5_sign_49 ?_
        refine x_imul (v := nI (2 * ns)) X dX5_sign_52 (pk_mul _ _) ?_
        refine x_iconst (v := nI 1) X dX5_sign_53 (by decide) ?_
        refine x_iadd (v := nI (2 * ns + 1)) X dX5_sign_54 (nI_add _ _) ?_
        refine x_iloadn X dX5_sign_55 2 rfl ?_
        refine x_iast_n (g := upd (upd sg (2 * ns) (nI iN)) (2 * ns + 1) (nI jN)) (ws' := wMo G a np nq na nk ns nl pa rp rq kd S W Kp (upd (upd sg (2 * ns) (nI iN)) (2 * ns + 1) (nI jN)) le tl rk rd nw rw) X 5 rfl (by omega) (by omega) rfl rfl dX5_sign_56 ?_
        refine x_aloadn X dX5_sign_57 0 rfl ?_
        refine x_dup X dX5_sign_58 rfl ?_
        refine x_get X wu_X5 0 rfl rfl 8 (by decide) wf_X5_117 rfl rfl dX5_sign_59 ?_
        refine x_iconst (v := nI 1) X dX5_sign_62 (by decide) ?_
        refine x_iadd (v := nI (ns + 1)) X dX5_sign_63 (nI_add _ _) ?_
        refine x_put (ws' := wMo G a np nq na nk (ns + 1) nl pa rp rq kd S W Kp (upd (upd sg (2 * ns) (nI iN)) (2 * ns + 1) (nI jN)) le tl rk rd nw rw) (ty := tyX5 8) X wu_X5 tyX5_ok nmX5 0 rfl rfl 8 (by decide) wf_X5_117 rfl rfl (by decide +kernel) rfl rfl (Nat.le_of_ble_eq_true rfl) rfl dX5_sign_64 ?_
        refine x_aloadn X dX5_sign_67 0 rfl ?_
        refine x_get X wu_X5 0 rfl rfl 8 (by decide) wf_X5_117 rfl rfl dX5_sign_68 ?_
        exact x_ret X dX5_sign_71 ⟨ret_i (by simp [F_sign, F_sOk, c_1, qiN, c_2, qjN, c_3, h6]), (by simp only [mSg, F_sNs, F_sOk]; simp [c_1, qiN, c_2, qjN, c_3, h6]), by decide, by decide⟩
      · -- 25 f
        have h6 : ¬ ns < 6 := by omega
        refine x_bipush (v := (-3)) X dX5_sign_28 (by decide) ?_
        exact x_ret X dX5_sign_30 ⟨ret_i (by simp [F_sign, F_sOk, c_1, qiN, c_2, qjN, (eq_true c_3), h6]), (by simp only [mSg, F_sNs, F_sOk]; simp [c_1, qiN, c_2, qjN, (eq_true c_3), h6]), by decide, by decide⟩
    · -- 14 f
      refine x_iconst (v := (-1)) X dX5_sign_17 (by decide) ?_
      exact x_ret X dX5_sign_18 ⟨ret_i (by simp [F_sign, F_sOk, c_1, qiN, c_2]), (by simp only [mSg, F_sNs, F_sOk]; simp [c_1, qiN, c_2]), by decide, by decide⟩
set_option maxRecDepth 100000 in
set_option maxHeartbeats 4000000 in
/-- X5_write -/
theorem c_X5_write (l : Launch) (G : xG) (a : Nat → Nat) (np : Nat) (nq : Nat) (na : Nat) (nk : Nat) (ns : Nat) (nl : Nat) (pa : Nat) (rp : Nat) (rq : Nat) (kd : Nat → Int32) (S : Nat → Int32) (W : Nat → Int32) (Kp : Nat → Int32) (sg : Nat → Int32) (le : Nat → Int32) (tl : Nat → Int32) (rk : Nat → Int32) (rd : Nat → Int32) (nw : Nat → Int32) (rw : Nat → Int32) (i : Int32) (hl : nl ≤ 200) : xM l G xE0 yX5_write cX5_write 2 (some .int) 1 22 0 0 [.ref (a 0), .int i] (wMo G a np nq na nk ns nl pa rp rq kd S W Kp sg le tl rk rd nw rw) (some (.int (F_write i nl))) (fun w2 => w2 = wMo G a np nq na nk ns (F_wNl i nl) pa rp rq kd S W Kp sg (F_wLe i le nl) tl rk rd nw rw) := by
  refine x_entry (by decide +kernel) (Nat.le_of_ble_eq_true rfl) rfl ⟨_, rfl, rfl⟩ (fun K X => ?_)
  refine x_iloadn X dX5_write_0 1 rfl ?_
  refine x_bipush (v := nI 32) X dX5_write_1 (by decide) ?_
  refine x_bipush (v := nI 126) X dX5_write_3 (by decide) ?_
  refine x_callSrv (As := [.int i, .int (nI 32), .int (nI 126)]) (rest := []) X (c_X5_in__B l G i (nI 32) (nI 126)) xE0_ok (fun _ _ _ => trivial) [] rfl rfl rfl wco_X5_in wi_X5 xd_X5_in wl_X5_63 wst_X5_in (by decide) (Nat.le_of_ble_eq_true rfl) dX5_write_5 ?_
  refine x_ifne_b 13 X dX5_write_8 (by decide) (fun c_1 => ?_) (fun c_1 => ?_)
  · -- 8 t
    refine x_aloadn X dX5_write_13 0 rfl ?_
    refine x_get X wu_X5 0 rfl rfl 11 (by decide) wf_X5_70 rfl rfl dX5_write_14 ?_
    refine x_sipush (v := nI 200) X dX5_write_17 (by decide) ?_
    refine x_icmp_ne_n 26 X dX5_write_20 (by decide) (by omega) (by omega) (fun c_2 => ?_) (fun c_2 => ?_)
    · -- 20 t
      have h6 : nl < 200 := by omega
      refine x_aloadn X dX5_write_26 0 rfl ?_
      refine x_get X wu_X5 0 rfl rfl 10 (by decide) wf_X5_25 rfl rfl dX5_write_27 ?_
      refine x_aloadn X dX5_write_30 0 rfl ?_
      refine x_get X wu_X5 0 rfl rfl 11 (by decide) wf_X5_70 rfl rfl dX5_write_31 ?_
      refine x_iloadn X dX5_write_34 1 rfl ?_
      refine x_iast_n (g := upd le nl i) (ws' := wMo G a np nq na nk ns nl pa rp rq kd S W Kp sg (upd le nl i) tl rk rd nw rw) X 6 rfl (by omega) (by omega) rfl rfl dX5_write_35 ?_
      refine x_aloadn X dX5_write_36 0 rfl ?_
      refine x_dup X dX5_write_37 rfl ?_
      refine x_get X wu_X5 0 rfl rfl 11 (by decide) wf_X5_70 rfl rfl dX5_write_38 ?_
      refine x_iconst (v := nI 1) X dX5_write_41 (by decide) ?_
      refine x_iadd (v := nI (nl + 1)) X dX5_write_42 (nI_add _ _) ?_
      refine x_put (ws' := wMo G a np nq na nk ns (nl + 1) pa rp rq kd S W Kp sg (upd le nl i) tl rk rd nw rw) (ty := tyX5 11) X wu_X5 tyX5_ok nmX5 0 rfl rfl 11 (by decide) wf_X5_70 rfl rfl (by decide +kernel) rfl rfl (Nat.le_of_ble_eq_true rfl) rfl dX5_write_43 ?_
      refine x_aloadn X dX5_write_46 0 rfl ?_
      refine x_get X wu_X5 0 rfl rfl 11 (by decide) wf_X5_70 rfl rfl dX5_write_47 ?_
      exact x_ret X dX5_write_50 ⟨ret_i (by simp [F_write, wOk_B, c_1, c_2, h6]), (by simp [F_wLe, F_wNl, wOk_B, c_1, c_2, h6]), by decide, by decide⟩
    · -- 20 f
      have h6 : ¬ nl < 200 := by omega
      refine x_bipush (v := (-3)) X dX5_write_23 (by decide) ?_
      exact x_ret X dX5_write_25 ⟨ret_i (by simp [F_write, wOk_B, c_1, (eq_true c_2), h6]), (by simp [F_wLe, F_wNl, wOk_B, c_1, (eq_true c_2), h6]), by decide, by decide⟩
  · -- 8 f
    refine x_iconst (v := (-1)) X dX5_write_11 (by decide) ?_
    exact x_ret X dX5_write_12 ⟨ret_i (by simp [F_write, wOk_B, c_1]), (by simp [F_wLe, F_wNl, wOk_B, c_1]), by decide, by decide⟩
set_option maxRecDepth 100000 in
set_option maxHeartbeats 4000000 in
/-- X5_round -/
theorem c_X5_round (l : Launch) (G : xG) (a : Nat → Nat) (na : Nat) (nk : Nat) (ns : Nat) (nl : Nat) (pa : Nat) (rp : Nat) (rq : Nat) (kd : Nat → Int32) (W : Nat → Int32) (Kp : Nat → Int32) (sg : Nat → Int32) (le : Nat → Int32) (tl : Nat → Int32) (rk : Nat → Int32) (rd : Nat → Int32) (nw : Nat → Int32) (rw : Nat → Int32) (s : xS) (i : Int32) (j : Int32) (k : Int32) (hs6 : s.1 ≤ 6) (hs1 : 0 < s.1) (hq5 : s.2.1 ≤ 5) (hq1 : 0 < s.2.1) (hkd : ∀ p, p < s.1 → kd p = s.2.2.1 p) (hmi : ∀ j, j < 6 → inR (s.2.2.2.1 j) 6 = true) (hbv : ∀ j, j < 30 → bd (s.2.2.2.2.1 j)) (hbl : ∀ j, j < 25 → bl (s.2.2.2.2.2 j)) : xM l G xE0 yX5_round cX5_round 5 (some .int) 3 74 0 0 [.ref (a 0), .int i, .int j, .int k] (wMo G a s.1 s.2.1 na nk ns nl pa rp rq kd (en s) W Kp sg le tl rk rd nw rw) (some (.int (F_round s i j k))) (fun w2 => ∃ nw' : Nat → Int32, w2 = wMo G a s.1 s.2.1 na nk ns nl pa rp rq kd (en s) W Kp sg le tl rk rd nw' rw) := by
  refine x_entry (by decide +kernel) (Nat.le_of_ble_eq_true rfl) rfl ⟨_, rfl, rfl⟩ (fun K X => ?_)
  refine x_aloadn X dX5_round_0 0 rfl ?_
  refine x_iloadn X dX5_round_1 1 rfl ?_
  refine x_callVrv (As := [.int i]) (rest := []) X (c_X5_isPaper l G a s.1 s.2.1 na nk ns nl pa rp rq kd (en s) W Kp sg le tl rk rd nw rw i (by omega) (by omega)) xE0_ok (fun _ _ _ => trivial) [0, 1, 2, 3, 4, 5, 6, 7, 8, 9, 10, 11] rfl 0 rfl rfl rfl rfl wco_X5_isPaper wi_X5 xd_X5_isPaper wl_X5_137 win_X5_isPaper wse_X5_isPaper (by decide) (Nat.le_of_ble_eq_true rfl) dX5_round_2 ?_
  refine x_ifeq_b 25 X dX5_round_5 (by decide) (fun c_1 => ?_) (fun c_1 => ?_)
  · -- 5 t
    refine x_iconst (v := (-1)) X dX5_round_25 (by decide) ?_
    exact x_ret X dX5_round_26 ⟨ret_i (by simp [F_round, tn, c_1]), ⟨nw, rfl⟩, by decide, by decide⟩
  · -- 5 f
    obtain ⟨iN, hiN, rfl⟩ := inR_nat c_1 (by omega)
    have qiN : (nI iN).toNatClampNeg = iN := nI_clamp (by omega)
    refine x_iloadn X dX5_round_8 2 rfl ?_
    refine x_callSrv (As := [.int j]) (rest := []) X (c_X5_isTheme l G j) xE0_ok (fun _ _ _ => trivial) [] rfl rfl rfl wco_X5_isTheme wi_X5 xd_X5_isTheme wl_X5_134 wst_X5_isTheme (by decide) (Nat.le_of_ble_eq_true rfl) dX5_round_9 ?_
    refine x_ifeq_b 25 X dX5_round_12 (by decide) (fun c_2 => ?_) (fun c_2 => ?_)
    · -- 12 t
      refine x_iconst (v := (-1)) X dX5_round_25 (by decide) ?_
      exact x_ret X dX5_round_26 ⟨ret_i (by simp [F_round, tn, c_1, qiN, c_2]), ⟨nw, rfl⟩, by decide, by decide⟩
    · -- 12 f
      obtain ⟨jN, hjN, rfl⟩ := inR_nat c_2 (by omega)
      have qjN : (nI jN).toNatClampNeg = jN := nI_clamp (by omega)
      refine x_iloadn X dX5_round_15 3 rfl ?_
      refine x_iconst (v := nI 0) X dX5_round_16 (by decide) ?_
      refine x_bipush (v := nI 60) X dX5_round_17 (by decide) ?_
      refine x_callSrv (As := [.int k, .int (nI 0), .int (nI 60)]) (rest := []) X (c_X5_in__R l G k 60 (by omega)) xE0_ok (fun _ _ _ => trivial) [] rfl rfl rfl wco_X5_in wi_X5 xd_X5_in wl_X5_63 wst_X5_in (by decide) (Nat.le_of_ble_eq_true rfl) dX5_round_19 ?_
      refine x_ifne_b 27 X dX5_round_22 (by decide) (fun c_3 => ?_) (fun c_3 => ?_)
      · -- 22 t
        obtain ⟨kN, hkN, rfl⟩ := inR_nat c_3 (by omega)
        have qkN : (nI kN).toNatClampNeg = kN := nI_clamp (by omega)
        refine x_aloadn X dX5_round_27 0 rfl ?_
        refine x_callVf0 (As := []) (rest := []) (w1 := wMo G a s.1 s.2.1 na nk ns nl pa rp rq kd (en s) W Kp sg le tl rk rd (en s) rw) (ws' := wMo G a s.1 s.2.1 na nk ns nl pa rp rq kd (en s) W Kp sg le tl rk rd (en s) rw) X (c_X5_asItIs l G a s.1 s.2.1 na nk ns nl pa rp rq kd (en s) W Kp sg le tl rk rd nw rw) xE0_ok (fun _ _ _ => trivial) [0, 1, 2, 3, 4, 5, 6, 7, 8, 9, 10, 11] rfl 0 rfl rfl rfl rfl wco_X5_asItIs wi_X5 xd_X5_asItIs wl_X5_143 win_X5_asItIs wse_X5_asItIs (by decide) (Nat.le_of_ble_eq_true rfl) dX5_round_28 rfl (Eq.trans (b := [a 0, a 1, a 2, a 3, a 4, a 5, a 6, a 7, a 8, a 9, a 10, a 11]) rfl rfl) rfl ?_
        refine x_iconst (v := nI 0) X dX5_round_31 (by decide) ?_
        refine x_istore (lv' := [(4, .int (nI 0)), (0, .ref (a 0)), (1, .int (nI iN)), (2, .int (nI jN)), (3, .int (nI kN))]) X dX5_round_32 (by decide) rfl ?_
        have L34 : ∀ (fu : Nat) (q : Nat) (g : xS), kN - q < fu → (q ≤ kN) → (g = rdS s iN q) → K (wMo G a s.1 s.2.1 na nk ns nl pa rp rq kd (en s) W Kp sg le tl rk rd (en g) rw) 0 0 34 [(0, .ref (a 0)), (1, .int (nI iN)), (2, .int (nI jN)), (3, .int (nI kN)), (4, .int (nI q))] [] := by
          intro fu
          induction fu with
          | zero => intro q g hfu; exact absurd hfu (Nat.not_lt_zero _)
          | succ fu ih_L34 =>
            intro q g hfu_L34 hi hg
            refine x_iload X dX5_round_34 4 rfl ?_
            refine x_iloadn X dX5_round_36 3 rfl ?_
            refine x_icmp_ge_n 59 X dX5_round_37 (by decide) (by omega) (by omega) (fun c_4 => ?_) (fun c_4 => ?_)
            · -- 37 t
              have n_4 := Nat.not_lt.mpr c_4
              have eq2 : q = kN := by omega
              rw [eq2] at hg
              refine x_aloadn X dX5_round_59 0 rfl ?_
              refine x_get X wu_X5 0 rfl rfl 18 (by decide) wf_X5_37 rfl rfl dX5_round_60 ?_
              refine x_bipush (v := nI 36) X dX5_round_63 (by decide) ?_
              refine x_iconst (v := nI 5) X dX5_round_65 (by decide) ?_
              refine x_iloadn X dX5_round_66 1 rfl ?_
              refine x_imul (v := nI (5 * iN)) X dX5_round_67 (pk_mul _ _) ?_
              refine x_iadd (v := nI (36 + (5 * iN))) X dX5_round_68 (nI_add _ _) ?_
              refine x_iloadn X dX5_round_69 2 rfl ?_
              refine x_iadd (v := nI ((36 + (5 * iN)) + jN)) X dX5_round_70 (nI_add _ _) ?_
              refine x_iald_n (v := enc (g.2.2.2.2.2 (iN * 5 + jN))) X 10 rfl (by omega) (by omega) (en_li _ (by omega) (by omega)) dX5_round_71 ?_
              refine x_callSrv (As := [.int (enc (g.2.2.2.2.2 (iN * 5 + jN)))]) (rest := []) X (c_X5_says l G (enc (g.2.2.2.2.2 (iN * 5 + jN)))) xE0_ok (fun _ _ _ => trivial) [] rfl rfl rfl wco_X5_says wi_X5 xd_X5_says wl_X5_140 wst_X5_says (by decide) (Nat.le_of_ble_eq_true rfl) dX5_round_72 ?_
              exact x_ret X dX5_round_75 ⟨ret_i (by rw [hg, rdS_at s iN jN (by omega), says_enc (by rw [← rdS_at s iN jN (by omega)]; exact rdS_bl hs6 hs1 (by omega) hmi hbv hbl _ _ (by omega))]; simp [F_round, tn, c_1, qiN, c_2, qjN, c_3, qkN, hi, hg, c_4, n_4]), ⟨(en g), rfl⟩, by decide, by decide⟩
            · -- 37 f
              have hmod := Nat.mod_lt q (show 0 < s.1 by omega)
              obtain ⟨e1, e2, e3, e4, e5⟩ := rdS_p s iN q
              have hgl := rdS_bl (a := iN) hs6 hs1 (by omega) hmi hbv hbl q
              rw [← hg] at e1 e2 e3 e4 e5 hgl
              refine x_aloadn X dX5_round_40 0 rfl ?_
              refine x_iloadn X dX5_round_41 1 rfl ?_
              refine x_iloadn X dX5_round_42 1 rfl ?_
              refine x_iload X dX5_round_43 4 rfl ?_
              refine x_aloadn X dX5_round_45 0 rfl ?_
              refine x_get X wu_X5 0 rfl rfl 0 (by decide) wf_X5_60 rfl rfl dX5_round_46 ?_
              refine x_irem (v := nI (q % s.1)) X dX5_round_49 (nI_ne0 (by omega) (by omega)) (pk_rem (by omega) (by omega) (by omega)) ?_
              refine x_callVf0 (As := [.int (nI iN), .int (nI iN), .int (nI (q % s.1))]) (rest := []) (w1 := wMo G a s.1 s.2.1 na nk ns nl pa rp rq kd (en s) W Kp sg le tl rk rd (en (cpS g (q % s.1) iN iN 5)) rw) (ws' := wMo G a s.1 s.2.1 na nk ns nl pa rp rq kd (en s) W Kp sg le tl rk rd (en (cpS g (q % s.1) iN iN 5)) rw) X (c_X5_copying l G a s.1 s.2.1 na nk ns nl pa rp rq kd (en s) W Kp sg le tl rk rd rw g iN iN (q % s.1) (by omega) (by omega) (by omega) (by rw [e3]; exact hkd _ (by omega)) (by rw [e4]; exact hmi) (by rw [e5]; exact hbv) hgl) xE0_ok (fun _ _ _ => trivial) [0, 1, 2, 3, 4, 5, 6, 7, 8, 9, 10, 11] rfl 0 rfl rfl rfl rfl wco_X5_copying wi_X5 xd_X5_copying wl_X5_153 win_X5_copying wse_X5_copying (by decide) (Nat.le_of_ble_eq_true rfl) dX5_round_50 rfl (Eq.trans (b := [a 0, a 1, a 2, a 3, a 4, a 5, a 6, a 7, a 8, a 9, a 10, a 11]) rfl rfl) rfl ?_
              refine x_iinc (v := nI (q + 1)) (lv' := [(4, .int (nI (q + 1))), (0, .ref (a 0)), (1, .int (nI iN)), (2, .int (nI jN)), (3, .int (nI kN))]) X dX5_round_53 4 rfl (nI_1 _) (by decide) rfl ?_
              refine x_goto 34 X dX5_round_56 (by decide) ?_
              refine x_lv (lv' := [(0, .ref (a 0)), (1, .int (nI iN)), (2, .int (nI jN)), (3, .int (nI kN)), (4, .int (nI (q + 1)))]) X [1, 2, 3, 4, 0] rfl ?_
              exact ih_L34 (q + 1) (cpS g (q % s.1) iN iN 5) (by omega) (by omega) (by rw [hg]; rfl)
        refine x_lv (lv' := [(0, .ref (a 0)), (1, .int (nI iN)), (2, .int (nI jN)), (3, .int (nI kN)), (4, .int (nI 0))]) X [1, 2, 3, 4, 0] rfl ?_
        exact L34 _ 0 s (Nat.lt_succ_self _) (by omega) (rfl)
      · -- 22 f
        refine x_iconst (v := (-1)) X dX5_round_25 (by decide) ?_
        exact x_ret X dX5_round_26 ⟨ret_i (by simp [F_round, tn, c_1, qiN, c_2, qjN, c_3]), ⟨nw, rfl⟩, by decide, by decide⟩
set_option maxRecDepth 100000 in
set_option maxHeartbeats 4000000 in
/-- X5_least -/
theorem c_X5_least (l : Launch) (G : xG) (a : Nat → Nat) (na : Nat) (nk : Nat) (ns : Nat) (nl : Nat) (pa : Nat) (rp : Nat) (rq : Nat) (kd : Nat → Int32) (W : Nat → Int32) (Kp : Nat → Int32) (sg : Nat → Int32) (le : Nat → Int32) (tl : Nat → Int32) (rk : Nat → Int32) (rd : Nat → Int32) (nw : Nat → Int32) (rw : Nat → Int32) (s : xS) (i : Int32) (j : Int32) (k : Int32) (hs6 : s.1 ≤ 6) (hs1 : 0 < s.1) (hq5 : s.2.1 ≤ 5) (hq1 : 0 < s.2.1) (hkd : ∀ p, p < s.1 → kd p = s.2.2.1 p) (hmi : ∀ j, j < 6 → inR (s.2.2.2.1 j) 6 = true) (hbv : ∀ j, j < 30 → bd (s.2.2.2.2.1 j)) (hbl : ∀ j, j < 25 → bl (s.2.2.2.2.2 j)) : xM l G xE0 yX5_least cX5_least 7 (some .int) 2 44 0 0 [.ref (a 0), .int i, .int j, .int k] (wMo G a s.1 s.2.1 na nk ns nl pa rp rq kd (en s) W Kp sg le tl rk rd nw rw) (some (.int (F_least s i j k))) (fun w2 => ∃ nw' : Nat → Int32, w2 = wMo G a s.1 s.2.1 na nk ns nl pa rp rq kd (en s) W Kp sg le tl rk rd nw' rw) := by
  refine x_entry (by decide +kernel) (Nat.le_of_ble_eq_true rfl) rfl ⟨_, rfl, rfl⟩ (fun K X => ?_)
  refine x_aloadn X dX5_least_0 0 rfl ?_
  refine x_iloadn X dX5_least_1 1 rfl ?_
  refine x_callVrv (As := [.int i]) (rest := []) X (c_X5_isPaper l G a s.1 s.2.1 na nk ns nl pa rp rq kd (en s) W Kp sg le tl rk rd nw rw i (by omega) (by omega)) xE0_ok (fun _ _ _ => trivial) [0, 1, 2, 3, 4, 5, 6, 7, 8, 9, 10, 11] rfl 0 rfl rfl rfl rfl wco_X5_isPaper wi_X5 xd_X5_isPaper wl_X5_137 win_X5_isPaper wse_X5_isPaper (by decide) (Nat.le_of_ble_eq_true rfl) dX5_least_2 ?_
  refine x_ifeq_b 25 X dX5_least_5 (by decide) (fun c_1 => ?_) (fun c_1 => ?_)
  · -- 5 t
    refine x_iconst (v := (-1)) X dX5_least_25 (by decide) ?_
    exact x_ret X dX5_least_26 ⟨ret_i (by simp [F_least, tn, c_1]), ⟨nw, rfl⟩, by decide, by decide⟩
  · -- 5 f
    obtain ⟨iN, hiN, rfl⟩ := inR_nat c_1 (by omega)
    have qiN : (nI iN).toNatClampNeg = iN := nI_clamp (by omega)
    refine x_aloadn X dX5_least_8 0 rfl ?_
    refine x_iloadn X dX5_least_9 2 rfl ?_
    refine x_callVrv (As := [.int j]) (rest := []) X (c_X5_isPerson l G a s.1 s.2.1 na nk ns nl pa rp rq kd (en s) W Kp sg le tl rk rd nw rw j (by omega) (by omega)) xE0_ok (fun _ _ _ => trivial) [0, 1, 2, 3, 4, 5, 6, 7, 8, 9, 10, 11] rfl 0 rfl rfl rfl rfl wco_X5_isPerson wi_X5 xd_X5_isPerson wl_X5_131 win_X5_isPerson wse_X5_isPerson (by decide) (Nat.le_of_ble_eq_true rfl) dX5_least_10 ?_
    refine x_ifeq_b 25 X dX5_least_13 (by decide) (fun c_2 => ?_) (fun c_2 => ?_)
    · -- 13 t
      refine x_iconst (v := (-1)) X dX5_least_25 (by decide) ?_
      exact x_ret X dX5_least_26 ⟨ret_i (by simp [F_least, tn, c_1, qiN, c_2]), ⟨nw, rfl⟩, by decide, by decide⟩
    · -- 13 f
      obtain ⟨jN, hjN, rfl⟩ := inR_nat c_2 (by omega)
      have qjN : (nI jN).toNatClampNeg = jN := nI_clamp (by omega)
      refine x_iloadn X dX5_least_16 3 rfl ?_
      refine x_iconst (v := nI 0) X dX5_least_17 (by decide) ?_
      refine x_iconst (v := nI 1) X dX5_least_18 (by decide) ?_
      refine x_callSrv (As := [.int k, .int (nI 0), .int (nI 1)]) (rest := []) X (c_X5_in__R l G k 1 (by omega)) xE0_ok (fun _ _ _ => trivial) [] rfl rfl rfl wco_X5_in wi_X5 xd_X5_in wl_X5_63 wst_X5_in (by decide) (Nat.le_of_ble_eq_true rfl) dX5_least_19 ?_
      refine x_ifne_b 27 X dX5_least_22 (by decide) (fun c_3 => ?_) (fun c_3 => ?_)
      · -- 22 t
        obtain ⟨kN, hkN, rfl⟩ := inR_nat c_3 (by omega)
        have qkN : (nI kN).toNatClampNeg = kN := nI_clamp (by omega)
        refine x_aloadn X dX5_least_27 0 rfl ?_
        refine x_callVf0 (As := []) (rest := []) (w1 := wMo G a s.1 s.2.1 na nk ns nl pa rp rq kd (en s) W Kp sg le tl rk rd (en s) rw) (ws' := wMo G a s.1 s.2.1 na nk ns nl pa rp rq kd (en s) W Kp sg le tl rk rd (en s) rw) X (c_X5_asItIs l G a s.1 s.2.1 na nk ns nl pa rp rq kd (en s) W Kp sg le tl rk rd nw rw) xE0_ok (fun _ _ _ => trivial) [0, 1, 2, 3, 4, 5, 6, 7, 8, 9, 10, 11] rfl 0 rfl rfl rfl rfl wco_X5_asItIs wi_X5 xd_X5_asItIs wl_X5_143 win_X5_asItIs wse_X5_asItIs (by decide) (Nat.le_of_ble_eq_true rfl) dX5_least_28 rfl (Eq.trans (b := [a 0, a 1, a 2, a 3, a 4, a 5, a 6, a 7, a 8, a 9, a 10, a 11]) rfl rfl) rfl ?_
        refine x_aloadn X dX5_least_31 0 rfl ?_
        refine x_iloadn X dX5_least_32 1 rfl ?_
        refine x_callVrv (As := [.int (nI iN)]) (rest := []) X (c_X5_filled l G a s.1 s.2.1 na nk ns nl pa rp rq kd (en s) W Kp sg le tl rk rd rw s iN (by omega) (by assumption)) xE0_ok (fun _ _ _ => trivial) [0, 1, 2, 3, 4, 5, 6, 7, 8, 9, 10, 11] rfl 0 rfl rfl rfl rfl wco_X5_filled wi_X5 xd_X5_filled wl_X5_157 win_X5_filled wse_X5_filled (by decide) (Nat.le_of_ble_eq_true rfl) dX5_least_33 ?_
        have hfil := F_fil_le s.2.2.2.2.2 iN 5
        refine x_iconst (v := nI 5) X dX5_least_36 (by decide) ?_
        refine x_icmp_ge_n 43 X dX5_least_37 (by decide) (by omega) (by omega) (fun c_4 => ?_) (fun c_4 => ?_)
        · -- 37 t
          have n_4 := Nat.not_lt.mpr c_4
          refine x_bipush (v := nI 31) X dX5_least_43 (by decide) ?_
          refine x_aloadn X dX5_least_45 0 rfl ?_
          refine x_iloadn X dX5_least_46 1 rfl ?_
          refine x_iloadn X dX5_least_47 2 rfl ?_
          refine x_callVrv (As := [.int (nI iN), .int (nI jN)]) (rest := [.int (nI 31)]) X (c_X5_ownOf l G a s.1 s.2.1 na nk ns nl pa rp rq kd W Kp sg le tl rk rd (en s) rw s iN jN (by omega) (by omega) (by assumption) (by assumption)) xE0_ok (fun _ _ _ => trivial) [0, 1, 2, 3, 4, 5, 6, 7, 8, 9, 10, 11] rfl 0 rfl rfl rfl rfl wco_X5_ownOf wi_X5 xd_X5_ownOf wl_X5_160 win_X5_ownOf wse_X5_ownOf (by decide) (Nat.le_of_ble_eq_true rfl) dX5_least_48 ?_
          refine x_iconst (v := (-1)) X dX5_least_51 (by decide) ?_
          refine x_ixor (v := (F_owb s iN jN 5) ^^^ (-1)) X dX5_least_52 rfl ?_
          refine x_iand (v := (nI 31) &&& ((F_owb s iN jN 5) ^^^ (-1))) X dX5_least_53 rfl ?_
          refine x_istore (lv' := [(4, .int ((nI 31) &&& ((F_owb s iN jN 5) ^^^ (-1)))), (0, .ref (a 0)), (1, .int (nI iN)), (2, .int (nI jN)), (3, .int (nI kN))]) X dX5_least_54 (by decide) rfl ?_
          refine x_iconst (v := nI 0) X dX5_least_56 (by decide) ?_
          refine x_istore (lv' := [(5, .int (nI 0)), (4, .int ((nI 31) &&& ((F_owb s iN jN 5) ^^^ (-1)))), (0, .ref (a 0)), (1, .int (nI iN)), (2, .int (nI jN)), (3, .int (nI kN))]) X dX5_least_57 (by decide) rfl ?_
          refine x_iconst (v := nI 0) X dX5_least_59 (by decide) ?_
          refine x_istore (lv' := [(6, .int (nI 0)), (5, .int (nI 0)), (4, .int ((nI 31) &&& ((F_owb s iN jN 5) ^^^ (-1)))), (0, .ref (a 0)), (1, .int (nI iN)), (2, .int (nI jN)), (3, .int (nI kN))]) X dX5_least_60 (by decide) rfl ?_
          have L62 : ∀ (fu : Nat) (t : Nat) (u : Int32), 5 - t < fu → (t ≤ 5) → (u = cBit (F_lsb s iN jN 5) t) → K (wMo G a s.1 s.2.1 na nk ns nl pa rp rq kd (en s) W Kp sg le tl rk rd (en s) rw) 0 0 62 [(0, .ref (a 0)), (1, .int (nI iN)), (2, .int (nI jN)), (3, .int (nI kN)), (4, .int (nI 31 &&& (F_owb s iN jN 5 ^^^ (-1)))), (5, .int u), (6, .int (nI t))] [] := by
            intro fu
            induction fu with
            | zero => intro t u hfu; exact absurd hfu (Nat.not_lt_zero _)
            | succ fu ih_L62 =>
              intro t u hfu_L62 ht5 hu
              refine x_iload X dX5_least_62 6 rfl ?_
              refine x_iconst (v := nI 5) X dX5_least_64 (by decide) ?_
              refine x_icmp_ge_n 86 X dX5_least_65 (by decide) (by omega) (by omega) (fun c_5 => ?_) (fun c_5 => ?_)
              · -- 65 t
                have n_5 := Nat.not_lt.mpr c_5
                obtain rfl : t = 5 := by omega
                refine x_iloadn X dX5_least_86 3 rfl ?_
                refine x_if_ne_n 95 X dX5_least_87 (by decide) (by omega) (fun c_6 => ?_) (fun c_6 => ?_)
                · -- 87 t
                  refine x_iload X dX5_least_95 4 rfl ?_
                  exact x_ret X dX5_least_97 ⟨ret_i (by rw [own_not2]; simp [F_least, tn, c_1, qiN, c_2, qjN, c_3, qkN, c_4, n_4, ht5, hu, c_5, n_5, c_6]), ⟨(en s), rfl⟩, by decide, by decide⟩
                · -- 87 f
                  refine x_iload X dX5_least_90 5 rfl ?_
                  refine x_goto 97 X dX5_least_92 (by decide) ?_
                  exact x_ret X dX5_least_97 ⟨ret_i (by rw [hu, cBit_bc]; simp [F_least, tn, c_1, qiN, c_2, qjN, c_3, qkN, c_4, n_4, ht5, hu, c_5, n_5, (eq_true c_6)]), ⟨(en s), rfl⟩, by decide, by decide⟩
              · -- 65 f
                refine x_iload X dX5_least_68 5 rfl ?_
                refine x_iload X dX5_least_70 4 rfl ?_
                refine x_iload X dX5_least_72 6 rfl ?_
                refine x_ishr (v := (nI 31 &&& (F_owb s iN jN 5 ^^^ (-1))) >>> ((nI t) &&& 31)) X dX5_least_74 rfl ?_
                refine x_iconst (v := nI 1) X dX5_least_75 (by decide) ?_
                refine x_iand (v := ((nI 31 &&& (F_owb s iN jN 5 ^^^ (-1))) >>> ((nI t) &&& 31)) &&& (nI 1)) X dX5_least_76 rfl ?_
                refine x_iadd (v := u + (((nI 31 &&& (F_owb s iN jN 5 ^^^ (-1))) >>> ((nI t) &&& 31)) &&& (nI 1))) X dX5_least_77 rfl ?_
                refine x_istore (lv' := [(5, .int (u + (((nI 31 &&& (F_owb s iN jN 5 ^^^ (-1))) >>> ((nI t) &&& 31)) &&& (nI 1)))), (0, .ref (a 0)), (1, .int (nI iN)), (2, .int (nI jN)), (3, .int (nI kN)), (4, .int (nI 31 &&& (F_owb s iN jN 5 ^^^ (-1)))), (6, .int (nI t))]) X dX5_least_78 (by decide) rfl ?_
                refine x_iinc (v := nI (t + 1)) (lv' := [(6, .int (nI (t + 1))), (5, .int (u + (((nI 31 &&& (F_owb s iN jN 5 ^^^ (-1))) >>> ((nI t) &&& 31)) &&& (nI 1)))), (0, .ref (a 0)), (1, .int (nI iN)), (2, .int (nI jN)), (3, .int (nI kN)), (4, .int (nI 31 &&& (F_owb s iN jN 5 ^^^ (-1))))]) X dX5_least_80 6 rfl (nI_1 _) (by decide) rfl ?_
                refine x_goto 62 X dX5_least_83 (by decide) ?_
                refine x_lv (lv' := [(0, .ref (a 0)), (1, .int (nI iN)), (2, .int (nI jN)), (3, .int (nI kN)), (4, .int (nI 31 &&& (F_owb s iN jN 5 ^^^ (-1)))), (5, .int (u + (((nI 31 &&& (F_owb s iN jN 5 ^^^ (-1))) >>> ((nI t) &&& 31)) &&& (nI 1)))), (6, .int (nI (t + 1)))]) X [2, 3, 4, 5, 6, 1, 0] rfl ?_
                exact ih_L62 (t + 1) (u + (((nI 31 &&& (F_owb s iN jN 5 ^^^ (-1))) >>> ((nI t) &&& 31)) &&& (nI 1))) (by omega) (by omega) (by rw [hu, own_not2]; rfl)
          refine x_lv (lv' := [(0, .ref (a 0)), (1, .int (nI iN)), (2, .int (nI jN)), (3, .int (nI kN)), (4, .int (nI 31 &&& (F_owb s iN jN 5 ^^^ (-1)))), (5, .int (nI 0)), (6, .int (nI 0))]) X [3, 4, 5, 6, 2, 1, 0] rfl ?_
          exact L62 _ 0 (nI 0) (Nat.lt_succ_self _) (by omega) (rfl)
        · -- 37 f
          refine x_bipush (v := (-4)) X dX5_least_40 (by decide) ?_
          exact x_ret X dX5_least_42 ⟨ret_i (by simp [F_least, tn, c_1, qiN, c_2, qjN, c_3, qkN, c_4]), ⟨(en s), rfl⟩, by decide, by decide⟩
      · -- 22 f
        refine x_iconst (v := (-1)) X dX5_least_25 (by decide) ?_
        exact x_ret X dX5_least_26 ⟨ret_i (by simp [F_least, tn, c_1, qiN, c_2, qjN, c_3]), ⟨nw, rfl⟩, by decide, by decide⟩
set_option maxRecDepth 100000 in
set_option maxHeartbeats 4000000 in
/-- X5_count -/
theorem c_X5_count (l : Launch) (G : xG) (a : Nat → Nat) (na : Nat) (nk : Nat) (ns : Nat) (nl : Nat) (pa : Nat) (rp : Nat) (rq : Nat) (kd : Nat → Int32) (W : Nat → Int32) (Kp : Nat → Int32) (sg : Nat → Int32) (le : Nat → Int32) (tl : Nat → Int32) (rk : Nat → Int32) (rd : Nat → Int32) (nw : Nat → Int32) (rw : Nat → Int32) (s : xS) (i : Int32) (hs6 : s.1 ≤ 6) (hs1 : 0 < s.1) (hq5 : s.2.1 ≤ 5) (hq1 : 0 < s.2.1) (hkd : ∀ p, p < s.1 → kd p = s.2.2.1 p) (hmi : ∀ j, j < 6 → inR (s.2.2.2.1 j) 6 = true) (hbv : ∀ j, j < 30 → bd (s.2.2.2.2.1 j)) (hbl : ∀ j, j < 25 → bl (s.2.2.2.2.2 j)) : xM l G xE0 yX5_count cX5_count 4 (some .int) 2 44 0 0 [.ref (a 0), .int i] (wMo G a s.1 s.2.1 na nk ns nl pa rp rq kd (en s) W Kp sg le tl rk rd nw rw) (some (.int (F_count s ns na nk nl i))) (fun w2 => ∃ nw' : Nat → Int32, w2 = wMo G a s.1 s.2.1 na nk ns nl pa rp rq kd (en s) W Kp sg le tl rk rd nw' rw) := by
  refine x_entry (by decide +kernel) (Nat.le_of_ble_eq_true rfl) rfl ⟨_, rfl, rfl⟩ (fun K X => ?_)
  refine x_aloadn X dX5_count_0 0 rfl ?_
  refine x_callVf0 (As := []) (rest := []) (w1 := wMo G a s.1 s.2.1 na nk ns nl pa rp rq kd (en s) W Kp sg le tl rk rd (en s) rw) (ws' := wMo G a s.1 s.2.1 na nk ns nl pa rp rq kd (en s) W Kp sg le tl rk rd (en s) rw) X (c_X5_asItIs l G a s.1 s.2.1 na nk ns nl pa rp rq kd (en s) W Kp sg le tl rk rd nw rw) xE0_ok (fun _ _ _ => trivial) [0, 1, 2, 3, 4, 5, 6, 7, 8, 9, 10, 11] rfl 0 rfl rfl rfl rfl wco_X5_asItIs wi_X5 xd_X5_asItIs wl_X5_143 win_X5_asItIs wse_X5_asItIs (by decide) (Nat.le_of_ble_eq_true rfl) dX5_count_1 rfl (Eq.trans (b := [a 0, a 1, a 2, a 3, a 4, a 5, a 6, a 7, a 8, a 9, a 10, a 11]) rfl rfl) rfl ?_
  refine x_iconst (v := nI 0) X dX5_count_4 (by decide) ?_
  refine x_istoren (lv' := [(2, .int (nI 0)), (0, .ref (a 0)), (1, .int i)]) X dX5_count_5 (by decide) rfl ?_
  refine x_iconst (v := nI 0) X dX5_count_6 (by decide) ?_
  refine x_istoren (lv' := [(3, .int (nI 0)), (2, .int (nI 0)), (0, .ref (a 0)), (1, .int i)]) X dX5_count_7 (by decide) rfl ?_
  have L8 : ∀ (fu : Nat) (q : Nat) (co : Nat), s.2.1 - q < fu → (q ≤ s.2.1) → (co ≤ 5 * q) → (co = F_fils s.2.2.2.2.2 q) → K (wMo G a s.1 s.2.1 na nk ns nl pa rp rq kd (en s) W Kp sg le tl rk rd (en s) rw) 0 0 8 [(0, .ref (a 0)), (1, .int i), (2, .int (nI co)), (3, .int (nI q))] [] := by
    intro fu
    induction fu with
    | zero => intro q co hfu; exact absurd hfu (Nat.not_lt_zero _)
    | succ fu ih_L8 =>
      intro q co hfu_L8 hq hc5 hco
      refine x_iloadn X dX5_count_8 3 rfl ?_
      refine x_aloadn X dX5_count_9 0 rfl ?_
      refine x_get X wu_X5 0 rfl rfl 2 (by decide) wf_X5_67 rfl rfl dX5_count_10 ?_
      refine x_icmp_ge_n 30 X dX5_count_13 (by decide) (by omega) (by omega) (fun c_1 => ?_) (fun c_1 => ?_)
      · -- 13 t
        have n_1 := Nat.not_lt.mpr c_1
        have eq2 : q = s.2.1 := by omega
        rw [eq2] at hco
        refine x_iloadn X dX5_count_30 1 rfl ?_
        by_cases c_2 : i = 0
        · -- case 0
          refine x_int c_2 ?_
          refine x_tableIn 72 X dX5_count_31 (by decide) (by decide) rfl (by decide) ?_
          refine x_aloadn X dX5_count_72 0 rfl ?_
          refine x_get X wu_X5 0 rfl rfl 0 (by decide) wf_X5_60 rfl rfl dX5_count_73 ?_
          exact x_ret X dX5_count_76 ⟨ret_i (by simp [F_count, c_1, c_2]), ⟨(en s), rfl⟩, by decide, by decide⟩
        by_cases c_3 : i = 1
        · -- case 1
          refine x_int c_3 ?_
          refine x_tableIn 77 X dX5_count_31 (by decide) (by decide) rfl (by decide) ?_
          refine x_aloadn X dX5_count_77 0 rfl ?_
          refine x_get X wu_X5 0 rfl rfl 2 (by decide) wf_X5_67 rfl rfl dX5_count_78 ?_
          exact x_ret X dX5_count_81 ⟨ret_i (by simp [F_count, c_1, c_2, c_3]), ⟨(en s), rfl⟩, by decide, by decide⟩
        by_cases c_4 : i = 2
        · -- case 2
          refine x_int c_4 ?_
          refine x_tableIn 82 X dX5_count_31 (by decide) (by decide) rfl (by decide) ?_
          refine x_iloadn X dX5_count_82 2 rfl ?_
          exact x_ret X dX5_count_83 ⟨ret_i (by rw [hco]; simp [F_count, c_1, c_2, c_3, c_4]), ⟨(en s), rfl⟩, by decide, by decide⟩
        by_cases c_5 : i = 3
        · -- case 3
          refine x_int c_5 ?_
          refine x_tableIn 84 X dX5_count_31 (by decide) (by decide) rfl (by decide) ?_
          refine x_aloadn X dX5_count_84 0 rfl ?_
          refine x_get X wu_X5 0 rfl rfl 8 (by decide) wf_X5_117 rfl rfl dX5_count_85 ?_
          exact x_ret X dX5_count_88 ⟨ret_i (by simp [F_count, c_1, c_2, c_3, c_4, c_5]), ⟨(en s), rfl⟩, by decide, by decide⟩
        by_cases c_6 : i = 4
        · -- case 4
          refine x_int c_6 ?_
          refine x_tableIn 89 X dX5_count_31 (by decide) (by decide) rfl (by decide) ?_
          refine x_aloadn X dX5_count_89 0 rfl ?_
          refine x_get X wu_X5 0 rfl rfl 4 (by decide) wf_X5_111 rfl rfl dX5_count_90 ?_
          exact x_ret X dX5_count_93 ⟨ret_i (by simp [F_count, c_1, c_2, c_3, c_4, c_5, c_6]), ⟨(en s), rfl⟩, by decide, by decide⟩
        by_cases c_7 : i = 5
        · -- case 5
          refine x_int c_7 ?_
          refine x_tableIn 94 X dX5_count_31 (by decide) (by decide) rfl (by decide) ?_
          refine x_aloadn X dX5_count_94 0 rfl ?_
          refine x_get X wu_X5 0 rfl rfl 6 (by decide) wf_X5_114 rfl rfl dX5_count_95 ?_
          exact x_ret X dX5_count_98 ⟨ret_i (by simp [F_count, c_1, c_2, c_3, c_4, c_5, c_6, c_7]), ⟨(en s), rfl⟩, by decide, by decide⟩
        by_cases c_8 : i = 6
        · -- case 6
          refine x_int c_8 ?_
          refine x_tableIn 99 X dX5_count_31 (by decide) (by decide) rfl (by decide) ?_
          refine x_aloadn X dX5_count_99 0 rfl ?_
          refine x_get X wu_X5 0 rfl rfl 11 (by decide) wf_X5_70 rfl rfl dX5_count_100 ?_
          exact x_ret X dX5_count_103 ⟨ret_i (by simp [F_count, c_1, c_2, c_3, c_4, c_5, c_6, c_7, c_8]), ⟨(en s), rfl⟩, by decide, by decide⟩
        refine x_tableOut 104 X dX5_count_31 (by have := lv_neT (a := 0) c_2 rfl; have := lv_neT (a := 1) c_3 rfl; have := lv_neT (a := 2) c_4 rfl; have := lv_neT (a := 3) c_5 rfl; have := lv_neT (a := 4) c_6 rfl; have := lv_neT (a := 5) c_7 rfl; have := lv_neT (a := 6) c_8 rfl; omega) (by decide) ?_
        refine x_iconst (v := (-1)) X dX5_count_104 (by decide) ?_
        exact x_ret X dX5_count_105 ⟨ret_i (by simp [F_count, c_1, c_2, c_3, c_4, c_5, c_6, c_7, c_8]), ⟨(en s), rfl⟩, by decide, by decide⟩
      · -- 13 f
        refine x_iloadn X dX5_count_16 2 rfl ?_
        refine x_aloadn X dX5_count_17 0 rfl ?_
        refine x_iloadn X dX5_count_18 3 rfl ?_
        refine x_callVrv (As := [.int (nI q)]) (rest := [.int (nI co)]) X (c_X5_filled l G a s.1 s.2.1 na nk ns nl pa rp rq kd (en s) W Kp sg le tl rk rd rw s q (by omega) (by assumption)) xE0_ok (fun _ _ _ => trivial) [0, 1, 2, 3, 4, 5, 6, 7, 8, 9, 10, 11] rfl 0 rfl rfl rfl rfl wco_X5_filled wi_X5 xd_X5_filled wl_X5_157 win_X5_filled wse_X5_filled (by decide) (Nat.le_of_ble_eq_true rfl) dX5_count_19 ?_
        have hfil := F_fil_le s.2.2.2.2.2 q 5
        refine x_iadd (v := nI (co + (F_fil s.2.2.2.2.2 q 5))) X dX5_count_22 (nI_add _ _) ?_
        refine x_istoren (lv' := [(2, .int (nI (co + (F_fil s.2.2.2.2.2 q 5)))), (0, .ref (a 0)), (1, .int i), (3, .int (nI q))]) X dX5_count_23 (by decide) rfl ?_
        refine x_iinc (v := nI (q + 1)) (lv' := [(3, .int (nI (q + 1))), (2, .int (nI (co + (F_fil s.2.2.2.2.2 q 5)))), (0, .ref (a 0)), (1, .int i)]) X dX5_count_24 3 rfl (nI_1 _) (by decide) rfl ?_
        refine x_goto 8 X dX5_count_27 (by decide) ?_
        refine x_lv (lv' := [(0, .ref (a 0)), (1, .int i), (2, .int (nI (co + (F_fil s.2.2.2.2.2 q 5)))), (3, .int (nI (q + 1)))]) X [2, 3, 1, 0] rfl ?_
        exact ih_L8 (q + 1) (co + (F_fil s.2.2.2.2.2 q 5)) (by omega) (by omega) (by have := F_fil_le s.2.2.2.2.2 q 5; omega) (by rw [hco]; rfl)
  refine x_lv (lv' := [(0, .ref (a 0)), (1, .int i), (2, .int (nI 0)), (3, .int (nI 0))]) X [2, 3, 1, 0] rfl ?_
  exact L8 _ 0 0 (Nat.lt_succ_self _) (by omega) (by omega) (rfl)
