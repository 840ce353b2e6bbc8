/-! ===== the reference: drops ===== -/
/-- the ways, as the reference counts them -/
def bnm : Nat → Nat
  | 0 => 1
  | k + 1 => bnm k * (10 - k) / (k + 1)
theorem bnm_w {k : Nat} (h : k < 11) : bnm k = wofN k := by
  have h2 : ∀ k, k < 11 → bnm k = wofN k := by decide
  exact h2 k h
theorem euc_gcd : ∀ (k h l : Nat), l ≤ h → h * l < 2 ^ k → euc (k + 1) h l = Nat.gcd h l
  | k, h, 0, _, _ => by rw [euc_0, Nat.gcd_zero_right]
  | 0, h, l + 1, hl, hk => by
    have : 1 ≤ h * (l + 1) := Nat.mul_pos (by omega) (by omega)
    omega
  | k + 1, h, l + 1, hl, hk => by
    rw [euc, if_neg (by omega)]
    have hr : h % (l + 1) < l + 1 := Nat.mod_lt _ (by omega)
    have hd := Nat.div_add_mod h (l + 1)
    have hq : 1 ≤ h / (l + 1) := Nat.div_pos hl (by omega)
    have h2 : (l + 1) * 1 ≤ (l + 1) * (h / (l + 1)) := Nat.mul_le_mul_left _ hq
    rw [euc_gcd k (l + 1) (h % (l + 1)) (by omega) ?_, Nat.gcd_comm h, Nat.gcd_rec (l + 1) h, Nat.gcd_comm]
    have h3 : 2 * (h % (l + 1)) ≤ h := by omega
    have h4 : (l + 1) * (2 * (h % (l + 1))) ≤ (l + 1) * h := Nat.mul_le_mul_left _ h3
    rw [Nat.mul_comm h] at hk
    rw [Nat.mul_left_comm] at h4
    rw [Nat.pow_succ] at hk
    omega
theorem euc_100 {y : Nat} (hy : y < 2 ^ 63) : euc 100 10000000000 y = Nat.gcd 10000000000 y := by
  rcases Nat.lt_or_ge 10000000000 y with h | h
  · rw [show (100 : Nat) = 99 + 1 from rfl, euc, if_neg (by omega), Nat.mod_eq_of_lt h, show (99 : Nat) = 98 + 1 from rfl, euc_gcd 98 _ _ (by omega) (by omega), Nat.gcd_comm]
  · exact euc_gcd 99 _ _ h (by omega)
theorem wayN_s {n x e V : Nat} (hV : V = F_wayN n x e) : V * (if e < n then x else 10 - x) = F_wayN n x (e + 1) := by rw [hV]; rfl
theorem gcd_s (y z g : Nat) (h : Nat.gcd y z = g) : Nat.gcd z (y % z) = g := by
  rw [← h, Nat.gcd_comm y z, Nat.gcd_rec z y, Nat.gcd_comm]
theorem wayN_63 {n x : Nat} (hx : x ≤ 10) {e : Nat} (he : e ≤ 10) : F_wayN n x e < 2 ^ 63 := by
  have h := F_wayN_le n x hx e
  have h2 : 252 * 10 ^ e ≤ 252 * 10 ^ 10 := Nat.mul_le_mul_left _ (Nat.pow_le_pow_right (by decide) he)
  exact Nat.lt_of_le_of_lt (Nat.le_trans h h2) (by decide)

set_option maxRecDepth 100000 in
set_option maxHeartbeats 4000000 in
/-- X5_drops -/
theorem c_X5_drops (l : Launch) (G : xG) (a : Nat → Nat) (na : Nat) (nk : Nat) (ns : Nat) (nl : Nat) (pa : Nat) (rp : Nat) (rq : Nat) (kd : Nat → Int32) (W : Nat → Int32) (Kp : Nat → Int32) (sg : Nat → Int32) (le : Nat → Int32) (tl : Nat → Int32) (rk : Nat → Int32) (rd : Nat → Int32) (nw : Nat → Int32) (rw : Nat → Int32) (s : xS) (i : Int32) (j : Int32) (k : Int32) (u : Int32) (w : Int32) (hs6 : s.1 ≤ 6) (hs1 : 0 < s.1) (hq5 : s.2.1 ≤ 5) (hq1 : 0 < s.2.1) (hkd : ∀ p, p < s.1 → kd p = s.2.2.1 p) (hmi : ∀ j, j < 6 → inR (s.2.2.2.1 j) 6 = true) (hbv : ∀ j, j < 30 → bd (s.2.2.2.2.1 j)) (hbl : ∀ j, j < 25 → bl (s.2.2.2.2.2 j)) : xM l G xE0 yX5_drops cX5_drops 14 (some .long) 2 48 0 0 [.ref (a 0), .int i, .int j, .int k, .int u, .int w] (wMo G a s.1 s.2.1 na nk ns nl pa rp rq kd (en s) W Kp sg le tl rk rd nw rw) (some (.long (F_drops s i j k u w))) (fun w2 => ∃ nw' : Nat → Int32, w2 = wMo G a s.1 s.2.1 na nk ns nl pa rp rq kd (en s) W Kp sg le tl rk rd nw' rw) := by
  refine x_entry (by decide +kernel) (Nat.le_of_ble_eq_true rfl) rfl rfl (fun K X => ?_)
  refine x_aloadn X dX5_drops_0 0 rfl ?_
  refine x_iloadn X dX5_drops_1 1 rfl ?_
  refine x_callVrv (As := [.int i]) (rest := []) X (c_X5_isPerson l G a s.1 s.2.1 na nk ns nl pa rp rq kd (en s) W Kp sg le tl rk rd nw rw i (by omega) (by omega)) xE0_ok (fun _ _ _ => trivial) [0, 1, 2, 3, 4, 5, 6, 7, 8, 9, 10, 11] rfl 0 rfl rfl rfl rfl wco_X5_isPerson wi_X5 xd_X5_isPerson wl_X5_131 win_X5_isPerson wse_X5_isPerson (by decide) (Nat.le_of_ble_eq_true rfl) dX5_drops_2 ?_
  refine x_ifeq_b 46 X dX5_drops_5 (by decide) (fun c_1 => ?_) (fun c_1 => ?_)
  · -- 5 t
    refine x_ldc2 (v := (-1)) X wk_X5_166 dX5_drops_46 ?_
    exact x_ret X dX5_drops_49 ⟨ret_l (by simp [F_drops, c_1]), ⟨nw, rfl⟩, by decide, by decide⟩
  · -- 5 f
    obtain ⟨iN, hiN, rfl⟩ := inR_nat c_1 (by omega)
    have qiN : (nI iN).toNatClampNeg = iN := nI_clamp (by omega)
    refine x_iloadn X dX5_drops_8 2 rfl ?_
    refine x_callSrv (As := [.int j]) (rest := []) X (c_X5_isTheme l G j) xE0_ok (fun _ _ _ => trivial) [] rfl rfl rfl wco_X5_isTheme wi_X5 xd_X5_isTheme wl_X5_134 wst_X5_isTheme (by decide) (Nat.le_of_ble_eq_true rfl) dX5_drops_9 ?_
    refine x_ifeq_b 46 X dX5_drops_12 (by decide) (fun c_2 => ?_) (fun c_2 => ?_)
    · -- 12 t
      refine x_ldc2 (v := (-1)) X wk_X5_166 dX5_drops_46 ?_
      exact x_ret X dX5_drops_49 ⟨ret_l (by simp [F_drops, c_1, qiN, c_2]), ⟨nw, rfl⟩, by decide, by decide⟩
    · -- 12 f
      obtain ⟨jN, hjN, rfl⟩ := inR_nat c_2 (by omega)
      have qjN : (nI jN).toNatClampNeg = jN := nI_clamp (by omega)
      refine x_iloadn X dX5_drops_15 3 rfl ?_
      refine x_iconst (v := nI 0) X dX5_drops_16 (by decide) ?_
      refine x_bipush (v := nI 18) X dX5_drops_17 (by decide) ?_
      refine x_callSrv (As := [.int k, .int (nI 0), .int (nI 18)]) (rest := []) X (c_X5_in__R l G k 18 (by omega)) xE0_ok (fun _ _ _ => trivial) [] rfl rfl rfl wco_X5_in wi_X5 xd_X5_in wl_X5_63 wst_X5_in (by decide) (Nat.le_of_ble_eq_true rfl) dX5_drops_19 ?_
      refine x_ifeq_b 46 X dX5_drops_22 (by decide) (fun c_3 => ?_) (fun c_3 => ?_)
      · -- 22 t
        refine x_ldc2 (v := (-1)) X wk_X5_166 dX5_drops_46 ?_
        exact x_ret X dX5_drops_49 ⟨ret_l (by simp [F_drops, c_1, qiN, c_2, qjN, c_3]), ⟨nw, rfl⟩, by decide, by decide⟩
      · -- 22 f
        obtain ⟨kN, hkN, rfl⟩ := inR_nat c_3 (by omega)
        have qkN : (nI kN).toNatClampNeg = kN := nI_clamp (by omega)
        refine x_iload X dX5_drops_25 4 rfl ?_
        refine x_iconst (v := nI 0) X dX5_drops_27 (by decide) ?_
        refine x_bipush (v := nI 10) X dX5_drops_28 (by decide) ?_
        refine x_callSrv (As := [.int u, .int (nI 0), .int (nI 10)]) (rest := []) X (c_X5_in__R l G u 10 (by omega)) xE0_ok (fun _ _ _ => trivial) [] rfl rfl rfl wco_X5_in wi_X5 xd_X5_in wl_X5_63 wst_X5_in (by decide) (Nat.le_of_ble_eq_true rfl) dX5_drops_30 ?_
        refine x_ifeq_b 46 X dX5_drops_33 (by decide) (fun c_4 => ?_) (fun c_4 => ?_)
        · -- 33 t
          refine x_ldc2 (v := (-1)) X wk_X5_166 dX5_drops_46 ?_
          exact x_ret X dX5_drops_49 ⟨ret_l (by simp [F_drops, c_1, qiN, c_2, qjN, c_3, qkN, c_4]), ⟨nw, rfl⟩, by decide, by decide⟩
        · -- 33 f
          obtain ⟨uN, huN, rfl⟩ := inR_nat c_4 (by omega)
          have quN : (nI uN).toNatClampNeg = uN := nI_clamp (by omega)
          refine x_iload X dX5_drops_36 5 rfl ?_
          refine x_iconst (v := nI 0) X dX5_drops_38 (by decide) ?_
          refine x_iconst (v := nI 1) X dX5_drops_39 (by decide) ?_
          refine x_callSrv (As := [.int w, .int (nI 0), .int (nI 1)]) (rest := []) X (c_X5_in__R l G w 1 (by omega)) xE0_ok (fun _ _ _ => trivial) [] rfl rfl rfl wco_X5_in wi_X5 xd_X5_in wl_X5_63 wst_X5_in (by decide) (Nat.le_of_ble_eq_true rfl) dX5_drops_40 ?_
          refine x_ifne_b 50 X dX5_drops_43 (by decide) (fun c_5 => ?_) (fun c_5 => ?_)
          · -- 43 t
            obtain ⟨wN, hwN, rfl⟩ := inR_nat c_5 (by omega)
            have qwN : (nI wN).toNatClampNeg = wN := nI_clamp (by omega)
            refine x_aloadn X dX5_drops_50 0 rfl ?_
            refine x_callVf0 (As := []) (rest := []) (w1 := wMo G a s.1 s.2.1 na nk ns nl pa rp rq kd (en s) W Kp sg le tl rk rd (en s) rw) (ws' := wMo G a s.1 s.2.1 na nk ns nl pa rp rq kd (en s) W Kp sg le tl rk rd (en s) rw) X (c_X5_asItIs l G a s.1 s.2.1 na nk ns nl pa rp rq kd (en s) W Kp sg le tl rk rd nw rw) xE0_ok (fun _ _ _ => trivial) [0, 1, 2, 3, 4, 5, 6, 7, 8, 9, 10, 11] rfl 0 rfl rfl rfl rfl wco_X5_asItIs wi_X5 xd_X5_asItIs wl_X5_143 win_X5_asItIs wse_X5_asItIs (by decide) (Nat.le_of_ble_eq_true rfl) dX5_drops_51 rfl (Eq.trans (b := [a 0, a 1, a 2, a 3, a 4, a 5, a 6, a 7, a 8, a 9, a 10, a 11]) rfl rfl) rfl ?_
            refine x_lconst (v := lN 0) X dX5_drops_54 (by decide) ?_
            refine x_lstore (lv' := [(6, .long (lN 0)), (0, .ref (a 0)), (1, .int (nI iN)), (2, .int (nI jN)), (3, .int (nI kN)), (4, .int (nI uN)), (5, .int (nI wN))]) X dX5_drops_55 (by decide) rfl ?_
            refine x_iconst (v := nI 0) X dX5_drops_57 (by decide) ?_
            refine x_istore (lv' := [(8, .int (nI 0)), (6, .long (lN 0)), (0, .ref (a 0)), (1, .int (nI iN)), (2, .int (nI jN)), (3, .int (nI kN)), (4, .int (nI uN)), (5, .int (nI wN))]) X dX5_drops_58 (by decide) rfl ?_
            have L60 : ∀ (fu : Nat) (q : Nat) (y : Nat), 11 - q < fu → (q ≤ 11) → (y = F_abv s iN jN (nI kN) uN q) → K (wMo G a s.1 s.2.1 na nk ns nl pa rp rq kd (en s) W Kp sg le tl rk rd (en s) rw) 0 0 60 [(0, .ref (a 0)), (1, .int (nI iN)), (2, .int (nI jN)), (3, .int (nI kN)), (4, .int (nI uN)), (5, .int (nI wN)), (6, .long (lN y)), (8, .int (nI q))] [] := by
              intro fu
              induction fu with
              | zero => intro q y hfu; exact absurd hfu (Nat.not_lt_zero _)
              | succ fu ih_L60 =>
                intro q y hfu_L60 hi hy
                refine x_iload X dX5_drops_60 7 rfl ?_
                refine x_bipush (v := nI 10) X dX5_drops_62 (by decide) ?_
                refine x_icmp_gt_n 177 X dX5_drops_64 (by decide) (by omega) (by omega) (fun c_6 => ?_) (fun c_6 => ?_)
                · -- 64 t
                  have e : q = 11 := by omega
                  rw [e] at hy
                  have hyb := F_abv_le s iN jN (nI kN) uN (by omega) 11
                  rw [← hy] at hyb
                  have hy63 := abv_63 hyb
                  refine x_lload X dX5_drops_177 6 rfl ?_
                  refine x_lstore (lv' := [(8, .long (lN y)), (0, .ref (a 0)), (1, .int (nI iN)), (2, .int (nI jN)), (3, .int (nI kN)), (4, .int (nI uN)), (5, .int (nI wN)), (6, .long (lN y))]) X dX5_drops_179 (by decide) rfl ?_
                  refine x_ldc2 (v := lN 10000000000) X wk_X5_168 dX5_drops_181 ?_
                  refine x_lstore (lv' := [(10, .long (lN 10000000000)), (8, .long (lN y)), (0, .ref (a 0)), (1, .int (nI iN)), (2, .int (nI jN)), (3, .int (nI kN)), (4, .int (nI uN)), (5, .int (nI wN)), (6, .long (lN y))]) X dX5_drops_184 (by decide) rfl ?_
                  have L186_1 : ∀ (fu : Nat) (y2 : Nat) (z2 : Nat), z2 < fu → (z2 < 2 ^ 63) → (y2 < 2 ^ 63) → (Nat.gcd y2 z2 = Nat.gcd 10000000000 y) → K (wMo G a s.1 s.2.1 na nk ns nl pa rp rq kd (en s) W Kp sg le tl rk rd (en s) rw) 0 0 186 [(0, .ref (a 0)), (1, .int (nI iN)), (2, .int (nI jN)), (3, .int (nI kN)), (4, .int (nI uN)), (5, .int (nI wN)), (6, .long (lN y)), (8, .long (lN y2)), (10, .long (lN z2))] [] := by
                    intro fu
                    induction fu with
                    | zero => intro y2 z2 hfu; exact absurd hfu (Nat.not_lt_zero _)
                    | succ fu ih_L186_1 =>
                      intro y2 z2 hfu_L186_1 hz hy2 hg
                      refine x_lload X dX5_drops_186 8 rfl ?_
                      refine x_lconst (v := lN 0) X dX5_drops_188 (by decide) ?_
                      refine x_lcmp X dX5_drops_189 ?_
                      refine x_if_le 211 X dX5_drops_190 (by decide) (fun c_7 => ?_) (fun c_7 => ?_)
                      · -- 190 t
                        replace c_7 := Int32.not_lt.mpr c_7
                        have hz0 : z2 = 0 := by have := (pk_lLE (a := z2) (b := 0) hz (by decide)).mp ((lg_cmp_le _ _).mp (Int32.not_lt.mp c_7)); omega
                        have hyg : y2 = Nat.gcd 10000000000 y := by rw [← hg, hz0, Nat.gcd_zero_right]
                        have hyp : 0 < y2 := by rw [hyg]; exact Nat.gcd_pos_of_pos_left _ (by decide)
                        have he := euc_100 hy63
                        rw [← hyg] at he
                        refine x_iload X dX5_drops_211 5 rfl ?_
                        refine x_if_ne_n 221 X dX5_drops_213 (by decide) (by omega) (fun c_8 => ?_) (fun c_8 => ?_)
                        · -- 213 t
                          refine x_ldc2 (v := lN 10000000000) X wk_X5_168 dX5_drops_221 ?_
                          refine x_lload X dX5_drops_224 7 rfl ?_
                          refine x_ldiv (v := lN (10000000000 / y2)) X dX5_drops_226 (fun q => absurd ((pk_lEQ (b := 0) hy2 (by decide)).mp q) (by omega)) (pk_lDiv (by decide) hyp hy2) ?_
                          exact x_ret X dX5_drops_227 ⟨ret_l (by rw [show F_drops s (nI iN) (nI jN) (nI kN) (nI uN) (nI wN) = lN (10000000000 / euc 100 10000000000 (F_abv s iN jN (nI kN) uN 11)) from by simp [F_drops, tn, c_1, qiN, c_2, qjN, c_3, qkN, c_4, quN, c_5, qwN, hi, c_6, hz, hy2, c_7, c_8], ← hy, he]), ⟨(en s), rfl⟩, by decide, by decide⟩
                        · -- 213 f
                          refine x_lload X dX5_drops_216 6 rfl ?_
                          refine x_goto 224 X dX5_drops_218 (by decide) ?_
                          refine x_lload X dX5_drops_224 7 rfl ?_
                          refine x_ldiv (v := lN (y / y2)) X dX5_drops_226 (fun q => absurd ((pk_lEQ (b := 0) hy2 (by decide)).mp q) (by omega)) (pk_lDiv hy63 hyp hy2) ?_
                          exact x_ret X dX5_drops_227 ⟨ret_l (by rw [show F_drops s (nI iN) (nI jN) (nI kN) (nI uN) (nI wN) = lN (F_abv s iN jN (nI kN) uN 11 / euc 100 10000000000 (F_abv s iN jN (nI kN) uN 11)) from by simp [F_drops, tn, c_1, qiN, c_2, qjN, c_3, qkN, c_4, quN, c_5, qwN, hi, c_6, hz, hy2, c_7, (eq_true c_8)], ← hy, he]), ⟨(en s), rfl⟩, by decide, by decide⟩
                      · -- 190 f
                        replace c_7 := Int32.not_le.mp c_7
                        have hz0 : 0 < z2 := Nat.pos_of_ne_zero fun q0 => absurd ((lg_cmp_le _ _).mpr ((pk_lLE (a := z2) (b := 0) hz (by decide)).mpr (by omega))) (Int32.not_le.mpr c_7)
                        have hzm := Nat.mod_lt y2 hz0
                        refine x_lload X dX5_drops_193 7 rfl ?_
                        refine x_lload X dX5_drops_195 8 rfl ?_
                        refine x_lrem (v := lN (y2 % z2)) X dX5_drops_197 (fun q => absurd ((pk_lEQ (b := 0) hz (by decide)).mp q) (by omega)) (pk_lRem hy2 hz0 hz) ?_
                        refine x_lstore (lv' := [(12, .long (lN (y2 % z2))), (0, .ref (a 0)), (1, .int (nI iN)), (2, .int (nI jN)), (3, .int (nI kN)), (4, .int (nI uN)), (5, .int (nI wN)), (6, .long (lN y)), (8, .long (lN y2)), (10, .long (lN z2))]) X dX5_drops_198 (by decide) rfl ?_
                        refine x_lload X dX5_drops_200 9 rfl ?_
                        refine x_lstore (lv' := [(8, .long (lN z2)), (12, .long (lN (y2 % z2))), (0, .ref (a 0)), (1, .int (nI iN)), (2, .int (nI jN)), (3, .int (nI kN)), (4, .int (nI uN)), (5, .int (nI wN)), (6, .long (lN y)), (10, .long (lN z2))]) X dX5_drops_202 (by decide) rfl ?_
                        refine x_lload X dX5_drops_204 1 rfl ?_
                        refine x_lstore (lv' := [(10, .long (lN (y2 % z2))), (8, .long (lN z2)), (12, .long (lN (y2 % z2))), (0, .ref (a 0)), (1, .int (nI iN)), (2, .int (nI jN)), (3, .int (nI kN)), (4, .int (nI uN)), (5, .int (nI wN)), (6, .long (lN y))]) X dX5_drops_206 (by decide) rfl ?_
                        refine x_goto 186 X dX5_drops_208 (by decide) ?_
                        refine x_lv (lv' := [(0, .ref (a 0)), (1, .int (nI iN)), (2, .int (nI jN)), (3, .int (nI kN)), (4, .int (nI uN)), (5, .int (nI wN)), (6, .long (lN y)), (8, .long (lN z2)), (10, .long (lN (y2 % z2)))]) X [3, 4, 5, 6, 7, 8, 9, 1, 0] rfl ?_
                        exact ih_L186_1 z2 (y2 % z2) (by omega) (by omega) (hz) (gcd_s _ _ _ hg)
                  refine x_lv (lv' := [(0, .ref (a 0)), (1, .int (nI iN)), (2, .int (nI jN)), (3, .int (nI kN)), (4, .int (nI uN)), (5, .int (nI wN)), (6, .long (lN y)), (8, .long (lN y)), (10, .long (lN 10000000000))]) X [2, 3, 4, 5, 6, 7, 8, 1, 0] rfl ?_
                  exact L186_1 _ y 10000000000 (Nat.lt_succ_self _) (by decide) (hy63) (Nat.gcd_comm _ _)
                · -- 64 f
                  have n_6 := Nat.not_lt.mpr c_6
                  refine x_aloadn X dX5_drops_67 0 rfl ?_
                  refine x_iloadn X dX5_drops_68 1 rfl ?_
                  refine x_aloadn X dX5_drops_69 0 rfl ?_
                  refine x_get X wu_X5 0 rfl rfl 18 (by decide) wf_X5_37 rfl rfl dX5_drops_70 ?_
                  refine x_iconst (v := nI 0) X dX5_drops_73 (by decide) ?_
                  refine x_iloadn X dX5_drops_74 1 rfl ?_
                  refine x_iadd (v := nI (0 + iN)) X dX5_drops_75 (nI_add _ _) ?_
                  refine x_iald_n (v := s.2.2.2.1 iN) X 10 rfl (by omega) (by omega) (en_mi _ (by omega)) dX5_drops_76 ?_
                  obtain ⟨em, hm6⟩ := inR_eq (hmi iN (by omega)) (by decide)
                  refine x_int em ?_
                  refine x_iloadn X dX5_drops_77 2 rfl ?_
                  refine x_iload X dX5_drops_78 7 rfl ?_
                  refine x_callVrv (As := [.int (nI iN), .int (nI (tn (s.2.2.2.1 iN))), .int (nI jN), .int (nI q)]) (rest := []) X (c_X5_writes l G a s.1 s.2.1 na nk ns nl pa rp rq kd (en s) W Kp sg le tl rk rd rw s iN (tn (s.2.2.2.1 iN)) jN (nI q) (by omega) (by omega) (by omega) (hkd _ (by omega))) xE0_ok (fun _ _ _ => trivial) [0, 1, 2, 3, 4, 5, 6, 7, 8, 9, 10, 11] rfl 0 rfl rfl rfl rfl wco_X5_writes wi_X5 xd_X5_writes wl_X5_146 win_X5_writes wse_X5_writes (by decide) (Nat.le_of_ble_eq_true rfl) dX5_drops_80 ?_
                  refine x_iloadn X dX5_drops_83 3 rfl ?_
                  refine x_bipush (v := nI 9) X dX5_drops_84 (by decide) ?_
                  refine x_isub (v := (nI kN) - (nI 9)) X dX5_drops_86 rfl ?_
                  refine x_icmp_ne 171 X dX5_drops_87 (by decide) (fun c_9 => ?_) (fun c_9 => ?_)
                  · -- 87 t
                    refine x_iinc (v := nI (q + 1)) (lv' := [(8, .int (nI (q + 1))), (0, .ref (a 0)), (1, .int (nI iN)), (2, .int (nI jN)), (3, .int (nI kN)), (4, .int (nI uN)), (5, .int (nI wN)), (6, .long (lN y))]) X dX5_drops_171 7 rfl (nI_1 _) (by decide) rfl ?_
                    refine x_goto 60 X dX5_drops_174 (by decide) ?_
                    refine x_lv (lv' := [(0, .ref (a 0)), (1, .int (nI iN)), (2, .int (nI jN)), (3, .int (nI kN)), (4, .int (nI uN)), (5, .int (nI wN)), (6, .long (lN y)), (8, .int (nI (q + 1)))]) X [1, 2, 3, 4, 5, 6, 7, 0] rfl ?_
                    exact ih_L60 (q + 1) y (by omega) (by omega) (by rw [hy, F_abv, if_neg (by simpa [wr_wf] using c_9)])
                  · -- 87 f
                    have hc87 := c_9
                    refine x_lconst (v := lN 1) X dX5_drops_90 (by decide) ?_
                    refine x_lstore (lv' := [(9, .long (lN 1)), (0, .ref (a 0)), (1, .int (nI iN)), (2, .int (nI jN)), (3, .int (nI kN)), (4, .int (nI uN)), (5, .int (nI wN)), (6, .long (lN y)), (8, .int (nI q))]) X dX5_drops_91 (by decide) rfl ?_
                    refine x_iconst (v := nI 1) X dX5_drops_93 (by decide) ?_
                    refine x_istore (lv' := [(11, .int (nI 1)), (9, .long (lN 1)), (0, .ref (a 0)), (1, .int (nI iN)), (2, .int (nI jN)), (3, .int (nI kN)), (4, .int (nI uN)), (5, .int (nI wN)), (6, .long (lN y)), (8, .int (nI q))]) X dX5_drops_94 (by decide) rfl ?_
                    have L96_2 : ∀ (fu : Nat) (c : Nat) (b : Nat), 12 - c < fu → (1 ≤ c ∧ c ≤ q + 1) → (b = bnm (c - 1)) → K (wMo G a s.1 s.2.1 na nk ns nl pa rp rq kd (en s) W Kp sg le tl rk rd (en s) rw) 0 0 96 [(0, .ref (a 0)), (1, .int (nI iN)), (2, .int (nI jN)), (3, .int (nI kN)), (4, .int (nI uN)), (5, .int (nI wN)), (6, .long (lN y)), (8, .int (nI q)), (9, .long (lN b)), (11, .int (nI c))] [] := by
                      intro fu
                      induction fu with
                      | zero => intro c b hfu; exact absurd hfu (Nat.not_lt_zero _)
                      | succ fu ih_L96_2 =>
                        intro c b hfu_L96_2 hc hW
                        have hW2 : b ≤ 252 := by rw [hW, bnm_w (by omega)]; exact wofN_le _
                        have hWm : b * (11 - c) < 2 ^ 63 := Nat.lt_of_le_of_lt (Nat.mul_le_mul hW2 (Nat.sub_le 11 c)) (by decide)
                        refine x_iload X dX5_drops_96 9 rfl ?_
                        refine x_iload X dX5_drops_98 7 rfl ?_
                        refine x_icmp_gt_n 124 X dX5_drops_100 (by decide) (by omega) (by omega) (fun c_10 => ?_) (fun c_10 => ?_)
                        · -- 100 t
                          refine x_iconst (v := nI 0) X dX5_drops_124 (by decide) ?_
                          refine x_istore (lv' := [(11, .int (nI 0)), (0, .ref (a 0)), (1, .int (nI iN)), (2, .int (nI jN)), (3, .int (nI kN)), (4, .int (nI uN)), (5, .int (nI wN)), (6, .long (lN y)), (8, .int (nI q)), (9, .long (lN b))]) X dX5_drops_125 (by decide) rfl ?_
                          have L127_3 : ∀ (fu : Nat) (e : Nat) (V : Nat), 11 - e < fu → (e ≤ 10) → (V = F_wayN q uN e) → K (wMo G a s.1 s.2.1 na nk ns nl pa rp rq kd (en s) W Kp sg le tl rk rd (en s) rw) 0 0 127 [(0, .ref (a 0)), (1, .int (nI iN)), (2, .int (nI jN)), (3, .int (nI kN)), (4, .int (nI uN)), (5, .int (nI wN)), (6, .long (lN y)), (8, .int (nI q)), (9, .long (lN V)), (11, .int (nI e))] [] := by
                            intro fu
                            induction fu with
                            | zero => intro e V hfu; exact absurd hfu (Nat.not_lt_zero _)
                            | succ fu ih_L127_3 =>
                              intro e V hfu_L127_3 he10 hV
                              refine x_iload X dX5_drops_127 9 rfl ?_
                              refine x_bipush (v := nI 10) X dX5_drops_129 (by decide) ?_
                              refine x_icmp_ge_n 164 X dX5_drops_131 (by decide) (by omega) (by omega) (fun c_11 => ?_) (fun c_11 => ?_)
                              · -- 131 t
                                have n_11 := Nat.not_lt.mpr c_11
                                have e1 : e = 10 := by omega
                                rw [e1] at hV
                                refine x_lload X dX5_drops_164 6 rfl ?_
                                refine x_lload X dX5_drops_166 8 rfl ?_
                                refine x_ladd (v := lN (y + V)) X dX5_drops_168 (lN_add _ _) ?_
                                refine x_lstore (lv' := [(6, .long (lN (y + V))), (0, .ref (a 0)), (1, .int (nI iN)), (2, .int (nI jN)), (3, .int (nI kN)), (4, .int (nI uN)), (5, .int (nI wN)), (8, .int (nI q)), (9, .long (lN V)), (11, .int (nI e))]) X dX5_drops_169 (by decide) rfl ?_
                                refine x_iinc (v := nI (q + 1)) (lv' := [(8, .int (nI (q + 1))), (6, .long (lN (y + V))), (0, .ref (a 0)), (1, .int (nI iN)), (2, .int (nI jN)), (3, .int (nI kN)), (4, .int (nI uN)), (5, .int (nI wN)), (9, .long (lN V)), (11, .int (nI e))]) X dX5_drops_171 7 rfl (nI_1 _) (by decide) rfl ?_
                                refine x_goto 60 X dX5_drops_174 (by decide) ?_
                                refine x_lv (lv' := [(0, .ref (a 0)), (1, .int (nI iN)), (2, .int (nI jN)), (3, .int (nI kN)), (4, .int (nI uN)), (5, .int (nI wN)), (6, .long (lN (y + V))), (8, .int (nI (q + 1)))]) X [2, 3, 4, 5, 6, 7, 1, 0] rfl ?_
                                exact ih_L60 (q + 1) (y + V) (by omega) (by omega) (by rw [F_abv, if_pos (by simpa [wr_wf] using hc87), ← hy, hV])
                              · -- 131 f
                                refine x_lload X dX5_drops_134 8 rfl ?_
                                refine x_iload X dX5_drops_136 9 rfl ?_
                                refine x_iload X dX5_drops_138 7 rfl ?_
                                refine x_icmp_ge_n 149 X dX5_drops_140 (by decide) (by omega) (by omega) (fun c_12 => ?_) (fun c_12 => ?_)
                                · -- 140 t
                                  have n_12 := Nat.not_lt.mpr c_12
                                  refine x_bipush (v := nI 10) X dX5_drops_149 (by decide) ?_
                                  refine x_iload X dX5_drops_151 4 rfl ?_
                                  refine x_isub (v := nI (10 - uN)) X dX5_drops_153 (pk_sub (by omega)) ?_
                                  refine x_i2l (v := lN (10 - uN)) X dX5_drops_154 (nI_l (by omega)) ?_
                                  refine x_lmul (v := lN (V * (10 - uN))) X dX5_drops_155 (lN_mul _ _) ?_
                                  refine x_lstore (lv' := [(9, .long (lN (V * (10 - uN)))), (0, .ref (a 0)), (1, .int (nI iN)), (2, .int (nI jN)), (3, .int (nI kN)), (4, .int (nI uN)), (5, .int (nI wN)), (6, .long (lN y)), (8, .int (nI q)), (11, .int (nI e))]) X dX5_drops_156 (by decide) rfl ?_
                                  refine x_iinc (v := nI (e + 1)) (lv' := [(11, .int (nI (e + 1))), (9, .long (lN (V * (10 - uN)))), (0, .ref (a 0)), (1, .int (nI iN)), (2, .int (nI jN)), (3, .int (nI kN)), (4, .int (nI uN)), (5, .int (nI wN)), (6, .long (lN y)), (8, .int (nI q))]) X dX5_drops_158 9 rfl (nI_1 _) (by decide) rfl ?_
                                  refine x_goto 127 X dX5_drops_161 (by decide) ?_
                                  refine x_lv (lv' := [(0, .ref (a 0)), (1, .int (nI iN)), (2, .int (nI jN)), (3, .int (nI kN)), (4, .int (nI uN)), (5, .int (nI wN)), (6, .long (lN y)), (8, .int (nI q)), (9, .long (lN (V * (10 - uN)))), (11, .int (nI (e + 1)))]) X [2, 3, 4, 5, 6, 7, 8, 9, 1, 0] rfl ?_
                                  exact ih_L127_3 (e + 1) (V * (10 - uN)) (by omega) (by omega) (by rw [← wayN_s hV, if_neg (by omega)])
                                · -- 140 f
                                  refine x_iload X dX5_drops_143 4 rfl ?_
                                  refine x_i2l (v := lN uN) X dX5_drops_145 (nI_l (by omega)) ?_
                                  refine x_goto 155 X dX5_drops_146 (by decide) ?_
                                  refine x_lmul (v := lN (V * uN)) X dX5_drops_155 (lN_mul _ _) ?_
                                  refine x_lstore (lv' := [(9, .long (lN (V * uN))), (0, .ref (a 0)), (1, .int (nI iN)), (2, .int (nI jN)), (3, .int (nI kN)), (4, .int (nI uN)), (5, .int (nI wN)), (6, .long (lN y)), (8, .int (nI q)), (11, .int (nI e))]) X dX5_drops_156 (by decide) rfl ?_
                                  refine x_iinc (v := nI (e + 1)) (lv' := [(11, .int (nI (e + 1))), (9, .long (lN (V * uN))), (0, .ref (a 0)), (1, .int (nI iN)), (2, .int (nI jN)), (3, .int (nI kN)), (4, .int (nI uN)), (5, .int (nI wN)), (6, .long (lN y)), (8, .int (nI q))]) X dX5_drops_158 9 rfl (nI_1 _) (by decide) rfl ?_
                                  refine x_goto 127 X dX5_drops_161 (by decide) ?_
                                  refine x_lv (lv' := [(0, .ref (a 0)), (1, .int (nI iN)), (2, .int (nI jN)), (3, .int (nI kN)), (4, .int (nI uN)), (5, .int (nI wN)), (6, .long (lN y)), (8, .int (nI q)), (9, .long (lN (V * uN))), (11, .int (nI (e + 1)))]) X [2, 3, 4, 5, 6, 7, 8, 9, 1, 0] rfl ?_
                                  exact ih_L127_3 (e + 1) (V * uN) (by omega) (by omega) (by rw [← wayN_s hV, if_pos (by omega)])
                          refine x_lv (lv' := [(0, .ref (a 0)), (1, .int (nI iN)), (2, .int (nI jN)), (3, .int (nI kN)), (4, .int (nI uN)), (5, .int (nI wN)), (6, .long (lN y)), (8, .int (nI q)), (9, .long (lN b)), (11, .int (nI 0))]) X [1, 2, 3, 4, 5, 6, 7, 8, 9, 0] rfl ?_
                          exact L127_3 _ 0 b (Nat.lt_succ_self _) (by omega) (by rw [hW, show c - 1 = q by omega, bnm_w (by omega)]; rfl)
                        · -- 100 f
                          have n_10 := Nat.not_lt.mpr c_10
                          refine x_lload X dX5_drops_103 8 rfl ?_
                          refine x_bipush (v := nI 11) X dX5_drops_105 (by decide) ?_
                          refine x_iload X dX5_drops_107 9 rfl ?_
                          refine x_isub (v := nI (11 - c)) X dX5_drops_109 (pk_sub (by omega)) ?_
                          refine x_i2l (v := lN (11 - c)) X dX5_drops_110 (nI_l (by omega)) ?_
                          refine x_lmul (v := lN (b * (11 - c))) X dX5_drops_111 (lN_mul _ _) ?_
                          refine x_iload X dX5_drops_112 9 rfl ?_
                          refine x_i2l (v := lN c) X dX5_drops_114 (nI_l (by omega)) ?_
                          refine x_ldiv (v := lN (b * (11 - c) / c)) X dX5_drops_115 (fun q => absurd ((pk_lEQ (b := 0) (by omega) (by decide)).mp q) (by omega)) (pk_lDiv hWm (by omega) (by omega)) ?_
                          refine x_lstore (lv' := [(9, .long (lN (b * (11 - c) / c))), (0, .ref (a 0)), (1, .int (nI iN)), (2, .int (nI jN)), (3, .int (nI kN)), (4, .int (nI uN)), (5, .int (nI wN)), (6, .long (lN y)), (8, .int (nI q)), (11, .int (nI c))]) X dX5_drops_116 (by decide) rfl ?_
                          refine x_iinc (v := nI (c + 1)) (lv' := [(11, .int (nI (c + 1))), (9, .long (lN (b * (11 - c) / c))), (0, .ref (a 0)), (1, .int (nI iN)), (2, .int (nI jN)), (3, .int (nI kN)), (4, .int (nI uN)), (5, .int (nI wN)), (6, .long (lN y)), (8, .int (nI q))]) X dX5_drops_118 9 rfl (nI_1 _) (by decide) rfl ?_
                          refine x_goto 96 X dX5_drops_121 (by decide) ?_
                          refine x_lv (lv' := [(0, .ref (a 0)), (1, .int (nI iN)), (2, .int (nI jN)), (3, .int (nI kN)), (4, .int (nI uN)), (5, .int (nI wN)), (6, .long (lN y)), (8, .int (nI q)), (9, .long (lN (b * (11 - c) / c))), (11, .int (nI (c + 1)))]) X [2, 3, 4, 5, 6, 7, 8, 9, 1, 0] rfl ?_
                          exact ih_L96_2 (c + 1) (b * (11 - c) / c) (by omega) (by omega) (by rw [hW]; obtain ⟨c2, rfl⟩ : ∃ c2, c = c2 + 1 := ⟨c - 1, by omega⟩; show _ = bnm c2 * (10 - c2) / (c2 + 1); rw [Nat.add_sub_cancel, show 11 - (c2 + 1) = 10 - c2 by omega])
                    refine x_lv (lv' := [(0, .ref (a 0)), (1, .int (nI iN)), (2, .int (nI jN)), (3, .int (nI kN)), (4, .int (nI uN)), (5, .int (nI wN)), (6, .long (lN y)), (8, .int (nI q)), (9, .long (lN 1)), (11, .int (nI 1))]) X [2, 3, 4, 5, 6, 7, 8, 9, 1, 0] rfl ?_
                    exact L96_2 _ 1 1 (Nat.lt_succ_self _) (by omega) (rfl)
            refine x_lv (lv' := [(0, .ref (a 0)), (1, .int (nI iN)), (2, .int (nI jN)), (3, .int (nI kN)), (4, .int (nI uN)), (5, .int (nI wN)), (6, .long (lN 0)), (8, .int (nI 0))]) X [2, 3, 4, 5, 6, 7, 1, 0] rfl ?_
            exact L60 _ 0 0 (Nat.lt_succ_self _) (by omega) (rfl)
          · -- 43 f
            refine x_ldc2 (v := (-1)) X wk_X5_166 dX5_drops_46 ?_
            exact x_ret X dX5_drops_49 ⟨ret_l (by simp [F_drops, c_1, qiN, c_2, qjN, c_3, qkN, c_4, quN, c_5]), ⟨nw, rfl⟩, by decide, by decide⟩
