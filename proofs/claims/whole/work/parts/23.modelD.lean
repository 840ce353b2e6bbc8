/-! ===== the reference: the SIGNED; reading ===== -/
def kds (rk kd : Nat → Int32) (k : Nat) : Nat → Int32 := fun j => if j < k then rk j else kd j
theorem kds_0 (rk kd : Nat → Int32) : kd = kds rk kd 0 := by funext j; simp [kds]
theorem kds_s (rk kd : Nat → Int32) (k : Nat) : upd (kds rk kd k) k (rk k) = kds rk kd (k + 1) := by
  funext j
  simp only [upd, kds]
  by_cases h : j = k
  · subst h; simp
  · rw [if_neg h]
    by_cases h2 : j < k
    · rw [if_pos h2, if_pos (by omega)]
    · rw [if_neg h2, if_neg (by omega)]
theorem pre_nI (j : Nat) : nI (j + 1) - nI 1 = nI j := by
  rw [← nI_add]
  apply Int32.toBitVec_inj.mp
  simp
theorem sub9 (x : Int32) : x + nI 9 - nI 9 = x := by
  apply Int32.toBitVec_inj.mp
  simp

set_option maxRecDepth 100000 in
set_option maxHeartbeats 4000000 in
/-- X5_isWritten -/
theorem c_X5_isWritten (l : Launch) (G : xG) (a : Nat → Nat) (np : Nat) (nq : Nat) (na : Nat) (nk : Nat) (ns : Nat) (nl : Nat) (pa : Nat) (rp : Nat) (rq : Nat) (kd : Nat → Int32) (S : Nat → Int32) (W : Nat → Int32) (Kp : Nat → Int32) (sg : Nat → Int32) (le : Nat → Int32) (tl : Nat → Int32) (rk : Nat → Int32) (rd : Nat → Int32) (rw : Nat → Int32) (s : xS) (th : Nat → Int32) (sa : Nat → Int32) (p : Nat) (mm : Nat) (n : Int32) (hp : p < 6) (hmm : mm < 6) (hk : kd p = s.2.2.1 p) (hns : ns ≤ 6) (hsg : ∀ k, k < ns → sg (2 * k) = th k ∧ sg (2 * k + 1) = sa k + nI 9) (hth : ∀ k, k < ns → inR (th k) 5 = true) : xM l G xE0 yX5_isWritten cX5_isWritten 6 (some .boolean) 2 48 0 0 [.ref (a 0), .int (nI p), .int (nI mm), .int n] (wMo G a np nq na nk ns nl pa rp rq kd S W Kp sg le tl rk rd (en s) rw) (some (.int (bI (allW s.2.2.1 s.2.2.2.2.1 th sa p mm n ns)))) (fun w2 => w2 = wMo G a np nq na nk ns nl pa rp rq kd S W Kp sg le tl rk rd (en s) rw) := by
  refine x_entry (by decide +kernel) (Nat.le_of_ble_eq_true rfl) rfl ⟨_, rfl, bI_narrow _⟩ (fun K X => ?_)
  refine x_iconst (v := nI 1) X dX5_isWritten_0 (by decide) ?_
  refine x_istore (lv' := [(4, .int (nI 1)), (0, .ref (a 0)), (1, .int (nI p)), (2, .int (nI mm)), (3, .int n)]) X dX5_isWritten_1 (by decide) rfl ?_
  refine x_iconst (v := nI 0) X dX5_isWritten_3 (by decide) ?_
  refine x_istore (lv' := [(5, .int (nI 0)), (4, .int (nI 1)), (0, .ref (a 0)), (1, .int (nI p)), (2, .int (nI mm)), (3, .int n)]) X dX5_isWritten_4 (by decide) rfl ?_
  have L6 : ∀ (fu : Nat) (k : Nat) (u : Int32), ns - k < fu → (k ≤ ns) → (u = bI (allW s.2.2.1 s.2.2.2.2.1 th sa p mm n k)) → K (wMo G a np nq na nk ns nl pa rp rq kd S W Kp sg le tl rk rd (en s) rw) 0 0 6 [(0, .ref (a 0)), (1, .int (nI p)), (2, .int (nI mm)), (3, .int n), (4, .int u), (5, .int (nI k))] [] := by
    intro fu
    induction fu with
    | zero => intro k u hfu; exact absurd hfu (Nat.not_lt_zero _)
    | succ fu ih_L6 =>
      intro k u hfu_L6 hk7 hu
      refine x_iload X dX5_isWritten_6 5 rfl ?_
      refine x_aloadn X dX5_isWritten_8 0 rfl ?_
      refine x_get X wu_X5 0 rfl rfl 8 (by decide) wf_X5_117 rfl rfl dX5_isWritten_9 ?_
      refine x_icmp_ge_n 66 X dX5_isWritten_12 (by decide) (by omega) (by omega) (fun c_1 => ?_) (fun c_1 => ?_)
      · -- 12 t
        have n_1 := Nat.not_lt.mpr c_1
        have eq2 : k = ns := by omega
        rw [eq2] at hu
        refine x_iload X dX5_isWritten_66 4 rfl ?_
        exact x_ret X dX5_isWritten_68 ⟨ret_i (by rw [hu]), rfl, by decide, by decide⟩
      · -- 12 f
        refine x_iload X dX5_isWritten_15 4 rfl ?_
        refine x_if_eq 57 X dX5_isWritten_17 (by decide) (fun c_2 => ?_) (fun c_2 => ?_)
        · -- 17 t
          refine x_iconst (v := nI 0) X dX5_isWritten_57 (by decide) ?_
          refine x_istore (lv' := [(4, .int (nI 0)), (0, .ref (a 0)), (1, .int (nI p)), (2, .int (nI mm)), (3, .int n), (5, .int (nI k))]) X dX5_isWritten_58 (by decide) rfl ?_
          refine x_iinc (v := nI (k + 1)) (lv' := [(5, .int (nI (k + 1))), (4, .int (nI 0)), (0, .ref (a 0)), (1, .int (nI p)), (2, .int (nI mm)), (3, .int n)]) X dX5_isWritten_60 5 rfl (nI_1 _) (by decide) rfl ?_
          refine x_goto 6 X dX5_isWritten_63 (by decide) ?_
          refine x_lv (lv' := [(0, .ref (a 0)), (1, .int (nI p)), (2, .int (nI mm)), (3, .int n), (4, .int (nI 0)), (5, .int (nI (k + 1)))]) X [2, 3, 4, 5, 1, 0] rfl ?_
          exact ih_L6 (k + 1) (nI 0) (by omega) (by omega) (by have hq := hu; rw [allW]; change _ = bI (allW s.2.2.1 s.2.2.2.2.1 th sa p mm n k && decide (F_wf s p mm (tn (th k)) n = sa k)); cases h7 : allW s.2.2.1 s.2.2.2.2.1 th sa p mm n k <;> rw [h7] at hq <;> simp_all [bI] <;> rfl)
        · -- 17 f
          refine x_aloadn X dX5_isWritten_20 0 rfl ?_
          refine x_iloadn X dX5_isWritten_21 1 rfl ?_
          refine x_iloadn X dX5_isWritten_22 2 rfl ?_
          refine x_aloadn X dX5_isWritten_23 0 rfl ?_
          refine x_get X wu_X5 0 rfl rfl 9 (by decide) wf_X5_22 rfl rfl dX5_isWritten_24 ?_
          refine x_iconst (v := nI 2) X dX5_isWritten_27 (by decide) ?_
          refine x_iload X dX5_isWritten_28 5 rfl ?_
          refine x_imul (v := nI (2 * k)) X dX5_isWritten_30 (pk_mul _ _) ?_
          refine x_iald_n (v := nI (tn (th k))) X 5 rfl (by omega) (by omega) ((hsg k (by omega)).1.trans (inR_eq (hth k (by omega)) (by decide)).1) dX5_isWritten_31 ?_
          refine x_iloadn X dX5_isWritten_32 3 rfl ?_
          refine x_callVrv (As := [.int (nI p), .int (nI mm), .int (nI (tn (th k))), .int n]) (rest := []) X (c_X5_writes l G a np nq na nk ns nl pa rp rq kd S W Kp sg le tl rk rd rw s p mm (tn (th k)) n (by omega) (by omega) (inR_eq (hth k (by omega)) (by decide)).2 (by first | omega | assumption)) xE0_ok (fun _ _ _ => trivial) [0, 1, 2, 3, 4, 5, 6, 7, 8, 9, 10, 11] rfl 0 rfl rfl rfl rfl wco_X5_writes wi_X5 xd_X5_writes wl_X5_146 win_X5_writes wse_X5_writes (by decide) (Nat.le_of_ble_eq_true rfl) dX5_isWritten_33 ?_
          refine x_aloadn X dX5_isWritten_36 0 rfl ?_
          refine x_get X wu_X5 0 rfl rfl 9 (by decide) wf_X5_22 rfl rfl dX5_isWritten_37 ?_
          refine x_iconst (v := nI 2) X dX5_isWritten_40 (by decide) ?_
          refine x_iload X dX5_isWritten_41 5 rfl ?_
          refine x_imul (v := nI (2 * k)) X dX5_isWritten_43 (pk_mul _ _) ?_
          refine x_iconst (v := nI 1) X dX5_isWritten_44 (by decide) ?_
          refine x_iadd (v := nI (2 * k + 1)) X dX5_isWritten_45 (nI_add _ _) ?_
          refine x_iald_n (v := sa k + nI 9) X 5 rfl (by omega) (by omega) (hsg k (by omega)).2 dX5_isWritten_46 ?_
          refine x_bipush (v := nI 9) X dX5_isWritten_47 (by decide) ?_
          refine x_isub (v := sa k) X dX5_isWritten_49 (sub9 _) ?_
          refine x_icmp_ne 57 X dX5_isWritten_50 (by decide) (fun c_3 => ?_) (fun c_3 => ?_)
          · -- 50 t
            refine x_iconst (v := nI 0) X dX5_isWritten_57 (by decide) ?_
            refine x_istore (lv' := [(4, .int (nI 0)), (0, .ref (a 0)), (1, .int (nI p)), (2, .int (nI mm)), (3, .int n), (5, .int (nI k))]) X dX5_isWritten_58 (by decide) rfl ?_
            refine x_iinc (v := nI (k + 1)) (lv' := [(5, .int (nI (k + 1))), (4, .int (nI 0)), (0, .ref (a 0)), (1, .int (nI p)), (2, .int (nI mm)), (3, .int n)]) X dX5_isWritten_60 5 rfl (nI_1 _) (by decide) rfl ?_
            refine x_goto 6 X dX5_isWritten_63 (by decide) ?_
            refine x_lv (lv' := [(0, .ref (a 0)), (1, .int (nI p)), (2, .int (nI mm)), (3, .int n), (4, .int (nI 0)), (5, .int (nI (k + 1)))]) X [2, 3, 4, 5, 1, 0] rfl ?_
            exact ih_L6 (k + 1) (nI 0) (by omega) (by omega) (by have hq := hu; rw [allW]; change _ = bI (allW s.2.2.1 s.2.2.2.2.1 th sa p mm n k && decide (F_wf s p mm (tn (th k)) n = sa k)); cases h7 : allW s.2.2.1 s.2.2.2.2.1 th sa p mm n k <;> rw [h7] at hq <;> simp_all [bI] <;> rfl)
          · -- 50 f
            refine x_iconst (v := nI 1) X dX5_isWritten_53 (by decide) ?_
            refine x_goto 58 X dX5_isWritten_54 (by decide) ?_
            refine x_istore (lv' := [(4, .int (nI 1)), (0, .ref (a 0)), (1, .int (nI p)), (2, .int (nI mm)), (3, .int n), (5, .int (nI k))]) X dX5_isWritten_58 (by decide) rfl ?_
            refine x_iinc (v := nI (k + 1)) (lv' := [(5, .int (nI (k + 1))), (4, .int (nI 1)), (0, .ref (a 0)), (1, .int (nI p)), (2, .int (nI mm)), (3, .int n)]) X dX5_isWritten_60 5 rfl (nI_1 _) (by decide) rfl ?_
            refine x_goto 6 X dX5_isWritten_63 (by decide) ?_
            refine x_lv (lv' := [(0, .ref (a 0)), (1, .int (nI p)), (2, .int (nI mm)), (3, .int n), (4, .int (nI 1)), (5, .int (nI (k + 1)))]) X [2, 3, 4, 5, 1, 0] rfl ?_
            exact ih_L6 (k + 1) (nI 1) (by omega) (by omega) (by have hq := hu; rw [allW]; change _ = bI (allW s.2.2.1 s.2.2.2.2.1 th sa p mm n k && decide (F_wf s p mm (tn (th k)) n = sa k)); cases h7 : allW s.2.2.1 s.2.2.2.2.1 th sa p mm n k <;> rw [h7] at hq <;> simp_all [bI] <;> rfl)
  refine x_lv (lv' := [(0, .ref (a 0)), (1, .int (nI p)), (2, .int (nI mm)), (3, .int n), (4, .int (nI 1)), (5, .int (nI 0))]) X [2, 3, 4, 5, 1, 0] rfl ?_
  exact L6 _ 0 (nI 1) (Nat.lt_succ_self _) (by omega) (rfl)
set_option maxRecDepth 100000 in
set_option maxHeartbeats 4000000 in
/-- X5_views -/
theorem c_X5_views (l : Launch) (G : xG) (a : Nat → Nat) (na : Nat) (nk : Nat) (ns : Nat) (nl : Nat) (pa : Nat) (rp : Nat) (rq : Nat) (kd : Nat → Int32) (W : Nat → Int32) (Kp : Nat → Int32) (sg : Nat → Int32) (le : Nat → Int32) (tl : Nat → Int32) (rk : Nat → Int32) (rd : Nat → Int32) (nw : Nat → Int32) (rw : Nat → Int32) (s : xS) (th : Nat → Int32) (sa : Nat → Int32) (i : Int32) (j : Int32) (k : Int32) (hs6 : s.1 ≤ 6) (hs1 : 0 < s.1) (hq5 : s.2.1 ≤ 5) (hq1 : 0 < s.2.1) (hkd : ∀ p, p < s.1 → kd p = s.2.2.1 p) (hmi : ∀ j, j < 6 → inR (s.2.2.2.1 j) 6 = true) (hbv : ∀ j, j < 30 → bd (s.2.2.2.2.1 j)) (hbl : ∀ j, j < 25 → bl (s.2.2.2.2.2 j)) (hns : ns ≤ 6) (hsg : ∀ k, k < ns → sg (2 * k) = th k ∧ sg (2 * k + 1) = sa k + nI 9) (hth : ∀ k, k < ns → inR (th k) 5 = true) : xM l G xE0 yX5_views cX5_views 6 (some .int) 3 73 0 0 [.ref (a 0), .int i, .int j, .int k] (wMo G a s.1 s.2.1 na nk ns nl pa rp rq kd (en s) W Kp sg le tl rk rd nw rw) (some (.int (F_views s th sa ns i j k))) (fun w2 => ∃ nw' : Nat → Int32, w2 = wMo G a s.1 s.2.1 na nk ns nl pa rp rq kd (en s) W Kp sg le tl rk rd nw' rw) := by
  refine x_entry (by decide +kernel) (Nat.le_of_ble_eq_true rfl) rfl ⟨_, rfl, rfl⟩ (fun K X => ?_)
  refine x_aloadn X dX5_views_0 0 rfl ?_
  refine x_iloadn X dX5_views_1 1 rfl ?_
  refine x_callVrv (As := [.int i]) (rest := []) X (c_X5_isPerson l G a s.1 s.2.1 na nk ns nl pa rp rq kd (en s) W Kp sg le tl rk rd nw rw i (by omega) (by omega)) xE0_ok (fun _ _ _ => trivial) [0, 1, 2, 3, 4, 5, 6, 7, 8, 9, 10, 11] rfl 0 rfl rfl rfl rfl wco_X5_isPerson wi_X5 xd_X5_isPerson wl_X5_131 win_X5_isPerson wse_X5_isPerson (by decide) (Nat.le_of_ble_eq_true rfl) dX5_views_2 ?_
  refine x_ifeq_b 25 X dX5_views_5 (by decide) (fun c_1 => ?_) (fun c_1 => ?_)
  · -- 5 t
    refine x_iconst (v := (-1)) X dX5_views_25 (by decide) ?_
    exact x_ret X dX5_views_26 ⟨ret_i (by simp [F_views, tn, c_1]), ⟨nw, rfl⟩, by decide, by decide⟩
  · -- 5 f
    obtain ⟨iN, hiN, rfl⟩ := inR_nat c_1 (by omega)
    have qiN : (nI iN).toNatClampNeg = iN := nI_clamp (by omega)
    refine x_iloadn X dX5_views_8 2 rfl ?_
    refine x_callSrv (As := [.int j]) (rest := []) X (c_X5_isTheme l G j) xE0_ok (fun _ _ _ => trivial) [] rfl rfl rfl wco_X5_isTheme wi_X5 xd_X5_isTheme wl_X5_134 wst_X5_isTheme (by decide) (Nat.le_of_ble_eq_true rfl) dX5_views_9 ?_
    refine x_ifeq_b 25 X dX5_views_12 (by decide) (fun c_2 => ?_) (fun c_2 => ?_)
    · -- 12 t
      refine x_iconst (v := (-1)) X dX5_views_25 (by decide) ?_
      exact x_ret X dX5_views_26 ⟨ret_i (by simp [F_views, tn, c_1, qiN, c_2]), ⟨nw, rfl⟩, by decide, by decide⟩
    · -- 12 f
      obtain ⟨jN, hjN, rfl⟩ := inR_nat c_2 (by omega)
      have qjN : (nI jN).toNatClampNeg = jN := nI_clamp (by omega)
      refine x_iloadn X dX5_views_15 3 rfl ?_
      refine x_iconst (v := nI 0) X dX5_views_16 (by decide) ?_
      refine x_bipush (v := nI 10) X dX5_views_17 (by decide) ?_
      refine x_callSrv (As := [.int k, .int (nI 0), .int (nI 10)]) (rest := []) X (c_X5_in__R l G k 10 (by omega)) xE0_ok (fun _ _ _ => trivial) [] rfl rfl rfl wco_X5_in wi_X5 xd_X5_in wl_X5_63 wst_X5_in (by decide) (Nat.le_of_ble_eq_true rfl) dX5_views_19 ?_
      refine x_ifne_b 27 X dX5_views_22 (by decide) (fun c_3 => ?_) (fun c_3 => ?_)
      · -- 22 t
        obtain ⟨kN, hkN, rfl⟩ := inR_nat c_3 (by omega)
        have qkN : (nI kN).toNatClampNeg = kN := nI_clamp (by omega)
        refine x_aloadn X dX5_views_27 0 rfl ?_
        refine x_callVf0 (As := []) (rest := []) (w1 := wMo G a s.1 s.2.1 na nk ns nl pa rp rq kd (en s) W Kp sg le tl rk rd (en s) rw) (ws' := wMo G a s.1 s.2.1 na nk ns nl pa rp rq kd (en s) W Kp sg le tl rk rd (en s) rw) X (c_X5_asItIs l G a s.1 s.2.1 na nk ns nl pa rp rq kd (en s) W Kp sg le tl rk rd nw rw) xE0_ok (fun _ _ _ => trivial) [0, 1, 2, 3, 4, 5, 6, 7, 8, 9, 10, 11] rfl 0 rfl rfl rfl rfl wco_X5_asItIs wi_X5 xd_X5_asItIs wl_X5_143 win_X5_asItIs wse_X5_asItIs (by decide) (Nat.le_of_ble_eq_true rfl) dX5_views_28 rfl (Eq.trans (b := [a 0, a 1, a 2, a 3, a 4, a 5, a 6, a 7, a 8, a 9, a 10, a 11]) rfl rfl) rfl ?_
        refine x_iconst (v := nI 0) X dX5_views_31 (by decide) ?_
        refine x_istore (lv' := [(4, .int (nI 0)), (0, .ref (a 0)), (1, .int (nI iN)), (2, .int (nI jN)), (3, .int (nI kN))]) X dX5_views_32 (by decide) rfl ?_
        refine x_iconst (v := nI 0) X dX5_views_34 (by decide) ?_
        refine x_istore (lv' := [(5, .int (nI 0)), (4, .int (nI 0)), (0, .ref (a 0)), (1, .int (nI iN)), (2, .int (nI jN)), (3, .int (nI kN))]) X dX5_views_35 (by decide) rfl ?_
        have L37 : ∀ (fu : Nat) (v : Nat) (u : Int32) (g : xS), 19 - v < fu → (v ≤ 19) → (g = (s.1, s.2.1, s.2.2.1, s.2.2.2.1, F_viv s iN jN v, s.2.2.2.2.2)) → (u = F_vib s th sa ns iN jN (nI kN) v) → K (wMo G a s.1 s.2.1 na nk ns nl pa rp rq kd (en s) W Kp sg le tl rk rd (en g) rw) 0 0 37 [(0, .ref (a 0)), (1, .int (nI iN)), (2, .int (nI jN)), (3, .int (nI kN)), (4, .int u), (5, .int (nI v))] [] := by
          intro fu
          induction fu with
          | zero => intro v u g hfu; exact absurd hfu (Nat.not_lt_zero _)
          | succ fu ih_L37 =>
            intro v u g hfu_L37 hv hg hu
            refine x_iload X dX5_views_37 5 rfl ?_
            refine x_bipush (v := nI 18) X dX5_views_39 (by decide) ?_
            refine x_icmp_gt_n 98 X dX5_views_41 (by decide) (by omega) (by omega) (fun c_4 => ?_) (fun c_4 => ?_)
            · -- 41 t
              obtain rfl : v = 19 := by omega
              refine x_iload X dX5_views_98 4 rfl ?_
              exact x_ret X dX5_views_100 ⟨ret_i (by rw [hu]; simp [F_views, tn, c_1, qiN, c_2, qjN, c_3, qkN, c_4]), ⟨(en g), rfl⟩, by decide, by decide⟩
            · -- 41 f
              have n_4 := Nat.not_lt.mpr c_4
              refine x_aloadn X dX5_views_44 0 rfl ?_
              refine x_get X wu_X5 0 rfl rfl 18 (by decide) wf_X5_37 rfl rfl dX5_views_45 ?_
              refine x_bipush (v := nI 6) X dX5_views_48 (by decide) ?_
              refine x_iconst (v := nI 5) X dX5_views_50 (by decide) ?_
              refine x_iloadn X dX5_views_51 1 rfl ?_
              refine x_imul (v := nI (5 * iN)) X dX5_views_52 (pk_mul _ _) ?_
              refine x_iadd (v := nI (6 + (5 * iN))) X dX5_views_53 (nI_add _ _) ?_
              refine x_iloadn X dX5_views_54 2 rfl ?_
              refine x_iadd (v := nI ((6 + (5 * iN)) + jN)) X dX5_views_55 (nI_add _ _) ?_
              refine x_iload X dX5_views_56 5 rfl ?_
              refine x_bipush (v := nI 9) X dX5_views_58 (by decide) ?_
              refine x_isub (v := (nI v) - (nI 9)) X dX5_views_60 rfl ?_
              refine x_iast_n (g := en (g.1, g.2.1, g.2.2.1, g.2.2.2.1, upd g.2.2.2.2.1 (iN * 5 + jN) (nI v - nI 9), g.2.2.2.2.2)) (ws' := wMo G a s.1 s.2.1 na nk ns nl pa rp rq kd (en s) W Kp sg le tl rk rd (en (g.1, g.2.1, g.2.2.1, g.2.2.2.1, upd g.2.2.2.2.1 (iN * 5 + jN) (nI v - nI 9), g.2.2.2.2.2)) rw) X 10 rfl (by omega) (by omega) (en_upvi _ _ _ _ (by omega) (by omega)) rfl dX5_views_61 ?_
              refine x_iload X dX5_views_62 4 rfl ?_
              refine x_aloadn X dX5_views_64 0 rfl ?_
              refine x_iloadn X dX5_views_65 1 rfl ?_
              refine x_aloadn X dX5_views_66 0 rfl ?_
              refine x_get X wu_X5 0 rfl rfl 18 (by decide) wf_X5_37 rfl rfl dX5_views_67 ?_
              refine x_iconst (v := nI 0) X dX5_views_70 (by decide) ?_
              refine x_iloadn X dX5_views_71 1 rfl ?_
              refine x_iadd (v := nI (0 + iN)) X dX5_views_72 (nI_add _ _) ?_
              refine x_iald_n (v := (g.1, g.2.1, g.2.2.1, g.2.2.2.1, upd g.2.2.2.2.1 (iN * 5 + jN) (nI v - nI 9), g.2.2.2.2.2).2.2.2.1 iN) X 10 rfl (by omega) (by omega) (en_mi _ (by omega)) dX5_views_73 ?_
              obtain ⟨em, hm6⟩ := inR_eq (hmi iN (by omega)) (by decide)
              have em2 : (g.1, g.2.1, g.2.2.1, g.2.2.2.1, upd g.2.2.2.2.1 (iN * 5 + jN) (nI v - nI 9), g.2.2.2.2.2).2.2.2.1 iN = nI (tn (s.2.2.2.1 iN)) := by rw [hg]; exact em
              refine x_int em2 ?_
              refine x_iloadn X dX5_views_74 3 rfl ?_
              refine x_callVrv (As := [.int (nI iN), .int (nI (tn (s.2.2.2.1 iN))), .int (nI kN)]) (rest := [.int u]) X (c_X5_isWritten l G a s.1 s.2.1 na nk ns nl pa rp rq kd (en s) W Kp sg le tl rk rd rw (g.1, g.2.1, g.2.2.1, g.2.2.2.1, upd g.2.2.2.2.1 (iN * 5 + jN) (nI v - nI 9), g.2.2.2.2.2) th sa iN (tn (s.2.2.2.1 iN)) (nI kN) (by omega) (by omega) (by rw [hg]; exact hkd _ (by omega)) (by omega) (by assumption) (by assumption)) xE0_ok (fun _ _ _ => trivial) [0, 1, 2, 3, 4, 5, 6, 7, 8, 9, 10, 11] rfl 0 rfl rfl rfl rfl wco_X5_isWritten wi_X5 xd_X5_isWritten wl_X5_163 win_X5_isWritten wse_X5_isWritten (by decide) (Nat.le_of_ble_eq_true rfl) dX5_views_75 ?_
              refine x_ifeq_b 88 X dX5_views_78 (by decide) (fun c_5 => ?_) (fun c_5 => ?_)
              · -- 78 t
                refine x_iconst (v := nI 0) X dX5_views_88 (by decide) ?_
                refine x_ior (v := u ||| (nI 0)) X dX5_views_89 rfl ?_
                refine x_istore (lv' := [(4, .int (u ||| (nI 0))), (0, .ref (a 0)), (1, .int (nI iN)), (2, .int (nI jN)), (3, .int (nI kN)), (5, .int (nI v))]) X dX5_views_90 (by decide) rfl ?_
                refine x_iinc (v := nI (v + 1)) (lv' := [(5, .int (nI (v + 1))), (4, .int (u ||| (nI 0))), (0, .ref (a 0)), (1, .int (nI iN)), (2, .int (nI jN)), (3, .int (nI kN))]) X dX5_views_92 5 rfl (nI_1 _) (by decide) rfl ?_
                refine x_goto 37 X dX5_views_95 (by decide) ?_
                refine x_lv (lv' := [(0, .ref (a 0)), (1, .int (nI iN)), (2, .int (nI jN)), (3, .int (nI kN)), (4, .int (u ||| (nI 0))), (5, .int (nI (v + 1)))]) X [2, 3, 4, 5, 1, 0] rfl ?_
                exact ih_L37 (v + 1) (u ||| (nI 0)) (g.1, g.2.1, g.2.2.1, g.2.2.2.1, upd g.2.2.2.2.1 (iN * 5 + jN) (nI v - nI 9), g.2.2.2.2.2) (by omega) (by omega) (by rw [hg]; rfl) (by have hc := c_5; rw [hg] at hc; rw [hu]; first | exact (if_pos hc).symm | exact (or0 _).trans (if_neg (fun q => absurd (hc.symm.trans q) (by decide))).symm)
              · -- 78 f
                refine x_iconst (v := nI 1) X dX5_views_81 (by decide) ?_
                refine x_iload X dX5_views_82 5 rfl ?_
                refine x_ishl (v := (nI 1) <<< ((nI v) &&& 31)) X dX5_views_84 rfl ?_
                refine x_goto 89 X dX5_views_85 (by decide) ?_
                refine x_ior (v := u ||| ((nI 1) <<< ((nI v) &&& 31))) X dX5_views_89 rfl ?_
                refine x_istore (lv' := [(4, .int (u ||| ((nI 1) <<< ((nI v) &&& 31)))), (0, .ref (a 0)), (1, .int (nI iN)), (2, .int (nI jN)), (3, .int (nI kN)), (5, .int (nI v))]) X dX5_views_90 (by decide) rfl ?_
                refine x_iinc (v := nI (v + 1)) (lv' := [(5, .int (nI (v + 1))), (4, .int (u ||| ((nI 1) <<< ((nI v) &&& 31)))), (0, .ref (a 0)), (1, .int (nI iN)), (2, .int (nI jN)), (3, .int (nI kN))]) X dX5_views_92 5 rfl (nI_1 _) (by decide) rfl ?_
                refine x_goto 37 X dX5_views_95 (by decide) ?_
                refine x_lv (lv' := [(0, .ref (a 0)), (1, .int (nI iN)), (2, .int (nI jN)), (3, .int (nI kN)), (4, .int (u ||| ((nI 1) <<< ((nI v) &&& 31)))), (5, .int (nI (v + 1)))]) X [2, 3, 4, 5, 1, 0] rfl ?_
                exact ih_L37 (v + 1) (u ||| ((nI 1) <<< ((nI v) &&& 31))) (g.1, g.2.1, g.2.2.1, g.2.2.2.1, upd g.2.2.2.2.1 (iN * 5 + jN) (nI v - nI 9), g.2.2.2.2.2) (by omega) (by omega) (by rw [hg]; rfl) (by have hc := c_5; rw [hg] at hc; rw [hu]; first | exact (if_pos hc).symm | exact (or0 _).trans (if_neg (fun q => absurd (hc.symm.trans q) (by decide))).symm)
        refine x_lv (lv' := [(0, .ref (a 0)), (1, .int (nI iN)), (2, .int (nI jN)), (3, .int (nI kN)), (4, .int (nI 0)), (5, .int (nI 0))]) X [2, 3, 4, 5, 1, 0] rfl ?_
        exact L37 _ 0 (nI 0) s (Nat.lt_succ_self _) (by omega) (rfl) (rfl)
      · -- 22 f
        refine x_iconst (v := (-1)) X dX5_views_25 (by decide) ?_
        exact x_ret X dX5_views_26 ⟨ret_i (by simp [F_views, tn, c_1, qiN, c_2, qjN, c_3]), ⟨nw, rfl⟩, by decide, by decide⟩
set_option maxRecDepth 100000 in
set_option maxHeartbeats 4000000 in
/-- X5_tellsPerson -/
theorem c_X5_tellsPerson (l : Launch) (G : xG) (a : Nat → Nat) (np : Nat) (nq : Nat) (na : Nat) (nk : Nat) (ns : Nat) (nl : Nat) (pa : Nat) (rp : Nat) (rq : Nat) (kd : Nat → Int32) (S : Nat → Int32) (W : Nat → Int32) (Kp : Nat → Int32) (sg : Nat → Int32) (le : Nat → Int32) (tl : Nat → Int32) (rk : Nat → Int32) (rd : Nat → Int32) (nw : Nat → Int32) (rw : Nat → Int32) (k : Int32) (u : Int32) (hrp : rp < 6) : xM l G xE0 yX5_tellsPerson cX5_tellsPerson 3 none 0 0 0 0 [.ref (a 0), .int k, .int u] (wMo G a np nq na nk ns nl pa rp rq kd S W Kp sg le tl rk rd nw rw) none (fun w2 => w2 = wMo G a np nq na nk ns nl pa (rp + 1) rq kd S W Kp sg le tl (upd rk rp k) (upd rd (0 + rp) u) nw rw) := by
  refine x_entry (by decide +kernel) (Nat.le_of_ble_eq_true rfl) rfl rfl (fun K X => ?_)
  refine x_aloadn X dX5_tellsPerson_0 0 rfl ?_
  refine x_get X wu_X5 0 rfl rfl 15 (by decide) wf_X5_31 rfl rfl dX5_tellsPerson_1 ?_
  refine x_aloadn X dX5_tellsPerson_4 0 rfl ?_
  refine x_get X wu_X5 0 rfl rfl 14 (by decide) wf_X5_57 rfl rfl dX5_tellsPerson_5 ?_
  refine x_iloadn X dX5_tellsPerson_8 1 rfl ?_
  refine x_iast_n (g := upd rk rp k) (ws' := wMo G a np nq na nk ns nl pa rp rq kd S W Kp sg le tl (upd rk rp k) rd nw rw) X 8 rfl (by omega) (by omega) rfl rfl dX5_tellsPerson_9 ?_
  refine x_aloadn X dX5_tellsPerson_10 0 rfl ?_
  refine x_get X wu_X5 0 rfl rfl 17 (by decide) wf_X5_34 rfl rfl dX5_tellsPerson_11 ?_
  refine x_iconst (v := nI 0) X dX5_tellsPerson_14 (by decide) ?_
  refine x_aloadn X dX5_tellsPerson_15 0 rfl ?_
  refine x_get X wu_X5 0 rfl rfl 14 (by decide) wf_X5_57 rfl rfl dX5_tellsPerson_16 ?_
  refine x_iadd (v := nI (0 + rp)) X dX5_tellsPerson_19 (nI_add _ _) ?_
  refine x_iloadn X dX5_tellsPerson_20 2 rfl ?_
  refine x_iast_n (g := upd rd (0 + rp) u) (ws' := wMo G a np nq na nk ns nl pa rp rq kd S W Kp sg le tl (upd rk rp k) (upd rd (0 + rp) u) nw rw) X 9 rfl (by omega) (by omega) rfl rfl dX5_tellsPerson_21 ?_
  refine x_aloadn X dX5_tellsPerson_22 0 rfl ?_
  refine x_dup X dX5_tellsPerson_23 rfl ?_
  refine x_get X wu_X5 0 rfl rfl 14 (by decide) wf_X5_57 rfl rfl dX5_tellsPerson_24 ?_
  refine x_iconst (v := nI 1) X dX5_tellsPerson_27 (by decide) ?_
  refine x_iadd (v := nI (rp + 1)) X dX5_tellsPerson_28 (nI_add _ _) ?_
  refine x_put (ws' := wMo G a np nq na nk ns nl pa (rp + 1) rq kd S W Kp sg le tl (upd rk rp k) (upd rd (0 + rp) u) nw rw) (ty := tyX5 14) X wu_X5 tyX5_ok nmX5 0 rfl rfl 14 (by decide) wf_X5_57 rfl rfl (by decide +kernel) rfl rfl (Nat.le_of_ble_eq_true rfl) rfl dX5_tellsPerson_29 ?_
  exact x_retv X dX5_tellsPerson_32 ⟨rfl, rfl, by decide, by decide⟩
set_option maxRecDepth 100000 in
set_option maxHeartbeats 4000000 in
/-- X5_isTold__p -/
theorem c_X5_isTold__p (l : Launch) (G : xG) (a : Nat → Nat) (np : Nat) (nq : Nat) (na : Nat) (nk : Nat) (ns : Nat) (nl : Nat) (pa : Nat) (rp : Nat) (rq : Nat) (kd : Nat → Int32) (S : Nat → Int32) (W : Nat → Int32) (Kp : Nat → Int32) (sg : Nat → Int32) (le : Nat → Int32) (tl : Nat → Int32) (rk : Nat → Int32) (rd : Nat → Int32) (nw : Nat → Int32) (rw : Nat → Int32) (k : Nat) (mm : Nat) (hk3 : k < 3) (hm : mm + 1 < 2 ^ 31) : xM l G xE0 yX5_isTold cX5_isTold 4 (some .boolean) 1 22 0 0 [.ref (a 0), .int (nI k), .int (nI 0), .int (nI mm)] (wMo G a np nq na nk ns nl pa rp rq kd S W Kp sg le tl rk rd nw rw) (some (.int (bI (inR (tl k) (mm + 1))))) (fun w2 => w2 = wMo G a np nq na nk ns nl pa rp rq kd S W Kp sg le tl rk rd nw rw) := by
  refine x_entry (by decide +kernel) (Nat.le_of_ble_eq_true rfl) rfl ⟨_, rfl, bI_narrow _⟩ (fun K X => ?_)
  refine x_aloadn X dX5_isTold_0 0 rfl ?_
  refine x_get X wu_X5 0 rfl rfl 13 (by decide) wf_X5_28 rfl rfl dX5_isTold_1 ?_
  refine x_iloadn X dX5_isTold_4 1 rfl ?_
  refine x_iald_n (v := tl k) X 7 rfl (by omega) (by omega) rfl dX5_isTold_5 ?_
  refine x_iloadn X dX5_isTold_6 2 rfl ?_
  refine x_iloadn X dX5_isTold_7 3 rfl ?_
  refine x_callSrv (As := [.int (tl k), .int (nI 0), .int (nI mm)]) (rest := []) X (c_X5_in__R l G (tl k) mm (by omega)) xE0_ok (fun _ _ _ => trivial) [] rfl rfl rfl wco_X5_in wi_X5 xd_X5_in wl_X5_63 wst_X5_in (by decide) (Nat.le_of_ble_eq_true rfl) dX5_isTold_8 ?_
  exact x_ret X dX5_isTold_11 ⟨rfl, rfl, by decide, by decide⟩
set_option maxRecDepth 100000 in
set_option maxHeartbeats 4000000 in
/-- X5_isTold__q -/
theorem c_X5_isTold__q (l : Launch) (G : xG) (a : Nat → Nat) (np : Nat) (nq : Nat) (na : Nat) (nk : Nat) (ns : Nat) (nl : Nat) (pa : Nat) (rp : Nat) (rq : Nat) (kd : Nat → Int32) (S : Nat → Int32) (W : Nat → Int32) (Kp : Nat → Int32) (sg : Nat → Int32) (le : Nat → Int32) (tl : Nat → Int32) (rk : Nat → Int32) (rd : Nat → Int32) (nw : Nat → Int32) (rw : Nat → Int32) (k : Nat) (x : Int32) (y : Int32) (hk3 : k < 3) : xM l G xE0 yX5_isTold cX5_isTold 4 (some .boolean) 1 22 0 0 [.ref (a 0), .int (nI k), .int x, .int y] (wMo G a np nq na nk ns nl pa rp rq kd S W Kp sg le tl rk rd nw rw) (some (.int (bI (inB (tl k) x y)))) (fun w2 => w2 = wMo G a np nq na nk ns nl pa rp rq kd S W Kp sg le tl rk rd nw rw) := by
  refine x_entry (by decide +kernel) (Nat.le_of_ble_eq_true rfl) rfl ⟨_, rfl, bI_narrow _⟩ (fun K X => ?_)
  refine x_aloadn X dX5_isTold_0 0 rfl ?_
  refine x_get X wu_X5 0 rfl rfl 13 (by decide) wf_X5_28 rfl rfl dX5_isTold_1 ?_
  refine x_iloadn X dX5_isTold_4 1 rfl ?_
  refine x_iald_n (v := tl k) X 7 rfl (by omega) (by omega) rfl dX5_isTold_5 ?_
  refine x_iloadn X dX5_isTold_6 2 rfl ?_
  refine x_iloadn X dX5_isTold_7 3 rfl ?_
  refine x_callSrv (As := [.int (tl k), .int x, .int y]) (rest := []) X (c_X5_in__B l G (tl k) x y) xE0_ok (fun _ _ _ => trivial) [] rfl rfl rfl wco_X5_in wi_X5 xd_X5_in wl_X5_63 wst_X5_in (by decide) (Nat.le_of_ble_eq_true rfl) dX5_isTold_8 ?_
  exact x_ret X dX5_isTold_11 ⟨rfl, rfl, by decide, by decide⟩
set_option maxRecDepth 100000 in
set_option maxHeartbeats 4000000 in
/-- X5_clearTold -/
theorem c_X5_clearTold (l : Launch) (G : xG) (a : Nat → Nat) (np : Nat) (nq : Nat) (na : Nat) (nk : Nat) (ns : Nat) (nl : Nat) (pa : Nat) (rp : Nat) (rq : Nat) (kd : Nat → Int32) (S : Nat → Int32) (W : Nat → Int32) (Kp : Nat → Int32) (sg : Nat → Int32) (le : Nat → Int32) (tl : Nat → Int32) (rk : Nat → Int32) (rd : Nat → Int32) (nw : Nat → Int32) (rw : Nat → Int32)  : xM l G xE0 yX5_clearTold cX5_clearTold 2 none 0 0 0 0 [.ref (a 0)] (wMo G a np nq na nk ns nl pa rp rq kd S W Kp sg le tl rk rd nw rw) none (fun w2 => w2 = wMo G a np nq na nk ns nl pa 0 3 kd S W Kp sg le tl rk (fun _ => nI 0) nw rw) := by
  refine x_entry (by decide +kernel) (Nat.le_of_ble_eq_true rfl) rfl rfl (fun K X => ?_)
  refine x_aloadn X dX5_clearTold_0 0 rfl ?_
  refine x_iconst (v := nI 0) X dX5_clearTold_1 (by decide) ?_
  refine x_put (ws' := wMo G a np nq na nk ns nl pa 0 rq kd S W Kp sg le tl rk rd nw rw) (ty := tyX5 14) X wu_X5 tyX5_ok nmX5 0 rfl rfl 14 (by decide) wf_X5_57 rfl rfl (by decide +kernel) rfl rfl (Nat.le_of_ble_eq_true rfl) rfl dX5_clearTold_2 ?_
  refine x_aloadn X dX5_clearTold_5 0 rfl ?_
  refine x_iconst (v := nI 3) X dX5_clearTold_6 (by decide) ?_
  refine x_put (ws' := wMo G a np nq na nk ns nl pa 0 3 kd S W Kp sg le tl rk rd nw rw) (ty := tyX5 16) X wu_X5 tyX5_ok nmX5 0 rfl rfl 16 (by decide) wf_X5_50 rfl rfl (by decide +kernel) rfl rfl (Nat.le_of_ble_eq_true rfl) rfl dX5_clearTold_7 ?_
  refine x_iconst (v := nI 0) X dX5_clearTold_10 (by decide) ?_
  refine x_istoren (lv' := [(1, .int (nI 0)), (0, .ref (a 0))]) X dX5_clearTold_11 (by decide) rfl ?_
  have L12 : ∀ (fu : Nat) (k : Nat) (V : Nat → Int32), 61 - k < fu → (k ≤ 61) → (V = fillF rd (nI 0) k) → K (wMo G a np nq na nk ns nl pa 0 3 kd S W Kp sg le tl rk V nw rw) 0 0 12 [(0, .ref (a 0)), (1, .int (nI k))] [] := by
    intro fu
    induction fu with
    | zero => intro k V hfu; exact absurd hfu (Nat.not_lt_zero _)
    | succ fu ih_L12 =>
      intro k V hfu_L12 hk hV
      refine x_iloadn X dX5_clearTold_12 1 rfl ?_
      refine x_bipush (v := nI 61) X dX5_clearTold_13 (by decide) ?_
      refine x_icmp_ge_n 31 X dX5_clearTold_15 (by decide) (by omega) (by omega) (fun c_1 => ?_) (fun c_1 => ?_)
      · -- 15 t
        have n_1 := Nat.not_lt.mpr c_1
        obtain rfl : k = 61 := by omega
        refine x_rowc (ws' := wMo G a np nq na nk ns nl pa 0 3 kd S W Kp sg le tl rk (fun _ => nI 0) nw rw) (fun _ => nI 0) X 9 rfl (fun j hj => by rw [hV]; simp [fillF, hj]) rfl ?_
        exact x_retv X dX5_clearTold_31 ⟨rfl, rfl, by decide, by decide⟩
      · -- 15 f
        refine x_aloadn X dX5_clearTold_18 0 rfl ?_
        refine x_get X wu_X5 0 rfl rfl 17 (by decide) wf_X5_34 rfl rfl dX5_clearTold_19 ?_
        refine x_iloadn X dX5_clearTold_22 1 rfl ?_
        refine x_iconst (v := nI 0) X dX5_clearTold_23 (by decide) ?_
        refine x_iast_n (g := upd V k (nI 0)) (ws' := wMo G a np nq na nk ns nl pa 0 3 kd S W Kp sg le tl rk (upd V k (nI 0)) nw rw) X 9 rfl (by omega) (by omega) rfl rfl dX5_clearTold_24 ?_
        refine x_iinc (v := nI (k + 1)) (lv' := [(1, .int (nI (k + 1))), (0, .ref (a 0))]) X dX5_clearTold_25 1 rfl (nI_1 _) (by decide) rfl ?_
        refine x_goto 12 X dX5_clearTold_28 (by decide) ?_
        refine x_lv (lv' := [(0, .ref (a 0)), (1, .int (nI (k + 1)))]) X [1, 0] rfl ?_
        exact ih_L12 (k + 1) (upd V k (nI 0)) (by omega) (by omega) (by rw [hV]; exact fillF_s _ _ _)
  refine x_lv (lv' := [(0, .ref (a 0)), (1, .int (nI 0))]) X [1, 0] rfl ?_
  exact L12 _ 0 rd (Nat.lt_succ_self _) (by omega) (fillF_0 _ _)
set_option maxRecDepth 100000 in
set_option maxHeartbeats 4000000 in
/-- X5_settles -/
theorem c_X5_settles (l : Launch) (G : xG) (a : Nat → Nat) (np : Nat) (nq : Nat) (na : Nat) (nk : Nat) (ns : Nat) (nl : Nat) (pa : Nat) (rp : Nat) (rq : Nat) (kd : Nat → Int32) (S : Nat → Int32) (W : Nat → Int32) (Kp : Nat → Int32) (sg : Nat → Int32) (le : Nat → Int32) (tl : Nat → Int32) (rk : Nat → Int32) (rd : Nat → Int32) (nw : Nat → Int32) (rw : Nat → Int32) (hrp : rp ≤ 6) : xM l G xE0 yX5_settles cX5_settles 2 none 1 24 0 0 [.ref (a 0)] (wMo G a np nq na nk ns nl pa rp rq kd S W Kp sg le tl rk rd nw rw) none (fun w2 => w2 = wMo G a rp rq 0 0 0 nl pa rp rq (kds rk kd rp) rd W Kp sg le tl rk rd nw rw) := by
  refine x_entry (by decide +kernel) (Nat.le_of_ble_eq_true rfl) rfl rfl (fun K X => ?_)
  refine x_aloadn X dX5_settles_0 0 rfl ?_
  refine x_aloadn X dX5_settles_1 0 rfl ?_
  refine x_get X wu_X5 0 rfl rfl 14 (by decide) wf_X5_57 rfl rfl dX5_settles_2 ?_
  refine x_put (ws' := wMo G a rp nq na nk ns nl pa rp rq kd S W Kp sg le tl rk rd nw rw) (ty := tyX5 0) X wu_X5 tyX5_ok nmX5 0 rfl rfl 0 (by decide) wf_X5_60 rfl rfl (by decide +kernel) rfl rfl (Nat.le_of_ble_eq_true rfl) rfl dX5_settles_5 ?_
  refine x_aloadn X dX5_settles_8 0 rfl ?_
  refine x_aloadn X dX5_settles_9 0 rfl ?_
  refine x_get X wu_X5 0 rfl rfl 16 (by decide) wf_X5_50 rfl rfl dX5_settles_10 ?_
  refine x_put (ws' := wMo G a rp rq na nk ns nl pa rp rq kd S W Kp sg le tl rk rd nw rw) (ty := tyX5 2) X wu_X5 tyX5_ok nmX5 0 rfl rfl 2 (by decide) wf_X5_67 rfl rfl (by decide +kernel) rfl rfl (Nat.le_of_ble_eq_true rfl) rfl dX5_settles_13 ?_
  refine x_iconst (v := nI 0) X dX5_settles_16 (by decide) ?_
  refine x_istoren (lv' := [(1, .int (nI 0)), (0, .ref (a 0))]) X dX5_settles_17 (by decide) rfl ?_
  have L18 : ∀ (fu : Nat) (k : Nat) (V : Nat → Int32), rp - k < fu → (k ≤ rp) → (V = kds rk kd k) → K (wMo G a rp rq na nk ns nl pa rp rq V S W Kp sg le tl rk rd nw rw) 0 0 18 [(0, .ref (a 0)), (1, .int (nI k))] [] := by
    intro fu
    induction fu with
    | zero => intro k V hfu; exact absurd hfu (Nat.not_lt_zero _)
    | succ fu ih_L18 =>
      intro k V hfu_L18 hk hV
      refine x_iloadn X dX5_settles_18 1 rfl ?_
      refine x_aloadn X dX5_settles_19 0 rfl ?_
      refine x_get X wu_X5 0 rfl rfl 0 (by decide) wf_X5_60 rfl rfl dX5_settles_20 ?_
      refine x_icmp_ge_n 44 X dX5_settles_23 (by decide) (by omega) (by omega) (fun c_1 => ?_) (fun c_1 => ?_)
      · -- 23 t
        have n_1 := Nat.not_lt.mpr c_1
        have eq2 : k = rp := by omega
        rw [eq2] at hV
        refine x_aloadn X dX5_settles_44 0 rfl ?_
        refine x_get X wu_X5 0 rfl rfl 3 (by decide) wf_X5_13 rfl rfl dX5_settles_45 ?_
        refine x_iconst (v := nI 0) X dX5_settles_48 (by decide) ?_
        refine x_aloadn X dX5_settles_49 0 rfl ?_
        refine x_get X wu_X5 0 rfl rfl 17 (by decide) wf_X5_34 rfl rfl dX5_settles_50 ?_
        refine x_iconst (v := nI 0) X dX5_settles_53 (by decide) ?_
        refine x_callSf0 (As := [.ref (a 2), .int (nI 0), .ref (a 9), .int (nI 0)]) (rest := []) (w1 := xJ [wIA G (a 2) 61 (va_cpy rd S 0 0 61), wIA G (a 9) 61 rd]) (ws' := wMo G a rp rq na nk ns nl pa rp rq V (va_cpy rd S 0 0 61) W Kp sg le tl rk rd nw rw) X (c_X5_copies l G (a 2) 61 S (a 9) 61 rd 0 0 (by omega) (by omega) (by omega) (by omega)) xE0_ok (fun _ _ _ => trivial) [2, 9] rfl rfl rfl wco_X5_copies wi_X5 xd_X5_copies wl_X5_107 wst_X5_copies (by decide) (Nat.le_of_ble_eq_true rfl) dX5_settles_54 rfl (Eq.trans (b := [a 2, a 9]) rfl rfl) rfl ?_
        refine x_rowc (ws' := wMo G a rp rq na nk ns nl pa rp rq V rd W Kp sg le tl rk rd nw rw) rd X 2 rfl (fun k hk => by simp [va_cpy]; omega) rfl ?_
        refine x_aloadn X dX5_settles_57 0 rfl ?_
        refine x_iconst (v := nI 0) X dX5_settles_58 (by decide) ?_
        refine x_put (ws' := wMo G a rp rq 0 nk ns nl pa rp rq V rd W Kp sg le tl rk rd nw rw) (ty := tyX5 4) X wu_X5 tyX5_ok nmX5 0 rfl rfl 4 (by decide) wf_X5_111 rfl rfl (by decide +kernel) rfl rfl (Nat.le_of_ble_eq_true rfl) rfl dX5_settles_59 ?_
        refine x_aloadn X dX5_settles_62 0 rfl ?_
        refine x_iconst (v := nI 0) X dX5_settles_63 (by decide) ?_
        refine x_put (ws' := wMo G a rp rq 0 0 ns nl pa rp rq V rd W Kp sg le tl rk rd nw rw) (ty := tyX5 6) X wu_X5 tyX5_ok nmX5 0 rfl rfl 6 (by decide) wf_X5_114 rfl rfl (by decide +kernel) rfl rfl (Nat.le_of_ble_eq_true rfl) rfl dX5_settles_64 ?_
        refine x_aloadn X dX5_settles_67 0 rfl ?_
        refine x_iconst (v := nI 0) X dX5_settles_68 (by decide) ?_
        refine x_put (ws' := wMo G a rp rq 0 0 0 nl pa rp rq V rd W Kp sg le tl rk rd nw rw) (ty := tyX5 8) X wu_X5 tyX5_ok nmX5 0 rfl rfl 8 (by decide) wf_X5_117 rfl rfl (by decide +kernel) rfl rfl (Nat.le_of_ble_eq_true rfl) rfl dX5_settles_69 ?_
        exact x_retv X dX5_settles_72 ⟨rfl, (by rw [hV]), by decide, by decide⟩
      · -- 23 f
        refine x_aloadn X dX5_settles_26 0 rfl ?_
        refine x_get X wu_X5 0 rfl rfl 1 (by decide) wf_X5_7 rfl rfl dX5_settles_27 ?_
        refine x_iloadn X dX5_settles_30 1 rfl ?_
        refine x_aloadn X dX5_settles_31 0 rfl ?_
        refine x_get X wu_X5 0 rfl rfl 15 (by decide) wf_X5_31 rfl rfl dX5_settles_32 ?_
        refine x_iloadn X dX5_settles_35 1 rfl ?_
        refine x_iald_n (v := rk k) X 8 rfl (by omega) (by omega) rfl dX5_settles_36 ?_
        refine x_iast_n (g := upd V k (rk k)) (ws' := wMo G a rp rq na nk ns nl pa rp rq (upd V k (rk k)) S W Kp sg le tl rk rd nw rw) X 1 rfl (by omega) (by omega) rfl rfl dX5_settles_37 ?_
        refine x_iinc (v := nI (k + 1)) (lv' := [(1, .int (nI (k + 1))), (0, .ref (a 0))]) X dX5_settles_38 1 rfl (nI_1 _) (by decide) rfl ?_
        refine x_goto 18 X dX5_settles_41 (by decide) ?_
        refine x_lv (lv' := [(0, .ref (a 0)), (1, .int (nI (k + 1)))]) X [1, 0] rfl ?_
        exact ih_L18 (k + 1) (upd V k (rk k)) (by omega) (by omega) (by rw [hV]; exact kds_s _ _ _)
  refine x_lv (lv' := [(0, .ref (a 0)), (1, .int (nI 0))]) X [1, 0] rfl ?_
  exact L18 _ 0 kd (Nat.lt_succ_self _) (by omega) (kds_0 _ _)
