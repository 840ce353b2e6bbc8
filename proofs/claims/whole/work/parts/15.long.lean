/-! ===== who, views, drops, weeks ===== -/
theorem whoS_n (c : Int32) (r : Int32 × Int32) : whoS false c r = r := rfl
theorem whoS_y (c u v : Int32) (h : v = (-4)) : whoS true c (u, v) = (u + 1, c) := by subst h; rfl
theorem whoS_k (c u v : Int32) (h : ¬ v = (-4)) : whoS true c (u, v) = (u + 1, v) := by
  show (u + nI 1, if v = (-4) then c else v) = (u + 1, v)
  rw [if_neg h]; rfl
theorem euc_pos : ∀ (k h l : Nat), 0 < h → 0 < euc k h l
  | 0, h, l, hh => hh
  | k + 1, h, l, hh => by
    rw [euc]
    split
    · exact hh
    · exact euc_pos k l (h % l) (by omega)
theorem euc_lt (B : Nat) : ∀ (k h l : Nat), h < B → l < B → euc k h l < B
  | 0, h, l, hh, _ => hh
  | k + 1, h, l, hh, hl => by
    rw [euc]
    split
    · exact hh
    · rename_i h0
      exact euc_lt B k l (h % l) hl (Nat.lt_trans (Nat.mod_lt _ (Nat.pos_of_ne_zero h0)) hl)
theorem abv_63 {y : Nat} (h : y ≤ 11 * 2520000000000) : y < 2 ^ 63 := Nat.lt_of_le_of_lt h (by decide)

set_option maxRecDepth 100000 in
set_option maxHeartbeats 4000000 in
/-- X4_who -/
theorem c_X4_who (l : Launch) (G : xG) (o : Nat) (x : Nat → Nat) (w : Nat → Nat) (d : Nat → Nat) (h : Nat → Nat) (g : Nat → Nat) (q : Nat → Nat) (e : Nat) (th : Nat → Int32) (sa : Nat → Int32) (ns : Nat) (s : xS) (a : Int32) (hs6 : s.1 ≤ 6) (hs1 : 0 < s.1) (hq5 : s.2.1 ≤ 5) (hmi : ∀ j, j < 6 → inR (s.2.2.2.1 j) 6 = true) (hns : ns ≤ 6) (hth : ∀ j, j < ns → inR (th j) 5 = true) : xM l G xE0 yX4_who cX4_who 7 (some .int) 4 94 0 0 [.ref o, .int a] (xJ [wInk G o x w d h g q e, wSg G q th sa ns, wCq G w s]) (some (.int (F_who s th sa ns a))) (fun w2 => w2 = xJ [wInk G o x w d h g q e, wSg G q th sa ns, wCq G w s]) := by
  refine x_entry (by decide +kernel) (Nat.le_of_ble_eq_true rfl) rfl ⟨_, rfl, rfl⟩ (fun K X => ?_)
  refine x_iloadn X dX4_who_0 1 rfl ?_
  refine x_iconst (v := nI 1) X dX4_who_1 (by decide) ?_
  refine x_callSrv (As := [.int a, .int (nI 1)]) (rest := []) X (c_X4_isUpTo l G a 1 (by omega)) xE0_ok (fun _ _ _ => trivial) [] rfl rfl rfl wco_X4_isUpTo wi_X4 xd_X4_isUpTo wl_X4_91 wst_X4_isUpTo (by decide) (Nat.le_of_ble_eq_true rfl) dX4_who_2 ?_
  refine x_ifne_b 10 X dX4_who_5 (by decide) (fun c_1 => ?_) (fun c_1 => ?_)
  · -- 5 t
    obtain ⟨aN, haN, rfl⟩ := inR_nat c_1 (by omega)
    have qaN : (nI aN).toNatClampNeg = aN := nI_clamp (by omega)
    refine x_iconst (v := nI 0) X dX4_who_10 (by decide) ?_
    refine x_istoren (lv' := [(2, .int (nI 0)), (0, .ref o), (1, .int (nI aN))]) X dX4_who_11 (by decide) rfl ?_
    refine x_bipush (v := (-4)) X dX4_who_12 (by decide) ?_
    refine x_istoren (lv' := [(3, .int (-4)), (2, .int (nI 0)), (0, .ref o), (1, .int (nI aN))]) X dX4_who_14 (by decide) rfl ?_
    refine x_iconst (v := nI 0) X dX4_who_15 (by decide) ?_
    refine x_istore (lv' := [(4, .int (nI 0)), (3, .int (-4)), (2, .int (nI 0)), (0, .ref o), (1, .int (nI aN))]) X dX4_who_16 (by decide) rfl ?_
    have L18 : ∀ (fu : Nat) (p : Nat) (u1 : Int32) (v1 : Int32), s.1 - p < fu → (p ≤ s.1) → (F_who1 s th sa ns p = (u1, v1)) → K (xJ [wInk G o x w d h g q e, wSg G q th sa ns, wCq G w s]) 0 0 18 [(0, .ref o), (1, .int (nI aN)), (2, .int u1), (3, .int v1), (4, .int (nI p))] [] := by
      intro fu
      induction fu with
      | zero => intro p u1 v1 hfu; exact absurd hfu (Nat.not_lt_zero _)
      | succ fu ih_L18 =>
        intro p u1 v1 hfu_L18 hp h1
        refine x_iload X dX4_who_18 4 rfl ?_
        refine x_aloadn X dX4_who_20 0 rfl ?_
        refine x_get X wu_X4 0 rfl rfl 1 (by decide) wf_X4_19 rfl rfl dX4_who_21 ?_
        refine x_callVrv (As := []) (rest := [.int (nI p)]) X (c_X0_persons l G w s.1 s.2.1 s.2.2.1 s.2.2.2.1 s.2.2.2.2.1 s.2.2.2.2.2) xE0_ok (fun _ _ _ => trivial) [4, 5, 6, 7, 8] rfl 0 rfl rfl rfl rfl wco_X0_persons wi_X0 xd_X0_persons wl_X4_84 win_X0_persons wse_X0_persons (by decide) (Nat.le_of_ble_eq_true rfl) dX4_who_24 ?_
        refine x_icmp_ge_n 129 X dX4_who_27 (by decide) (by omega) (by omega) (fun c_2 => ?_) (fun c_2 => ?_)
        · -- 27 t
          have n_2 := Nat.not_lt.mpr c_2
          have e : p = s.1 := by omega
          rw [e] at h1
          refine x_iloadn X dX4_who_129 1 rfl ?_
          refine x_if_ne_n 137 X dX4_who_130 (by decide) (by omega) (fun c_3 => ?_) (fun c_3 => ?_)
          · -- 130 t
            refine x_iloadn X dX4_who_137 3 rfl ?_
            exact x_ret X dX4_who_138 ⟨ret_i (by simp [F_who, tn, c_1, qaN, hp, h1, c_2, n_2, c_3]), rfl, by decide, by decide⟩
          · -- 130 f
            refine x_iloadn X dX4_who_133 2 rfl ?_
            refine x_goto 138 X dX4_who_134 (by decide) ?_
            exact x_ret X dX4_who_138 ⟨ret_i (by simp [F_who, tn, c_1, qaN, hp, h1, c_2, n_2, (eq_true c_3)]), rfl, by decide, by decide⟩
        · -- 27 f
          refine x_iconst (v := nI 0) X dX4_who_30 (by decide) ?_
          refine x_istore (lv' := [(5, .int (nI 0)), (0, .ref o), (1, .int (nI aN)), (2, .int u1), (3, .int v1), (4, .int (nI p))]) X dX4_who_31 (by decide) rfl ?_
          have L33_1 : ∀ (fu : Nat) (m : Nat) (u2 : Int32) (v2 : Int32), s.1 - m < fu → (m ≤ s.1) → (F_who2 s th sa ns p (u1, v1) m = (u2, v2)) → K (xJ [wInk G o x w d h g q e, wSg G q th sa ns, wCq G w s]) 0 0 33 [(0, .ref o), (1, .int (nI aN)), (2, .int u2), (3, .int v2), (4, .int (nI p)), (5, .int (nI m))] [] := by
            intro fu
            induction fu with
            | zero => intro m u2 v2 hfu; exact absurd hfu (Nat.not_lt_zero _)
            | succ fu ih_L33_1 =>
              intro m u2 v2 hfu_L33_1 hm h2
              refine x_iload X dX4_who_33 5 rfl ?_
              refine x_aloadn X dX4_who_35 0 rfl ?_
              refine x_get X wu_X4 0 rfl rfl 1 (by decide) wf_X4_19 rfl rfl dX4_who_36 ?_
              refine x_callVrv (As := []) (rest := [.int (nI m)]) X (c_X0_persons l G w s.1 s.2.1 s.2.2.1 s.2.2.2.1 s.2.2.2.2.1 s.2.2.2.2.2) xE0_ok (fun _ _ _ => trivial) [4, 5, 6, 7, 8] rfl 0 rfl rfl rfl rfl wco_X0_persons wi_X0 xd_X0_persons wl_X4_84 win_X0_persons wse_X0_persons (by decide) (Nat.le_of_ble_eq_true rfl) dX4_who_39 ?_
              refine x_icmp_ge_n 123 X dX4_who_42 (by decide) (by omega) (by omega) (fun c_4 => ?_) (fun c_4 => ?_)
              · -- 42 t
                have n_4 := Nat.not_lt.mpr c_4
                have e : m = s.1 := by omega
                rw [e] at h2
                refine x_iinc (v := nI (p + 1)) (lv' := [(4, .int (nI (p + 1))), (0, .ref o), (1, .int (nI aN)), (2, .int u2), (3, .int v2), (5, .int (nI m))]) X dX4_who_123 4 rfl (nI_1 _) (by decide) rfl ?_
                refine x_goto 18 X dX4_who_126 (by decide) ?_
                refine x_lv (lv' := [(0, .ref o), (1, .int (nI aN)), (2, .int u2), (3, .int v2), (4, .int (nI (p + 1)))]) X [1, 2, 3, 4, 0] rfl ?_
                exact ih_L18 (p + 1) u2 v2 (by omega) (by omega) (by rw [F_who1, h1]; exact h2)
              · -- 42 f
                refine x_iconst (v := nI 0) X dX4_who_45 (by decide) ?_
                refine x_istore (lv' := [(6, .int (nI 0)), (0, .ref o), (1, .int (nI aN)), (2, .int u2), (3, .int v2), (4, .int (nI p)), (5, .int (nI m))]) X dX4_who_46 (by decide) rfl ?_
                have L48_2 : ∀ (fu : Nat) (n : Nat) (u3 : Int32) (v3 : Int32), 11 - n < fu → (n ≤ 11) → (F_who3 s th sa ns p m (u2, v2) n = (u3, v3)) → K (xJ [wInk G o x w d h g q e, wSg G q th sa ns, wCq G w s]) 0 0 48 [(0, .ref o), (1, .int (nI aN)), (2, .int u3), (3, .int v3), (4, .int (nI p)), (5, .int (nI m)), (6, .int (nI n))] [] := by
                  intro fu
                  induction fu with
                  | zero => intro n u3 v3 hfu; exact absurd hfu (Nat.not_lt_zero _)
                  | succ fu ih_L48_2 =>
                    intro n u3 v3 hfu_L48_2 hn h3
                    refine x_iload X dX4_who_48 6 rfl ?_
                    refine x_bipush (v := nI 10) X dX4_who_50 (by decide) ?_
                    refine x_icmp_gt_n 117 X dX4_who_52 (by decide) (by omega) (by omega) (fun c_5 => ?_) (fun c_5 => ?_)
                    · -- 52 t
                      have e : n = 11 := by omega
                      rw [e] at h3
                      refine x_iinc (v := nI (m + 1)) (lv' := [(5, .int (nI (m + 1))), (0, .ref o), (1, .int (nI aN)), (2, .int u3), (3, .int v3), (4, .int (nI p)), (6, .int (nI n))]) X dX4_who_117 5 rfl (nI_1 _) (by decide) rfl ?_
                      refine x_goto 33 X dX4_who_120 (by decide) ?_
                      refine x_lv (lv' := [(0, .ref o), (1, .int (nI aN)), (2, .int u3), (3, .int v3), (4, .int (nI p)), (5, .int (nI (m + 1)))]) X [1, 2, 3, 4, 5, 0] rfl ?_
                      exact ih_L33_1 (m + 1) u3 v3 (by omega) (by omega) (by rw [F_who2, h2]; exact h3)
                    · -- 52 f
                      have n_5 := Nat.not_lt.mpr c_5
                      refine x_iload X dX4_who_55 5 rfl ?_
                      refine x_iload X dX4_who_57 4 rfl ?_
                      refine x_icmp_eq_n 111 X dX4_who_59 (by decide) (by omega) (by omega) (fun c_6 => ?_) (fun c_6 => ?_)
                      · -- 59 t
                        refine x_iinc (v := nI (n + 1)) (lv' := [(6, .int (nI (n + 1))), (0, .ref o), (1, .int (nI aN)), (2, .int u3), (3, .int v3), (4, .int (nI p)), (5, .int (nI m))]) X dX4_who_111 6 rfl (nI_1 _) (by decide) rfl ?_
                        refine x_goto 48 X dX4_who_114 (by decide) ?_
                        refine x_lv (lv' := [(0, .ref o), (1, .int (nI aN)), (2, .int u3), (3, .int v3), (4, .int (nI p)), (5, .int (nI m)), (6, .int (nI (n + 1)))]) X [1, 2, 3, 4, 5, 6, 0] rfl ?_
                        exact ih_L48_2 (n + 1) u3 v3 (by omega) (by omega) (by rw [F_who3, h3, show P_who s th sa ns p m n = false from by simp [P_who, (eq_true c_6)], whoS_n])
                      · -- 59 f
                        refine x_aloadn X dX4_who_62 0 rfl ?_
                        refine x_get X wu_X4 0 rfl rfl 5 (by decide) wf_X4_41 rfl rfl dX4_who_63 ?_
                        refine x_aloadn X dX4_who_66 0 rfl ?_
                        refine x_get X wu_X4 0 rfl rfl 1 (by decide) wf_X4_19 rfl rfl dX4_who_67 ?_
                        refine x_iload X dX4_who_70 4 rfl ?_
                        refine x_iload X dX4_who_72 5 rfl ?_
                        refine x_iload X dX4_who_74 6 rfl ?_
                        refine x_callVrv (As := [.ref (w 0), .int (nI p), .int (nI m), .int (nI n)]) (rest := []) X (c_X2_areAllWritten l G q th sa ns w s.1 s.2.1 s.2.2.1 s.2.2.2.1 s.2.2.2.2.1 s.2.2.2.2.2 p m (nI n) (by omega) (by omega) (by omega) (by assumption)) xE0_ok (fun _ _ _ => trivial) [1, 2, 3, 4, 5, 6, 7, 8] rfl 0 rfl rfl rfl rfl wco_X2_areAllWritten wi_X2 xd_X2_areAllWritten wl_X4_179 win_X2_areAllWritten wse_X2_areAllWritten (by decide) (Nat.le_of_ble_eq_true rfl) dX4_who_76 ?_
                        refine x_ifeq_b 111 X dX4_who_79 (by decide) (fun c_7 => ?_) (fun c_7 => ?_)
                        · -- 79 t
                          refine x_iinc (v := nI (n + 1)) (lv' := [(6, .int (nI (n + 1))), (0, .ref o), (1, .int (nI aN)), (2, .int u3), (3, .int v3), (4, .int (nI p)), (5, .int (nI m))]) X dX4_who_111 6 rfl (nI_1 _) (by decide) rfl ?_
                          refine x_goto 48 X dX4_who_114 (by decide) ?_
                          refine x_lv (lv' := [(0, .ref o), (1, .int (nI aN)), (2, .int u3), (3, .int v3), (4, .int (nI p)), (5, .int (nI m)), (6, .int (nI (n + 1)))]) X [1, 2, 3, 4, 5, 6, 0] rfl ?_
                          exact ih_L48_2 (n + 1) u3 v3 (by omega) (by omega) (by rw [F_who3, h3, show P_who s th sa ns p m n = false from by simp [P_who, c_6, c_7], whoS_n])
                        · -- 79 f
                          refine x_iinc (v := u3 + 1) (lv' := [(2, .int (u3 + 1)), (0, .ref o), (1, .int (nI aN)), (3, .int v3), (4, .int (nI p)), (5, .int (nI m)), (6, .int (nI n))]) X dX4_who_82 2 rfl rfl (by decide) rfl ?_
                          refine x_iloadn X dX4_who_85 3 rfl ?_
                          refine x_bipush (v := (-4)) X dX4_who_86 (by decide) ?_
                          refine x_icmp_ne 109 X dX4_who_88 (by decide) (fun c_8 => ?_) (fun c_8 => ?_)
                          · -- 88 t
                            refine x_iloadn X dX4_who_109 3 rfl ?_
                            refine x_istoren (lv' := [(3, .int v3), (2, .int (u3 + 1)), (0, .ref o), (1, .int (nI aN)), (4, .int (nI p)), (5, .int (nI m)), (6, .int (nI n))]) X dX4_who_110 (by decide) rfl ?_
                            refine x_iinc (v := nI (n + 1)) (lv' := [(6, .int (nI (n + 1))), (3, .int v3), (2, .int (u3 + 1)), (0, .ref o), (1, .int (nI aN)), (4, .int (nI p)), (5, .int (nI m))]) X dX4_who_111 6 rfl (nI_1 _) (by decide) rfl ?_
                            refine x_goto 48 X dX4_who_114 (by decide) ?_
                            refine x_lv (lv' := [(0, .ref o), (1, .int (nI aN)), (2, .int (u3 + 1)), (3, .int v3), (4, .int (nI p)), (5, .int (nI m)), (6, .int (nI (n + 1)))]) X [3, 4, 2, 1, 5, 6, 0] rfl ?_
                            exact ih_L48_2 (n + 1) (u3 + 1) v3 (by omega) (by omega) (by rw [F_who3, h3, show P_who s th sa ns p m n = true from by simp [P_who, c_6, c_7], whoS_k _ _ _ c_8])
                          · -- 88 f
                            refine x_sipush (v := nI 1000) X dX4_who_91 (by decide) ?_
                            refine x_iload X dX4_who_94 4 rfl ?_
                            refine x_imul (v := nI (1000 * p)) X dX4_who_96 (pk_mul _ _) ?_
                            refine x_bipush (v := nI 100) X dX4_who_97 (by decide) ?_
                            refine x_iload X dX4_who_99 5 rfl ?_
                            refine x_imul (v := nI (100 * m)) X dX4_who_101 (pk_mul _ _) ?_
                            refine x_iadd (v := nI (1000 * p + (100 * m))) X dX4_who_102 (nI_add _ _) ?_
                            refine x_iload X dX4_who_103 6 rfl ?_
                            refine x_iadd (v := nI ((1000 * p + (100 * m)) + n)) X dX4_who_105 (nI_add _ _) ?_
                            refine x_goto 110 X dX4_who_106 (by decide) ?_
                            refine x_istoren (lv' := [(3, .int (nI ((1000 * p + (100 * m)) + n))), (2, .int (u3 + 1)), (0, .ref o), (1, .int (nI aN)), (4, .int (nI p)), (5, .int (nI m)), (6, .int (nI n))]) X dX4_who_110 (by decide) rfl ?_
                            refine x_iinc (v := nI (n + 1)) (lv' := [(6, .int (nI (n + 1))), (3, .int (nI ((1000 * p + (100 * m)) + n))), (2, .int (u3 + 1)), (0, .ref o), (1, .int (nI aN)), (4, .int (nI p)), (5, .int (nI m))]) X dX4_who_111 6 rfl (nI_1 _) (by decide) rfl ?_
                            refine x_goto 48 X dX4_who_114 (by decide) ?_
                            refine x_lv (lv' := [(0, .ref o), (1, .int (nI aN)), (2, .int (u3 + 1)), (3, .int (nI ((1000 * p + (100 * m)) + n))), (4, .int (nI p)), (5, .int (nI m)), (6, .int (nI (n + 1)))]) X [3, 4, 2, 1, 5, 6, 0] rfl ?_
                            exact ih_L48_2 (n + 1) (u3 + 1) (nI ((1000 * p + (100 * m)) + n)) (by omega) (by omega) (by rw [F_who3, h3, show P_who s th sa ns p m n = true from by simp [P_who, c_6, c_7], whoS_y _ _ _ c_8]; rfl)
                refine x_lv (lv' := [(0, .ref o), (1, .int (nI aN)), (2, .int u2), (3, .int v2), (4, .int (nI p)), (5, .int (nI m)), (6, .int (nI 0))]) X [1, 2, 3, 4, 5, 6, 0] rfl ?_
                exact L48_2 _ 0 u2 v2 (Nat.lt_succ_self _) (by omega) (rfl)
          refine x_lv (lv' := [(0, .ref o), (1, .int (nI aN)), (2, .int u1), (3, .int v1), (4, .int (nI p)), (5, .int (nI 0))]) X [1, 2, 3, 4, 5, 0] rfl ?_
          exact L33_1 _ 0 u1 v1 (Nat.lt_succ_self _) (by omega) (rfl)
    refine x_lv (lv' := [(0, .ref o), (1, .int (nI aN)), (2, .int (nI 0)), (3, .int (-4)), (4, .int (nI 0))]) X [3, 4, 2, 1, 0] rfl ?_
    exact L18 _ 0 (nI 0) (-4) (Nat.lt_succ_self _) (by omega) (rfl)
  · -- 5 f
    refine x_iconst (v := (-1)) X dX4_who_8 (by decide) ?_
    exact x_ret X dX4_who_9 ⟨ret_i (by simp [F_who, tn, c_1]), rfl, by decide, by decide⟩
set_option maxRecDepth 100000 in
set_option maxHeartbeats 4000000 in
/-- X4_views -/
theorem c_X4_views (l : Launch) (G : xG) (o : Nat) (x : Nat → Nat) (w : Nat → Nat) (d : Nat → Nat) (h : Nat → Nat) (g : Nat → Nat) (q : Nat → Nat) (e : Nat) (th : Nat → Int32) (sa : Nat → Int32) (ns : Nat) (s : xS) (sd : xS) (a : Int32) (b : Int32) (c : Int32) (hs6 : s.1 ≤ 6) (hs1 : 0 < s.1) (hq5 : s.2.1 ≤ 5) (hmi : ∀ j, j < 6 → inR (s.2.2.2.1 j) 6 = true) (hns : ns ≤ 6) (hth : ∀ j, j < ns → inR (th j) 5 = true) : xM l G xE0 yX4_views cX4_views 6 (some .int) 4 94 0 0 [.ref o, .int a, .int b, .int c] (xJ [wInk G o x w d h g q e, wSg G q th sa ns, wCq G w s, wCq G d sd]) (some (.int (F_views s th sa ns a b c))) (fun w2 => ∃ sd' : xS, w2 = xJ [wInk G o x w d h g q e, wSg G q th sa ns, wCq G w s, wCq G d sd']) := by
  refine x_entry (by decide +kernel) (Nat.le_of_ble_eq_true rfl) rfl ⟨_, rfl, rfl⟩ (fun K X => ?_)
  refine x_aloadn X dX4_views_0 0 rfl ?_
  refine x_get X wu_X4 0 rfl rfl 1 (by decide) wf_X4_19 rfl rfl dX4_views_1 ?_
  refine x_iloadn X dX4_views_4 1 rfl ?_
  refine x_callVrv (As := [.int a]) (rest := []) X (c_X0_hasPerson l G w s.1 s.2.1 s.2.2.1 s.2.2.2.1 s.2.2.2.2.1 s.2.2.2.2.2 a (by omega)) xE0_ok (fun _ _ _ => trivial) [4, 5, 6, 7, 8] rfl 0 rfl rfl rfl rfl wco_X0_hasPerson wi_X0 xd_X0_hasPerson wl_X4_87 win_X0_hasPerson wse_X0_hasPerson (by decide) (Nat.le_of_ble_eq_true rfl) dX4_views_5 ?_
  refine x_ifeq_b 27 X dX4_views_8 (by decide) (fun c_1 => ?_) (fun c_1 => ?_)
  · -- 8 t
    refine x_iconst (v := (-1)) X dX4_views_27 (by decide) ?_
    exact x_ret X dX4_views_28 ⟨ret_i (by simp [F_views, tn, c_1]), ⟨sd, rfl⟩, by decide, by decide⟩
  · -- 8 f
    obtain ⟨aN, haN, rfl⟩ := inR_nat c_1 (by omega)
    have qaN : (nI aN).toNatClampNeg = aN := nI_clamp (by omega)
    refine x_iloadn X dX4_views_11 2 rfl ?_
    refine x_callSrv (As := [.int b]) (rest := []) X (c_X4_isTheme l G b) xE0_ok (fun _ _ _ => trivial) [] rfl rfl rfl wco_X4_isTheme wi_X4 xd_X4_isTheme wl_X4_102 wst_X4_isTheme (by decide) (Nat.le_of_ble_eq_true rfl) dX4_views_12 ?_
    refine x_ifeq_b 27 X dX4_views_15 (by decide) (fun c_2 => ?_) (fun c_2 => ?_)
    · -- 15 t
      refine x_iconst (v := (-1)) X dX4_views_27 (by decide) ?_
      exact x_ret X dX4_views_28 ⟨ret_i (by simp [F_views, tn, c_1, qaN, c_2]), ⟨sd, rfl⟩, by decide, by decide⟩
    · -- 15 f
      obtain ⟨bN, hbN, rfl⟩ := inR_nat c_2 (by omega)
      have qbN : (nI bN).toNatClampNeg = bN := nI_clamp (by omega)
      refine x_iloadn X dX4_views_18 3 rfl ?_
      refine x_bipush (v := nI 10) X dX4_views_19 (by decide) ?_
      refine x_callSrv (As := [.int c, .int (nI 10)]) (rest := []) X (c_X4_isUpTo l G c 10 (by omega)) xE0_ok (fun _ _ _ => trivial) [] rfl rfl rfl wco_X4_isUpTo wi_X4 xd_X4_isUpTo wl_X4_91 wst_X4_isUpTo (by decide) (Nat.le_of_ble_eq_true rfl) dX4_views_21 ?_
      refine x_ifne_b 29 X dX4_views_24 (by decide) (fun c_3 => ?_) (fun c_3 => ?_)
      · -- 24 t
        obtain ⟨cN, hcN, rfl⟩ := inR_nat c_3 (by omega)
        have qcN : (nI cN).toNatClampNeg = cN := nI_clamp (by omega)
        refine x_aloadn X dX4_views_29 0 rfl ?_
        refine x_get X wu_X4 0 rfl rfl 2 (by decide) wf_X4_23 rfl rfl dX4_views_30 ?_
        refine x_aloadn X dX4_views_33 0 rfl ?_
        refine x_get X wu_X4 0 rfl rfl 1 (by decide) wf_X4_19 rfl rfl dX4_views_34 ?_
        refine x_callVf0 (As := [.ref (w 0)]) (rest := []) (w1 := xJ [wCh G d s.1 s.2.1 s.2.2.1 s.2.2.2.1 s.2.2.2.2.1 s.2.2.2.2.2, wCh G w s.1 s.2.1 s.2.2.1 s.2.2.2.1 s.2.2.2.2.1 s.2.2.2.2.2]) (ws' := xJ [wInk G o x w d h g q e, wSg G q th sa ns, wCh G w s.1 s.2.1 s.2.2.1 s.2.2.2.1 s.2.2.2.2.1 s.2.2.2.2.2, wCh G d s.1 s.2.1 s.2.2.1 s.2.2.2.1 s.2.2.2.2.1 s.2.2.2.2.2]) X (c_X0_becomeLike l G d sd.1 sd.2.1 sd.2.2.1 sd.2.2.2.1 sd.2.2.2.2.1 sd.2.2.2.2.2 w s.1 s.2.1 s.2.2.1 s.2.2.2.1 s.2.2.2.2.1 s.2.2.2.2.2) xE0_ok (fun _ _ _ => trivial) [9, 10, 11, 12, 13, 4, 5, 6, 7, 8] rfl 0 rfl rfl rfl rfl wco_X0_becomeLike wi_X0 xd_X0_becomeLike wl_X4_78 win_X0_becomeLike wse_X0_becomeLike (by decide) (Nat.le_of_ble_eq_true rfl) dX4_views_37 rfl (Eq.trans (b := [d 0, d 1, d 2, d 3, d 4, w 0, w 1, w 2, w 3, w 4]) rfl rfl) rfl ?_
        refine x_iconst (v := nI 0) X dX4_views_40 (by decide) ?_
        refine x_istore (lv' := [(4, .int (nI 0)), (0, .ref o), (1, .int (nI aN)), (2, .int (nI bN)), (3, .int (nI cN))]) X dX4_views_41 (by decide) rfl ?_
        refine x_iconst (v := nI 0) X dX4_views_43 (by decide) ?_
        refine x_istore (lv' := [(5, .int (nI 0)), (4, .int (nI 0)), (0, .ref o), (1, .int (nI aN)), (2, .int (nI bN)), (3, .int (nI cN))]) X dX4_views_44 (by decide) rfl ?_
        have L46 : ∀ (fu : Nat) (v : Nat) (u : Int32) (y : Nat → Int32), 19 - v < fu → (v ≤ 19) → (y = F_viv s aN bN v) → (u = F_vib s th sa ns aN bN (nI cN) v) → K (xJ [wInk G o x w d h g q e, wSg G q th sa ns, wCq G w s, wCh G d s.1 s.2.1 s.2.2.1 s.2.2.2.1 y s.2.2.2.2.2]) 0 0 46 [(0, .ref o), (1, .int (nI aN)), (2, .int (nI bN)), (3, .int (nI cN)), (4, .int u), (5, .int (nI v))] [] := by
          intro fu
          induction fu with
          | zero => intro v u y hfu; exact absurd hfu (Nat.not_lt_zero _)
          | succ fu ih_L46 =>
            intro v u y hfu_L46 hv hy hu
            refine x_iload X dX4_views_46 5 rfl ?_
            refine x_bipush (v := nI 18) X dX4_views_48 (by decide) ?_
            refine x_icmp_gt_n 106 X dX4_views_50 (by decide) (by omega) (by omega) (fun c_4 => ?_) (fun c_4 => ?_)
            · -- 50 t
              have e : v = 19 := by omega
              rw [e] at hu
              refine x_iload X dX4_views_106 4 rfl ?_
              exact x_ret X dX4_views_108 ⟨ret_i (by simp [F_views, tn, c_1, qaN, c_2, qbN, c_3, qcN, hv, hy, hu, c_4]), ⟨(s.1, s.2.1, s.2.2.1, s.2.2.2.1, y, s.2.2.2.2.2), rfl⟩, by decide, by decide⟩
            · -- 50 f
              have n_4 := Nat.not_lt.mpr c_4
              refine x_aloadn X dX4_views_53 0 rfl ?_
              refine x_get X wu_X4 0 rfl rfl 2 (by decide) wf_X4_23 rfl rfl dX4_views_54 ?_
              refine x_iloadn X dX4_views_57 1 rfl ?_
              refine x_iloadn X dX4_views_58 2 rfl ?_
              refine x_iload X dX4_views_59 5 rfl ?_
              refine x_bipush (v := nI 9) X dX4_views_61 (by decide) ?_
              refine x_isub (v := (nI v) - (nI 9)) X dX4_views_63 rfl ?_
              refine x_callVf0 (As := [.int (nI aN), .int (nI bN), .int ((nI v) - (nI 9))]) (rest := []) (w1 := wCh G d s.1 s.2.1 s.2.2.1 s.2.2.2.1 (upd y (aN * 5 + bN) ((nI v) - (nI 9))) s.2.2.2.2.2) (ws' := xJ [wInk G o x w d h g q e, wSg G q th sa ns, wCq G w s, wCh G d s.1 s.2.1 s.2.2.1 s.2.2.2.1 (upd y (aN * 5 + bN) ((nI v) - (nI 9))) s.2.2.2.2.2]) X (c_X0_putView l G d s.1 s.2.1 s.2.2.1 s.2.2.2.1 y s.2.2.2.2.2 aN bN ((nI v) - (nI 9)) (by omega) (by omega)) xE0_ok (fun _ _ _ => trivial) [9, 10, 11, 12, 13] rfl 0 rfl rfl rfl rfl wco_X0_putView wi_X0 xd_X0_putView wl_X4_135 win_X0_putView wse_X0_putView (by decide) (Nat.le_of_ble_eq_true rfl) dX4_views_64 rfl (Eq.trans (b := [d 0, d 1, d 2, d 3, d 4]) rfl rfl) rfl ?_
              obtain ⟨y1, ey1⟩ : ∃ y1, y1 = upd y (aN * 5 + bN) (nI v - nI 9) := ⟨_, rfl⟩
              rw [← ey1]
              have hy1 : y1 = F_viv s aN bN (v + 1) := by rw [ey1, hy]; rfl
              refine x_aloadn X dX4_views_67 0 rfl ?_
              refine x_get X wu_X4 0 rfl rfl 5 (by decide) wf_X4_41 rfl rfl dX4_views_68 ?_
              refine x_aloadn X dX4_views_71 0 rfl ?_
              refine x_get X wu_X4 0 rfl rfl 2 (by decide) wf_X4_23 rfl rfl dX4_views_72 ?_
              refine x_iloadn X dX4_views_75 1 rfl ?_
              refine x_aloadn X dX4_views_76 0 rfl ?_
              refine x_get X wu_X4 0 rfl rfl 2 (by decide) wf_X4_23 rfl rfl dX4_views_77 ?_
              refine x_iloadn X dX4_views_80 1 rfl ?_
              refine x_callVrv (As := [.int (nI aN)]) (rest := [.int (nI aN), .ref (d 0), .ref (q 0)]) X (c_X0_mindOf l G d s.1 s.2.1 s.2.2.1 s.2.2.2.1 y1 s.2.2.2.2.2 aN (by omega)) xE0_ok (fun _ _ _ => trivial) [9, 10, 11, 12, 13] rfl 0 rfl rfl rfl rfl wco_X0_mindOf wi_X0 xd_X0_mindOf wl_X4_99 win_X0_mindOf wse_X0_mindOf (by decide) (Nat.le_of_ble_eq_true rfl) dX4_views_81 ?_
              obtain ⟨em, hm6⟩ := inR_eq (hmi aN (by omega)) (by decide)
              refine x_int em ?_
              refine x_iloadn X dX4_views_84 3 rfl ?_
              refine x_callVrv (As := [.ref (d 0), .int (nI aN), .int (nI (tn (s.2.2.2.1 aN))), .int (nI cN)]) (rest := []) X (c_X2_areAllWritten l G q th sa ns d s.1 s.2.1 s.2.2.1 s.2.2.2.1 y1 s.2.2.2.2.2 aN (tn (s.2.2.2.1 aN)) (nI cN) (by omega) (by omega) (by omega) (by assumption)) xE0_ok (fun _ _ _ => trivial) [1, 2, 3, 9, 10, 11, 12, 13] rfl 0 rfl rfl rfl rfl wco_X2_areAllWritten wi_X2 xd_X2_areAllWritten wl_X4_179 win_X2_areAllWritten wse_X2_areAllWritten (by decide) (Nat.le_of_ble_eq_true rfl) dX4_views_85 ?_
              refine x_ifeq_b 100 X dX4_views_88 (by decide) (fun c_5 => ?_) (fun c_5 => ?_)
              · -- 88 t
                refine x_iinc (v := nI (v + 1)) (lv' := [(5, .int (nI (v + 1))), (0, .ref o), (1, .int (nI aN)), (2, .int (nI bN)), (3, .int (nI cN)), (4, .int u)]) X dX4_views_100 5 rfl (nI_1 _) (by decide) rfl ?_
                refine x_goto 46 X dX4_views_103 (by decide) ?_
                refine x_lv (lv' := [(0, .ref o), (1, .int (nI aN)), (2, .int (nI bN)), (3, .int (nI cN)), (4, .int u), (5, .int (nI (v + 1)))]) X [1, 2, 3, 4, 5, 0] rfl ?_
                exact ih_L46 (v + 1) u y1 (by omega) (by omega) (hy1) (by rw [hu, F_vib, ← hy1, c_5]; rfl)
              · -- 88 f
                refine x_iload X dX4_views_91 4 rfl ?_
                refine x_iconst (v := nI 1) X dX4_views_93 (by decide) ?_
                refine x_iload X dX4_views_94 5 rfl ?_
                refine x_ishl (v := (nI 1) <<< ((nI v) &&& 31)) X dX4_views_96 rfl ?_
                refine x_ior (v := u ||| ((nI 1) <<< ((nI v) &&& 31))) X dX4_views_97 rfl ?_
                refine x_istore (lv' := [(4, .int (u ||| ((nI 1) <<< ((nI v) &&& 31)))), (0, .ref o), (1, .int (nI aN)), (2, .int (nI bN)), (3, .int (nI cN)), (5, .int (nI v))]) X dX4_views_98 (by decide) rfl ?_
                refine x_iinc (v := nI (v + 1)) (lv' := [(5, .int (nI (v + 1))), (4, .int (u ||| ((nI 1) <<< ((nI v) &&& 31)))), (0, .ref o), (1, .int (nI aN)), (2, .int (nI bN)), (3, .int (nI cN))]) X dX4_views_100 5 rfl (nI_1 _) (by decide) rfl ?_
                refine x_goto 46 X dX4_views_103 (by decide) ?_
                refine x_lv (lv' := [(0, .ref o), (1, .int (nI aN)), (2, .int (nI bN)), (3, .int (nI cN)), (4, .int (u ||| ((nI 1) <<< ((nI v) &&& 31)))), (5, .int (nI (v + 1)))]) X [2, 3, 4, 5, 1, 0] rfl ?_
                exact ih_L46 (v + 1) (u ||| ((nI 1) <<< ((nI v) &&& 31))) y1 (by omega) (by omega) (hy1) (by rw [hu, F_vib, ← hy1, c_5]; rfl)
        refine x_lv (lv' := [(0, .ref o), (1, .int (nI aN)), (2, .int (nI bN)), (3, .int (nI cN)), (4, .int (nI 0)), (5, .int (nI 0))]) X [2, 3, 4, 5, 1, 0] rfl ?_
        exact L46 _ 0 (nI 0) s.2.2.2.2.1 (Nat.lt_succ_self _) (by omega) (rfl) (rfl)
      · -- 24 f
        refine x_iconst (v := (-1)) X dX4_views_27 (by decide) ?_
        exact x_ret X dX4_views_28 ⟨ret_i (by simp [F_views, tn, c_1, qaN, c_2, qbN, c_3]), ⟨sd, rfl⟩, by decide, by decide⟩
set_option maxRecDepth 100000 in
set_option maxHeartbeats 4000000 in
/-- X4_weeks -/
theorem c_X4_weeks (l : Launch) (G : xG) (o : Nat) (x : Nat → Nat) (w : Nat → Nat) (d : Nat → Nat) (h : Nat → Nat) (g : Nat → Nat) (q : Nat → Nat) (e : Nat) (s : xS) (sd : xS) (a : Int32) (b : Int32) (c : Int32) (hs6 : s.1 ≤ 6) (hs1 : 0 < s.1) (hq5 : s.2.1 ≤ 5) (hmi : ∀ j, j < 6 → inR (s.2.2.2.1 j) 6 = true) (hq1 : 0 < s.2.1) : xM l G xE0 yX4_weeks cX4_weeks 8 (some .int) 4 92 0 0 [.ref o, .int a, .int b, .int c] (xJ [wInk G o x w d h g q e, wCq G w s, wCq G d sd]) (some (.int (F_weeks s a b c))) (fun w2 => ∃ sd' : xS, w2 = xJ [wInk G o x w d h g q e, wCq G w s, wCq G d sd']) := by
  refine x_entry (by decide +kernel) (Nat.le_of_ble_eq_true rfl) rfl ⟨_, rfl, rfl⟩ (fun K X => ?_)
  refine x_iloadn X dX4_weeks_0 1 rfl ?_
  refine x_sipush (v := nI 9999) X dX4_weeks_1 (by decide) ?_
  refine x_callSrv (As := [.int a, .int (nI 9999)]) (rest := []) X (c_X4_isUpTo l G a 9999 (by omega)) xE0_ok (fun _ _ _ => trivial) [] rfl rfl rfl wco_X4_isUpTo wi_X4 xd_X4_isUpTo wl_X4_91 wst_X4_isUpTo (by decide) (Nat.le_of_ble_eq_true rfl) dX4_weeks_4 ?_
  refine x_ifeq_b 29 X dX4_weeks_7 (by decide) (fun c_1 => ?_) (fun c_1 => ?_)
  · -- 7 t
    refine x_iconst (v := (-1)) X dX4_weeks_29 (by decide) ?_
    exact x_ret X dX4_weeks_30 ⟨ret_i (by simp [F_weeks, F_wOk2, tn, c_1]), ⟨sd, rfl⟩, by decide, by decide⟩
  · -- 7 f
    obtain ⟨aN, haN, rfl⟩ := inR_nat c_1 (by omega)
    have qaN : (nI aN).toNatClampNeg = aN := nI_clamp (by omega)
    refine x_iloadn X dX4_weeks_10 2 rfl ?_
    refine x_iconst (v := nI 1) X dX4_weeks_11 (by decide) ?_
    refine x_icmp_lt 29 X dX4_weeks_12 (by decide) (fun c_2 => ?_) (fun c_2 => ?_)
    · -- 12 t
      refine x_iconst (v := (-1)) X dX4_weeks_29 (by decide) ?_
      exact x_ret X dX4_weeks_30 ⟨ret_i (by simp [F_weeks, F_wOk2, tn, c_1, qaN, c_2]), ⟨sd, rfl⟩, by decide, by decide⟩
    · -- 12 f
      refine x_iloadn X dX4_weeks_15 2 rfl ?_
      refine x_bipush (v := nI 60) X dX4_weeks_16 (by decide) ?_
      refine x_icmp_gt 29 X dX4_weeks_18 (by decide) (fun c_3 => ?_) (fun c_3 => ?_)
      · -- 18 t
        refine x_iconst (v := (-1)) X dX4_weeks_29 (by decide) ?_
        exact x_ret X dX4_weeks_30 ⟨ret_i (by simp [F_weeks, F_wOk2, tn, c_1, qaN, c_2, c_3]), ⟨sd, rfl⟩, by decide, by decide⟩
      · -- 18 f
        obtain ⟨bN, hbN, rfl⟩ := dec_n60 c_2 c_3
        have qbN : (nI bN).toNatClampNeg = bN := nI_clamp (by omega)
        refine x_iloadn X dX4_weeks_21 3 rfl ?_
        refine x_iconst (v := nI 1) X dX4_weeks_22 (by decide) ?_
        refine x_callSrv (As := [.int c, .int (nI 1)]) (rest := []) X (c_X4_isUpTo l G c 1 (by omega)) xE0_ok (fun _ _ _ => trivial) [] rfl rfl rfl wco_X4_isUpTo wi_X4 xd_X4_isUpTo wl_X4_91 wst_X4_isUpTo (by decide) (Nat.le_of_ble_eq_true rfl) dX4_weeks_23 ?_
        refine x_ifne_b 31 X dX4_weeks_26 (by decide) (fun c_4 => ?_) (fun c_4 => ?_)
        · -- 26 t
          obtain ⟨cN, hcN, rfl⟩ := inR_nat c_4 (by omega)
          have qcN : (nI cN).toNatClampNeg = cN := nI_clamp (by omega)
          refine x_aloadn X dX4_weeks_31 0 rfl ?_
          refine x_get X wu_X4 0 rfl rfl 2 (by decide) wf_X4_23 rfl rfl dX4_weeks_32 ?_
          refine x_aloadn X dX4_weeks_35 0 rfl ?_
          refine x_get X wu_X4 0 rfl rfl 1 (by decide) wf_X4_19 rfl rfl dX4_weeks_36 ?_
          refine x_callVf0 (As := [.ref (w 0)]) (rest := []) (w1 := xJ [wCh G d s.1 s.2.1 s.2.2.1 s.2.2.2.1 s.2.2.2.2.1 s.2.2.2.2.2, wCh G w s.1 s.2.1 s.2.2.1 s.2.2.2.1 s.2.2.2.2.1 s.2.2.2.2.2]) (ws' := xJ [wInk G o x w d h g q e, wCh G w s.1 s.2.1 s.2.2.1 s.2.2.2.1 s.2.2.2.2.1 s.2.2.2.2.2, wCh G d s.1 s.2.1 s.2.2.1 s.2.2.2.1 s.2.2.2.2.1 s.2.2.2.2.2]) X (c_X0_becomeLike l G d sd.1 sd.2.1 sd.2.2.1 sd.2.2.2.1 sd.2.2.2.2.1 sd.2.2.2.2.2 w s.1 s.2.1 s.2.2.1 s.2.2.2.1 s.2.2.2.2.1 s.2.2.2.2.2) xE0_ok (fun _ _ _ => trivial) [6, 7, 8, 9, 10, 1, 2, 3, 4, 5] rfl 0 rfl rfl rfl rfl wco_X0_becomeLike wi_X0 xd_X0_becomeLike wl_X4_78 win_X0_becomeLike wse_X0_becomeLike (by decide) (Nat.le_of_ble_eq_true rfl) dX4_weeks_39 rfl (Eq.trans (b := [d 0, d 1, d 2, d 3, d 4, w 0, w 1, w 2, w 3, w 4]) rfl rfl) rfl ?_
          refine x_iconst (v := nI 0) X dX4_weeks_42 (by decide) ?_
          refine x_istore (lv' := [(4, .int (nI 0)), (0, .ref o), (1, .int (nI aN)), (2, .int (nI bN)), (3, .int (nI cN))]) X dX4_weeks_43 (by decide) rfl ?_
          have L45 : ∀ (fu : Nat) (k : Nat) (y : Nat → Int32), bN - k < fu → (k ≤ bN) → (y = F_wkl s aN k) → K (xJ [wInk G o x w d h g q e, wCq G w s, wCh G d s.1 s.2.1 s.2.2.1 s.2.2.2.1 s.2.2.2.2.1 y]) 0 0 45 [(0, .ref o), (1, .int (nI aN)), (2, .int (nI bN)), (3, .int (nI cN)), (4, .int (nI k))] [] := by
            intro fu
            induction fu with
            | zero => intro k y hfu; exact absurd hfu (Nat.not_lt_zero _)
            | succ fu ih_L45 =>
              intro k y hfu_L45 hk hy
              refine x_iload X dX4_weeks_45 4 rfl ?_
              refine x_iloadn X dX4_weeks_47 2 rfl ?_
              refine x_icmp_ge_n 128 X dX4_weeks_48 (by decide) (by omega) (by omega) (fun c_5 => ?_) (fun c_5 => ?_)
              · -- 48 t
                have n_5 := Nat.not_lt.mpr c_5
                have e : k = bN := by omega
                rw [e] at hy
                refine x_iloadn X dX4_weeks_128 3 rfl ?_
                refine x_if_ne_n 142 X dX4_weeks_129 (by decide) (by omega) (fun c_6 => ?_) (fun c_6 => ?_)
                · -- 129 t
                  refine x_aloadn X dX4_weeks_142 0 rfl ?_
                  refine x_get X wu_X4 0 rfl rfl 2 (by decide) wf_X4_23 rfl rfl dX4_weeks_143 ?_
                  refine x_callVrv (As := []) (rest := []) X (c_X0_sumOfLines l G d s.1 s.2.1 s.2.2.1 s.2.2.2.1 s.2.2.2.2.1 y (by omega)) xE0_ok (fun _ _ _ => trivial) [6, 7, 8, 9, 10] rfl 0 rfl rfl rfl rfl wco_X0_sumOfLines wi_X0 xd_X0_sumOfLines wl_X4_204 win_X0_sumOfLines wse_X0_sumOfLines (by decide) (Nat.le_of_ble_eq_true rfl) dX4_weeks_146 ?_
                  refine x_sipush (v := nI 500) X dX4_weeks_149 (by decide) ?_
                  refine x_iadd (v := (F_sums y s.2.1) + (nI 500)) X dX4_weeks_152 rfl ?_
                  exact x_ret X dX4_weeks_153 ⟨ret_i (by simp [F_weeks, F_wOk2, tn, c_1, qaN, c_2, c_3, qbN, c_4, qcN, hk, hy, c_5, n_5, c_6]), ⟨(s.1, s.2.1, s.2.2.1, s.2.2.2.1, s.2.2.2.2.1, y), rfl⟩, by decide, by decide⟩
                · -- 129 f
                  refine x_aloadn X dX4_weeks_132 0 rfl ?_
                  refine x_get X wu_X4 0 rfl rfl 2 (by decide) wf_X4_23 rfl rfl dX4_weeks_133 ?_
                  refine x_callVrv (As := []) (rest := []) X (c_X0_filledLines l G d s.1 s.2.1 s.2.2.1 s.2.2.2.1 s.2.2.2.2.1 y (by omega)) xE0_ok (fun _ _ _ => trivial) [6, 7, 8, 9, 10] rfl 0 rfl rfl rfl rfl wco_X0_filledLines wi_X0 xd_X0_filledLines wl_X4_201 win_X0_filledLines wse_X0_filledLines (by decide) (Nat.le_of_ble_eq_true rfl) dX4_weeks_136 ?_
                  refine x_goto 153 X dX4_weeks_139 (by decide) ?_
                  exact x_ret X dX4_weeks_153 ⟨ret_i (by simp [F_weeks, F_wOk2, tn, c_1, qaN, c_2, c_3, qbN, c_4, qcN, hk, hy, c_5, n_5, (eq_true c_6)]), ⟨(s.1, s.2.1, s.2.2.1, s.2.2.2.1, s.2.2.2.2.1, y), rfl⟩, by decide, by decide⟩
              · -- 48 f
                refine x_iloadn X dX4_weeks_51 1 rfl ?_
                refine x_iload X dX4_weeks_52 4 rfl ?_
                refine x_callSrv (As := [.int (nI aN), .int (nI k)]) (rest := []) X (c_X4_drawOf l G aN k (by omega) (by omega)) xE0_ok (fun _ _ _ => trivial) [] rfl rfl rfl wco_X4_drawOf wi_X4 xd_X4_drawOf wl_X4_195 wst_X4_drawOf (by decide) (Nat.le_of_ble_eq_true rfl) dX4_weeks_54 ?_
                have hdr := F_draw_lt aN k
                have hm1 := Nat.mod_lt (F_draw aN k) hs1
                have hm2 := Nat.mod_lt k hq1
                refine x_istore (lv' := [(5, .int (nI (F_draw aN k))), (0, .ref o), (1, .int (nI aN)), (2, .int (nI bN)), (3, .int (nI cN)), (4, .int (nI k))]) X dX4_weeks_57 (by decide) rfl ?_
                refine x_iload X dX4_weeks_59 0 rfl ?_
                refine x_bipush (v := nI 8) X dX4_weeks_61 (by decide) ?_
                refine x_idiv (v := nI ((F_draw aN k) / 8)) X dX4_weeks_63 (by decide) (pk_div (by omega) (by omega) (by omega)) ?_
                refine x_iconst (v := nI 5) X dX4_weeks_64 (by decide) ?_
                refine x_irem (v := nI (((F_draw aN k) / 8) % 5)) X dX4_weeks_65 (by decide) (pk_rem (by omega) (by omega) (by omega)) ?_
                refine x_istore (lv' := [(6, .int (nI (((F_draw aN k) / 8) % 5))), (5, .int (nI (F_draw aN k))), (0, .ref o), (1, .int (nI aN)), (2, .int (nI bN)), (3, .int (nI cN)), (4, .int (nI k))]) X dX4_weeks_66 (by decide) rfl ?_
                refine x_aloadn X dX4_weeks_68 2 rfl ?_
                refine x_get X wu_X4 0 rfl rfl 2 (by decide) wf_X4_23 rfl rfl dX4_weeks_69 ?_
                refine x_iload X dX4_weeks_72 1 rfl ?_
                refine x_aloadn X dX4_weeks_74 2 rfl ?_
                refine x_get X wu_X4 0 rfl rfl 2 (by decide) wf_X4_23 rfl rfl dX4_weeks_75 ?_
                refine x_callVrv (As := []) (rest := [.int (nI (F_draw aN k)), .ref (d 0)]) X (c_X0_persons l G d s.1 s.2.1 s.2.2.1 s.2.2.2.1 s.2.2.2.2.1 y) xE0_ok (fun _ _ _ => trivial) [6, 7, 8, 9, 10] rfl 0 rfl rfl rfl rfl wco_X0_persons wi_X0 xd_X0_persons wl_X4_84 win_X0_persons wse_X0_persons (by decide) (Nat.le_of_ble_eq_true rfl) dX4_weeks_78 ?_
                refine x_callSrv (As := [.int (nI (F_draw aN k)), .int (nI s.1)]) (rest := [.ref (d 0)]) X (c_X4_remainder l G (F_draw aN k) s.1 (by omega) (by omega) (by omega)) xE0_ok (fun _ _ _ => trivial) [] rfl rfl rfl wco_X4_remainder wi_X4 xd_X4_remainder wl_X4_151 wst_X4_remainder (by decide) (Nat.le_of_ble_eq_true rfl) dX4_weeks_81 ?_
                refine x_iload X dX4_weeks_84 0 rfl ?_
                refine x_iload X dX4_weeks_86 1 rfl ?_
                refine x_bipush (v := nI 64) X dX4_weeks_88 (by decide) ?_
                refine x_idiv (v := nI ((F_draw aN k) / 64)) X dX4_weeks_90 (by decide) (pk_div (by omega) (by omega) (by omega)) ?_
                refine x_bipush (v := nI 11) X dX4_weeks_91 (by decide) ?_
                refine x_irem (v := nI (((F_draw aN k) / 64) % 11)) X dX4_weeks_93 (by decide) (pk_rem (by omega) (by omega) (by omega)) ?_
                refine x_callVrv (As := [.int (nI ((F_draw aN k) % s.1)), .int (nI (((F_draw aN k) / 8) % 5)), .int (nI (((F_draw aN k) / 64) % 11))]) (rest := []) X (c_X0_written l G d s.1 s.2.1 s.2.2.1 s.2.2.2.1 s.2.2.2.2.1 y ((F_draw aN k) % s.1) (((F_draw aN k) / 8) % 5) (nI (((F_draw aN k) / 64) % 11)) (by omega) (by omega) (by assumption)) xE0_ok (fun _ _ _ => trivial) [6, 7, 8, 9, 10] rfl 0 rfl rfl rfl rfl wco_X0_written wi_X0 xd_X0_written wl_X4_118 win_X0_written wse_X0_written (by decide) (Nat.le_of_ble_eq_true rfl) dX4_weeks_94 ?_
                refine x_istore (lv' := [(7, .int (F_ink (s.2.2.1 ((F_draw aN k) % s.1)) (s.2.2.2.2.1 (tn (s.2.2.2.1 ((F_draw aN k) % s.1)) * 5 + (((F_draw aN k) / 8) % 5))) (s.2.2.2.2.1 (((F_draw aN k) % s.1) * 5 + (((F_draw aN k) / 8) % 5))) (nI (((F_draw aN k) / 64) % 11)))), (6, .int (nI (((F_draw aN k) / 8) % 5))), (5, .int (nI (F_draw aN k))), (0, .ref o), (1, .int (nI aN)), (2, .int (nI bN)), (3, .int (nI cN)), (4, .int (nI k))]) X dX4_weeks_97 (by decide) rfl ?_
                refine x_aloadn X dX4_weeks_99 3 rfl ?_
                refine x_get X wu_X4 0 rfl rfl 2 (by decide) wf_X4_23 rfl rfl dX4_weeks_100 ?_
                refine x_iload X dX4_weeks_103 7 rfl ?_
                refine x_aloadn X dX4_weeks_105 3 rfl ?_
                refine x_get X wu_X4 0 rfl rfl 2 (by decide) wf_X4_23 rfl rfl dX4_weeks_106 ?_
                refine x_callVrv (As := []) (rest := [.int (nI k), .ref (d 0)]) X (c_X0_papers l G d s.1 s.2.1 s.2.2.1 s.2.2.2.1 s.2.2.2.2.1 y) xE0_ok (fun _ _ _ => trivial) [6, 7, 8, 9, 10] rfl 0 rfl rfl rfl rfl wco_X0_papers wi_X0 xd_X0_papers wl_X4_198 win_X0_papers wse_X0_papers (by decide) (Nat.le_of_ble_eq_true rfl) dX4_weeks_109 ?_
                refine x_callSrv (As := [.int (nI k), .int (nI s.2.1)]) (rest := [.ref (d 0)]) X (c_X4_remainder l G k s.2.1 (by omega) (by omega) (by omega)) xE0_ok (fun _ _ _ => trivial) [] rfl rfl rfl wco_X4_remainder wi_X4 xd_X4_remainder wl_X4_151 wst_X4_remainder (by decide) (Nat.le_of_ble_eq_true rfl) dX4_weeks_112 ?_
                refine x_iload X dX4_weeks_115 1 rfl ?_
                refine x_iload X dX4_weeks_117 0 rfl ?_
                refine x_callVf0 (As := [.int (nI (k % s.2.1)), .int (nI (((F_draw aN k) / 8) % 5)), .int (F_ink (s.2.2.1 ((F_draw aN k) % s.1)) (s.2.2.2.2.1 (tn (s.2.2.2.1 ((F_draw aN k) % s.1)) * 5 + (((F_draw aN k) / 8) % 5))) (s.2.2.2.2.1 (((F_draw aN k) % s.1) * 5 + (((F_draw aN k) / 8) % 5))) (nI (((F_draw aN k) / 64) % 11)))]) (rest := []) (w1 := wCh G d s.1 s.2.1 s.2.2.1 s.2.2.2.1 s.2.2.2.2.1 (upd y ((k % s.2.1) * 5 + (((F_draw aN k) / 8) % 5)) (F_ink (s.2.2.1 ((F_draw aN k) % s.1)) (s.2.2.2.2.1 (tn (s.2.2.2.1 ((F_draw aN k) % s.1)) * 5 + (((F_draw aN k) / 8) % 5))) (s.2.2.2.2.1 (((F_draw aN k) % s.1) * 5 + (((F_draw aN k) / 8) % 5))) (nI (((F_draw aN k) / 64) % 11))))) (ws' := xJ [wInk G o x w d h g q e, wCq G w s, wCh G d s.1 s.2.1 s.2.2.1 s.2.2.2.1 s.2.2.2.2.1 (upd y ((k % s.2.1) * 5 + (((F_draw aN k) / 8) % 5)) (F_ink (s.2.2.1 ((F_draw aN k) % s.1)) (s.2.2.2.2.1 (tn (s.2.2.2.1 ((F_draw aN k) % s.1)) * 5 + (((F_draw aN k) / 8) % 5))) (s.2.2.2.2.1 (((F_draw aN k) % s.1) * 5 + (((F_draw aN k) / 8) % 5))) (nI (((F_draw aN k) / 64) % 11))))]) X (c_X0_putLine l G d s.1 s.2.1 s.2.2.1 s.2.2.2.1 s.2.2.2.2.1 y (k % s.2.1) (((F_draw aN k) / 8) % 5) (F_ink (s.2.2.1 ((F_draw aN k) % s.1)) (s.2.2.2.2.1 (tn (s.2.2.2.1 ((F_draw aN k) % s.1)) * 5 + (((F_draw aN k) / 8) % 5))) (s.2.2.2.2.1 (((F_draw aN k) % s.1) * 5 + (((F_draw aN k) / 8) % 5))) (nI (((F_draw aN k) / 64) % 11))) (by omega) (by omega)) xE0_ok (fun _ _ _ => trivial) [6, 7, 8, 9, 10] rfl 0 rfl rfl rfl rfl wco_X0_putLine wi_X0 xd_X0_putLine wl_X4_125 win_X0_putLine wse_X0_putLine (by decide) (Nat.le_of_ble_eq_true rfl) dX4_weeks_119 rfl (Eq.trans (b := [d 0, d 1, d 2, d 3, d 4]) rfl rfl) rfl ?_
                refine x_iinc (v := nI (k + 1)) (lv' := [(4, .int (nI (k + 1))), (7, .int (F_ink (s.2.2.1 ((F_draw aN k) % s.1)) (s.2.2.2.2.1 (tn (s.2.2.2.1 ((F_draw aN k) % s.1)) * 5 + (((F_draw aN k) / 8) % 5))) (s.2.2.2.2.1 (((F_draw aN k) % s.1) * 5 + (((F_draw aN k) / 8) % 5))) (nI (((F_draw aN k) / 64) % 11)))), (6, .int (nI (((F_draw aN k) / 8) % 5))), (5, .int (nI (F_draw aN k))), (0, .ref o), (1, .int (nI aN)), (2, .int (nI bN)), (3, .int (nI cN))]) X dX4_weeks_122 7 rfl (nI_1 _) (by decide) rfl ?_
                refine x_goto 45 X dX4_weeks_125 (by decide) ?_
                refine x_lv (lv' := [(0, .ref o), (1, .int (nI aN)), (2, .int (nI bN)), (3, .int (nI cN)), (4, .int (nI (k + 1)))]) X [4, 5, 6, 7, 0] rfl ?_
                exact ih_L45 (k + 1) (upd y ((k % s.2.1) * 5 + (((F_draw aN k) / 8) % 5)) (F_ink (s.2.2.1 ((F_draw aN k) % s.1)) (s.2.2.2.2.1 (tn (s.2.2.2.1 ((F_draw aN k) % s.1)) * 5 + (((F_draw aN k) / 8) % 5))) (s.2.2.2.2.1 (((F_draw aN k) % s.1) * 5 + (((F_draw aN k) / 8) % 5))) (nI (((F_draw aN k) / 64) % 11)))) (by omega) (by omega) (by rw [hy]; rfl)
          refine x_lv (lv' := [(0, .ref o), (1, .int (nI aN)), (2, .int (nI bN)), (3, .int (nI cN)), (4, .int (nI 0))]) X [1, 2, 3, 4, 0] rfl ?_
          exact L45 _ 0 s.2.2.2.2.2 (Nat.lt_succ_self _) (by omega) (rfl)
        · -- 26 f
          refine x_iconst (v := (-1)) X dX4_weeks_29 (by decide) ?_
          exact x_ret X dX4_weeks_30 ⟨ret_i (by simp [F_weeks, F_wOk2, tn, c_1, qaN, c_2, c_3, qbN, c_4]), ⟨sd, rfl⟩, by decide, by decide⟩
set_option maxRecDepth 100000 in
set_option maxHeartbeats 4000000 in
/-- X4_drops -/
theorem c_X4_drops (l : Launch) (G : xG) (o : Nat) (x : Nat → Nat) (w : Nat → Nat) (d : Nat → Nat) (h : Nat → Nat) (g : Nat → Nat) (q : Nat → Nat) (e : Nat) (s : xS) (tW : Nat) (a : Int32) (b : Int32) (c : Int32) (u : Int32) (v : Int32) (hs6 : s.1 ≤ 6) (hs1 : 0 < s.1) (hq5 : s.2.1 ≤ 5) (hmi : ∀ j, j < 6 → inR (s.2.2.2.1 j) 6 = true) : xM l G (xEW tW) yX4_drops cX4_drops 12 (some .long) 4 92 0 0 [.ref o, .int a, .int b, .int c, .int u, .int v] (xJ [wInk G o x w d h g q e, wCq G w s]) (some (.long (F_drops s a b c u v))) (fun w2 => w2 = xJ [wInk G o x w d h g q e, wCq G w s]) := by
  refine x_entry (by decide +kernel) (Nat.le_of_ble_eq_true rfl) rfl rfl (fun K X => ?_)
  refine x_aloadn X dX4_drops_0 0 rfl ?_
  refine x_get X wu_X4 0 rfl rfl 1 (by decide) wf_X4_19 rfl rfl dX4_drops_1 ?_
  refine x_iloadn X dX4_drops_4 1 rfl ?_
  refine x_callVrv (As := [.int a]) (rest := []) X (c_X0_hasPerson l G w s.1 s.2.1 s.2.2.1 s.2.2.2.1 s.2.2.2.2.1 s.2.2.2.2.2 a (by omega)) xE0_ok (fun _ _ _ => trivial) [1, 2, 3, 4, 5] rfl 0 rfl rfl rfl rfl wco_X0_hasPerson wi_X0 xd_X0_hasPerson wl_X4_87 win_X0_hasPerson wse_X0_hasPerson (by decide) (Nat.le_of_ble_eq_true rfl) dX4_drops_5 ?_
  refine x_ifeq_b 27 X dX4_drops_8 (by decide) (fun c_1 => ?_) (fun c_1 => ?_)
  · -- 8 t
    refine x_ldc2 (v := (-1)) X wk_X4_183 dX4_drops_27 ?_
    exact x_ret X dX4_drops_30 ⟨ret_l (by simp [F_drops, c_1]), rfl, by decide, by decide⟩
  · -- 8 f
    obtain ⟨aN, haN, rfl⟩ := inR_nat c_1 (by omega)
    have qaN : (nI aN).toNatClampNeg = aN := nI_clamp (by omega)
    refine x_iloadn X dX4_drops_11 2 rfl ?_
    refine x_callSrv (As := [.int b]) (rest := []) X (c_X4_isTheme l G b) xE0_ok (fun _ _ _ => trivial) [] rfl rfl rfl wco_X4_isTheme wi_X4 xd_X4_isTheme wl_X4_102 wst_X4_isTheme (by decide) (Nat.le_of_ble_eq_true rfl) dX4_drops_12 ?_
    refine x_ifeq_b 27 X dX4_drops_15 (by decide) (fun c_2 => ?_) (fun c_2 => ?_)
    · -- 15 t
      refine x_ldc2 (v := (-1)) X wk_X4_183 dX4_drops_27 ?_
      exact x_ret X dX4_drops_30 ⟨ret_l (by simp [F_drops, c_1, qaN, c_2]), rfl, by decide, by decide⟩
    · -- 15 f
      obtain ⟨bN, hbN, rfl⟩ := inR_nat c_2 (by omega)
      have qbN : (nI bN).toNatClampNeg = bN := nI_clamp (by omega)
      refine x_iloadn X dX4_drops_18 3 rfl ?_
      refine x_bipush (v := nI 18) X dX4_drops_19 (by decide) ?_
      refine x_callSrv (As := [.int c, .int (nI 18)]) (rest := []) X (c_X4_isUpTo l G c 18 (by omega)) xE0_ok (fun _ _ _ => trivial) [] rfl rfl rfl wco_X4_isUpTo wi_X4 xd_X4_isUpTo wl_X4_91 wst_X4_isUpTo (by decide) (Nat.le_of_ble_eq_true rfl) dX4_drops_21 ?_
      refine x_ifne_b 31 X dX4_drops_24 (by decide) (fun c_3 => ?_) (fun c_3 => ?_)
      · -- 24 t
        obtain ⟨cN, hcN, rfl⟩ := inR_nat c_3 (by omega)
        have qcN : (nI cN).toNatClampNeg = cN := nI_clamp (by omega)
        refine x_iload X dX4_drops_31 4 rfl ?_
        refine x_bipush (v := nI 10) X dX4_drops_33 (by decide) ?_
        refine x_callSrv (As := [.int u, .int (nI 10)]) (rest := []) X (c_X4_isUpTo l G u 10 (by omega)) xE0_ok (fun _ _ _ => trivial) [] rfl rfl rfl wco_X4_isUpTo wi_X4 xd_X4_isUpTo wl_X4_91 wst_X4_isUpTo (by decide) (Nat.le_of_ble_eq_true rfl) dX4_drops_35 ?_
        refine x_ifeq_b 50 X dX4_drops_38 (by decide) (fun c_4 => ?_) (fun c_4 => ?_)
        · -- 38 t
          refine x_ldc2 (v := (-1)) X wk_X4_183 dX4_drops_50 ?_
          exact x_ret X dX4_drops_53 ⟨ret_l (by simp [F_drops, c_1, qaN, c_2, qbN, c_3, qcN, c_4]), rfl, by decide, by decide⟩
        · -- 38 f
          obtain ⟨uN, huN, rfl⟩ := inR_nat c_4 (by omega)
          have quN : (nI uN).toNatClampNeg = uN := nI_clamp (by omega)
          refine x_iload X dX4_drops_41 5 rfl ?_
          refine x_iconst (v := nI 1) X dX4_drops_43 (by decide) ?_
          refine x_callSrv (As := [.int v, .int (nI 1)]) (rest := []) X (c_X4_isUpTo l G v 1 (by omega)) xE0_ok (fun _ _ _ => trivial) [] rfl rfl rfl wco_X4_isUpTo wi_X4 xd_X4_isUpTo wl_X4_91 wst_X4_isUpTo (by decide) (Nat.le_of_ble_eq_true rfl) dX4_drops_44 ?_
          refine x_ifne_b 54 X dX4_drops_47 (by decide) (fun c_5 => ?_) (fun c_5 => ?_)
          · -- 47 t
            obtain ⟨vN, hvN, rfl⟩ := inR_nat c_5 (by omega)
            have qvN : (nI vN).toNatClampNeg = vN := nI_clamp (by omega)
            refine x_lconst (v := lN 0) X dX4_drops_54 (by decide) ?_
            refine x_lstore (lv' := [(6, .long (lN 0)), (0, .ref o), (1, .int (nI aN)), (2, .int (nI bN)), (3, .int (nI cN)), (4, .int (nI uN)), (5, .int (nI vN))]) X dX4_drops_55 (by decide) rfl ?_
            refine x_iconst (v := nI 0) X dX4_drops_57 (by decide) ?_
            refine x_istore (lv' := [(8, .int (nI 0)), (6, .long (lN 0)), (0, .ref o), (1, .int (nI aN)), (2, .int (nI bN)), (3, .int (nI cN)), (4, .int (nI uN)), (5, .int (nI vN))]) X dX4_drops_58 (by decide) rfl ?_
            have L60 : ∀ (fu : Nat) (i : Nat) (y : Nat), 11 - i < fu → (i ≤ 11) → (y = F_abv s aN bN (nI cN) uN i) → K (xJ [wInk G o x w d h g q e, wCq G w s]) 0 0 60 [(0, .ref o), (1, .int (nI aN)), (2, .int (nI bN)), (3, .int (nI cN)), (4, .int (nI uN)), (5, .int (nI vN)), (6, .long (lN y)), (8, .int (nI i))] [] := by
              intro fu
              induction fu with
              | zero => intro i y hfu; exact absurd hfu (Nat.not_lt_zero _)
              | succ fu ih_L60 =>
                intro i y hfu_L60 hi hy
                refine x_iload X dX4_drops_60 7 rfl ?_
                refine x_bipush (v := nI 10) X dX4_drops_62 (by decide) ?_
                refine x_icmp_gt_n 103 X dX4_drops_64 (by decide) (by omega) (by omega) (fun c_6 => ?_) (fun c_6 => ?_)
                · -- 64 t
                  have e : i = 11 := by omega
                  rw [e] at hy
                  have hyb := F_abv_le s aN bN (nI cN) uN (by omega) 11
                  rw [← hy] at hyb
                  have hy63 := abv_63 hyb
                  refine x_iload X dX4_drops_103 5 rfl ?_
                  refine x_if_ne_n 113 X dX4_drops_105 (by decide) (by omega) (fun c_7 => ?_) (fun c_7 => ?_)
                  · -- 105 t
                    refine x_ldc2 (v := lN 10000000000) X wk_X4_189 dX4_drops_113 ?_
                    refine x_lstore (lv' := [(8, .long (lN 10000000000)), (0, .ref o), (1, .int (nI aN)), (2, .int (nI bN)), (3, .int (nI cN)), (4, .int (nI uN)), (5, .int (nI vN)), (6, .long (lN y))]) X dX4_drops_116 (by decide) rfl ?_
                    refine x_lload X dX4_drops_118 7 rfl ?_
                    refine x_ldc2 (v := lN 10000000000) X wk_X4_189 dX4_drops_120 ?_
                    refine x_callSrv (As := [.long (lN y), .long (lN 10000000000)]) (rest := []) X (c_X4_greatestDivisor l G y 10000000000 (by omega) (by omega)) xE0_ok (fun _ _ _ => trivial) [] rfl rfl rfl wco_X4_greatestDivisor wi_X4 xd_X4_greatestDivisor wl_X4_191 wst_X4_greatestDivisor (by decide) (Nat.le_of_ble_eq_true rfl) dX4_drops_123 ?_
                    obtain ⟨gd, egd⟩ : ∃ gd, gd = euc 100 10000000000 y := ⟨_, rfl⟩
                    rw [← egd]
                    have hg0 : 0 < gd := by rw [egd]; exact euc_pos _ _ _ (by decide)
                    have hg63 : gd < 2 ^ 63 := by rw [egd]; exact euc_lt _ _ _ _ (by decide) hy63
                    refine x_lstore (lv' := [(10, .long (lN gd)), (8, .long (lN 10000000000)), (0, .ref o), (1, .int (nI aN)), (2, .int (nI bN)), (3, .int (nI cN)), (4, .int (nI uN)), (5, .int (nI vN)), (6, .long (lN y))]) X dX4_drops_126 (by decide) rfl ?_
                    refine x_lload X dX4_drops_128 0 rfl ?_
                    refine x_lconst (v := lN 0) X dX4_drops_130 (by decide) ?_
                    refine x_lcmp X dX4_drops_131 ?_
                    refine x_if_le 143 X dX4_drops_132 (by decide) (fun c_8 => ?_) (fun c_8 => ?_)
                    · -- 132 t
                      exact absurd ((pk_lLE hg63 (by decide)).mp ((lg_cmp_le _ _).mp c_8)) (by omega)
                    · -- 132 f
                      replace c_8 := Int32.not_le.mp c_8
                      refine x_lload X dX4_drops_135 1 rfl ?_
                      refine x_lload X dX4_drops_137 0 rfl ?_
                      refine x_ldiv (v := lN (10000000000 / gd)) X dX4_drops_139 (fun q => absurd ((pk_lEQ (b := 0) hg63 (by decide)).mp q) (by omega)) (pk_lDiv (by decide) hg0 hg63) ?_
                      refine x_goto 145 X dX4_drops_140 (by decide) ?_
                      exact x_ret X dX4_drops_145 ⟨ret_l (by rw [show F_drops s (nI aN) (nI bN) (nI cN) (nI uN) (nI vN) = lN (10000000000 / euc 100 10000000000 (F_abv s aN bN (nI cN) uN 11)) from by simp [F_drops, tn, c_1, qaN, c_2, qbN, c_3, qcN, c_4, quN, c_5, qvN, hi, c_6, c_7, c_8], ← hy, ← egd]), rfl, by decide, by decide⟩
                  · -- 105 f
                    refine x_lload X dX4_drops_108 6 rfl ?_
                    refine x_goto 116 X dX4_drops_110 (by decide) ?_
                    refine x_lstore (lv' := [(8, .long (lN y)), (0, .ref o), (1, .int (nI aN)), (2, .int (nI bN)), (3, .int (nI cN)), (4, .int (nI uN)), (5, .int (nI vN)), (6, .long (lN y))]) X dX4_drops_116 (by decide) rfl ?_
                    refine x_lload X dX4_drops_118 7 rfl ?_
                    refine x_ldc2 (v := lN 10000000000) X wk_X4_189 dX4_drops_120 ?_
                    refine x_callSrv (As := [.long (lN y), .long (lN 10000000000)]) (rest := []) X (c_X4_greatestDivisor l G y 10000000000 (by omega) (by omega)) xE0_ok (fun _ _ _ => trivial) [] rfl rfl rfl wco_X4_greatestDivisor wi_X4 xd_X4_greatestDivisor wl_X4_191 wst_X4_greatestDivisor (by decide) (Nat.le_of_ble_eq_true rfl) dX4_drops_123 ?_
                    obtain ⟨gd, egd⟩ : ∃ gd, gd = euc 100 10000000000 y := ⟨_, rfl⟩
                    rw [← egd]
                    have hg0 : 0 < gd := by rw [egd]; exact euc_pos _ _ _ (by decide)
                    have hg63 : gd < 2 ^ 63 := by rw [egd]; exact euc_lt _ _ _ _ (by decide) hy63
                    refine x_lstore (lv' := [(10, .long (lN gd)), (8, .long (lN y)), (0, .ref o), (1, .int (nI aN)), (2, .int (nI bN)), (3, .int (nI cN)), (4, .int (nI uN)), (5, .int (nI vN)), (6, .long (lN y))]) X dX4_drops_126 (by decide) rfl ?_
                    refine x_lload X dX4_drops_128 0 rfl ?_
                    refine x_lconst (v := lN 0) X dX4_drops_130 (by decide) ?_
                    refine x_lcmp X dX4_drops_131 ?_
                    refine x_if_le 143 X dX4_drops_132 (by decide) (fun c_9 => ?_) (fun c_9 => ?_)
                    · -- 132 t
                      exact absurd ((pk_lLE hg63 (by decide)).mp ((lg_cmp_le _ _).mp c_9)) (by omega)
                    · -- 132 f
                      replace c_9 := Int32.not_le.mp c_9
                      refine x_lload X dX4_drops_135 1 rfl ?_
                      refine x_lload X dX4_drops_137 0 rfl ?_
                      refine x_ldiv (v := lN (y / gd)) X dX4_drops_139 (fun q => absurd ((pk_lEQ (b := 0) hg63 (by decide)).mp q) (by omega)) (pk_lDiv hy63 hg0 hg63) ?_
                      refine x_goto 145 X dX4_drops_140 (by decide) ?_
                      exact x_ret X dX4_drops_145 ⟨ret_l (by rw [show F_drops s (nI aN) (nI bN) (nI cN) (nI uN) (nI vN) = lN (F_abv s aN bN (nI cN) uN 11 / euc 100 10000000000 (F_abv s aN bN (nI cN) uN 11)) from by simp [F_drops, tn, c_1, qaN, c_2, qbN, c_3, qcN, c_4, quN, c_5, qvN, hi, c_6, (eq_true c_7), c_9], ← hy, ← egd]), rfl, by decide, by decide⟩
                · -- 64 f
                  have n_6 := Nat.not_lt.mpr c_6
                  refine x_aloadn X dX4_drops_67 0 rfl ?_
                  refine x_get X wu_X4 0 rfl rfl 1 (by decide) wf_X4_19 rfl rfl dX4_drops_68 ?_
                  refine x_iloadn X dX4_drops_71 1 rfl ?_
                  refine x_iloadn X dX4_drops_72 2 rfl ?_
                  refine x_iload X dX4_drops_73 7 rfl ?_
                  refine x_callVrv (As := [.int (nI aN), .int (nI bN), .int (nI i)]) (rest := []) X (c_X0_written l G w s.1 s.2.1 s.2.2.1 s.2.2.2.1 s.2.2.2.2.1 s.2.2.2.2.2 aN bN (nI i) (by omega) (by omega) (by assumption)) xE0_ok (fun _ _ _ => trivial) [1, 2, 3, 4, 5] rfl 0 rfl rfl rfl rfl wco_X0_written wi_X0 xd_X0_written wl_X4_118 win_X0_written wse_X0_written (by decide) (Nat.le_of_ble_eq_true rfl) dX4_drops_75 ?_
                  refine x_iloadn X dX4_drops_78 3 rfl ?_
                  refine x_bipush (v := nI 9) X dX4_drops_79 (by decide) ?_
                  refine x_isub (v := (nI cN) - (nI 9)) X dX4_drops_81 rfl ?_
                  refine x_icmp_ne 97 X dX4_drops_82 (by decide) (fun c_10 => ?_) (fun c_10 => ?_)
                  · -- 82 t
                    refine x_iinc (v := nI (i + 1)) (lv' := [(8, .int (nI (i + 1))), (0, .ref o), (1, .int (nI aN)), (2, .int (nI bN)), (3, .int (nI cN)), (4, .int (nI uN)), (5, .int (nI vN)), (6, .long (lN y))]) X dX4_drops_97 7 rfl (nI_1 _) (by decide) rfl ?_
                    refine x_goto 60 X dX4_drops_100 (by decide) ?_
                    refine x_lv (lv' := [(0, .ref o), (1, .int (nI aN)), (2, .int (nI bN)), (3, .int (nI cN)), (4, .int (nI uN)), (5, .int (nI vN)), (6, .long (lN y)), (8, .int (nI (i + 1)))]) X [1, 2, 3, 4, 5, 6, 7, 0] rfl ?_
                    exact ih_L60 (i + 1) y (by omega) (by omega) (by rw [hy]; exact (if_neg c_10).symm)
                  · -- 82 f
                    refine x_lload X dX4_drops_85 6 rfl ?_
                    refine x_iload X dX4_drops_87 7 rfl ?_
                    refine x_iload X dX4_drops_89 4 rfl ?_
                    refine x_callSrv (As := [.int (nI i), .int (nI uN)]) (rest := [.long (lN y)]) X (c_X4_waysOfTears l G tW i uN (by omega) (by omega)) (xEW_ok tW) (fun _ _ h => h) [] rfl rfl rfl wco_X4_waysOfTears wi_X4 xd_X4_waysOfTears wl_X4_185 wst_X4_waysOfTears (by decide) (Nat.le_of_ble_eq_true rfl) dX4_drops_91 ?_
                    refine x_ladd (v := lN (y + (F_wayN i uN 10))) X dX4_drops_94 (lN_add _ _) ?_
                    refine x_lstore (lv' := [(6, .long (lN (y + (F_wayN i uN 10)))), (0, .ref o), (1, .int (nI aN)), (2, .int (nI bN)), (3, .int (nI cN)), (4, .int (nI uN)), (5, .int (nI vN)), (8, .int (nI i))]) X dX4_drops_95 (by decide) rfl ?_
                    refine x_iinc (v := nI (i + 1)) (lv' := [(8, .int (nI (i + 1))), (6, .long (lN (y + (F_wayN i uN 10)))), (0, .ref o), (1, .int (nI aN)), (2, .int (nI bN)), (3, .int (nI cN)), (4, .int (nI uN)), (5, .int (nI vN))]) X dX4_drops_97 7 rfl (nI_1 _) (by decide) rfl ?_
                    refine x_goto 60 X dX4_drops_100 (by decide) ?_
                    refine x_lv (lv' := [(0, .ref o), (1, .int (nI aN)), (2, .int (nI bN)), (3, .int (nI cN)), (4, .int (nI uN)), (5, .int (nI vN)), (6, .long (lN (y + (F_wayN i uN 10)))), (8, .int (nI (i + 1)))]) X [2, 3, 4, 5, 6, 7, 1, 0] rfl ?_
                    exact ih_L60 (i + 1) (y + (F_wayN i uN 10)) (by omega) (by omega) (by rw [hy]; exact (if_pos c_10).symm)
            refine x_lv (lv' := [(0, .ref o), (1, .int (nI aN)), (2, .int (nI bN)), (3, .int (nI cN)), (4, .int (nI uN)), (5, .int (nI vN)), (6, .long (lN 0)), (8, .int (nI 0))]) X [2, 3, 4, 5, 6, 7, 1, 0] rfl ?_
            exact L60 _ 0 0 (Nat.lt_succ_self _) (by omega) (rfl)
          · -- 47 f
            refine x_ldc2 (v := (-1)) X wk_X4_183 dX4_drops_50 ?_
            exact x_ret X dX4_drops_53 ⟨ret_l (by simp [F_drops, c_1, qaN, c_2, qbN, c_3, qcN, c_4, quN, c_5]), rfl, by decide, by decide⟩
      · -- 24 f
        refine x_ldc2 (v := (-1)) X wk_X4_183 dX4_drops_27 ?_
        exact x_ret X dX4_drops_30 ⟨ret_l (by simp [F_drops, c_1, qaN, c_2, qbN, c_3]), rfl, by decide, by decide⟩
