/-! ===== the reference: again ===== -/
/-- the state behind r rounds and p COPIES -/
def gS (s : xS) (a r p : Nat) : xS := (s.1, s.2.1, s.2.2.1, s.2.2.2.1, s.2.2.2.2.1, goR s.2.2.1 s.2.2.2.1 s.2.2.2.2.1 (F_gon s a r) a p)
theorem gS_0 (s : xS) (a : Nat) : s = gS s a 0 0 := rfl
theorem gS_p (s : xS) (a r p : Nat) : cpS (gS s a r p) p a a 5 = gS s a r (p + 1) := rfl
theorem gS_r (s : xS) (a r : Nat) : gS s a r s.1 = gS s a (r + 1) 0 := rfl
theorem gS_bl {s : xS} {a : Nat} (hs : s.1 ≤ 6) (ha : a < 5) (hm : ∀ j, j < 6 → inR (s.2.2.2.1 j) 6 = true) (hv : ∀ j, j < 30 → bd (s.2.2.2.2.1 j)) (hl : ∀ j, j < 25 → bl (s.2.2.2.2.2 j)) : ∀ r p, p ≤ s.1 → ∀ j, j < 25 → bl ((gS s a r p).2.2.2.2.2 j)
  | 0, 0, _ => hl
  | r + 1, 0, _ => gS_bl hs ha hm hv hl r s.1 (Nat.le_refl _)
  | r, p + 1, hp => by
    rw [← gS_p]
    exact cpS_bl (s := gS s a r p) hm hv (gS_bl hs ha hm hv hl r p (by omega)) (by omega) ha
  termination_by r p => (r, p)
/-- a LINE as a figure of the code -/
def dgN (x : Int32) : Nat := if x = nI 100 then 19 else tn (x + nI 9)
theorem dgN_bd {x : Int32} (hx : bd x) : dgN x < 19 ∧ x + nI 9 = nI (dgN x) ∧ enc x = nI (dgN x + 1) := bd_all (P := fun x => dgN x < 19 ∧ x + nI 9 = nI (dgN x) ∧ enc x = nI (dgN x + 1)) (by decide +kernel) hx
theorem dgN_lt {x : Int32} (hx : bl x) : dgN x < 20 := by
  rcases hx with rfl | hx
  · decide
  · have := (dgN_bd hx).1; omega
theorem dgN_dg {x : Int32} (hx : bl x) : (if x = nI 100 then nI 19 else x + nI 9) = nI (dgN x) := by
  rcases hx with rfl | hx
  · decide
  · rw [if_neg (bd_n100 hx)]; exact (dgN_bd hx).2.1
theorem dgN_enc {x y : Int32} (hx : bl x) (hy : bl y) : enc x = enc y ↔ dgN x = dgN y := by
  rcases hx with rfl | hx <;> rcases hy with rfl | hy
  · exact ⟨fun _ => rfl, fun _ => rfl⟩
  · have h := dgN_bd hy
    rw [h.2.2, show enc (nI 100) = nI 0 from by decide, nI_eq (by omega) (by omega), show dgN (nI 100) = 19 from by decide]
    omega
  · have h := dgN_bd hx
    rw [h.2.2, show enc (nI 100) = nI 0 from by decide, nI_eq (by omega) (by omega), show dgN (nI 100) = 19 from by decide]
    omega
  · have h := dgN_bd hx
    have h2 := dgN_bd hy
    rw [h.2.2, h2.2.2, nI_eq (by omega) (by omega)]
    omega
def cdN (li : Nat → Int32) (a : Nat) : Nat → Nat
  | 0 => 0
  | t + 1 => cdN li a t * 20 + dgN (li (a * 5 + t))
theorem cdN_F {li : Nat → Int32} {a : Nat} (ha : a < 5) (hl : ∀ j, j < 25 → bl (li j)) : ∀ t, t ≤ 5 → F_code li a t = nI (cdN li a t)
  | 0, _ => rfl
  | t + 1, h => by rw [F_code, cdN_F ha hl t (by omega), dgN_dg (hl _ (by omega)), cdN, ← nI_add, ← pk_mul]
theorem cdN_lt {li : Nat → Int32} {a : Nat} (ha : a < 5) (hl : ∀ j, j < 25 → bl (li j)) : ∀ t, t ≤ 5 → cdN li a t < 20 ^ t
  | 0, _ => Nat.zero_lt_one
  | t + 1, h => by
    have h1 := cdN_lt ha hl t (by omega)
    have h2 := dgN_lt (hl (a * 5 + t) (by omega))
    rw [cdN, Nat.pow_succ]
    omega
/-- two rows are the same below t -/
def smR (f g : Nat → Int32) (a : Nat) : Nat → Bool
  | 0 => true
  | t + 1 => smR f g a t && decide (enc (f (a * 5 + t)) = enc (g (a * 5 + t)))
theorem smR_cd {f g : Nat → Int32} {a : Nat} (ha : a < 5) (hf : ∀ j, j < 25 → bl (f j)) (hg : ∀ j, j < 25 → bl (g j)) : ∀ t, t ≤ 5 → (smR f g a t = true ↔ cdN f a t = cdN g a t)
  | 0, _ => ⟨fun _ => rfl, fun _ => rfl⟩
  | t + 1, h => by
    have h1 := dgN_lt (hf (a * 5 + t) (by omega))
    have h2 := dgN_lt (hg (a * 5 + t) (by omega))
    rw [smR, Bool.and_eq_true, smR_cd ha hf hg t (by omega), decide_eq_true_iff, dgN_enc (hf _ (by omega)) (hg _ (by omega)), cdN, cdN]
    omega
theorem smR_co {f g : Nat → Int32} {a : Nat} (ha : a < 5) (hf : ∀ j, j < 25 → bl (f j)) (hg : ∀ j, j < 25 → bl (g j)) : smR f g a 5 = true ↔ F_code g a 5 = F_code f a 5 := by
  rw [smR_cd ha hf hg 5 (by decide), cdN_F ha hf 5 (by decide), cdN_F ha hg 5 (by decide), nI_eq (Nat.lt_trans (cdN_lt ha hg 5 (by decide)) (by decide)) (Nat.lt_trans (cdN_lt ha hf 5 (by decide)) (by decide))]
  exact eq_comm
theorem smR_cod {s : xS} {a r q : Nat} (ha : a < 5) (hf : ∀ j, j < 25 → bl (F_gon s a r j)) (hg : ∀ j, j < 25 → bl (F_gon s a q j)) : smR (F_gon s a r) (F_gon s a q) a 5 = true ↔ F_cod s a q = F_cod s a r := smR_co ha hf hg
theorem agn_y {s : xS} {a w k r q : Nat} (h : F_fs (F_cod s a) (F_cod s a r) r r 0 = q) (hq : q < r) : F_agn s a w (k + 1) r = if w = 0 then nI r else nI q := by
  rw [F_agn, h, if_pos hq]
theorem agn_n {s : xS} {a w k r : Nat} (h : F_fs (F_cod s a) (F_cod s a r) r r 0 = r) : F_agn s a w (k + 1) r = F_agn s a w k (r + 1) := by
  rw [F_agn, h, if_neg (Nat.lt_irrefl r)]
theorem fs_y {f : Nat → Int32} {x : Int32} {n k i : Nat} (h : f i = x) (hk : 0 < k) : F_fs f x n k i = i := by
  obtain ⟨k, rfl⟩ : ∃ j, k = j + 1 := ⟨k - 1, by omega⟩
  rw [F_fs, if_pos h]
theorem fs_s {f : Nat → Int32} {x : Int32} {n i : Nat} (h : ¬ f i = x) (hk : i < n) : F_fs f x n (n - i) i = F_fs f x n (n - (i + 1)) (i + 1) := by
  rw [show n - i = (n - (i + 1)) + 1 by omega, F_fs, if_neg h]
theorem fs_n {f : Nat → Int32} {x : Int32} {n k i : Nat} (h : ¬ f i = x) (hk : 0 < k) : F_fs f x n k i = F_fs f x n (k - 1) (i + 1) := by
  obtain ⟨k, rfl⟩ : ∃ j, k = j + 1 := ⟨k - 1, by omega⟩
  rw [F_fs, if_neg h]; rfl

set_option maxRecDepth 100000 in
set_option maxHeartbeats 4000000 in
/-- X5_again -/
theorem c_X5_again (l : Launch) (G : xG) (a : Nat → Nat) (na : Nat) (nk : Nat) (ns : Nat) (nl : Nat) (pa : Nat) (rp : Nat) (rq : Nat) (kd : Nat → Int32) (W : Nat → Int32) (Kp : Nat → Int32) (sg : Nat → Int32) (le : Nat → Int32) (tl : Nat → Int32) (rk : Nat → Int32) (rd : Nat → Int32) (nw : Nat → Int32) (rw : Nat → Int32) (s : xS) (i : Int32) (j : Int32) (hs6 : s.1 ≤ 6) (hs1 : 0 < s.1) (hq5 : s.2.1 ≤ 5) (hq1 : 0 < s.2.1) (hkd : ∀ p, p < s.1 → kd p = s.2.2.1 p) (hmi : ∀ j, j < 6 → inR (s.2.2.2.1 j) 6 = true) (hbv : ∀ j, j < 30 → bd (s.2.2.2.2.1 j)) (hbl : ∀ j, j < 25 → bl (s.2.2.2.2.2 j)) : xM l G xE0 yX5_again cX5_again 7 (some .int) 3 74 0 0 [.ref (a 0), .int i, .int j] (wMo G a s.1 s.2.1 na nk ns nl pa rp rq kd (en s) W Kp sg le tl rk rd nw rw) (some (.int (F_again s i j))) (fun w2 => ∃ nw' : Nat → Int32, ∃ rw' : Nat → Int32, w2 = wMo G a s.1 s.2.1 na nk ns nl pa rp rq kd (en s) W Kp sg le tl rk rd nw' rw') := by
  refine x_entry (by decide +kernel) (Nat.le_of_ble_eq_true rfl) rfl ⟨_, rfl, rfl⟩ (fun K X => ?_)
  refine x_aloadn X dX5_again_0 0 rfl ?_
  refine x_iloadn X dX5_again_1 1 rfl ?_
  refine x_callVrv (As := [.int i]) (rest := []) X (c_X5_isPaper l G a s.1 s.2.1 na nk ns nl pa rp rq kd (en s) W Kp sg le tl rk rd nw rw i (by omega) (by omega)) xE0_ok (fun _ _ _ => trivial) [0, 1, 2, 3, 4, 5, 6, 7, 8, 9, 10, 11] rfl 0 rfl rfl rfl rfl wco_X5_isPaper wi_X5 xd_X5_isPaper wl_X5_137 win_X5_isPaper wse_X5_isPaper (by decide) (Nat.le_of_ble_eq_true rfl) dX5_again_2 ?_
  refine x_ifeq_b 17 X dX5_again_5 (by decide) (fun c_1 => ?_) (fun c_1 => ?_)
  · -- 5 t
    refine x_iconst (v := (-1)) X dX5_again_17 (by decide) ?_
    exact x_ret X dX5_again_18 ⟨ret_i (by simp [F_again, tn, c_1]), ⟨nw, rw, rfl⟩, by decide, by decide⟩
  · -- 5 f
    obtain ⟨iN, hiN, rfl⟩ := inR_nat c_1 (by omega)
    have qiN : (nI iN).toNatClampNeg = iN := nI_clamp (by omega)
    refine x_iloadn X dX5_again_8 2 rfl ?_
    refine x_iconst (v := nI 0) X dX5_again_9 (by decide) ?_
    refine x_iconst (v := nI 1) X dX5_again_10 (by decide) ?_
    refine x_callSrv (As := [.int j, .int (nI 0), .int (nI 1)]) (rest := []) X (c_X5_in__R l G j 1 (by omega)) xE0_ok (fun _ _ _ => trivial) [] rfl rfl rfl wco_X5_in wi_X5 xd_X5_in wl_X5_63 wst_X5_in (by decide) (Nat.le_of_ble_eq_true rfl) dX5_again_11 ?_
    refine x_ifne_b 19 X dX5_again_14 (by decide) (fun c_2 => ?_) (fun c_2 => ?_)
    · -- 14 t
      obtain ⟨jN, hjN, rfl⟩ := inR_nat c_2 (by omega)
      have qjN : (nI jN).toNatClampNeg = jN := nI_clamp (by omega)
      refine x_aloadn X dX5_again_19 0 rfl ?_
      refine x_callVf0 (As := []) (rest := []) (w1 := wMo G a s.1 s.2.1 na nk ns nl pa rp rq kd (en s) W Kp sg le tl rk rd (en s) rw) (ws' := wMo G a s.1 s.2.1 na nk ns nl pa rp rq kd (en s) W Kp sg le tl rk rd (en s) rw) X (c_X5_asItIs l G a s.1 s.2.1 na nk ns nl pa rp rq kd (en s) W Kp sg le tl rk rd nw rw) xE0_ok (fun _ _ _ => trivial) [0, 1, 2, 3, 4, 5, 6, 7, 8, 9, 10, 11] rfl 0 rfl rfl rfl rfl wco_X5_asItIs wi_X5 xd_X5_asItIs wl_X5_143 win_X5_asItIs wse_X5_asItIs (by decide) (Nat.le_of_ble_eq_true rfl) dX5_again_20 rfl (Eq.trans (b := [a 0, a 1, a 2, a 3, a 4, a 5, a 6, a 7, a 8, a 9, a 10, a 11]) rfl rfl) rfl ?_
      refine x_iconst (v := nI 0) X dX5_again_23 (by decide) ?_
      refine x_istoren (lv' := [(3, .int (nI 0)), (0, .ref (a 0)), (1, .int (nI iN)), (2, .int (nI jN))]) X dX5_again_24 (by decide) rfl ?_
      have L25 : ∀ (fu : Nat) (r : Nat) (V : Nat → Int32) (g : xS), 41 - r < fu → (r ≤ 41) → (g = gS s iN r 0) → (∀ q, q < r → ∀ t, t < 5 → V (5 * q + t) = enc (F_gon s iN q (iN * 5 + t))) → K (wMo G a s.1 s.2.1 na nk ns nl pa rp rq kd (en s) W Kp sg le tl rk rd (en g) V) 0 0 25 [(0, .ref (a 0)), (1, .int (nI iN)), (2, .int (nI jN)), (3, .int (nI r))] [] := by
        intro fu
        induction fu with
        | zero => intro r V g hfu; exact absurd hfu (Nat.not_lt_zero _)
        | succ fu ih_L25 =>
          intro r V g hfu_L25 hr hg hV
          refine x_iloadn X dX5_again_25 3 rfl ?_
          refine x_bipush (v := nI 40) X dX5_again_26 (by decide) ?_
          refine x_icmp_gt_n 103 X dX5_again_28 (by decide) (by omega) (by omega) (fun c_3 => ?_) (fun c_3 => ?_)
          · -- 28 t
            have er : r = 41 := by omega
            rw [er] at hV
            refine x_iconst (v := nI 1) X dX5_again_103 (by decide) ?_
            refine x_istoren (lv' := [(3, .int (nI 1)), (0, .ref (a 0)), (1, .int (nI iN)), (2, .int (nI jN))]) X dX5_again_104 (by decide) rfl ?_
            have L105_1 : ∀ (fu : Nat) (r : Nat), 41 - r < fu → (1 ≤ r ∧ r ≤ 41) → (F_agn s iN jN (41 - r) r = F_agn s iN jN 40 1) → K (wMo G a s.1 s.2.1 na nk ns nl pa rp rq kd (en s) W Kp sg le tl rk rd (en g) V) 0 0 105 [(0, .ref (a 0)), (1, .int (nI iN)), (2, .int (nI jN)), (3, .int (nI r))] [] := by
              intro fu
              induction fu with
              | zero => intro r hfu; exact absurd hfu (Nat.not_lt_zero _)
              | succ fu ih_L105_1 =>
                intro r hfu_L105_1 hr1 hF
                refine x_iloadn X dX5_again_105 3 rfl ?_
                refine x_bipush (v := nI 40) X dX5_again_106 (by decide) ?_
                refine x_icmp_gt_n 204 X dX5_again_108 (by decide) (by omega) (by omega) (fun c_4 => ?_) (fun c_4 => ?_)
                · -- 108 t
                  refine x_bipush (v := (-4)) X dX5_again_204 (by decide) ?_
                  exact x_ret X dX5_again_206 ⟨ret_i (by rw [show F_again s (nI iN) (nI jN) = F_agn s iN jN 40 1 from by simp [F_again, tn, c_1, qiN, c_2, qjN, c_3, c_4], ← hF, show 41 - r = 0 by omega]; rfl), ⟨(en g), V, rfl⟩, by decide, by decide⟩
                · -- 108 f
                  have n_4 := Nat.not_lt.mpr c_4
                  refine x_iconst (v := nI 0) X dX5_again_111 (by decide) ?_
                  refine x_istore (lv' := [(4, .int (nI 0)), (0, .ref (a 0)), (1, .int (nI iN)), (2, .int (nI jN)), (3, .int (nI r))]) X dX5_again_112 (by decide) rfl ?_
                  have L114_2 : ∀ (fu : Nat) (q : Nat), r - q < fu → (q ≤ r) → (F_fs (F_cod s iN) (F_cod s iN r) r (r - q) q = F_fs (F_cod s iN) (F_cod s iN r) r r 0) → K (wMo G a s.1 s.2.1 na nk ns nl pa rp rq kd (en s) W Kp sg le tl rk rd (en g) V) 0 0 114 [(0, .ref (a 0)), (1, .int (nI iN)), (2, .int (nI jN)), (3, .int (nI r)), (4, .int (nI q))] [] := by
                    intro fu
                    induction fu with
                    | zero => intro q hfu; exact absurd hfu (Nat.not_lt_zero _)
                    | succ fu ih_L114_2 =>
                      intro q hfu_L114_2 hq hG
                      refine x_iload X dX5_again_114 4 rfl ?_
                      refine x_iloadn X dX5_again_116 3 rfl ?_
                      refine x_icmp_ge_n 198 X dX5_again_117 (by decide) (by omega) (by omega) (fun c_5 => ?_) (fun c_5 => ?_)
                      · -- 117 t
                        have n_5 := Nat.not_lt.mpr c_5
                        refine x_iinc (v := nI (r + 1)) (lv' := [(3, .int (nI (r + 1))), (0, .ref (a 0)), (1, .int (nI iN)), (2, .int (nI jN)), (4, .int (nI q))]) X dX5_again_198 3 rfl (nI_1 _) (by decide) rfl ?_
                        refine x_goto 105 X dX5_again_201 (by decide) ?_
                        refine x_lv (lv' := [(0, .ref (a 0)), (1, .int (nI iN)), (2, .int (nI jN)), (3, .int (nI (r + 1)))]) X [1, 2, 3, 0] rfl ?_
                        exact ih_L105_1 (r + 1) (by omega) (by omega) (by rw [← hF, show 41 - r = (41 - (r + 1)) + 1 by omega, agn_n]; rw [← hG, show q = r by omega, Nat.sub_self, F_fs])
                      · -- 117 f
                        refine x_iconst (v := nI 1) X dX5_again_120 (by decide) ?_
                        refine x_istore (lv' := [(5, .int (nI 1)), (0, .ref (a 0)), (1, .int (nI iN)), (2, .int (nI jN)), (3, .int (nI r)), (4, .int (nI q))]) X dX5_again_121 (by decide) rfl ?_
                        refine x_iconst (v := nI 0) X dX5_again_123 (by decide) ?_
                        refine x_istore (lv' := [(6, .int (nI 0)), (5, .int (nI 1)), (0, .ref (a 0)), (1, .int (nI iN)), (2, .int (nI jN)), (3, .int (nI r)), (4, .int (nI q))]) X dX5_again_124 (by decide) rfl ?_
                        have L126_3 : ∀ (fu : Nat) (t : Nat) (u : Int32), 5 - t < fu → (t ≤ 5) → (u = bI (smR (F_gon s iN r) (F_gon s iN q) iN t)) → K (wMo G a s.1 s.2.1 na nk ns nl pa rp rq kd (en s) W Kp sg le tl rk rd (en g) V) 0 0 126 [(0, .ref (a 0)), (1, .int (nI iN)), (2, .int (nI jN)), (3, .int (nI r)), (4, .int (nI q)), (5, .int u), (6, .int (nI t))] [] := by
                          intro fu
                          induction fu with
                          | zero => intro t u hfu; exact absurd hfu (Nat.not_lt_zero _)
                          | succ fu ih_L126_3 =>
                            intro t u hfu_L126_3 ht5 hu
                            refine x_iload X dX5_again_126 6 rfl ?_
                            refine x_iconst (v := nI 5) X dX5_again_128 (by decide) ?_
                            refine x_icmp_ge_n 176 X dX5_again_129 (by decide) (by omega) (by omega) (fun c_6 => ?_) (fun c_6 => ?_)
                            · -- 129 t
                              have n_6 := Nat.not_lt.mpr c_6
                              have et : t = 5 := by omega
                              rw [et] at hu
                              refine x_iload X dX5_again_176 5 rfl ?_
                              refine x_if_eq 192 X dX5_again_178 (by decide) (fun c_7 => ?_) (fun c_7 => ?_)
                              · -- 178 t
                                have hsm : smR (F_gon s iN r) (F_gon s iN q) iN 5 = false := by cases h7 : smR (F_gon s iN r) (F_gon s iN q) iN 5 <;> rw [h7] at hu <;> simp_all [bI]
                                have hbr : ∀ j, j < 25 → bl (F_gon s iN r j) := gS_bl (a := iN) hs6 (by omega) hmi hbv hbl r 0 (Nat.zero_le _)
                                have hbq : ∀ j, j < 25 → bl (F_gon s iN q j) := gS_bl (a := iN) hs6 (by omega) hmi hbv hbl q 0 (Nat.zero_le _)
                                refine x_iinc (v := nI (q + 1)) (lv' := [(4, .int (nI (q + 1))), (0, .ref (a 0)), (1, .int (nI iN)), (2, .int (nI jN)), (3, .int (nI r)), (5, .int u), (6, .int (nI t))]) X dX5_again_192 4 rfl (nI_1 _) (by decide) rfl ?_
                                refine x_goto 114 X dX5_again_195 (by decide) ?_
                                refine x_lv (lv' := [(0, .ref (a 0)), (1, .int (nI iN)), (2, .int (nI jN)), (3, .int (nI r)), (4, .int (nI (q + 1)))]) X [1, 2, 3, 4, 0] rfl ?_
                                exact ih_L114_2 (q + 1) (by omega) (by omega) (((fs_s (fun e => absurd (hsm.symm.trans ((smR_cod (by omega) hbr hbq).mpr e)) (by decide)) (by omega)).symm.trans hG))
                              · -- 178 f
                                have hsm : smR (F_gon s iN r) (F_gon s iN q) iN 5 = true := by cases h7 : smR (F_gon s iN r) (F_gon s iN q) iN 5 <;> rw [h7] at hu <;> simp_all [bI]
                                have hbr : ∀ j, j < 25 → bl (F_gon s iN r j) := gS_bl (a := iN) hs6 (by omega) hmi hbv hbl r 0 (Nat.zero_le _)
                                have hbq : ∀ j, j < 25 → bl (F_gon s iN q j) := gS_bl (a := iN) hs6 (by omega) hmi hbv hbl q 0 (Nat.zero_le _)
                                refine x_iloadn X dX5_again_181 2 rfl ?_
                                refine x_if_ne_n 189 X dX5_again_182 (by decide) (by omega) (fun c_8 => ?_) (fun c_8 => ?_)
                                · -- 182 t
                                  refine x_iload X dX5_again_189 4 rfl ?_
                                  exact x_ret X dX5_again_191 ⟨ret_i (by have hq2 : q < r := (by omega); have hc5 : F_cod s iN q = F_cod s iN r := (smR_cod (by omega) hbr hbq).mp hsm; rw [fs_y hc5 (by omega)] at hG; rw [show 41 - r = (40 - r) + 1 by omega, agn_y hG.symm hq2] at hF; rw [show F_again s (nI iN) (nI jN) = F_agn s iN jN 40 1 from by simp [F_again, tn, c_1, qiN, c_2, qjN, c_3, c_4, c_5, c_6, c_7, c_8], ← hF, if_neg (by simpa using c_8)]), ⟨(en g), V, rfl⟩, by decide, by decide⟩
                                · -- 182 f
                                  refine x_iloadn X dX5_again_185 3 rfl ?_
                                  refine x_goto 191 X dX5_again_186 (by decide) ?_
                                  exact x_ret X dX5_again_191 ⟨ret_i (by have hq2 : q < r := (by omega); have hc5 : F_cod s iN q = F_cod s iN r := (smR_cod (by omega) hbr hbq).mp hsm; rw [fs_y hc5 (by omega)] at hG; rw [show 41 - r = (40 - r) + 1 by omega, agn_y hG.symm hq2] at hF; rw [show F_again s (nI iN) (nI jN) = F_agn s iN jN 40 1 from by simp [F_again, tn, c_1, qiN, c_2, qjN, c_3, c_4, c_5, c_6, c_7], ← hF, if_pos (by simpa using (eq_true c_8))]), ⟨(en g), V, rfl⟩, by decide, by decide⟩
                            · -- 129 f
                              refine x_iload X dX5_again_132 5 rfl ?_
                              refine x_if_eq 167 X dX5_again_134 (by decide) (fun c_9 => ?_) (fun c_9 => ?_)
                              · -- 134 t
                                refine x_iconst (v := nI 0) X dX5_again_167 (by decide) ?_
                                refine x_istore (lv' := [(5, .int (nI 0)), (0, .ref (a 0)), (1, .int (nI iN)), (2, .int (nI jN)), (3, .int (nI r)), (4, .int (nI q)), (6, .int (nI t))]) X dX5_again_168 (by decide) rfl ?_
                                refine x_iinc (v := nI (t + 1)) (lv' := [(6, .int (nI (t + 1))), (5, .int (nI 0)), (0, .ref (a 0)), (1, .int (nI iN)), (2, .int (nI jN)), (3, .int (nI r)), (4, .int (nI q))]) X dX5_again_170 6 rfl (nI_1 _) (by decide) rfl ?_
                                refine x_goto 126 X dX5_again_173 (by decide) ?_
                                refine x_lv (lv' := [(0, .ref (a 0)), (1, .int (nI iN)), (2, .int (nI jN)), (3, .int (nI r)), (4, .int (nI q)), (5, .int (nI 0)), (6, .int (nI (t + 1)))]) X [2, 3, 4, 5, 6, 1, 0] rfl ?_
                                exact ih_L126_3 (t + 1) (nI 0) (by omega) (by omega) (by have h8 := hu; rw [smR]; cases h7 : smR (F_gon s iN r) (F_gon s iN q) iN t <;> rw [h7] at h8 <;> simp_all [bI] <;> rfl)
                              · -- 134 f
                                refine x_aloadn X dX5_again_137 0 rfl ?_
                                refine x_get X wu_X5 0 rfl rfl 19 (by decide) wf_X5_40 rfl rfl dX5_again_138 ?_
                                refine x_iconst (v := nI 5) X dX5_again_141 (by decide) ?_
                                refine x_iloadn X dX5_again_142 3 rfl ?_
                                refine x_imul (v := nI (5 * r)) X dX5_again_143 (pk_mul _ _) ?_
                                refine x_iload X dX5_again_144 6 rfl ?_
                                refine x_iadd (v := nI (5 * r + t)) X dX5_again_146 (nI_add _ _) ?_
                                refine x_iald_n (v := enc (F_gon s iN r (iN * 5 + t))) X 11 rfl (by omega) (by omega) (hV r (by omega) t (by omega)) dX5_again_147 ?_
                                refine x_aloadn X dX5_again_148 0 rfl ?_
                                refine x_get X wu_X5 0 rfl rfl 19 (by decide) wf_X5_40 rfl rfl dX5_again_149 ?_
                                refine x_iconst (v := nI 5) X dX5_again_152 (by decide) ?_
                                refine x_iload X dX5_again_153 4 rfl ?_
                                refine x_imul (v := nI (5 * q)) X dX5_again_155 (pk_mul _ _) ?_
                                refine x_iload X dX5_again_156 6 rfl ?_
                                refine x_iadd (v := nI (5 * q + t)) X dX5_again_158 (nI_add _ _) ?_
                                refine x_iald_n (v := enc (F_gon s iN q (iN * 5 + t))) X 11 rfl (by omega) (by omega) (hV q (by omega) t (by omega)) dX5_again_159 ?_
                                refine x_icmp_ne 167 X dX5_again_160 (by decide) (fun c_10 => ?_) (fun c_10 => ?_)
                                · -- 160 t
                                  refine x_iconst (v := nI 0) X dX5_again_167 (by decide) ?_
                                  refine x_istore (lv' := [(5, .int (nI 0)), (0, .ref (a 0)), (1, .int (nI iN)), (2, .int (nI jN)), (3, .int (nI r)), (4, .int (nI q)), (6, .int (nI t))]) X dX5_again_168 (by decide) rfl ?_
                                  refine x_iinc (v := nI (t + 1)) (lv' := [(6, .int (nI (t + 1))), (5, .int (nI 0)), (0, .ref (a 0)), (1, .int (nI iN)), (2, .int (nI jN)), (3, .int (nI r)), (4, .int (nI q))]) X dX5_again_170 6 rfl (nI_1 _) (by decide) rfl ?_
                                  refine x_goto 126 X dX5_again_173 (by decide) ?_
                                  refine x_lv (lv' := [(0, .ref (a 0)), (1, .int (nI iN)), (2, .int (nI jN)), (3, .int (nI r)), (4, .int (nI q)), (5, .int (nI 0)), (6, .int (nI (t + 1)))]) X [2, 3, 4, 5, 6, 1, 0] rfl ?_
                                  exact ih_L126_3 (t + 1) (nI 0) (by omega) (by omega) (by have h8 := hu; rw [smR]; cases h7 : smR (F_gon s iN r) (F_gon s iN q) iN t <;> rw [h7] at h8 <;> simp_all [bI] <;> rfl)
                                · -- 160 f
                                  refine x_iconst (v := nI 1) X dX5_again_163 (by decide) ?_
                                  refine x_goto 168 X dX5_again_164 (by decide) ?_
                                  refine x_istore (lv' := [(5, .int (nI 1)), (0, .ref (a 0)), (1, .int (nI iN)), (2, .int (nI jN)), (3, .int (nI r)), (4, .int (nI q)), (6, .int (nI t))]) X dX5_again_168 (by decide) rfl ?_
                                  refine x_iinc (v := nI (t + 1)) (lv' := [(6, .int (nI (t + 1))), (5, .int (nI 1)), (0, .ref (a 0)), (1, .int (nI iN)), (2, .int (nI jN)), (3, .int (nI r)), (4, .int (nI q))]) X dX5_again_170 6 rfl (nI_1 _) (by decide) rfl ?_
                                  refine x_goto 126 X dX5_again_173 (by decide) ?_
                                  refine x_lv (lv' := [(0, .ref (a 0)), (1, .int (nI iN)), (2, .int (nI jN)), (3, .int (nI r)), (4, .int (nI q)), (5, .int (nI 1)), (6, .int (nI (t + 1)))]) X [2, 3, 4, 5, 6, 1, 0] rfl ?_
                                  exact ih_L126_3 (t + 1) (nI 1) (by omega) (by omega) (by have h8 := hu; rw [smR]; cases h7 : smR (F_gon s iN r) (F_gon s iN q) iN t <;> rw [h7] at h8 <;> simp_all [bI] <;> rfl)
                        refine x_lv (lv' := [(0, .ref (a 0)), (1, .int (nI iN)), (2, .int (nI jN)), (3, .int (nI r)), (4, .int (nI q)), (5, .int (nI 1)), (6, .int (nI 0))]) X [2, 3, 4, 5, 6, 1, 0] rfl ?_
                        exact L126_3 _ 0 (nI 1) (Nat.lt_succ_self _) (by omega) (rfl)
                  refine x_lv (lv' := [(0, .ref (a 0)), (1, .int (nI iN)), (2, .int (nI jN)), (3, .int (nI r)), (4, .int (nI 0))]) X [1, 2, 3, 4, 0] rfl ?_
                  exact L114_2 _ 0 (Nat.lt_succ_self _) (by omega) (rfl)
            refine x_lv (lv' := [(0, .ref (a 0)), (1, .int (nI iN)), (2, .int (nI jN)), (3, .int (nI 1))]) X [1, 2, 3, 0] rfl ?_
            exact L105_1 _ 1 (Nat.lt_succ_self _) (by omega) (rfl)
          · -- 28 f
            have n_3 := Nat.not_lt.mpr c_3
            refine x_iconst (v := nI 0) X dX5_again_31 (by decide) ?_
            refine x_istore (lv' := [(4, .int (nI 0)), (0, .ref (a 0)), (1, .int (nI iN)), (2, .int (nI jN)), (3, .int (nI r))]) X dX5_again_32 (by decide) rfl ?_
            have L34_4 : ∀ (fu : Nat) (t : Nat) (V2 : Nat → Int32), 5 - t < fu → (t ≤ 5) → (∀ q, q < r → ∀ t, t < 5 → V2 (5 * q + t) = enc (F_gon s iN q (iN * 5 + t))) → (∀ t2, t2 < t → V2 (5 * r + t2) = enc (F_gon s iN r (iN * 5 + t2))) → K (wMo G a s.1 s.2.1 na nk ns nl pa rp rq kd (en s) W Kp sg le tl rk rd (en g) V2) 0 0 34 [(0, .ref (a 0)), (1, .int (nI iN)), (2, .int (nI jN)), (3, .int (nI r)), (4, .int (nI t))] [] := by
              intro fu
              induction fu with
              | zero => intro t V2 hfu; exact absurd hfu (Nat.not_lt_zero _)
              | succ fu ih_L34_4 =>
                intro t V2 hfu_L34_4 ht5 hV2 hV3
                refine x_iload X dX5_again_34 4 rfl ?_
                refine x_iconst (v := nI 5) X dX5_again_36 (by decide) ?_
                refine x_icmp_ge_n 71 X dX5_again_37 (by decide) (by omega) (by omega) (fun c_11 => ?_) (fun c_11 => ?_)
                · -- 37 t
                  have n_11 := Nat.not_lt.mpr c_11
                  have et : t = 5 := by omega
                  rw [et] at hV3
                  have hV2 : ∀ q, q < r + 1 → ∀ t, t < 5 → V2 (5 * q + t) = enc (F_gon s iN q (iN * 5 + t)) := fun q hq t ht => if e : q = r then (by subst e; exact hV3 t ht) else hV2 q (by omega) t ht
                  refine x_iconst (v := nI 0) X dX5_again_71 (by decide) ?_
                  refine x_istore (lv' := [(4, .int (nI 0)), (0, .ref (a 0)), (1, .int (nI iN)), (2, .int (nI jN)), (3, .int (nI r))]) X dX5_again_72 (by decide) rfl ?_
                  have L74_5 : ∀ (fu : Nat) (p : Nat) (g2 : xS), s.1 - p < fu → (p ≤ s.1) → (g2 = gS s iN r p) → K (wMo G a s.1 s.2.1 na nk ns nl pa rp rq kd (en s) W Kp sg le tl rk rd (en g2) V2) 0 0 74 [(0, .ref (a 0)), (1, .int (nI iN)), (2, .int (nI jN)), (3, .int (nI r)), (4, .int (nI p))] [] := by
                    intro fu
                    induction fu with
                    | zero => intro p g2 hfu; exact absurd hfu (Nat.not_lt_zero _)
                    | succ fu ih_L74_5 =>
                      intro p g2 hfu_L74_5 hp hg2
                      refine x_iload X dX5_again_74 4 rfl ?_
                      refine x_aloadn X dX5_again_76 0 rfl ?_
                      refine x_get X wu_X5 0 rfl rfl 0 (by decide) wf_X5_60 rfl rfl dX5_again_77 ?_
                      refine x_icmp_ge_n 97 X dX5_again_80 (by decide) (by omega) (by omega) (fun c_12 => ?_) (fun c_12 => ?_)
                      · -- 80 t
                        have n_12 := Nat.not_lt.mpr c_12
                        refine x_iinc (v := nI (r + 1)) (lv' := [(3, .int (nI (r + 1))), (0, .ref (a 0)), (1, .int (nI iN)), (2, .int (nI jN)), (4, .int (nI p))]) X dX5_again_97 3 rfl (nI_1 _) (by decide) rfl ?_
                        refine x_goto 25 X dX5_again_100 (by decide) ?_
                        refine x_lv (lv' := [(0, .ref (a 0)), (1, .int (nI iN)), (2, .int (nI jN)), (3, .int (nI (r + 1)))]) X [1, 2, 3, 0] rfl ?_
                        exact ih_L25 (r + 1) V2 g2 (by omega) (by omega) (by rw [hg2, show p = s.1 by omega, gS_r]) (hV2)
                      · -- 80 f
                        refine x_aloadn X dX5_again_83 0 rfl ?_
                        refine x_iloadn X dX5_again_84 1 rfl ?_
                        refine x_iloadn X dX5_again_85 1 rfl ?_
                        refine x_iload X dX5_again_86 4 rfl ?_
                        refine x_callVf0 (As := [.int (nI iN), .int (nI iN), .int (nI p)]) (rest := []) (w1 := wMo G a s.1 s.2.1 na nk ns nl pa rp rq kd (en s) W Kp sg le tl rk rd (en (cpS g2 p iN iN 5)) V2) (ws' := wMo G a s.1 s.2.1 na nk ns nl pa rp rq kd (en s) W Kp sg le tl rk rd (en (cpS g2 p iN iN 5)) V2) X (c_X5_copying l G a s.1 s.2.1 na nk ns nl pa rp rq kd (en s) W Kp sg le tl rk rd V2 g2 iN iN p (by omega) (by omega) (by omega) (by rw [hg2]; exact hkd _ (by omega)) (by rw [hg2]; exact hmi) (by rw [hg2]; exact hbv) (by rw [hg2]; exact gS_bl hs6 (by omega) hmi hbv hbl r p (by omega))) xE0_ok (fun _ _ _ => trivial) [0, 1, 2, 3, 4, 5, 6, 7, 8, 9, 10, 11] rfl 0 rfl rfl rfl rfl wco_X5_copying wi_X5 xd_X5_copying wl_X5_153 win_X5_copying wse_X5_copying (by decide) (Nat.le_of_ble_eq_true rfl) dX5_again_88 rfl (Eq.trans (b := [a 0, a 1, a 2, a 3, a 4, a 5, a 6, a 7, a 8, a 9, a 10, a 11]) rfl rfl) rfl ?_
                        refine x_iinc (v := nI (p + 1)) (lv' := [(4, .int (nI (p + 1))), (0, .ref (a 0)), (1, .int (nI iN)), (2, .int (nI jN)), (3, .int (nI r))]) X dX5_again_91 4 rfl (nI_1 _) (by decide) rfl ?_
                        refine x_goto 74 X dX5_again_94 (by decide) ?_
                        refine x_lv (lv' := [(0, .ref (a 0)), (1, .int (nI iN)), (2, .int (nI jN)), (3, .int (nI r)), (4, .int (nI (p + 1)))]) X [1, 2, 3, 4, 0] rfl ?_
                        exact ih_L74_5 (p + 1) (cpS g2 p iN iN 5) (by omega) (by omega) (by rw [hg2, gS_p])
                  refine x_lv (lv' := [(0, .ref (a 0)), (1, .int (nI iN)), (2, .int (nI jN)), (3, .int (nI r)), (4, .int (nI 0))]) X [1, 2, 3, 4, 0] rfl ?_
                  exact L74_5 _ 0 g (Nat.lt_succ_self _) (by omega) (hg)
                · -- 37 f
                  refine x_aloadn X dX5_again_40 0 rfl ?_
                  refine x_get X wu_X5 0 rfl rfl 19 (by decide) wf_X5_40 rfl rfl dX5_again_41 ?_
                  refine x_iconst (v := nI 5) X dX5_again_44 (by decide) ?_
                  refine x_iloadn X dX5_again_45 3 rfl ?_
                  refine x_imul (v := nI (5 * r)) X dX5_again_46 (pk_mul _ _) ?_
                  refine x_iload X dX5_again_47 4 rfl ?_
                  refine x_iadd (v := nI (5 * r + t)) X dX5_again_49 (nI_add _ _) ?_
                  refine x_aloadn X dX5_again_50 0 rfl ?_
                  refine x_get X wu_X5 0 rfl rfl 18 (by decide) wf_X5_37 rfl rfl dX5_again_51 ?_
                  refine x_bipush (v := nI 36) X dX5_again_54 (by decide) ?_
                  refine x_iconst (v := nI 5) X dX5_again_56 (by decide) ?_
                  refine x_iloadn X dX5_again_57 1 rfl ?_
                  refine x_imul (v := nI (5 * iN)) X dX5_again_58 (pk_mul _ _) ?_
                  refine x_iadd (v := nI (36 + (5 * iN))) X dX5_again_59 (nI_add _ _) ?_
                  refine x_iload X dX5_again_60 4 rfl ?_
                  refine x_iadd (v := nI ((36 + (5 * iN)) + t)) X dX5_again_62 (nI_add _ _) ?_
                  refine x_iald_n (v := enc (g.2.2.2.2.2 (iN * 5 + t))) X 10 rfl (by omega) (by omega) (en_li _ (by omega) (by omega)) dX5_again_63 ?_
                  refine x_iast_n (g := upd V2 (5 * r + t) (enc (g.2.2.2.2.2 (iN * 5 + t)))) (ws' := wMo G a s.1 s.2.1 na nk ns nl pa rp rq kd (en s) W Kp sg le tl rk rd (en g) (upd V2 (5 * r + t) (enc (g.2.2.2.2.2 (iN * 5 + t))))) X 11 rfl (by omega) (by omega) rfl rfl dX5_again_64 ?_
                  refine x_iinc (v := nI (t + 1)) (lv' := [(4, .int (nI (t + 1))), (0, .ref (a 0)), (1, .int (nI iN)), (2, .int (nI jN)), (3, .int (nI r))]) X dX5_again_65 4 rfl (nI_1 _) (by decide) rfl ?_
                  refine x_goto 34 X dX5_again_68 (by decide) ?_
                  refine x_lv (lv' := [(0, .ref (a 0)), (1, .int (nI iN)), (2, .int (nI jN)), (3, .int (nI r)), (4, .int (nI (t + 1)))]) X [1, 2, 3, 4, 0] rfl ?_
                  exact ih_L34_4 (t + 1) (upd V2 (5 * r + t) (enc (g.2.2.2.2.2 (iN * 5 + t)))) (by omega) (by omega) (fun q hq t2 ht2 => by rw [upd, if_neg (by omega)]; exact hV2 q hq t2 ht2) (fun t2 ht2 => if e : t2 = t then (by subst e; rw [upd, if_pos rfl, hg]; rfl) else (by rw [upd, if_neg (by omega)]; exact hV3 t2 (by omega)))
            refine x_lv (lv' := [(0, .ref (a 0)), (1, .int (nI iN)), (2, .int (nI jN)), (3, .int (nI r)), (4, .int (nI 0))]) X [1, 2, 3, 4, 0] rfl ?_
            exact L34_4 _ 0 V (Nat.lt_succ_self _) (by omega) (hV) (fun q hq => absurd hq (Nat.not_lt_zero _))
      refine x_lv (lv' := [(0, .ref (a 0)), (1, .int (nI iN)), (2, .int (nI jN)), (3, .int (nI 0))]) X [1, 2, 3, 0] rfl ?_
      exact L25 _ 0 rw s (Nat.lt_succ_self _) (by omega) (rfl) (fun q hq => absurd hq (Nat.not_lt_zero _))
    · -- 14 f
      refine x_iconst (v := (-1)) X dX5_again_17 (by decide) ?_
      exact x_ret X dX5_again_18 ⟨ret_i (by simp [F_again, tn, c_1, qiN, c_2]), ⟨nw, rw, rfl⟩, by decide, by decide⟩
