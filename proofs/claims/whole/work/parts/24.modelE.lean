/-! ===== the reference: weeks ===== -/
theorem a500 (x y : Int32) : x + nI 500 + y = x + y + nI 500 := by rw [Int32.add_assoc, Int32.add_comm (nI 500) y, ← Int32.add_assoc]
theorem wOk2B (z n w : Int32) : F_wOk2 z n w = (inR z 10000 && (inB n (nI 1) (nI 60) && inR w 2)) := by simp [F_wOk2, inB, Bool.and_assoc]
theorem inB_60 {x : Int32} (h : inB x (nI 1) (nI 60) = true) : ∃ j : Nat, (1 ≤ j ∧ j ≤ 60) ∧ x = nI j := dec_n60 (n := x) (fun q => by rw [inB, decide_eq_true q] at h; simp at h) (fun q => by rw [inB, decide_eq_true q] at h; simp at h)
def wkS (s : xS) (z k : Nat) : xS := (s.1, s.2.1, s.2.2.1, s.2.2.2.1, s.2.2.2.2.1, F_wkl s z k)
theorem wkl_bl {s : xS} {z : Nat} (hs : s.1 ≤ 6) (h1 : 0 < s.1) (hm : ∀ j, j < 6 → inR (s.2.2.2.1 j) 6 = true) (hv : ∀ j, j < 30 → bd (s.2.2.2.2.1 j)) (hl : ∀ j, j < 25 → bl (s.2.2.2.2.2 j)) : ∀ k, ∀ j, j < 25 → bl (F_wkl s z k j)
  | 0 => hl
  | k + 1 => by
    intro j hj
    show bl (if j = _ then _ else _)
    split
    · have hp := Nat.mod_lt (F_draw z k) h1
      exact Or.inr (wf_bd hv (by omega) (inR_eq (hm _ (by omega)) (by decide)).2 (by omega) (by omega))
    · exact wkl_bl hs h1 hm hv hl k j hj
theorem m1_0 : nI 0 - nI 1 = (-1) := by decide
/-- the same count, from above: the first found is the last kept -/
def whoD (ok : Bool) (c : Int32) (r : Int32 × Int32) : Int32 × Int32 := (r.1 + nI (if ok = true then 1 else 0), if ok = true then c else r.2)
def mWho3 (s : xS) (th sa : Nat → Int32) (ns p m : Nat) (r : Int32 × Int32) : Nat → Int32 × Int32
  | 0 => r
  | k + 1 => whoD (P_who s th sa ns p m (10 - k)) (whoC p m (10 - k)) (mWho3 s th sa ns p m r k)
def mWho2 (s : xS) (th sa : Nat → Int32) (ns p : Nat) (r : Int32 × Int32) : Nat → Int32 × Int32
  | 0 => r
  | k + 1 => mWho3 s th sa ns p (s.1 - 1 - k) (mWho2 s th sa ns p r k) 11
def mWho1 (s : xS) (th sa : Nat → Int32) (ns : Nat) : Nat → Int32 × Int32
  | 0 => (nI 0, (-4))
  | k + 1 => mWho2 s th sa ns (s.1 - 1 - k) (mWho1 s th sa ns k) s.1
/-- what is told, whether it is sought from below or from above: over a list of cases -/
def upL : List (Bool × Int32) → Int32 × Int32 → Int32 × Int32
  | [], r => r
  | x :: l, r => upL l (whoS x.1 x.2 r)
def dnL : List (Bool × Int32) → Int32 × Int32 → Int32 × Int32
  | [], r => r
  | x :: l, r => dnL l (whoD x.1 x.2 r)
theorem upL_app (a b : List (Bool × Int32)) : ∀ r, upL (a ++ b) r = upL b (upL a r) := by
  induction a with
  | nil => intro r; rfl
  | cons x a ih => intro r; exact ih _
theorem dnL_app (a b : List (Bool × Int32)) : ∀ r, dnL (a ++ b) r = dnL b (dnL a r) := by
  induction a with
  | nil => intro r; rfl
  | cons x a ih => intro r; exact ih _
/-- the number of cases, and the first -/
def cntL : List (Bool × Int32) → Int32
  | [] => nI 0
  | x :: l => nI (if x.1 = true then 1 else 0) + cntL l
def fstL : List (Bool × Int32) → Int32
  | [] => (-4)
  | x :: l => if x.1 = true then x.2 else fstL l
theorem cntL_app (a b : List (Bool × Int32)) : cntL (a ++ b) = cntL a + cntL b := by
  induction a with
  | nil => show cntL b = nI 0 + cntL b; rw [show nI 0 = (0 : Int32) from rfl, Int32.zero_add]
  | cons x a ih => show _ + cntL (a ++ b) = _ + cntL a + cntL b; rw [ih, Int32.add_assoc]
theorem upL_1 (l : List (Bool × Int32)) : ∀ r, (upL l r).1 = r.1 + cntL l := by
  induction l with
  | nil => intro r; show r.1 = r.1 + nI 0; rw [show nI 0 = (0 : Int32) from rfl, Int32.add_zero]
  | cons x l ih =>
    intro r
    show (upL l _).1 = r.1 + (_ + cntL l)
    rw [ih, ← Int32.add_assoc]
    congr 1
    unfold whoS
    split
    · rfl
    · show r.1 = r.1 + nI 0
      rw [show nI 0 = (0 : Int32) from rfl, Int32.add_zero]
theorem upL_2 (l : List (Bool × Int32)) (hc : ∀ x ∈ l, ¬ x.2 = (-4)) : ∀ r, (upL l r).2 = if r.2 = (-4) then fstL l else r.2 := by
  induction l with
  | nil => intro r; show r.2 = _; split; assumption; rfl
  | cons x l ih =>
    intro r
    show (upL l _).2 = _
    rw [ih (fun y hy => hc y (List.mem_cons_of_mem _ hy))]
    have h0 := hc x (List.mem_cons_self ..)
    unfold whoS
    by_cases h1 : x.1 = true <;> by_cases h2 : r.2 = (-4) <;> simp [h1, h2, fstL, h0]
theorem dnL_1 (l : List (Bool × Int32)) : ∀ r, (dnL l r).1 = r.1 + cntL l := by
  induction l with
  | nil => intro r; show r.1 = r.1 + nI 0; rw [show nI 0 = (0 : Int32) from rfl, Int32.add_zero]
  | cons x l ih =>
    intro r
    show (dnL l _).1 = r.1 + (_ + cntL l)
    rw [ih, ← Int32.add_assoc]
    rfl
theorem cntL_rev (l : List (Bool × Int32)) : cntL l.reverse = cntL l := by
  induction l with
  | nil => rfl
  | cons x l ih =>
    rw [List.reverse_cons, cntL_app, ih, Int32.add_comm]
    show (_ + nI 0) + cntL l = _ + cntL l
    rw [show nI 0 = (0 : Int32) from rfl, Int32.add_zero]
theorem dnL_2 (l : List (Bool × Int32)) (hc : ∀ x ∈ l, ¬ x.2 = (-4)) : ∀ r, (dnL l.reverse r).2 = if fstL l = (-4) then r.2 else fstL l := by
  induction l with
  | nil => intro r; rfl
  | cons x l ih =>
    intro r
    rw [List.reverse_cons, dnL_app]
    show (if x.1 = true then x.2 else (dnL l.reverse r).2) = _
    rw [ih (fun y hy => hc y (List.mem_cons_of_mem _ hy))]
    have h0 := hc x (List.mem_cons_self ..)
    by_cases h1 : x.1 = true <;> simp [h1, fstL, h0]
theorem up_dn (l : List (Bool × Int32)) (hc : ∀ x ∈ l, ¬ x.2 = (-4)) : dnL l.reverse (nI 0, (-4)) = upL l (nI 0, (-4)) := by
  apply Prod.ext
  · rw [dnL_1, upL_1, cntL_rev]
  · rw [dnL_2 l hc, upL_2 l hc]
    simp only [if_true]
    split
    · rename_i h; exact h.symm
    · rfl
def ascL (f : Nat → List (Bool × Int32)) : Nat → List (Bool × Int32)
  | 0 => []
  | k + 1 => ascL f k ++ f k
def dscL (f : Nat → List (Bool × Int32)) (N : Nat) : Nat → List (Bool × Int32)
  | 0 => []
  | k + 1 => dscL f N k ++ (f (N - 1 - k)).reverse
theorem dsc_asc (f : Nat → List (Bool × Int32)) (N : Nat) : ∀ k, k ≤ N → (ascL f N).reverse = dscL f N k ++ (ascL f (N - k)).reverse
  | 0, _ => rfl
  | k + 1, h => by
    rw [dsc_asc f N k (by omega), show N - k = (N - (k + 1)) + 1 by omega]
    show _ ++ (ascL f (N - (k + 1)) ++ f (N - (k + 1))).reverse = _
    rw [List.reverse_append, ← List.append_assoc]
    show _ = dscL f N k ++ (f (N - 1 - k)).reverse ++ _
    rw [show N - 1 - k = N - (k + 1) by omega]
theorem dsc_rev (f : Nat → List (Bool × Int32)) (N : Nat) : dscL f N N = (ascL f N).reverse := by
  rw [dsc_asc f N N (Nat.le_refl N), Nat.sub_self]
  simp [ascL]
theorem asc_mem {f : Nat → List (Bool × Int32)} {x : Bool × Int32} : ∀ N, x ∈ ascL f N → ∃ k, k < N ∧ x ∈ f k
  | 0, h => by simp [ascL] at h
  | N + 1, h => by
    rcases List.mem_append.mp h with h | h
    · obtain ⟨k, hk, hx⟩ := asc_mem N h
      exact ⟨k, by omega, hx⟩
    · exact ⟨N, by omega, h⟩
def wL3 (s : xS) (th sa : Nat → Int32) (ns p m : Nat) : Nat → List (Bool × Int32) := fun n => [(P_who s th sa ns p m n, whoC p m n)]
def wL2 (s : xS) (th sa : Nat → Int32) (ns p : Nat) : Nat → List (Bool × Int32) := fun m => ascL (wL3 s th sa ns p m) 11
def wL1 (s : xS) (th sa : Nat → Int32) (ns : Nat) : Nat → List (Bool × Int32) := fun p => ascL (wL2 s th sa ns p) s.1
theorem who3_up (s : xS) (th sa : Nat → Int32) (ns p m : Nat) (r : Int32 × Int32) : ∀ k, F_who3 s th sa ns p m r k = upL (ascL (wL3 s th sa ns p m) k) r
  | 0 => rfl
  | k + 1 => by
    rw [F_who3, who3_up s th sa ns p m r k]
    show _ = upL (ascL (wL3 s th sa ns p m) k ++ _) r
    rw [upL_app]
    rfl
theorem who2_up (s : xS) (th sa : Nat → Int32) (ns p : Nat) (r : Int32 × Int32) : ∀ k, F_who2 s th sa ns p r k = upL (ascL (wL2 s th sa ns p) k) r
  | 0 => rfl
  | k + 1 => by
    rw [F_who2, who2_up s th sa ns p r k, who3_up]
    show _ = upL (ascL (wL2 s th sa ns p) k ++ _) r
    rw [upL_app]
    rfl
theorem who1_up (s : xS) (th sa : Nat → Int32) (ns : Nat) : ∀ k, F_who1 s th sa ns k = upL (ascL (wL1 s th sa ns) k) (nI 0, (-4))
  | 0 => rfl
  | k + 1 => by
    rw [F_who1, who1_up s th sa ns k, who2_up]
    show _ = upL (ascL (wL1 s th sa ns) k ++ _) _
    rw [upL_app]
    rfl
theorem mWho3_dn (s : xS) (th sa : Nat → Int32) (ns p m : Nat) (r : Int32 × Int32) : ∀ k, mWho3 s th sa ns p m r k = dnL (dscL (wL3 s th sa ns p m) 11 k) r
  | 0 => rfl
  | k + 1 => by
    rw [mWho3, mWho3_dn s th sa ns p m r k]
    show _ = dnL (dscL (wL3 s th sa ns p m) 11 k ++ _) r
    rw [dnL_app]
    rfl
theorem mWho2_dn (s : xS) (th sa : Nat → Int32) (ns p : Nat) (r : Int32 × Int32) : ∀ k, mWho2 s th sa ns p r k = dnL (dscL (wL2 s th sa ns p) s.1 k) r
  | 0 => rfl
  | k + 1 => by
    rw [mWho2, mWho2_dn s th sa ns p r k, mWho3_dn, dsc_rev]
    show _ = dnL (dscL (wL2 s th sa ns p) s.1 k ++ _) r
    rw [dnL_app]
    rfl
theorem mWho1_dn (s : xS) (th sa : Nat → Int32) (ns : Nat) : ∀ k, mWho1 s th sa ns k = dnL (dscL (wL1 s th sa ns) s.1 k) (nI 0, (-4))
  | 0 => rfl
  | k + 1 => by
    rw [mWho1, mWho1_dn s th sa ns k, mWho2_dn, dsc_rev]
    show _ = dnL (dscL (wL1 s th sa ns) s.1 k ++ _) _
    rw [dnL_app]
    rfl
theorem whoC_n {p m n : Nat} (hp : p < 6) (hm : m < 6) (hn : n < 11) : ¬ whoC p m n = (-4) := by
  have h : ∀ p, p < 6 → ∀ m, m < 6 → ∀ n, n < 11 → ¬ whoC p m n = (-4) := by decide +kernel
  exact h p hp m hm n hn
theorem mWho_eq (s : xS) (th sa : Nat → Int32) (ns : Nat) (hs : s.1 ≤ 6) : mWho1 s th sa ns s.1 = F_who1 s th sa ns s.1 := by
  rw [mWho1_dn, who1_up, dsc_rev]
  apply up_dn
  intro x hx
  obtain ⟨p, hp, h2⟩ := asc_mem _ hx
  obtain ⟨m, hm, h3⟩ := asc_mem _ h2
  obtain ⟨n, hn, h4⟩ := asc_mem _ h3
  rw [List.mem_singleton.mp h4]
  exact whoC_n (by omega) (by omega) hn
theorem pre_2 (j : Nat) : nI (j + 1) - nI 1 + (-1) = nI j - nI 1 := by
  rw [pre_nI, Int32.sub_eq_add_neg]
  rfl

set_option maxRecDepth 100000 in
set_option maxHeartbeats 4000000 in
/-- X5_weeks -/
theorem c_X5_weeks (l : Launch) (G : xG) (a : Nat → Nat) (na : Nat) (nk : Nat) (ns : Nat) (nl : Nat) (pa : Nat) (rp : Nat) (rq : Nat) (kd : Nat → Int32) (W : Nat → Int32) (Kp : Nat → Int32) (sg : Nat → Int32) (le : Nat → Int32) (tl : Nat → Int32) (rk : Nat → Int32) (rd : Nat → Int32) (nw : Nat → Int32) (rw : Nat → Int32) (s : xS) (i : Int32) (j : Int32) (k : Int32) (hs6 : s.1 ≤ 6) (hs1 : 0 < s.1) (hq5 : s.2.1 ≤ 5) (hq1 : 0 < s.2.1) (hkd : ∀ p, p < s.1 → kd p = s.2.2.1 p) (hmi : ∀ j, j < 6 → inR (s.2.2.2.1 j) 6 = true) (hbv : ∀ j, j < 30 → bd (s.2.2.2.2.1 j)) (hbl : ∀ j, j < 25 → bl (s.2.2.2.2.2 j)) : xM l G xE0 yX5_weeks cX5_weeks 10 (some .int) 2 48 0 0 [.ref (a 0), .int i, .int j, .int k] (wMo G a s.1 s.2.1 na nk ns nl pa rp rq kd (en s) W Kp sg le tl rk rd nw rw) (some (.int (F_weeks s i j k))) (fun w2 => ∃ nw' : Nat → Int32, w2 = wMo G a s.1 s.2.1 na nk ns nl pa rp rq kd (en s) W Kp sg le tl rk rd nw' rw) := by
  refine x_entry (by decide +kernel) (Nat.le_of_ble_eq_true rfl) rfl ⟨_, rfl, rfl⟩ (fun K X => ?_)
  refine x_iloadn X dX5_weeks_0 1 rfl ?_
  refine x_iconst (v := nI 0) X dX5_weeks_1 (by decide) ?_
  refine x_sipush (v := nI 9999) X dX5_weeks_2 (by decide) ?_
  refine x_callSrv (As := [.int i, .int (nI 0), .int (nI 9999)]) (rest := []) X (c_X5_in__R l G i 9999 (by omega)) xE0_ok (fun _ _ _ => trivial) [] rfl rfl rfl wco_X5_in wi_X5 xd_X5_in wl_X5_63 wst_X5_in (by decide) (Nat.le_of_ble_eq_true rfl) dX5_weeks_5 ?_
  refine x_ifeq_b 30 X dX5_weeks_8 (by decide) (fun c_1 => ?_) (fun c_1 => ?_)
  · -- 8 t
    refine x_iconst (v := (-1)) X dX5_weeks_30 (by decide) ?_
    exact x_ret X dX5_weeks_31 ⟨ret_i (by simp [F_weeks, wOk2B, wkS, tn, c_1]), ⟨nw, rfl⟩, by decide, by decide⟩
  · -- 8 f
    obtain ⟨iN, hiN, rfl⟩ := inR_nat c_1 (by omega)
    have qiN : (nI iN).toNatClampNeg = iN := nI_clamp (by omega)
    refine x_iloadn X dX5_weeks_11 2 rfl ?_
    refine x_iconst (v := nI 1) X dX5_weeks_12 (by decide) ?_
    refine x_bipush (v := nI 60) X dX5_weeks_13 (by decide) ?_
    refine x_callSrv (As := [.int j, .int (nI 1), .int (nI 60)]) (rest := []) X (c_X5_in__B l G j (nI 1) (nI 60)) xE0_ok (fun _ _ _ => trivial) [] rfl rfl rfl wco_X5_in wi_X5 xd_X5_in wl_X5_63 wst_X5_in (by decide) (Nat.le_of_ble_eq_true rfl) dX5_weeks_15 ?_
    refine x_ifeq_b 30 X dX5_weeks_18 (by decide) (fun c_2 => ?_) (fun c_2 => ?_)
    · -- 18 t
      refine x_iconst (v := (-1)) X dX5_weeks_30 (by decide) ?_
      exact x_ret X dX5_weeks_31 ⟨ret_i (by simp [F_weeks, wOk2B, wkS, tn, c_1, qiN, c_2]), ⟨nw, rfl⟩, by decide, by decide⟩
    · -- 18 f
      obtain ⟨jN, hjN, rfl⟩ := inB_60 c_2
      have qjN : (nI jN).toNatClampNeg = jN := nI_clamp (by omega)
      refine x_iloadn X dX5_weeks_21 3 rfl ?_
      refine x_iconst (v := nI 0) X dX5_weeks_22 (by decide) ?_
      refine x_iconst (v := nI 1) X dX5_weeks_23 (by decide) ?_
      refine x_callSrv (As := [.int k, .int (nI 0), .int (nI 1)]) (rest := []) X (c_X5_in__R l G k 1 (by omega)) xE0_ok (fun _ _ _ => trivial) [] rfl rfl rfl wco_X5_in wi_X5 xd_X5_in wl_X5_63 wst_X5_in (by decide) (Nat.le_of_ble_eq_true rfl) dX5_weeks_24 ?_
      refine x_ifne_b 32 X dX5_weeks_27 (by decide) (fun c_3 => ?_) (fun c_3 => ?_)
      · -- 27 t
        obtain ⟨kN, hkN, rfl⟩ := inR_nat c_3 (by omega)
        have qkN : (nI kN).toNatClampNeg = kN := nI_clamp (by omega)
        refine x_aloadn X dX5_weeks_32 0 rfl ?_
        refine x_callVf0 (As := []) (rest := []) (w1 := wMo G a s.1 s.2.1 na nk ns nl pa rp rq kd (en s) W Kp sg le tl rk rd (en s) rw) (ws' := wMo G a s.1 s.2.1 na nk ns nl pa rp rq kd (en s) W Kp sg le tl rk rd (en s) rw) X (c_X5_asItIs l G a s.1 s.2.1 na nk ns nl pa rp rq kd (en s) W Kp sg le tl rk rd nw rw) xE0_ok (fun _ _ _ => trivial) [0, 1, 2, 3, 4, 5, 6, 7, 8, 9, 10, 11] rfl 0 rfl rfl rfl rfl wco_X5_asItIs wi_X5 xd_X5_asItIs wl_X5_143 win_X5_asItIs wse_X5_asItIs (by decide) (Nat.le_of_ble_eq_true rfl) dX5_weeks_33 rfl (Eq.trans (b := [a 0, a 1, a 2, a 3, a 4, a 5, a 6, a 7, a 8, a 9, a 10, a 11]) rfl rfl) rfl ?_
        refine x_iconst (v := nI 0) X dX5_weeks_36 (by decide) ?_
        refine x_istore (lv' := [(4, .int (nI 0)), (0, .ref (a 0)), (1, .int (nI iN)), (2, .int (nI jN)), (3, .int (nI kN))]) X dX5_weeks_37 (by decide) rfl ?_
        have L39 : ∀ (fu : Nat) (k : Nat) (g : xS), jN - k < fu → (k ≤ jN) → (g = wkS s iN k) → K (wMo G a s.1 s.2.1 na nk ns nl pa rp rq kd (en s) W Kp sg le tl rk rd (en g) rw) 0 0 39 [(0, .ref (a 0)), (1, .int (nI iN)), (2, .int (nI jN)), (3, .int (nI kN)), (4, .int (nI k))] [] := by
          intro fu
          induction fu with
          | zero => intro k g hfu; exact absurd hfu (Nat.not_lt_zero _)
          | succ fu ih_L39 =>
            intro k g hfu_L39 hk hg
            refine x_iload X dX5_weeks_39 4 rfl ?_
            refine x_iloadn X dX5_weeks_41 2 rfl ?_
            refine x_icmp_ge_n 151 X dX5_weeks_42 (by decide) (by omega) (by omega) (fun c_4 => ?_) (fun c_4 => ?_)
            · -- 42 t
              have n_4 := Nat.not_lt.mpr c_4
              have eq2 : k = jN := by omega
              rw [eq2] at hg
              have hgl : ∀ j, j < 25 → bl (g.2.2.2.2.2 j) := by rw [hg]; exact wkl_bl hs6 hs1 hmi hbv hbl jN
              refine x_iconst (v := nI 0) X dX5_weeks_151 (by decide) ?_
              refine x_istore (lv' := [(4, .int (nI 0)), (0, .ref (a 0)), (1, .int (nI iN)), (2, .int (nI jN)), (3, .int (nI kN))]) X dX5_weeks_152 (by decide) rfl ?_
              refine x_sipush (v := nI 500) X dX5_weeks_154 (by decide) ?_
              refine x_istore (lv' := [(5, .int (nI 500)), (4, .int (nI 0)), (0, .ref (a 0)), (1, .int (nI iN)), (2, .int (nI jN)), (3, .int (nI kN))]) X dX5_weeks_157 (by decide) rfl ?_
              refine x_iconst (v := nI 0) X dX5_weeks_159 (by decide) ?_
              refine x_istore (lv' := [(6, .int (nI 0)), (5, .int (nI 500)), (4, .int (nI 0)), (0, .ref (a 0)), (1, .int (nI iN)), (2, .int (nI jN)), (3, .int (nI kN))]) X dX5_weeks_160 (by decide) rfl ?_
              have L162_1 : ∀ (fu : Nat) (q : Nat) (co : Nat) (u : Int32), s.2.1 - q < fu → (q ≤ s.2.1) → (co ≤ 5 * q) → (co = F_fils g.2.2.2.2.2 q) → (u = F_sums g.2.2.2.2.2 q + nI 500) → K (wMo G a s.1 s.2.1 na nk ns nl pa rp rq kd (en s) W Kp sg le tl rk rd (en g) rw) 0 0 162 [(0, .ref (a 0)), (1, .int (nI iN)), (2, .int (nI jN)), (3, .int (nI kN)), (4, .int (nI co)), (5, .int u), (6, .int (nI q))] [] := by
                intro fu
                induction fu with
                | zero => intro q co u hfu; exact absurd hfu (Nat.not_lt_zero _)
                | succ fu ih_L162_1 =>
                  intro q co u hfu_L162_1 hq hc5 hco hu
                  refine x_iload X dX5_weeks_162 6 rfl ?_
                  refine x_aloadn X dX5_weeks_164 0 rfl ?_
                  refine x_get X wu_X5 0 rfl rfl 2 (by decide) wf_X5_67 rfl rfl dX5_weeks_165 ?_
                  refine x_icmp_ge_n 239 X dX5_weeks_168 (by decide) (by omega) (by omega) (fun c_5 => ?_) (fun c_5 => ?_)
                  · -- 168 t
                    have n_5 := Nat.not_lt.mpr c_5
                    have eq3 : q = s.2.1 := by omega
                    rw [eq3] at hco hu
                    refine x_iloadn X dX5_weeks_239 3 rfl ?_
                    refine x_if_ne_n 248 X dX5_weeks_240 (by decide) (by omega) (fun c_6 => ?_) (fun c_6 => ?_)
                    · -- 240 t
                      refine x_iload X dX5_weeks_248 5 rfl ?_
                      exact x_ret X dX5_weeks_250 ⟨ret_i (by rw [hu, hg]; simp [F_weeks, wOk2B, wkS, tn, c_1, qiN, c_2, qjN, c_3, qkN, c_4, c_5, c_6]), ⟨(en g), rfl⟩, by decide, by decide⟩
                    · -- 240 f
                      refine x_iload X dX5_weeks_243 4 rfl ?_
                      refine x_goto 250 X dX5_weeks_245 (by decide) ?_
                      exact x_ret X dX5_weeks_250 ⟨ret_i (by rw [hco, hg]; simp [F_weeks, wOk2B, wkS, tn, c_1, qiN, c_2, qjN, c_3, qkN, c_4, c_5, (eq_true c_6)]), ⟨(en g), rfl⟩, by decide, by decide⟩
                  · -- 168 f
                    refine x_iload X dX5_weeks_171 4 rfl ?_
                    refine x_aloadn X dX5_weeks_173 0 rfl ?_
                    refine x_iload X dX5_weeks_174 6 rfl ?_
                    refine x_callVrv (As := [.int (nI q)]) (rest := [.int (nI co)]) X (c_X5_filled l G a s.1 s.2.1 na nk ns nl pa rp rq kd (en s) W Kp sg le tl rk rd rw g q (by omega) hgl) xE0_ok (fun _ _ _ => trivial) [0, 1, 2, 3, 4, 5, 6, 7, 8, 9, 10, 11] rfl 0 rfl rfl rfl rfl wco_X5_filled wi_X5 xd_X5_filled wl_X5_157 win_X5_filled wse_X5_filled (by decide) (Nat.le_of_ble_eq_true rfl) dX5_weeks_176 ?_
                    have hfil := F_fil_le g.2.2.2.2.2 q 5
                    refine x_iadd (v := nI (co + (F_fil g.2.2.2.2.2 q 5))) X dX5_weeks_179 (nI_add _ _) ?_
                    refine x_istore (lv' := [(4, .int (nI (co + (F_fil g.2.2.2.2.2 q 5)))), (0, .ref (a 0)), (1, .int (nI iN)), (2, .int (nI jN)), (3, .int (nI kN)), (5, .int u), (6, .int (nI q))]) X dX5_weeks_180 (by decide) rfl ?_
                    refine x_iconst (v := nI 0) X dX5_weeks_182 (by decide) ?_
                    refine x_istore (lv' := [(7, .int (nI 0)), (4, .int (nI (co + (F_fil g.2.2.2.2.2 q 5)))), (0, .ref (a 0)), (1, .int (nI iN)), (2, .int (nI jN)), (3, .int (nI kN)), (5, .int u), (6, .int (nI q))]) X dX5_weeks_183 (by decide) rfl ?_
                    have L185_2 : ∀ (fu : Nat) (t : Nat) (y : Int32), 5 - t < fu → (t ≤ 5) → (y = F_sum g.2.2.2.2.2 (F_sums g.2.2.2.2.2 q) q t + nI 500) → K (wMo G a s.1 s.2.1 na nk ns nl pa rp rq kd (en s) W Kp sg le tl rk rd (en g) rw) 0 0 185 [(0, .ref (a 0)), (1, .int (nI iN)), (2, .int (nI jN)), (3, .int (nI kN)), (4, .int (nI (co + F_fil g.2.2.2.2.2 q 5))), (5, .int y), (6, .int (nI q)), (7, .int (nI t))] [] := by
                      intro fu
                      induction fu with
                      | zero => intro t y hfu; exact absurd hfu (Nat.not_lt_zero _)
                      | succ fu ih_L185_2 =>
                        intro t y hfu_L185_2 ht5 hy
                        refine x_iload X dX5_weeks_185 7 rfl ?_
                        refine x_iconst (v := nI 5) X dX5_weeks_187 (by decide) ?_
                        refine x_icmp_ge_n 233 X dX5_weeks_188 (by decide) (by omega) (by omega) (fun c_7 => ?_) (fun c_7 => ?_)
                        · -- 188 t
                          have n_7 := Nat.not_lt.mpr c_7
                          obtain rfl : t = 5 := by omega
                          refine x_iinc (v := nI (q + 1)) (lv' := [(6, .int (nI (q + 1))), (0, .ref (a 0)), (1, .int (nI iN)), (2, .int (nI jN)), (3, .int (nI kN)), (4, .int (nI (co + F_fil g.2.2.2.2.2 q 5))), (5, .int y), (7, .int (nI 5))]) X dX5_weeks_233 6 rfl (nI_1 _) (by decide) rfl ?_
                          refine x_goto 162 X dX5_weeks_236 (by decide) ?_
                          refine x_lv (lv' := [(0, .ref (a 0)), (1, .int (nI iN)), (2, .int (nI jN)), (3, .int (nI kN)), (4, .int (nI (co + F_fil g.2.2.2.2.2 q 5))), (5, .int y), (6, .int (nI (q + 1)))]) X [1, 2, 3, 4, 5, 6, 0] rfl ?_
                          exact ih_L162_1 (q + 1) (co + F_fil g.2.2.2.2.2 q 5) y (by omega) (by omega) (by have := F_fil_le g.2.2.2.2.2 q 5; omega) (by rw [hco]; rfl) (by rw [hy]; rfl)
                        · -- 188 f
                          refine x_aloadn X dX5_weeks_191 0 rfl ?_
                          refine x_get X wu_X5 0 rfl rfl 18 (by decide) wf_X5_37 rfl rfl dX5_weeks_192 ?_
                          refine x_bipush (v := nI 36) X dX5_weeks_195 (by decide) ?_
                          refine x_iconst (v := nI 5) X dX5_weeks_197 (by decide) ?_
                          refine x_iload X dX5_weeks_198 6 rfl ?_
                          refine x_imul (v := nI (5 * q)) X dX5_weeks_200 (pk_mul _ _) ?_
                          refine x_iadd (v := nI (36 + (5 * q))) X dX5_weeks_201 (nI_add _ _) ?_
                          refine x_iload X dX5_weeks_202 7 rfl ?_
                          refine x_iadd (v := nI ((36 + (5 * q)) + t)) X dX5_weeks_204 (nI_add _ _) ?_
                          refine x_iald_n (v := enc (g.2.2.2.2.2 (q * 5 + t))) X 10 rfl (by omega) (by omega) (en_li _ (by omega) (by omega)) dX5_weeks_205 ?_
                          refine x_istore (lv' := [(8, .int (enc (g.2.2.2.2.2 (q * 5 + t)))), (0, .ref (a 0)), (1, .int (nI iN)), (2, .int (nI jN)), (3, .int (nI kN)), (4, .int (nI (co + F_fil g.2.2.2.2.2 q 5))), (5, .int y), (6, .int (nI q)), (7, .int (nI t))]) X dX5_weeks_206 (by decide) rfl ?_
                          refine x_iload X dX5_weeks_208 6 rfl ?_
                          refine x_iload X dX5_weeks_210 0 rfl ?_
                          refine x_if_ne 219 X dX5_weeks_212 (by decide) (fun c_8 => ?_) (fun c_8 => ?_)
                          · -- 212 t
                            have hz : ¬ g.2.2.2.2.2 (q * 5 + t) = nI 100 := fun r => c_8 ((enc_0 (hgl _ (by omega))).mpr r)
                            refine x_iload X dX5_weeks_219 0 rfl ?_
                            refine x_bipush (v := nI 10) X dX5_weeks_221 (by decide) ?_
                            refine x_isub (v := (enc (g.2.2.2.2.2 (q * 5 + t))) - (nI 10)) X dX5_weeks_223 rfl ?_
                            refine x_iadd (v := y + ((enc (g.2.2.2.2.2 (q * 5 + t))) - (nI 10))) X dX5_weeks_224 rfl ?_
                            refine x_istore (lv' := [(5, .int (y + ((enc (g.2.2.2.2.2 (q * 5 + t))) - (nI 10)))), (8, .int (enc (g.2.2.2.2.2 (q * 5 + t)))), (0, .ref (a 0)), (1, .int (nI iN)), (2, .int (nI jN)), (3, .int (nI kN)), (4, .int (nI (co + F_fil g.2.2.2.2.2 q 5))), (6, .int (nI q)), (7, .int (nI t))]) X dX5_weeks_225 (by decide) rfl ?_
                            refine x_iinc (v := nI (t + 1)) (lv' := [(7, .int (nI (t + 1))), (5, .int (y + ((enc (g.2.2.2.2.2 (q * 5 + t))) - (nI 10)))), (8, .int (enc (g.2.2.2.2.2 (q * 5 + t)))), (0, .ref (a 0)), (1, .int (nI iN)), (2, .int (nI jN)), (3, .int (nI kN)), (4, .int (nI (co + F_fil g.2.2.2.2.2 q 5))), (6, .int (nI q))]) X dX5_weeks_227 8 rfl (nI_1 _) (by decide) rfl ?_
                            refine x_goto 185 X dX5_weeks_230 (by decide) ?_
                            refine x_lv (lv' := [(0, .ref (a 0)), (1, .int (nI iN)), (2, .int (nI jN)), (3, .int (nI kN)), (4, .int (nI (co + F_fil g.2.2.2.2.2 q 5))), (5, .int (y + ((enc (g.2.2.2.2.2 (q * 5 + t))) - (nI 10)))), (6, .int (nI q)), (7, .int (nI (t + 1)))]) X [3, 4, 5, 6, 7, 1, 8, 0] rfl ?_
                            exact ih_L185_2 (t + 1) (y + ((enc (g.2.2.2.2.2 (q * 5 + t))) - (nI 10))) (by omega) (by omega) (by rw [hy, a500, F_sum]; first | rw [if_neg hz, enc_sub hz] | rw [if_pos hz])
                          · -- 212 f
                            have hz : g.2.2.2.2.2 (q * 5 + t) = nI 100 := (enc_0 (hgl _ (by omega))).mp c_8
                            refine x_iconst (v := nI 0) X dX5_weeks_215 (by decide) ?_
                            refine x_goto 224 X dX5_weeks_216 (by decide) ?_
                            refine x_iadd (v := y + (nI 0)) X dX5_weeks_224 rfl ?_
                            refine x_istore (lv' := [(5, .int (y + (nI 0))), (8, .int (enc (g.2.2.2.2.2 (q * 5 + t)))), (0, .ref (a 0)), (1, .int (nI iN)), (2, .int (nI jN)), (3, .int (nI kN)), (4, .int (nI (co + F_fil g.2.2.2.2.2 q 5))), (6, .int (nI q)), (7, .int (nI t))]) X dX5_weeks_225 (by decide) rfl ?_
                            refine x_iinc (v := nI (t + 1)) (lv' := [(7, .int (nI (t + 1))), (5, .int (y + (nI 0))), (8, .int (enc (g.2.2.2.2.2 (q * 5 + t)))), (0, .ref (a 0)), (1, .int (nI iN)), (2, .int (nI jN)), (3, .int (nI kN)), (4, .int (nI (co + F_fil g.2.2.2.2.2 q 5))), (6, .int (nI q))]) X dX5_weeks_227 8 rfl (nI_1 _) (by decide) rfl ?_
                            refine x_goto 185 X dX5_weeks_230 (by decide) ?_
                            refine x_lv (lv' := [(0, .ref (a 0)), (1, .int (nI iN)), (2, .int (nI jN)), (3, .int (nI kN)), (4, .int (nI (co + F_fil g.2.2.2.2.2 q 5))), (5, .int (y + (nI 0))), (6, .int (nI q)), (7, .int (nI (t + 1)))]) X [3, 4, 5, 6, 7, 1, 8, 0] rfl ?_
                            exact ih_L185_2 (t + 1) (y + (nI 0)) (by omega) (by omega) (by rw [hy, a500, F_sum]; first | rw [if_neg hz, enc_sub hz] | rw [if_pos hz])
                    refine x_lv (lv' := [(0, .ref (a 0)), (1, .int (nI iN)), (2, .int (nI jN)), (3, .int (nI kN)), (4, .int (nI (co + F_fil g.2.2.2.2.2 q 5))), (5, .int u), (6, .int (nI q)), (7, .int (nI 0))]) X [2, 3, 4, 5, 1, 6, 7, 0] rfl ?_
                    exact L185_2 _ 0 u (Nat.lt_succ_self _) (by omega) (by rw [hu]; rfl)
              refine x_lv (lv' := [(0, .ref (a 0)), (1, .int (nI iN)), (2, .int (nI jN)), (3, .int (nI kN)), (4, .int (nI 0)), (5, .int (nI 500)), (6, .int (nI 0))]) X [3, 4, 5, 6, 2, 1, 0] rfl ?_
              exact L162_1 _ 0 0 (nI 500) (Nat.lt_succ_self _) (by omega) (by omega) (rfl) (show nI 500 = nI 0 + nI 500 by decide)
            · -- 42 f
              refine x_ldc2 (v := lN 7919) X wk_X5_170 dX5_weeks_45 ?_
              refine x_iloadn X dX5_weeks_48 1 rfl ?_
              refine x_i2l (v := lN iN) X dX5_weeks_49 (nI_l (by omega)) ?_
              refine x_lmul (v := lN (7919 * iN)) X dX5_weeks_50 (lN_mul _ _) ?_
              refine x_ldc2 (v := lN 6151) X wk_X5_172 dX5_weeks_51 ?_
              refine x_iload X dX5_weeks_54 4 rfl ?_
              refine x_i2l (v := lN k) X dX5_weeks_56 (nI_l (by omega)) ?_
              refine x_lmul (v := lN (6151 * k)) X dX5_weeks_57 (lN_mul _ _) ?_
              refine x_ladd (v := lN (7919 * iN + (6151 * k))) X dX5_weeks_58 (lN_add _ _) ?_
              refine x_lconst (v := lN 1) X dX5_weeks_59 (by decide) ?_
              refine x_ladd (v := lN ((7919 * iN + (6151 * k)) + 1)) X dX5_weeks_60 (lN_add _ _) ?_
              refine x_lstore (lv' := [(5, .long (lN ((7919 * iN + (6151 * k)) + 1))), (0, .ref (a 0)), (1, .int (nI iN)), (2, .int (nI jN)), (3, .int (nI kN)), (4, .int (nI k))]) X dX5_weeks_61 (by decide) rfl ?_
              refine x_lload X dX5_weeks_63 0 rfl ?_
              refine x_lload X dX5_weeks_65 0 rfl ?_
              refine x_lmul (v := lN (((7919 * iN + (6151 * k)) + 1) * ((7919 * iN + (6151 * k)) + 1))) X dX5_weeks_67 (lN_mul _ _) ?_
              refine x_ldc2 (v := lN 65521) X wk_X5_174 dX5_weeks_68 ?_
              refine x_lrem (v := lN ((((7919 * iN + (6151 * k)) + 1) * ((7919 * iN + (6151 * k)) + 1)) % 65521)) X dX5_weeks_71 (by decide) (pk_lRem (draw_sq (by omega) (by omega)) (by decide) (by decide)) ?_
              refine x_ldc2 (v := lN 2) X wk_X5_176 dX5_weeks_72 ?_
              refine x_ldiv (v := lN (((((7919 * iN + (6151 * k)) + 1) * ((7919 * iN + (6151 * k)) + 1)) % 65521) / 2)) X dX5_weeks_75 (by decide) (pk_lDiv (Nat.lt_trans (Nat.mod_lt _ (by decide)) (by decide)) (by decide) (by decide)) ?_
              refine x_l2i (v := nI (((((7919 * iN + (6151 * k)) + 1) * ((7919 * iN + (6151 * k)) + 1)) % 65521) / 2)) X dX5_weeks_76 (lN_i _) ?_
              refine x_int (show nI (((((7919 * iN + (6151 * k)) + 1) * ((7919 * iN + (6151 * k)) + 1)) % 65521) / 2) = nI (F_draw iN k) from rfl) ?_
              have hdr := F_draw_lt iN k
              have hm1 := Nat.mod_lt (F_draw iN k) hs1
              have hm2 := Nat.mod_lt k hq1
              refine x_istore (lv' := [(7, .int (nI (F_draw iN k))), (5, .long (lN ((7919 * iN + (6151 * k)) + 1))), (0, .ref (a 0)), (1, .int (nI iN)), (2, .int (nI jN)), (3, .int (nI kN)), (4, .int (nI k))]) X dX5_weeks_77 (by decide) rfl ?_
              refine x_iload X dX5_weeks_79 0 rfl ?_
              refine x_aloadn X dX5_weeks_81 2 rfl ?_
              refine x_get X wu_X5 0 rfl rfl 0 (by decide) wf_X5_60 rfl rfl dX5_weeks_82 ?_
              refine x_irem (v := nI ((F_draw iN k) % s.1)) X dX5_weeks_85 (nI_ne0 (by omega) (by omega)) (pk_rem (by omega) (by omega) (by omega)) ?_
              refine x_istore (lv' := [(8, .int (nI ((F_draw iN k) % s.1))), (7, .int (nI (F_draw iN k))), (5, .long (lN ((7919 * iN + (6151 * k)) + 1))), (0, .ref (a 0)), (1, .int (nI iN)), (2, .int (nI jN)), (3, .int (nI kN)), (4, .int (nI k))]) X dX5_weeks_86 (by decide) rfl ?_
              refine x_iload X dX5_weeks_88 1 rfl ?_
              refine x_bipush (v := nI 8) X dX5_weeks_90 (by decide) ?_
              refine x_idiv (v := nI ((F_draw iN k) / 8)) X dX5_weeks_92 (by decide) (pk_div (by omega) (by omega) (by omega)) ?_
              refine x_iconst (v := nI 5) X dX5_weeks_93 (by decide) ?_
              refine x_irem (v := nI (((F_draw iN k) / 8) % 5)) X dX5_weeks_94 (by decide) (pk_rem (by omega) (by omega) (by omega)) ?_
              refine x_istore (lv' := [(9, .int (nI (((F_draw iN k) / 8) % 5))), (8, .int (nI ((F_draw iN k) % s.1))), (7, .int (nI (F_draw iN k))), (5, .long (lN ((7919 * iN + (6151 * k)) + 1))), (0, .ref (a 0)), (1, .int (nI iN)), (2, .int (nI jN)), (3, .int (nI kN)), (4, .int (nI k))]) X dX5_weeks_95 (by decide) rfl ?_
              refine x_aloadn X dX5_weeks_97 4 rfl ?_
              refine x_get X wu_X5 0 rfl rfl 18 (by decide) wf_X5_37 rfl rfl dX5_weeks_98 ?_
              refine x_bipush (v := nI 36) X dX5_weeks_101 (by decide) ?_
              refine x_iconst (v := nI 5) X dX5_weeks_103 (by decide) ?_
              refine x_iload X dX5_weeks_104 8 rfl ?_
              refine x_aloadn X dX5_weeks_106 4 rfl ?_
              refine x_get X wu_X5 0 rfl rfl 2 (by decide) wf_X5_67 rfl rfl dX5_weeks_107 ?_
              refine x_irem (v := nI (k % s.2.1)) X dX5_weeks_110 (nI_ne0 (by omega) (by omega)) (pk_rem (by omega) (by omega) (by omega)) ?_
              refine x_imul (v := nI (5 * (k % s.2.1))) X dX5_weeks_111 (pk_mul _ _) ?_
              refine x_iadd (v := nI (36 + (5 * (k % s.2.1)))) X dX5_weeks_112 (nI_add _ _) ?_
              refine x_iload X dX5_weeks_113 0 rfl ?_
              refine x_iadd (v := nI ((36 + (5 * (k % s.2.1))) + (((F_draw iN k) / 8) % 5))) X dX5_weeks_115 (nI_add _ _) ?_
              refine x_aloadn X dX5_weeks_116 4 rfl ?_
              refine x_iload X dX5_weeks_117 1 rfl ?_
              refine x_aloadn X dX5_weeks_119 4 rfl ?_
              refine x_get X wu_X5 0 rfl rfl 18 (by decide) wf_X5_37 rfl rfl dX5_weeks_120 ?_
              refine x_iconst (v := nI 0) X dX5_weeks_123 (by decide) ?_
              refine x_iload X dX5_weeks_124 1 rfl ?_
              refine x_iadd (v := nI (0 + ((F_draw iN k) % s.1))) X dX5_weeks_126 (nI_add _ _) ?_
              refine x_iald_n (v := g.2.2.2.1 ((F_draw iN k) % s.1)) X 10 rfl (by omega) (by omega) (en_mi _ (by omega)) dX5_weeks_127 ?_
              obtain ⟨em, hm6⟩ := inR_eq (hmi (F_draw iN k % s.1) (by omega)) (by decide)
              have em2 : g.2.2.2.1 ((F_draw iN k) % s.1) = nI (tn (s.2.2.2.1 (F_draw iN k % s.1))) := by rw [hg]; exact em
              refine x_int em2 ?_
              refine x_iload X dX5_weeks_128 0 rfl ?_
              refine x_iload X dX5_weeks_130 2 rfl ?_
              refine x_bipush (v := nI 64) X dX5_weeks_132 (by decide) ?_
              refine x_idiv (v := nI ((F_draw iN k) / 64)) X dX5_weeks_134 (by decide) (pk_div (by omega) (by omega) (by omega)) ?_
              refine x_bipush (v := nI 11) X dX5_weeks_135 (by decide) ?_
              refine x_irem (v := nI (((F_draw iN k) / 64) % 11)) X dX5_weeks_137 (by decide) (pk_rem (by omega) (by omega) (by omega)) ?_
              refine x_callVrv (As := [.int (nI ((F_draw iN k) % s.1)), .int (nI (tn (s.2.2.2.1 (F_draw iN k % s.1)))), .int (nI (((F_draw iN k) / 8) % 5)), .int (nI (((F_draw iN k) / 64) % 11))]) (rest := [.int (nI ((36 + (5 * (k % s.2.1))) + (((F_draw iN k) / 8) % 5))), .ref (a 10)]) X (c_X5_writes l G a s.1 s.2.1 na nk ns nl pa rp rq kd (en s) W Kp sg le tl rk rd rw g ((F_draw iN k) % s.1) (tn (s.2.2.2.1 (F_draw iN k % s.1))) (((F_draw iN k) / 8) % 5) (nI (((F_draw iN k) / 64) % 11)) (by omega) (by omega) (by omega) (by rw [hg]; exact hkd _ (by omega))) xE0_ok (fun _ _ _ => trivial) [0, 1, 2, 3, 4, 5, 6, 7, 8, 9, 10, 11] rfl 0 rfl rfl rfl rfl wco_X5_writes wi_X5 xd_X5_writes wl_X5_146 win_X5_writes wse_X5_writes (by decide) (Nat.le_of_ble_eq_true rfl) dX5_weeks_138 ?_
              refine x_bipush (v := nI 10) X dX5_weeks_141 (by decide) ?_
              refine x_iadd (v := (F_wf g ((F_draw iN k) % s.1) (tn (s.2.2.2.1 (F_draw iN k % s.1))) (((F_draw iN k) / 8) % 5) (nI (((F_draw iN k) / 64) % 11))) + (nI 10)) X dX5_weeks_143 rfl ?_
              refine x_iast_n (g := en (g.1, g.2.1, g.2.2.1, g.2.2.2.1, g.2.2.2.2.1, upd g.2.2.2.2.2 (k % s.2.1 * 5 + F_draw iN k / 8 % 5) (F_wf g (F_draw iN k % s.1) (tn (s.2.2.2.1 (F_draw iN k % s.1))) (F_draw iN k / 8 % 5) (nI (F_draw iN k / 64 % 11))))) (ws' := wMo G a s.1 s.2.1 na nk ns nl pa rp rq kd (en s) W Kp sg le tl rk rd (en (g.1, g.2.1, g.2.2.1, g.2.2.2.1, g.2.2.2.2.1, upd g.2.2.2.2.2 (k % s.2.1 * 5 + F_draw iN k / 8 % 5) (F_wf g (F_draw iN k % s.1) (tn (s.2.2.2.1 (F_draw iN k % s.1))) (F_draw iN k / 8 % 5) (nI (F_draw iN k / 64 % 11))))) rw) X 10 rfl (by omega) (by omega) (en_upli _ _ _ _ _ (enc_add (bd_n100 (wf_bd (by rw [hg]; exact hbv) (by omega) hm6 (by omega) (by omega))))) rfl dX5_weeks_144 ?_
              refine x_iinc (v := nI (k + 1)) (lv' := [(4, .int (nI (k + 1))), (9, .int (nI (((F_draw iN k) / 8) % 5))), (8, .int (nI ((F_draw iN k) % s.1))), (7, .int (nI (F_draw iN k))), (5, .long (lN ((7919 * iN + (6151 * k)) + 1))), (0, .ref (a 0)), (1, .int (nI iN)), (2, .int (nI jN)), (3, .int (nI kN))]) X dX5_weeks_145 8 rfl (nI_1 _) (by decide) rfl ?_
              refine x_goto 39 X dX5_weeks_148 (by decide) ?_
              refine x_lv (lv' := [(0, .ref (a 0)), (1, .int (nI iN)), (2, .int (nI jN)), (3, .int (nI kN)), (4, .int (nI (k + 1)))]) X [5, 6, 7, 8, 0] rfl ?_
              exact ih_L39 (k + 1) (g.1, g.2.1, g.2.2.1, g.2.2.2.1, g.2.2.2.2.1, upd g.2.2.2.2.2 (k % s.2.1 * 5 + F_draw iN k / 8 % 5) (F_wf g (F_draw iN k % s.1) (tn (s.2.2.2.1 (F_draw iN k % s.1))) (F_draw iN k / 8 % 5) (nI (F_draw iN k / 64 % 11)))) (by omega) (by omega) (by rw [hg]; rfl)
        refine x_lv (lv' := [(0, .ref (a 0)), (1, .int (nI iN)), (2, .int (nI jN)), (3, .int (nI kN)), (4, .int (nI 0))]) X [1, 2, 3, 4, 0] rfl ?_
        exact L39 _ 0 s (Nat.lt_succ_self _) (by omega) (rfl)
      · -- 27 f
        refine x_iconst (v := (-1)) X dX5_weeks_30 (by decide) ?_
        exact x_ret X dX5_weeks_31 ⟨ret_i (by simp [F_weeks, wOk2B, wkS, tn, c_1, qiN, c_2, qjN, c_3]), ⟨nw, rfl⟩, by decide, by decide⟩
set_option maxRecDepth 100000 in
set_option maxHeartbeats 4000000 in
/-- X5_who -/
theorem c_X5_who (l : Launch) (G : xG) (a : Nat → Nat) (na : Nat) (nk : Nat) (ns : Nat) (nl : Nat) (pa : Nat) (rp : Nat) (rq : Nat) (kd : Nat → Int32) (W : Nat → Int32) (Kp : Nat → Int32) (sg : Nat → Int32) (le : Nat → Int32) (tl : Nat → Int32) (rk : Nat → Int32) (rd : Nat → Int32) (nw : Nat → Int32) (rw : Nat → Int32) (s : xS) (th : Nat → Int32) (sa : Nat → Int32) (i : Int32) (hs6 : s.1 ≤ 6) (hs1 : 0 < s.1) (hq5 : s.2.1 ≤ 5) (hq1 : 0 < s.2.1) (hkd : ∀ p, p < s.1 → kd p = s.2.2.1 p) (hmi : ∀ j, j < 6 → inR (s.2.2.2.1 j) 6 = true) (hbv : ∀ j, j < 30 → bd (s.2.2.2.2.1 j)) (hbl : ∀ j, j < 25 → bl (s.2.2.2.2.2 j)) (hns : ns ≤ 6) (hsg : ∀ k, k < ns → sg (2 * k) = th k ∧ sg (2 * k + 1) = sa k + nI 9) (hth : ∀ k, k < ns → inR (th k) 5 = true) : xM l G xE0 yX5_who cX5_who 8 (some .int) 3 73 0 0 [.ref (a 0), .int i] (wMo G a s.1 s.2.1 na nk ns nl pa rp rq kd (en s) W Kp sg le tl rk rd nw rw) (some (.int (F_who s th sa ns i))) (fun w2 => ∃ nw' : Nat → Int32, w2 = wMo G a s.1 s.2.1 na nk ns nl pa rp rq kd (en s) W Kp sg le tl rk rd nw' rw) := by
  refine x_entry (by decide +kernel) (Nat.le_of_ble_eq_true rfl) rfl ⟨_, rfl, rfl⟩ (fun K X => ?_)
  refine x_iloadn X dX5_who_0 1 rfl ?_
  refine x_iconst (v := nI 0) X dX5_who_1 (by decide) ?_
  refine x_iconst (v := nI 1) X dX5_who_2 (by decide) ?_
  refine x_callSrv (As := [.int i, .int (nI 0), .int (nI 1)]) (rest := []) X (c_X5_in__R l G i 1 (by omega)) xE0_ok (fun _ _ _ => trivial) [] rfl rfl rfl wco_X5_in wi_X5 xd_X5_in wl_X5_63 wst_X5_in (by decide) (Nat.le_of_ble_eq_true rfl) dX5_who_3 ?_
  refine x_ifne_b 11 X dX5_who_6 (by decide) (fun c_1 => ?_) (fun c_1 => ?_)
  · -- 6 t
    obtain ⟨iN, hiN, rfl⟩ := inR_nat c_1 (by omega)
    have qiN : (nI iN).toNatClampNeg = iN := nI_clamp (by omega)
    refine x_aloadn X dX5_who_11 0 rfl ?_
    refine x_callVf0 (As := []) (rest := []) (w1 := wMo G a s.1 s.2.1 na nk ns nl pa rp rq kd (en s) W Kp sg le tl rk rd (en s) rw) (ws' := wMo G a s.1 s.2.1 na nk ns nl pa rp rq kd (en s) W Kp sg le tl rk rd (en s) rw) X (c_X5_asItIs l G a s.1 s.2.1 na nk ns nl pa rp rq kd (en s) W Kp sg le tl rk rd nw rw) xE0_ok (fun _ _ _ => trivial) [0, 1, 2, 3, 4, 5, 6, 7, 8, 9, 10, 11] rfl 0 rfl rfl rfl rfl wco_X5_asItIs wi_X5 xd_X5_asItIs wl_X5_143 win_X5_asItIs wse_X5_asItIs (by decide) (Nat.le_of_ble_eq_true rfl) dX5_who_12 rfl (Eq.trans (b := [a 0, a 1, a 2, a 3, a 4, a 5, a 6, a 7, a 8, a 9, a 10, a 11]) rfl rfl) rfl ?_
    refine x_iconst (v := nI 0) X dX5_who_15 (by decide) ?_
    refine x_istoren (lv' := [(2, .int (nI 0)), (0, .ref (a 0)), (1, .int (nI iN))]) X dX5_who_16 (by decide) rfl ?_
    refine x_bipush (v := (-4)) X dX5_who_17 (by decide) ?_
    refine x_istoren (lv' := [(3, .int (-4)), (2, .int (nI 0)), (0, .ref (a 0)), (1, .int (nI iN))]) X dX5_who_19 (by decide) rfl ?_
    refine x_aloadn X dX5_who_20 2 rfl ?_
    refine x_get X wu_X5 0 rfl rfl 0 (by decide) wf_X5_60 rfl rfl dX5_who_21 ?_
    refine x_iconst (v := nI 1) X dX5_who_24 (by decide) ?_
    refine x_isub (v := (nI s.1) - (nI 1)) X dX5_who_25 rfl ?_
    refine x_istore (lv' := [(4, .int ((nI s.1) - (nI 1))), (3, .int (-4)), (2, .int (nI 0)), (0, .ref (a 0)), (1, .int (nI iN))]) X dX5_who_26 (by decide) rfl ?_
    have L28 : ∀ (fu : Nat) (x : Nat) (u : Int32) (v : Int32), x < fu → (x ≤ s.1) → ((u, v) = mWho1 s th sa ns (s.1 - x)) → K (wMo G a s.1 s.2.1 na nk ns nl pa rp rq kd (en s) W Kp sg le tl rk rd (en s) rw) 0 0 28 [(0, .ref (a 0)), (1, .int (nI iN)), (2, .int u), (3, .int v), (4, .int (nI x - nI 1))] [] := by
      intro fu
      induction fu with
      | zero => intro x u v hfu; exact absurd hfu (Nat.not_lt_zero _)
      | succ fu ih_L28 =>
        intro x u v hfu_L28 hx hu
        refine x_iload X dX5_who_28 4 rfl ?_
        rcases x with _ | xp
        · -- True
          refine x_int m1_0 ?_
          refine x_if_lt 138 X dX5_who_30 (by decide) (fun c_2 => ?_) (fun c_2 => ?_)
          · -- 30 t
            refine x_iloadn X dX5_who_138 1 rfl ?_
            refine x_if_ne_n 146 X dX5_who_139 (by decide) (by omega) (fun c_3 => ?_) (fun c_3 => ?_)
            · -- 139 t
              refine x_iloadn X dX5_who_146 3 rfl ?_
              exact x_ret X dX5_who_147 ⟨ret_i (by have he := hu; rw [Nat.sub_zero, mWho_eq s th sa ns hs6] at he; simp [F_who, tn, ← he, c_1, qiN, c_2, c_3]), ⟨(en s), rfl⟩, by decide, by decide⟩
            · -- 139 f
              refine x_iloadn X dX5_who_142 2 rfl ?_
              refine x_goto 147 X dX5_who_143 (by decide) ?_
              exact x_ret X dX5_who_147 ⟨ret_i (by have he := hu; rw [Nat.sub_zero, mWho_eq s th sa ns hs6] at he; simp [F_who, tn, ← he, c_1, qiN, c_2, (eq_true c_3)]), ⟨(en s), rfl⟩, by decide, by decide⟩
          · -- 30 f
            first | exact absurd c_2 (by omega) | exact absurd (by decide) c_2
        · -- False
          refine x_int (pre_nI _) ?_
          refine x_if_lt_n 138 X dX5_who_30 (by decide) (by omega) (fun c_4 => ?_) (fun c_4 => ?_)
          · -- 30 t
            first | exact absurd c_4 (by omega) | exact absurd (by decide) c_4
          · -- 30 f
            refine x_aloadn X dX5_who_33 0 rfl ?_
            refine x_get X wu_X5 0 rfl rfl 0 (by decide) wf_X5_60 rfl rfl dX5_who_34 ?_
            refine x_iconst (v := nI 1) X dX5_who_37 (by decide) ?_
            refine x_isub (v := (nI s.1) - (nI 1)) X dX5_who_38 rfl ?_
            refine x_istore (lv' := [(5, .int ((nI s.1) - (nI 1))), (0, .ref (a 0)), (1, .int (nI iN)), (2, .int u), (3, .int v), (4, .int (nI (xp + 1) - nI 1))]) X dX5_who_39 (by decide) rfl ?_
            have L41_1 : ∀ (fu : Nat) (y : Nat) (u : Int32) (v : Int32), y < fu → (y ≤ s.1) → ((u, v) = mWho2 s th sa ns xp (mWho1 s th sa ns (s.1 - (xp + 1))) (s.1 - y)) → K (wMo G a s.1 s.2.1 na nk ns nl pa rp rq kd (en s) W Kp sg le tl rk rd (en s) rw) 0 0 41 [(0, .ref (a 0)), (1, .int (nI iN)), (2, .int u), (3, .int v), (4, .int (nI (xp + 1) - nI 1)), (5, .int (nI y - nI 1))] [] := by
              intro fu
              induction fu with
              | zero => intro y u v hfu; exact absurd hfu (Nat.not_lt_zero _)
              | succ fu ih_L41_1 =>
                intro y u v hfu_L41_1 hy hu2
                refine x_iload X dX5_who_41 5 rfl ?_
                rcases y with _ | yp
                · -- True
                  refine x_int m1_0 ?_
                  refine x_if_lt 132 X dX5_who_43 (by decide) (fun c_5 => ?_) (fun c_5 => ?_)
                  · -- 43 t
                    refine x_iinc (v := nI xp - nI 1) (lv' := [(4, .int (nI xp - nI 1)), (0, .ref (a 0)), (1, .int (nI iN)), (2, .int u), (3, .int v), (5, .int (nI 0 - nI 1))]) X dX5_who_132 4 rfl (pre_2 _) (by decide) rfl ?_
                    refine x_goto 28 X dX5_who_135 (by decide) ?_
                    refine x_lv (lv' := [(0, .ref (a 0)), (1, .int (nI iN)), (2, .int u), (3, .int v), (4, .int (nI xp - nI 1))]) X [1, 2, 3, 4, 0] rfl ?_
                    exact ih_L28 xp u v (by omega) (by omega) (by rw [hu2, show s.1 - xp = (s.1 - (xp + 1)) + 1 by omega, mWho1, show s.1 - 1 - (s.1 - (xp + 1)) = xp by omega, Nat.sub_zero])
                  · -- 43 f
                    first | exact absurd c_5 (by omega) | exact absurd (by decide) c_5
                · -- False
                  refine x_int (pre_nI _) ?_
                  refine x_if_lt_n 132 X dX5_who_43 (by decide) (by omega) (fun c_6 => ?_) (fun c_6 => ?_)
                  · -- 43 t
                    first | exact absurd c_6 (by omega) | exact absurd (by decide) c_6
                  · -- 43 f
                    refine x_bipush (v := nI 10) X dX5_who_46 (by decide) ?_
                    refine x_istore (lv' := [(6, .int (nI 10)), (0, .ref (a 0)), (1, .int (nI iN)), (2, .int u), (3, .int v), (4, .int (nI (xp + 1) - nI 1)), (5, .int (nI (yp + 1) - nI 1))]) X dX5_who_48 (by decide) rfl ?_
                    have L50_2 : ∀ (fu : Nat) (z : Nat) (u : Int32) (v : Int32), z < fu → (z ≤ 11) → ((u, v) = mWho3 s th sa ns xp yp (mWho2 s th sa ns xp (mWho1 s th sa ns (s.1 - (xp + 1))) (s.1 - (yp + 1))) (11 - z)) → K (wMo G a s.1 s.2.1 na nk ns nl pa rp rq kd (en s) W Kp sg le tl rk rd (en s) rw) 0 0 50 [(0, .ref (a 0)), (1, .int (nI iN)), (2, .int u), (3, .int v), (4, .int (nI (xp + 1) - nI 1)), (5, .int (nI (yp + 1) - nI 1)), (6, .int (nI z - nI 1))] [] := by
                      intro fu
                      induction fu with
                      | zero => intro z u v hfu; exact absurd hfu (Nat.not_lt_zero _)
                      | succ fu ih_L50_2 =>
                        intro z u v hfu_L50_2 hz hu3
                        refine x_iload X dX5_who_50 6 rfl ?_
                        rcases z with _ | zp
                        · -- True
                          refine x_int m1_0 ?_
                          refine x_if_lt 126 X dX5_who_52 (by decide) (fun c_7 => ?_) (fun c_7 => ?_)
                          · -- 52 t
                            refine x_iinc (v := nI yp - nI 1) (lv' := [(5, .int (nI yp - nI 1)), (0, .ref (a 0)), (1, .int (nI iN)), (2, .int u), (3, .int v), (4, .int (nI (xp + 1) - nI 1)), (6, .int (nI 0 - nI 1))]) X dX5_who_126 5 rfl (pre_2 _) (by decide) rfl ?_
                            refine x_goto 41 X dX5_who_129 (by decide) ?_
                            refine x_lv (lv' := [(0, .ref (a 0)), (1, .int (nI iN)), (2, .int u), (3, .int v), (4, .int (nI (xp + 1) - nI 1)), (5, .int (nI yp - nI 1))]) X [1, 2, 3, 4, 5, 0] rfl ?_
                            exact ih_L41_1 yp u v (by omega) (by omega) (by rw [hu3, show s.1 - yp = (s.1 - (yp + 1)) + 1 by omega, mWho2, show s.1 - 1 - (s.1 - (yp + 1)) = yp by omega, Nat.sub_zero])
                          · -- 52 f
                            first | exact absurd c_7 (by omega) | exact absurd (by decide) c_7
                        · -- False
                          refine x_int (pre_nI _) ?_
                          refine x_if_lt_n 126 X dX5_who_52 (by decide) (by omega) (fun c_8 => ?_) (fun c_8 => ?_)
                          · -- 52 t
                            first | exact absurd c_8 (by omega) | exact absurd (by decide) c_8
                          · -- 52 f
                            refine x_iload X dX5_who_55 5 rfl ?_
                            refine x_int (pre_nI _) ?_
                            refine x_iload X dX5_who_57 4 rfl ?_
                            refine x_int (pre_nI _) ?_
                            refine x_icmp_eq_n 79 X dX5_who_59 (by decide) (by omega) (by omega) (fun c_9 => ?_) (fun c_9 => ?_)
                            · -- 59 t
                              refine x_iconst (v := nI 0) X dX5_who_79 (by decide) ?_
                              refine x_istore (lv' := [(7, .int (nI 0)), (0, .ref (a 0)), (1, .int (nI iN)), (2, .int u), (3, .int v), (4, .int (nI (xp + 1) - nI 1)), (5, .int (nI (yp + 1) - nI 1)), (6, .int (nI (zp + 1) - nI 1))]) X dX5_who_80 (by decide) rfl ?_
                              refine x_iloadn X dX5_who_82 3 rfl ?_
                              refine x_iload X dX5_who_83 0 rfl ?_
                              refine x_if_eq_n 92 X dX5_who_85 (by decide) (by omega) (fun c_10 => ?_) (fun c_10 => ?_)
                              · -- 85 t
                                refine x_iconst (v := nI 0) X dX5_who_92 (by decide) ?_
                                refine x_iadd (v := u + (nI 0)) X dX5_who_93 rfl ?_
                                refine x_istoren (lv' := [(2, .int (u + (nI 0))), (7, .int (nI 0)), (0, .ref (a 0)), (1, .int (nI iN)), (3, .int v), (4, .int (nI (xp + 1) - nI 1)), (5, .int (nI (yp + 1) - nI 1)), (6, .int (nI (zp + 1) - nI 1))]) X dX5_who_94 (by decide) rfl ?_
                                refine x_iload X dX5_who_95 1 rfl ?_
                                refine x_if_eq_n 118 X dX5_who_97 (by decide) (by omega) (fun c_11 => ?_) (fun c_11 => ?_)
                                · -- 97 t
                                  refine x_iloadn X dX5_who_118 4 rfl ?_
                                  refine x_istoren (lv' := [(3, .int v), (2, .int (u + (nI 0))), (7, .int (nI 0)), (0, .ref (a 0)), (1, .int (nI iN)), (4, .int (nI (xp + 1) - nI 1)), (5, .int (nI (yp + 1) - nI 1)), (6, .int (nI (zp + 1) - nI 1))]) X dX5_who_119 (by decide) rfl ?_
                                  refine x_iinc (v := nI zp - nI 1) (lv' := [(6, .int (nI zp - nI 1)), (3, .int v), (2, .int (u + (nI 0))), (7, .int (nI 0)), (0, .ref (a 0)), (1, .int (nI iN)), (4, .int (nI (xp + 1) - nI 1)), (5, .int (nI (yp + 1) - nI 1))]) X dX5_who_120 7 rfl (pre_2 _) (by decide) rfl ?_
                                  refine x_goto 50 X dX5_who_123 (by decide) ?_
                                  refine x_lv (lv' := [(0, .ref (a 0)), (1, .int (nI iN)), (2, .int (u + (nI 0))), (3, .int v), (4, .int (nI (xp + 1) - nI 1)), (5, .int (nI (yp + 1) - nI 1)), (6, .int (nI zp - nI 1))]) X [4, 5, 2, 1, 6, 7, 0] rfl ?_
                                  exact ih_L50_2 zp (u + (nI 0)) v (by omega) (by omega) (by have hw : P_who s th sa ns xp yp zp = false := (by simp [P_who, c_1, qiN, hx, hu, hy, hu2, hz, hu3, (eq_true c_9)]); rw [show 11 - zp = (11 - (zp + 1)) + 1 by omega, mWho3, ← hu3, show 10 - (11 - (zp + 1)) = zp by omega, hw]; rfl)
                                · -- 97 f
                                  exact absurd c_11 (by omega)
                              · -- 85 f
                                exact absurd c_10 (by omega)
                            · -- 59 f
                              refine x_aloadn X dX5_who_62 0 rfl ?_
                              refine x_iload X dX5_who_63 4 rfl ?_
                              refine x_int (pre_nI _) ?_
                              refine x_iload X dX5_who_65 5 rfl ?_
                              refine x_int (pre_nI _) ?_
                              refine x_iload X dX5_who_67 6 rfl ?_
                              refine x_int (pre_nI _) ?_
                              refine x_callVrv (As := [.int (nI xp), .int (nI yp), .int (nI zp)]) (rest := []) X (c_X5_isWritten l G a s.1 s.2.1 na nk ns nl pa rp rq kd (en s) W Kp sg le tl rk rd rw s th sa xp yp (nI zp) (by omega) (by omega) (hkd _ (by omega)) (by omega) (by assumption) (by assumption)) xE0_ok (fun _ _ _ => trivial) [0, 1, 2, 3, 4, 5, 6, 7, 8, 9, 10, 11] rfl 0 rfl rfl rfl rfl wco_X5_isWritten wi_X5 xd_X5_isWritten wl_X5_163 win_X5_isWritten wse_X5_isWritten (by decide) (Nat.le_of_ble_eq_true rfl) dX5_who_69 ?_
                              refine x_ifeq_b 79 X dX5_who_72 (by decide) (fun c_12 => ?_) (fun c_12 => ?_)
                              · -- 72 t
                                refine x_iconst (v := nI 0) X dX5_who_79 (by decide) ?_
                                refine x_istore (lv' := [(7, .int (nI 0)), (0, .ref (a 0)), (1, .int (nI iN)), (2, .int u), (3, .int v), (4, .int (nI (xp + 1) - nI 1)), (5, .int (nI (yp + 1) - nI 1)), (6, .int (nI (zp + 1) - nI 1))]) X dX5_who_80 (by decide) rfl ?_
                                refine x_iloadn X dX5_who_82 3 rfl ?_
                                refine x_iload X dX5_who_83 0 rfl ?_
                                refine x_if_eq_n 92 X dX5_who_85 (by decide) (by omega) (fun c_13 => ?_) (fun c_13 => ?_)
                                · -- 85 t
                                  refine x_iconst (v := nI 0) X dX5_who_92 (by decide) ?_
                                  refine x_iadd (v := u + (nI 0)) X dX5_who_93 rfl ?_
                                  refine x_istoren (lv' := [(2, .int (u + (nI 0))), (7, .int (nI 0)), (0, .ref (a 0)), (1, .int (nI iN)), (3, .int v), (4, .int (nI (xp + 1) - nI 1)), (5, .int (nI (yp + 1) - nI 1)), (6, .int (nI (zp + 1) - nI 1))]) X dX5_who_94 (by decide) rfl ?_
                                  refine x_iload X dX5_who_95 1 rfl ?_
                                  refine x_if_eq_n 118 X dX5_who_97 (by decide) (by omega) (fun c_14 => ?_) (fun c_14 => ?_)
                                  · -- 97 t
                                    refine x_iloadn X dX5_who_118 4 rfl ?_
                                    refine x_istoren (lv' := [(3, .int v), (2, .int (u + (nI 0))), (7, .int (nI 0)), (0, .ref (a 0)), (1, .int (nI iN)), (4, .int (nI (xp + 1) - nI 1)), (5, .int (nI (yp + 1) - nI 1)), (6, .int (nI (zp + 1) - nI 1))]) X dX5_who_119 (by decide) rfl ?_
                                    refine x_iinc (v := nI zp - nI 1) (lv' := [(6, .int (nI zp - nI 1)), (3, .int v), (2, .int (u + (nI 0))), (7, .int (nI 0)), (0, .ref (a 0)), (1, .int (nI iN)), (4, .int (nI (xp + 1) - nI 1)), (5, .int (nI (yp + 1) - nI 1))]) X dX5_who_120 7 rfl (pre_2 _) (by decide) rfl ?_
                                    refine x_goto 50 X dX5_who_123 (by decide) ?_
                                    refine x_lv (lv' := [(0, .ref (a 0)), (1, .int (nI iN)), (2, .int (u + (nI 0))), (3, .int v), (4, .int (nI (xp + 1) - nI 1)), (5, .int (nI (yp + 1) - nI 1)), (6, .int (nI zp - nI 1))]) X [4, 5, 2, 1, 6, 7, 0] rfl ?_
                                    exact ih_L50_2 zp (u + (nI 0)) v (by omega) (by omega) (by have hw : P_who s th sa ns xp yp zp = false := (by simp [P_who, c_1, qiN, hx, hu, hy, hu2, hz, hu3, c_9, c_12]); rw [show 11 - zp = (11 - (zp + 1)) + 1 by omega, mWho3, ← hu3, show 10 - (11 - (zp + 1)) = zp by omega, hw]; rfl)
                                  · -- 97 f
                                    exact absurd c_14 (by omega)
                                · -- 85 f
                                  exact absurd c_13 (by omega)
                              · -- 72 f
                                refine x_iconst (v := nI 1) X dX5_who_75 (by decide) ?_
                                refine x_goto 80 X dX5_who_76 (by decide) ?_
                                refine x_istore (lv' := [(7, .int (nI 1)), (0, .ref (a 0)), (1, .int (nI iN)), (2, .int u), (3, .int v), (4, .int (nI (xp + 1) - nI 1)), (5, .int (nI (yp + 1) - nI 1)), (6, .int (nI (zp + 1) - nI 1))]) X dX5_who_80 (by decide) rfl ?_
                                refine x_iloadn X dX5_who_82 3 rfl ?_
                                refine x_iload X dX5_who_83 0 rfl ?_
                                refine x_if_eq_n 92 X dX5_who_85 (by decide) (by omega) (fun c_15 => ?_) (fun c_15 => ?_)
                                · -- 85 t
                                  exact absurd c_15 (by omega)
                                · -- 85 f
                                  refine x_iconst (v := nI 1) X dX5_who_88 (by decide) ?_
                                  refine x_goto 93 X dX5_who_89 (by decide) ?_
                                  refine x_iadd (v := u + (nI 1)) X dX5_who_93 rfl ?_
                                  refine x_istoren (lv' := [(2, .int (u + (nI 1))), (7, .int (nI 1)), (0, .ref (a 0)), (1, .int (nI iN)), (3, .int v), (4, .int (nI (xp + 1) - nI 1)), (5, .int (nI (yp + 1) - nI 1)), (6, .int (nI (zp + 1) - nI 1))]) X dX5_who_94 (by decide) rfl ?_
                                  refine x_iload X dX5_who_95 1 rfl ?_
                                  refine x_if_eq_n 118 X dX5_who_97 (by decide) (by omega) (fun c_16 => ?_) (fun c_16 => ?_)
                                  · -- 97 t
                                    exact absurd c_16 (by omega)
                                  · -- 97 f
                                    refine x_sipush (v := nI 1000) X dX5_who_100 (by decide) ?_
                                    refine x_iload X dX5_who_103 5 rfl ?_
                                    refine x_int (pre_nI _) ?_
                                    refine x_imul (v := nI (1000 * xp)) X dX5_who_105 (pk_mul _ _) ?_
                                    refine x_bipush (v := nI 100) X dX5_who_106 (by decide) ?_
                                    refine x_iload X dX5_who_108 6 rfl ?_
                                    refine x_int (pre_nI _) ?_
                                    refine x_imul (v := nI (100 * yp)) X dX5_who_110 (pk_mul _ _) ?_
                                    refine x_iadd (v := nI (1000 * xp + (100 * yp))) X dX5_who_111 (nI_add _ _) ?_
                                    refine x_iload X dX5_who_112 7 rfl ?_
                                    refine x_int (pre_nI _) ?_
                                    refine x_iadd (v := nI ((1000 * xp + (100 * yp)) + zp)) X dX5_who_114 (nI_add _ _) ?_
                                    refine x_goto 119 X dX5_who_115 (by decide) ?_
                                    refine x_istoren (lv' := [(3, .int (nI ((1000 * xp + (100 * yp)) + zp))), (2, .int (u + (nI 1))), (7, .int (nI 1)), (0, .ref (a 0)), (1, .int (nI iN)), (4, .int (nI (xp + 1) - nI 1)), (5, .int (nI (yp + 1) - nI 1)), (6, .int (nI (zp + 1) - nI 1))]) X dX5_who_119 (by decide) rfl ?_
                                    refine x_iinc (v := nI zp - nI 1) (lv' := [(6, .int (nI zp - nI 1)), (3, .int (nI ((1000 * xp + (100 * yp)) + zp))), (2, .int (u + (nI 1))), (7, .int (nI 1)), (0, .ref (a 0)), (1, .int (nI iN)), (4, .int (nI (xp + 1) - nI 1)), (5, .int (nI (yp + 1) - nI 1))]) X dX5_who_120 7 rfl (pre_2 _) (by decide) rfl ?_
                                    refine x_goto 50 X dX5_who_123 (by decide) ?_
                                    refine x_lv (lv' := [(0, .ref (a 0)), (1, .int (nI iN)), (2, .int (u + (nI 1))), (3, .int (nI ((1000 * xp + (100 * yp)) + zp))), (4, .int (nI (xp + 1) - nI 1)), (5, .int (nI (yp + 1) - nI 1)), (6, .int (nI zp - nI 1))]) X [4, 5, 2, 1, 6, 7, 0] rfl ?_
                                    exact ih_L50_2 zp (u + (nI 1)) (nI ((1000 * xp + (100 * yp)) + zp)) (by omega) (by omega) (by have hw : P_who s th sa ns xp yp zp = true := (by simp [P_who, c_1, qiN, hx, hu, hy, hu2, hz, hu3, c_9, c_12]); rw [show 11 - zp = (11 - (zp + 1)) + 1 by omega, mWho3, ← hu3, show 10 - (11 - (zp + 1)) = zp by omega, hw]; rfl)
                    refine x_lv (lv' := [(0, .ref (a 0)), (1, .int (nI iN)), (2, .int u), (3, .int v), (4, .int (nI (xp + 1) - nI 1)), (5, .int (nI (yp + 1) - nI 1)), (6, .int (nI 11 - nI 1))]) X [1, 2, 3, 4, 5, 6, 0] rfl ?_
                    exact L50_2 _ 11 u v (Nat.lt_succ_self _) (by omega) (by rw [Nat.sub_self]; exact hu2)
            refine x_lv (lv' := [(0, .ref (a 0)), (1, .int (nI iN)), (2, .int u), (3, .int v), (4, .int (nI (xp + 1) - nI 1)), (5, .int (nI s.1 - nI 1))]) X [1, 2, 3, 4, 5, 0] rfl ?_
            exact L41_1 _ s.1 u v (Nat.lt_succ_self _) (by omega) (by rw [Nat.sub_self]; exact hu)
    refine x_lv (lv' := [(0, .ref (a 0)), (1, .int (nI iN)), (2, .int (nI 0)), (3, .int (-4)), (4, .int (nI s.1 - nI 1))]) X [3, 4, 2, 1, 0] rfl ?_
    exact L28 _ s.1 (nI 0) (-4) (Nat.lt_succ_self _) (by omega) (by rw [Nat.sub_self]; rfl)
  · -- 6 f
    refine x_iconst (v := (-1)) X dX5_who_9 (by decide) ?_
    exact x_ret X dX5_who_10 ⟨ret_i (by simp [F_who, tn, c_1]), ⟨nw, rfl⟩, by decide, by decide⟩
