/-! ===== the class's calls that change it ===== -/
def pLw (b : Bool) (lw sz : Nat) : Nat := if b = true then (if sz < 8 then lw else (lw + 1) % 8) else lw
def pSz (b : Bool) (sz : Nat) : Nat := if b = true then (if sz < 8 then sz + 1 else sz) else sz
def pCs (b : Bool) (cs : Nat → xS) (lw sz : Nat) (s : xS) : Nat → xS := if b = true then updS cs ((lw + sz) % 8) s else cs
def F_setOk (s : xS) (a p t n : Int32) : Bool := inR a s.2.1 && (inR p s.1 && (inR t 5 && inR n 11))
def F_set (s : xS) (a p t n : Int32) : Int32 := if F_setOk s a p t n = true then F_wr s (tn p) (tn t) n + nI 9 else (-1)
def F_setS (s : xS) (a p t n : Int32) : xS := if F_setOk s a p t n = true then (s.1, s.2.1, s.2.2.1, s.2.2.2.1, s.2.2.2.2.1, upd s.2.2.2.2.2 (tn a * 5 + tn t) (F_wr s (tn p) (tn t) n)) else s
def F_eraseIn (s : xS) (a p t : Int32) : Bool := inR a s.2.1 && (inR p s.1 && inR t 5)
def F_eraseOk (s : xS) (a p t : Int32) : Bool := F_eraseIn s a p t && !decide (s.2.2.2.2.2 (tn a * 5 + tn t) = nI 100)
def F_erase (s : xS) (a p t : Int32) : Int32 := if F_eraseIn s a p t = true then (if s.2.2.2.2.2 (tn a * 5 + tn t) = nI 100 then (-2) else s.2.2.2.2.2 (tn a * 5 + tn t) + nI 9) else (-1)
def F_eraseS (s : xS) (a p t : Int32) : xS := if F_eraseOk s a p t = true then (s.1, s.2.1, s.2.2.1, s.2.2.2.1, s.2.2.2.2.1, upd s.2.2.2.2.2 (tn a * 5 + tn t) (s.2.2.2.2.1 (tn p * 5 + tn t))) else s
def F_copyOk (s : xS) (a b p : Int32) : Bool := inR a s.2.1 && (inR b s.2.1 && (!decide (a = b) && inR p s.1))
def F_copyS (s : xS) (a b p : Int32) : xS := if F_copyOk s a b p = true then (s.1, s.2.1, s.2.2.1, s.2.2.2.1, s.2.2.2.2.1, cpP s.2.2.1 s.2.2.2.1 s.2.2.2.2.1 s.2.2.2.2.2 (tn p) (tn a) (tn b) 5) else s
def F_copy (s : xS) (a b p : Int32) : Int32 := if F_copyOk s a b p = true then nI (F_fil (cpP s.2.2.1 s.2.2.2.1 s.2.2.2.2.1 s.2.2.2.2.2 (tn p) (tn a) (tn b) 5) (tn b) 5) else (-1)
def F_thinkOk (s : xS) (p t v : Int32) : Bool := inR p s.1 && (inR t 5 && inR v 19)
def F_think (s : xS) (p t v : Int32) : Int32 := if F_thinkOk s p t v = true then s.2.2.2.2.1 (tn p * 5 + tn t) + nI 9 else (-1)
def F_thinkS (s : xS) (p t v : Int32) : xS := if F_thinkOk s p t v = true then (s.1, s.2.1, s.2.2.1, s.2.2.2.1, upd s.2.2.2.2.1 (tn p * 5 + tn t) (v - nI 9), s.2.2.2.2.2) else s
def F_mindOk (s : xS) (p m : Int32) : Bool := inR p s.1 && inR m s.1
def F_mind (s : xS) (p m : Int32) : Int32 := if F_mindOk s p m = true then s.2.2.2.1 (tn p) else (-1)
def F_mindS (s : xS) (p m : Int32) : xS := if F_mindOk s p m = true then (s.1, s.2.1, s.2.2.1, upd s.2.2.2.1 (tn p) m, s.2.2.2.2.1, s.2.2.2.2.2) else s
def F_undo (sz : Nat) : Int32 := if sz = 0 then (-2) else nI (sz - 1)
def F_undoS (s : xS) (cs : Nat → xS) (lw sz : Nat) : xS := if sz = 0 then s else cs ((lw + (sz - 1)) % 8)
def F_backS (s : xS) (cs : Nat → xS) (lw sz : Nat) : xS := if sz = 0 then s else cs ((lw + (sz - 1)) % 2)
def F_keep (sz : Nat) : Int32 := if sz < 2 then nI (sz + 1) else (-3)
def kSz (sz : Nat) : Nat := if sz < 2 then sz + 1 else sz
def kCs (cs : Nat → xS) (lw sz : Nat) (s : xS) : Nat → xS := if sz < 2 then updS cs ((lw + sz) % 2) s else cs
def F_wOk (x : Int32) : Bool := !decide (x < nI 32) && !decide (nI 126 < x)
def F_write (x : Int32) (nl : Nat) : Int32 := if F_wOk x = true then (if nl < 200 then nI (nl + 1) else (-3)) else (-1)
def F_wLe (x : Int32) (le : Nat → Int32) (nl : Nat) : Nat → Int32 := if F_wOk x = true then (if nl < 200 then upd le nl x else le) else le
def F_wNl (x : Int32) (nl : Nat) : Nat := if F_wOk x = true then (if nl < 200 then nl + 1 else nl) else nl
def F_sOk (t v : Int32) : Bool := inR t 5 && inR v 19
def F_sign (t v : Int32) (ns : Nat) : Int32 := if F_sOk t v = true then (if ns < 6 then nI (ns + 1) else (-3)) else (-1)
def F_sNs (t v : Int32) (ns : Nat) : Nat := if F_sOk t v = true then (if ns < 6 then ns + 1 else ns) else ns
def F_sTh (t v : Int32) (th : Nat → Int32) (ns : Nat) : Nat → Int32 := if F_sOk t v = true then (if ns < 6 then upd th ns t else th) else th
def F_sSa (t v : Int32) (sa : Nat → Int32) (ns : Nat) : Nat → Int32 := if F_sOk t v = true then (if ns < 6 then upd sa ns (v - nI 9) else sa) else sa
def F_count (s : xS) (ns sz sz2 nl : Nat) (x : Int32) : Int32 := if x = 0 then nI s.1 else if x = 1 then nI s.2.1 else if x = 2 then nI (F_fils s.2.2.2.2.2 s.2.1) else if x = 3 then nI ns else if x = 4 then nI sz else if x = 5 then nI sz2 else if x = 6 then nI nl else (-1)
def prsT (le : Nat → Int32) (nl : Nat) : Int32 × xS := prs le nl 200 0 blankS
def F_layOk (r : Int32 × xS) : Bool := decide (r.1 = (-4)) && (decide (∀ j, j < r.2.1 → inR (r.2.2.2.2.1 j) r.2.1 = true) && decide (0 < r.2.1))
def F_lay (r : Int32 × xS) : Int32 := if F_layOk r = true then nI r.2.1 else (-2)
def l0 (b : Bool) (n : Nat) : Nat := if b = true then 0 else n
theorem prs_6 (le : Nat → Int32) (nl : Nat) : ∀ (k p : Nat) (s : xS), s.1 ≤ 6 → (prs le nl k p s).2.1 ≤ 6
  | 0, _, s, h => h
  | k + 1, p, s, h => by
    rw [prs]
    split
    · split
      · exact h
      · split
        · exact prs_6 le nl k _ _ (itS_le h)
        · exact itS_le h
    · exact h

set_option maxRecDepth 100000 in
set_option maxHeartbeats 4000000 in
/-- X4_set -/
theorem c_X4_set (l : Launch) (G : xG) (o : Nat) (x : Nat → Nat) (w : Nat → Nat) (d : Nat → Nat) (h : Nat → Nat) (g : Nat → Nat) (q : Nat → Nat) (e : Nat) (ad : Nat → Nat → Nat) (lw : Nat) (sz : Nat) (s : xS) (cs : Nat → xS) (a : Int32) (b : Int32) (c : Int32) (u : Int32) (hs6 : s.1 ≤ 6) (hs1 : 0 < s.1) (hq5 : s.2.1 ≤ 5) (hmi : ∀ j, j < 6 → inR (s.2.2.2.1 j) 6 = true) (hlw : lw < 8) (hsz : sz ≤ 8) : xM l G xE0 yX4_set cX4_set 6 (some .int) 4 94 0 0 [.ref o, .int a, .int b, .int c, .int u] (xJ [wInk G o x w d h g q e, wSh8 G h ad lw sz, wCq G w s, wCs G ad cs 8]) (some (.int (F_set s a b c u))) (fun w2 => w2 = xJ [wInk G o x w d h g q e, wSh8 G h ad (pLw (F_setOk s a b c u) lw sz) (pSz (F_setOk s a b c u) sz), wCq G w (F_setS s a b c u), wCs G ad (pCs (F_setOk s a b c u) cs lw sz s) 8]) := by
  refine x_entry (by decide +kernel) (Nat.le_of_ble_eq_true rfl) rfl ⟨_, rfl, rfl⟩ (fun K X => ?_)
  refine x_aloadn X dX4_set_0 0 rfl ?_
  refine x_get X wu_X4 0 rfl rfl 1 (by decide) wf_X4_19 rfl rfl dX4_set_1 ?_
  refine x_iloadn X dX4_set_4 1 rfl ?_
  refine x_callVJrv (As := [.int a]) (rest := []) (segs := [wInk G o x w d h g q e, wSh8 G h ad lw sz, wCq G w s, wCs G ad cs 8]) [2] [0, 1, 3] (show ([2] ++ [0, 1, 3] : List Nat).Perm (List.range 4) from by decide) X (c_X0_hasPaper l G w s.1 s.2.1 s.2.2.1 s.2.2.2.1 s.2.2.2.2.1 s.2.2.2.2.2 a (by omega)) rfl xE0_ok (fun _ _ _ => trivial) 0 rfl rfl rfl wco_X0_hasPaper wi_X0 xd_X0_hasPaper wl_X4_109 win_X0_hasPaper wse_X0_hasPaper (by decide) (Nat.le_of_ble_eq_true rfl) dX4_set_5 ?_
  refine x_ifeq_b 39 X dX4_set_8 (by decide) (fun c_1 => ?_) (fun c_1 => ?_)
  · -- 8 t
    refine x_iconst (v := (-1)) X dX4_set_39 (by decide) ?_
    exact x_ret X dX4_set_40 ⟨ret_i (by simp [F_set, F_setOk, F_wr, tn, c_1]), (by have ho : F_setOk s a b c u = false := (by simp [F_setOk, c_1]); simp only [pLw, pSz, pCs, F_setS, ho, tn, F_wr, Bool.false_eq_true, if_false, if_true, if_true] <;> rfl), by decide, by decide⟩
  · -- 8 f
    obtain ⟨aN, haN, rfl⟩ := inR_nat c_1 (by omega)
    have qaN : (nI aN).toNatClampNeg = aN := nI_clamp (by omega)
    refine x_aloadn X dX4_set_11 0 rfl ?_
    refine x_get X wu_X4 0 rfl rfl 1 (by decide) wf_X4_19 rfl rfl dX4_set_12 ?_
    refine x_iloadn X dX4_set_15 2 rfl ?_
    refine x_callVJrv (As := [.int b]) (rest := []) (segs := [wInk G o x w d h g q e, wSh8 G h ad lw sz, wCq G w s, wCs G ad cs 8]) [2] [0, 1, 3] (show ([2] ++ [0, 1, 3] : List Nat).Perm (List.range 4) from by decide) X (c_X0_hasPerson l G w s.1 s.2.1 s.2.2.1 s.2.2.2.1 s.2.2.2.2.1 s.2.2.2.2.2 b (by omega)) rfl xE0_ok (fun _ _ _ => trivial) 0 rfl rfl rfl wco_X0_hasPerson wi_X0 xd_X0_hasPerson wl_X4_87 win_X0_hasPerson wse_X0_hasPerson (by decide) (Nat.le_of_ble_eq_true rfl) dX4_set_16 ?_
    refine x_ifeq_b 39 X dX4_set_19 (by decide) (fun c_2 => ?_) (fun c_2 => ?_)
    · -- 19 t
      refine x_iconst (v := (-1)) X dX4_set_39 (by decide) ?_
      exact x_ret X dX4_set_40 ⟨ret_i (by simp [F_set, F_setOk, F_wr, tn, c_1, qaN, c_2]), (by have ho : F_setOk s (nI aN) b c u = false := (by simp [F_setOk, c_1, qaN, c_2]); simp only [pLw, pSz, pCs, F_setS, ho, tn, F_wr, Bool.false_eq_true, if_false, if_true, qaN] <;> rfl), by decide, by decide⟩
    · -- 19 f
      obtain ⟨bN, hbN, rfl⟩ := inR_nat c_2 (by omega)
      have qbN : (nI bN).toNatClampNeg = bN := nI_clamp (by omega)
      refine x_iloadn X dX4_set_22 3 rfl ?_
      refine x_callSrv (As := [.int c]) (rest := []) X (c_X4_isTheme l G c) xE0_ok (fun _ _ _ => trivial) [] rfl rfl rfl wco_X4_isTheme wi_X4 xd_X4_isTheme wl_X4_102 wst_X4_isTheme (by decide) (Nat.le_of_ble_eq_true rfl) dX4_set_23 ?_
      refine x_ifeq_b 39 X dX4_set_26 (by decide) (fun c_3 => ?_) (fun c_3 => ?_)
      · -- 26 t
        refine x_iconst (v := (-1)) X dX4_set_39 (by decide) ?_
        exact x_ret X dX4_set_40 ⟨ret_i (by simp [F_set, F_setOk, F_wr, tn, c_1, qaN, c_2, qbN, c_3]), (by have ho : F_setOk s (nI aN) (nI bN) c u = false := (by simp [F_setOk, c_1, qaN, c_2, qbN, c_3]); simp only [pLw, pSz, pCs, F_setS, ho, tn, F_wr, Bool.false_eq_true, if_false, if_true, qaN, qbN] <;> rfl), by decide, by decide⟩
      · -- 26 f
        obtain ⟨cN, hcN, rfl⟩ := inR_nat c_3 (by omega)
        have qcN : (nI cN).toNatClampNeg = cN := nI_clamp (by omega)
        refine x_iload X dX4_set_29 4 rfl ?_
        refine x_bipush (v := nI 10) X dX4_set_31 (by decide) ?_
        refine x_callSrv (As := [.int u, .int (nI 10)]) (rest := []) X (c_X4_isUpTo l G u 10 (by omega)) xE0_ok (fun _ _ _ => trivial) [] rfl rfl rfl wco_X4_isUpTo wi_X4 xd_X4_isUpTo wl_X4_91 wst_X4_isUpTo (by decide) (Nat.le_of_ble_eq_true rfl) dX4_set_33 ?_
        refine x_ifne_b 41 X dX4_set_36 (by decide) (fun c_4 => ?_) (fun c_4 => ?_)
        · -- 36 t
          obtain ⟨uN, huN, rfl⟩ := inR_nat c_4 (by omega)
          have quN : (nI uN).toNatClampNeg = uN := nI_clamp (by omega)
          refine x_aloadn X dX4_set_41 0 rfl ?_
          refine x_get X wu_X4 0 rfl rfl 3 (by decide) wf_X4_31 rfl rfl dX4_set_42 ?_
          refine x_aloadn X dX4_set_45 0 rfl ?_
          refine x_get X wu_X4 0 rfl rfl 1 (by decide) wf_X4_19 rfl rfl dX4_set_46 ?_
          refine x_callVJf0 (As := [.ref (w 0)]) (rest := []) (segs := [wInk G o x w d h g q e, wSh8 G h ad lw sz, wCq G w s, wCs G ad cs 8]) (segs' := [wInk G o x w d h g q e, wSh8 G h ad (if sz < 8 then lw else (lw + 1) % 8) (if sz < 8 then sz + 1 else sz), wCq G w s, wCs G ad (updS cs ((lw + sz) % 8) s) 8]) (mid := [wInk G o x w d h g q e]) (w1 := xJ [wSh8 G h ad (if sz < 8 then lw else (lw + 1) % 8) (if sz < 8 then sz + 1 else sz), wCq G w s, wCs G ad (updS cs ((lw + sz) % 8) s) 8]) [1, 2, 3] [0] (show ([1, 2, 3] ++ [0] : List Nat).Perm (List.range 4) from by decide) rfl X (c_X1_push__8 l G h ad lw sz w s cs (by omega) (by omega)) rfl rfl rfl rfl xE0_ok (fun _ _ _ => trivial) 0 rfl rfl rfl wco_X1_push wi_X1 xd_X1_push wl_X4_122 win_X1_push wse_X1_push (by decide) (Nat.le_of_ble_eq_true rfl) dX4_set_49 (by simp only [xJ, List.map_append, skCs, wCh, wIA, wTx, wSg, wSh8, wSh2, wInk, List.map_cons, List.map_nil]) ?_
          refine x_aloadn X dX4_set_52 0 rfl ?_
          refine x_get X wu_X4 0 rfl rfl 1 (by decide) wf_X4_19 rfl rfl dX4_set_53 ?_
          refine x_iloadn X dX4_set_56 2 rfl ?_
          refine x_iloadn X dX4_set_57 3 rfl ?_
          refine x_iload X dX4_set_58 4 rfl ?_
          refine x_callVJrv (As := [.int (nI bN), .int (nI cN), .int (nI uN)]) (rest := []) (segs := [wInk G o x w d h g q e, wSh8 G h ad (if sz < 8 then lw else (lw + 1) % 8) (if sz < 8 then sz + 1 else sz), wCq G w s, wCs G ad (updS cs ((lw + sz) % 8) s) 8]) [2] [0, 1, 3] (show ([2] ++ [0, 1, 3] : List Nat).Perm (List.range 4) from by decide) X (c_X0_written l G w s.1 s.2.1 s.2.2.1 s.2.2.2.1 s.2.2.2.2.1 s.2.2.2.2.2 bN cN (nI uN) (by omega) (by omega) (by assumption)) rfl xE0_ok (fun _ _ _ => trivial) 0 rfl rfl rfl wco_X0_written wi_X0 xd_X0_written wl_X4_118 win_X0_written wse_X0_written (by decide) (Nat.le_of_ble_eq_true rfl) dX4_set_60 ?_
          refine x_istore (lv' := [(5, .int (F_ink (s.2.2.1 bN) (s.2.2.2.2.1 (tn (s.2.2.2.1 bN) * 5 + cN)) (s.2.2.2.2.1 (bN * 5 + cN)) (nI uN))), (0, .ref o), (1, .int (nI aN)), (2, .int (nI bN)), (3, .int (nI cN)), (4, .int (nI uN))]) X dX4_set_63 (by decide) rfl ?_
          refine x_aloadn X dX4_set_65 1 rfl ?_
          refine x_get X wu_X4 0 rfl rfl 1 (by decide) wf_X4_19 rfl rfl dX4_set_66 ?_
          refine x_iloadn X dX4_set_69 2 rfl ?_
          refine x_iloadn X dX4_set_70 4 rfl ?_
          refine x_iload X dX4_set_71 0 rfl ?_
          refine x_callVJf0 (As := [.int (nI aN), .int (nI cN), .int (F_ink (s.2.2.1 bN) (s.2.2.2.2.1 (tn (s.2.2.2.1 bN) * 5 + cN)) (s.2.2.2.2.1 (bN * 5 + cN)) (nI uN))]) (rest := []) (segs := [wInk G o x w d h g q e, wSh8 G h ad (if sz < 8 then lw else (lw + 1) % 8) (if sz < 8 then sz + 1 else sz), wCq G w s, wCs G ad (updS cs ((lw + sz) % 8) s) 8]) (segs' := [wInk G o x w d h g q e, wSh8 G h ad (if sz < 8 then lw else (lw + 1) % 8) (if sz < 8 then sz + 1 else sz), wCh G w s.1 s.2.1 s.2.2.1 s.2.2.2.1 s.2.2.2.2.1 (upd s.2.2.2.2.2 (aN * 5 + cN) (F_ink (s.2.2.1 bN) (s.2.2.2.2.1 (tn (s.2.2.2.1 bN) * 5 + cN)) (s.2.2.2.2.1 (bN * 5 + cN)) (nI uN))), wCs G ad (updS cs ((lw + sz) % 8) s) 8]) (mid := [wInk G o x w d h g q e, wSh8 G h ad (if sz < 8 then lw else (lw + 1) % 8) (if sz < 8 then sz + 1 else sz), wCs G ad (updS cs ((lw + sz) % 8) s) 8]) (w1 := wCh G w s.1 s.2.1 s.2.2.1 s.2.2.2.1 s.2.2.2.2.1 (upd s.2.2.2.2.2 (aN * 5 + cN) (F_ink (s.2.2.1 bN) (s.2.2.2.2.1 (tn (s.2.2.2.1 bN) * 5 + cN)) (s.2.2.2.2.1 (bN * 5 + cN)) (nI uN)))) [2] [0, 1, 3] (show ([2] ++ [0, 1, 3] : List Nat).Perm (List.range 4) from by decide) rfl X (c_X0_putLine l G w s.1 s.2.1 s.2.2.1 s.2.2.2.1 s.2.2.2.2.1 s.2.2.2.2.2 aN cN (F_ink (s.2.2.1 bN) (s.2.2.2.2.1 (tn (s.2.2.2.1 bN) * 5 + cN)) (s.2.2.2.2.1 (bN * 5 + cN)) (nI uN)) (by omega) (by omega)) rfl rfl rfl rfl xE0_ok (fun _ _ _ => trivial) 0 rfl rfl rfl wco_X0_putLine wi_X0 xd_X0_putLine wl_X4_125 win_X0_putLine wse_X0_putLine (by decide) (Nat.le_of_ble_eq_true rfl) dX4_set_73 (Eq.trans (b := [w 0, w 1, w 2, w 3, w 4]) rfl rfl) ?_
          refine x_iload X dX4_set_76 0 rfl ?_
          refine x_bipush (v := nI 9) X dX4_set_78 (by decide) ?_
          refine x_iadd (v := (F_ink (s.2.2.1 bN) (s.2.2.2.2.1 (tn (s.2.2.2.1 bN) * 5 + cN)) (s.2.2.2.2.1 (bN * 5 + cN)) (nI uN)) + (nI 9)) X dX4_set_80 rfl ?_
          exact x_ret X dX4_set_81 ⟨ret_i (by simp [F_set, F_setOk, F_wr, tn, c_1, qaN, c_2, qbN, c_3, qcN, c_4, quN]), (by have ho : F_setOk s (nI aN) (nI bN) (nI cN) (nI uN) = true := (by simp [F_setOk, c_1, qaN, c_2, qbN, c_3, qcN, c_4, quN]); simp only [pLw, pSz, pCs, F_setS, ho, tn, F_wr, Bool.false_eq_true, if_false, if_true, qaN, qbN, qcN, quN] <;> rfl), by decide, by decide⟩
        · -- 36 f
          refine x_iconst (v := (-1)) X dX4_set_39 (by decide) ?_
          exact x_ret X dX4_set_40 ⟨ret_i (by simp [F_set, F_setOk, F_wr, tn, c_1, qaN, c_2, qbN, c_3, qcN, c_4]), (by have ho : F_setOk s (nI aN) (nI bN) (nI cN) u = false := (by simp [F_setOk, c_1, qaN, c_2, qbN, c_3, qcN, c_4]); simp only [pLw, pSz, pCs, F_setS, ho, tn, F_wr, Bool.false_eq_true, if_false, if_true, qaN, qbN, qcN] <;> rfl), by decide, by decide⟩
set_option maxRecDepth 100000 in
set_option maxHeartbeats 4000000 in
/-- X4_erase -/
theorem c_X4_erase (l : Launch) (G : xG) (o : Nat) (x : Nat → Nat) (w : Nat → Nat) (d : Nat → Nat) (h : Nat → Nat) (g : Nat → Nat) (q : Nat → Nat) (e : Nat) (ad : Nat → Nat → Nat) (lw : Nat) (sz : Nat) (s : xS) (cs : Nat → xS) (a : Int32) (b : Int32) (c : Int32) (hs6 : s.1 ≤ 6) (hs1 : 0 < s.1) (hq5 : s.2.1 ≤ 5) (hmi : ∀ j, j < 6 → inR (s.2.2.2.1 j) 6 = true) (hlw : lw < 8) (hsz : sz ≤ 8) : xM l G xE0 yX4_erase cX4_erase 5 (some .int) 4 94 0 0 [.ref o, .int a, .int b, .int c] (xJ [wInk G o x w d h g q e, wSh8 G h ad lw sz, wCq G w s, wCs G ad cs 8]) (some (.int (F_erase s a b c))) (fun w2 => w2 = xJ [wInk G o x w d h g q e, wSh8 G h ad (pLw (F_eraseOk s a b c) lw sz) (pSz (F_eraseOk s a b c) sz), wCq G w (F_eraseS s a b c), wCs G ad (pCs (F_eraseOk s a b c) cs lw sz s) 8]) := by
  refine x_entry (by decide +kernel) (Nat.le_of_ble_eq_true rfl) rfl ⟨_, rfl, rfl⟩ (fun K X => ?_)
  refine x_aloadn X dX4_erase_0 0 rfl ?_
  refine x_get X wu_X4 0 rfl rfl 1 (by decide) wf_X4_19 rfl rfl dX4_erase_1 ?_
  refine x_iloadn X dX4_erase_4 1 rfl ?_
  refine x_callVJrv (As := [.int a]) (rest := []) (segs := [wInk G o x w d h g q e, wSh8 G h ad lw sz, wCq G w s, wCs G ad cs 8]) [2] [0, 1, 3] (show ([2] ++ [0, 1, 3] : List Nat).Perm (List.range 4) from by decide) X (c_X0_hasPaper l G w s.1 s.2.1 s.2.2.1 s.2.2.2.1 s.2.2.2.2.1 s.2.2.2.2.2 a (by omega)) rfl xE0_ok (fun _ _ _ => trivial) 0 rfl rfl rfl wco_X0_hasPaper wi_X0 xd_X0_hasPaper wl_X4_109 win_X0_hasPaper wse_X0_hasPaper (by decide) (Nat.le_of_ble_eq_true rfl) dX4_erase_5 ?_
  refine x_ifeq_b 29 X dX4_erase_8 (by decide) (fun c_1 => ?_) (fun c_1 => ?_)
  · -- 8 t
    refine x_iconst (v := (-1)) X dX4_erase_29 (by decide) ?_
    exact x_ret X dX4_erase_30 ⟨ret_i (by simp [F_erase, F_eraseOk, F_wr, tn, F_eraseIn, c_1]), (by have ho : F_eraseOk s a b c = false := (by simp [F_eraseOk, tn, F_eraseIn, c_1]); simp only [pLw, pSz, pCs, F_eraseS, ho, tn, F_wr, Bool.false_eq_true, if_false, if_true, if_true] <;> rfl), by decide, by decide⟩
  · -- 8 f
    obtain ⟨aN, haN, rfl⟩ := inR_nat c_1 (by omega)
    have qaN : (nI aN).toNatClampNeg = aN := nI_clamp (by omega)
    refine x_aloadn X dX4_erase_11 0 rfl ?_
    refine x_get X wu_X4 0 rfl rfl 1 (by decide) wf_X4_19 rfl rfl dX4_erase_12 ?_
    refine x_iloadn X dX4_erase_15 2 rfl ?_
    refine x_callVJrv (As := [.int b]) (rest := []) (segs := [wInk G o x w d h g q e, wSh8 G h ad lw sz, wCq G w s, wCs G ad cs 8]) [2] [0, 1, 3] (show ([2] ++ [0, 1, 3] : List Nat).Perm (List.range 4) from by decide) X (c_X0_hasPerson l G w s.1 s.2.1 s.2.2.1 s.2.2.2.1 s.2.2.2.2.1 s.2.2.2.2.2 b (by omega)) rfl xE0_ok (fun _ _ _ => trivial) 0 rfl rfl rfl wco_X0_hasPerson wi_X0 xd_X0_hasPerson wl_X4_87 win_X0_hasPerson wse_X0_hasPerson (by decide) (Nat.le_of_ble_eq_true rfl) dX4_erase_16 ?_
    refine x_ifeq_b 29 X dX4_erase_19 (by decide) (fun c_2 => ?_) (fun c_2 => ?_)
    · -- 19 t
      refine x_iconst (v := (-1)) X dX4_erase_29 (by decide) ?_
      exact x_ret X dX4_erase_30 ⟨ret_i (by simp [F_erase, F_eraseOk, F_wr, tn, F_eraseIn, c_1, qaN, c_2]), (by have ho : F_eraseOk s (nI aN) b c = false := (by simp [F_eraseOk, tn, F_eraseIn, c_1, qaN, c_2]); simp only [pLw, pSz, pCs, F_eraseS, ho, tn, F_wr, Bool.false_eq_true, if_false, if_true, qaN] <;> rfl), by decide, by decide⟩
    · -- 19 f
      obtain ⟨bN, hbN, rfl⟩ := inR_nat c_2 (by omega)
      have qbN : (nI bN).toNatClampNeg = bN := nI_clamp (by omega)
      refine x_iloadn X dX4_erase_22 3 rfl ?_
      refine x_callSrv (As := [.int c]) (rest := []) X (c_X4_isTheme l G c) xE0_ok (fun _ _ _ => trivial) [] rfl rfl rfl wco_X4_isTheme wi_X4 xd_X4_isTheme wl_X4_102 wst_X4_isTheme (by decide) (Nat.le_of_ble_eq_true rfl) dX4_erase_23 ?_
      refine x_ifne_b 31 X dX4_erase_26 (by decide) (fun c_3 => ?_) (fun c_3 => ?_)
      · -- 26 t
        obtain ⟨cN, hcN, rfl⟩ := inR_nat c_3 (by omega)
        have qcN : (nI cN).toNatClampNeg = cN := nI_clamp (by omega)
        refine x_aloadn X dX4_erase_31 0 rfl ?_
        refine x_get X wu_X4 0 rfl rfl 1 (by decide) wf_X4_19 rfl rfl dX4_erase_32 ?_
        refine x_iloadn X dX4_erase_35 1 rfl ?_
        refine x_iloadn X dX4_erase_36 3 rfl ?_
        refine x_callVJrv (As := [.int (nI aN), .int (nI cN)]) (rest := []) (segs := [wInk G o x w d h g q e, wSh8 G h ad lw sz, wCq G w s, wCs G ad cs 8]) [2] [0, 1, 3] (show ([2] ++ [0, 1, 3] : List Nat).Perm (List.range 4) from by decide) X (c_X0_lineOf l G w s.1 s.2.1 s.2.2.1 s.2.2.2.1 s.2.2.2.2.1 s.2.2.2.2.2 aN cN (by omega) (by omega)) rfl xE0_ok (fun _ _ _ => trivial) 0 rfl rfl rfl wco_X0_lineOf wi_X0 xd_X0_lineOf wl_X4_112 win_X0_lineOf wse_X0_lineOf (by decide) (Nat.le_of_ble_eq_true rfl) dX4_erase_37 ?_
        refine x_istore (lv' := [(4, .int (s.2.2.2.2.2 (aN * 5 + cN))), (0, .ref o), (1, .int (nI aN)), (2, .int (nI bN)), (3, .int (nI cN))]) X dX4_erase_40 (by decide) rfl ?_
        refine x_iload X dX4_erase_42 0 rfl ?_
        refine x_bipush (v := nI 100) X dX4_erase_44 (by decide) ?_
        refine x_icmp_ne 52 X dX4_erase_46 (by decide) (fun c_4 => ?_) (fun c_4 => ?_)
        · -- 46 t
          refine x_aloadn X dX4_erase_52 1 rfl ?_
          refine x_get X wu_X4 0 rfl rfl 3 (by decide) wf_X4_31 rfl rfl dX4_erase_53 ?_
          refine x_aloadn X dX4_erase_56 1 rfl ?_
          refine x_get X wu_X4 0 rfl rfl 1 (by decide) wf_X4_19 rfl rfl dX4_erase_57 ?_
          refine x_callVJf0 (As := [.ref (w 0)]) (rest := []) (segs := [wInk G o x w d h g q e, wSh8 G h ad lw sz, wCq G w s, wCs G ad cs 8]) (segs' := [wInk G o x w d h g q e, wSh8 G h ad (if sz < 8 then lw else (lw + 1) % 8) (if sz < 8 then sz + 1 else sz), wCq G w s, wCs G ad (updS cs ((lw + sz) % 8) s) 8]) (mid := [wInk G o x w d h g q e]) (w1 := xJ [wSh8 G h ad (if sz < 8 then lw else (lw + 1) % 8) (if sz < 8 then sz + 1 else sz), wCq G w s, wCs G ad (updS cs ((lw + sz) % 8) s) 8]) [1, 2, 3] [0] (show ([1, 2, 3] ++ [0] : List Nat).Perm (List.range 4) from by decide) rfl X (c_X1_push__8 l G h ad lw sz w s cs (by omega) (by omega)) rfl rfl rfl rfl xE0_ok (fun _ _ _ => trivial) 0 rfl rfl rfl wco_X1_push wi_X1 xd_X1_push wl_X4_122 win_X1_push wse_X1_push (by decide) (Nat.le_of_ble_eq_true rfl) dX4_erase_60 (by simp only [xJ, List.map_append, skCs, wCh, wIA, wTx, wSg, wSh8, wSh2, wInk, List.map_cons, List.map_nil]) ?_
          refine x_aloadn X dX4_erase_63 1 rfl ?_
          refine x_get X wu_X4 0 rfl rfl 1 (by decide) wf_X4_19 rfl rfl dX4_erase_64 ?_
          refine x_iloadn X dX4_erase_67 2 rfl ?_
          refine x_iloadn X dX4_erase_68 4 rfl ?_
          refine x_aloadn X dX4_erase_69 1 rfl ?_
          refine x_get X wu_X4 0 rfl rfl 1 (by decide) wf_X4_19 rfl rfl dX4_erase_70 ?_
          refine x_iloadn X dX4_erase_73 3 rfl ?_
          refine x_iloadn X dX4_erase_74 4 rfl ?_
          refine x_callVJrv (As := [.int (nI bN), .int (nI cN)]) (rest := [.int (nI cN), .int (nI aN), .ref (w 0)]) (segs := [wInk G o x w d h g q e, wSh8 G h ad (if sz < 8 then lw else (lw + 1) % 8) (if sz < 8 then sz + 1 else sz), wCq G w s, wCs G ad (updS cs ((lw + sz) % 8) s) 8]) [2] [0, 1, 3] (show ([2] ++ [0, 1, 3] : List Nat).Perm (List.range 4) from by decide) X (c_X0_viewOf l G w s.1 s.2.1 s.2.2.1 s.2.2.2.1 s.2.2.2.2.1 s.2.2.2.2.2 bN cN (by omega) (by omega)) rfl xE0_ok (fun _ _ _ => trivial) 0 rfl rfl rfl wco_X0_viewOf wi_X0 xd_X0_viewOf wl_X4_105 win_X0_viewOf wse_X0_viewOf (by decide) (Nat.le_of_ble_eq_true rfl) dX4_erase_75 ?_
          refine x_callVJf0 (As := [.int (nI aN), .int (nI cN), .int (s.2.2.2.2.1 (bN * 5 + cN))]) (rest := []) (segs := [wInk G o x w d h g q e, wSh8 G h ad (if sz < 8 then lw else (lw + 1) % 8) (if sz < 8 then sz + 1 else sz), wCq G w s, wCs G ad (updS cs ((lw + sz) % 8) s) 8]) (segs' := [wInk G o x w d h g q e, wSh8 G h ad (if sz < 8 then lw else (lw + 1) % 8) (if sz < 8 then sz + 1 else sz), wCh G w s.1 s.2.1 s.2.2.1 s.2.2.2.1 s.2.2.2.2.1 (upd s.2.2.2.2.2 (aN * 5 + cN) (s.2.2.2.2.1 (bN * 5 + cN))), wCs G ad (updS cs ((lw + sz) % 8) s) 8]) (mid := [wInk G o x w d h g q e, wSh8 G h ad (if sz < 8 then lw else (lw + 1) % 8) (if sz < 8 then sz + 1 else sz), wCs G ad (updS cs ((lw + sz) % 8) s) 8]) (w1 := wCh G w s.1 s.2.1 s.2.2.1 s.2.2.2.1 s.2.2.2.2.1 (upd s.2.2.2.2.2 (aN * 5 + cN) (s.2.2.2.2.1 (bN * 5 + cN)))) [2] [0, 1, 3] (show ([2] ++ [0, 1, 3] : List Nat).Perm (List.range 4) from by decide) rfl X (c_X0_putLine l G w s.1 s.2.1 s.2.2.1 s.2.2.2.1 s.2.2.2.2.1 s.2.2.2.2.2 aN cN (s.2.2.2.2.1 (bN * 5 + cN)) (by omega) (by omega)) rfl rfl rfl rfl xE0_ok (fun _ _ _ => trivial) 0 rfl rfl rfl wco_X0_putLine wi_X0 xd_X0_putLine wl_X4_125 win_X0_putLine wse_X0_putLine (by decide) (Nat.le_of_ble_eq_true rfl) dX4_erase_78 (Eq.trans (b := [w 0, w 1, w 2, w 3, w 4]) rfl rfl) ?_
          refine x_iload X dX4_erase_81 0 rfl ?_
          refine x_bipush (v := nI 9) X dX4_erase_83 (by decide) ?_
          refine x_iadd (v := (s.2.2.2.2.2 (aN * 5 + cN)) + (nI 9)) X dX4_erase_85 rfl ?_
          exact x_ret X dX4_erase_86 ⟨ret_i (by simp [F_erase, F_eraseOk, F_wr, tn, F_eraseIn, c_1, qaN, c_2, qbN, c_3, qcN, c_4]), (by have ho : F_eraseOk s (nI aN) (nI bN) (nI cN) = true := (by simp [F_eraseOk, tn, F_eraseIn, c_1, qaN, c_2, qbN, c_3, qcN, c_4]); simp only [pLw, pSz, pCs, F_eraseS, ho, tn, F_wr, Bool.false_eq_true, if_false, if_true, qaN, qbN, qcN] <;> rfl), by decide, by decide⟩
        · -- 46 f
          refine x_bipush (v := (-2)) X dX4_erase_49 (by decide) ?_
          exact x_ret X dX4_erase_51 ⟨ret_i (by simp [F_erase, F_eraseOk, F_wr, tn, F_eraseIn, c_1, qaN, c_2, qbN, c_3, qcN, c_4]), (by have ho : F_eraseOk s (nI aN) (nI bN) (nI cN) = false := (by simp [F_eraseOk, tn, F_eraseIn, c_1, qaN, c_2, qbN, c_3, qcN, c_4]); simp only [pLw, pSz, pCs, F_eraseS, ho, tn, F_wr, Bool.false_eq_true, if_false, if_true, qaN, qbN, qcN] <;> rfl), by decide, by decide⟩
      · -- 26 f
        refine x_iconst (v := (-1)) X dX4_erase_29 (by decide) ?_
        exact x_ret X dX4_erase_30 ⟨ret_i (by simp [F_erase, F_eraseOk, F_wr, tn, F_eraseIn, c_1, qaN, c_2, qbN, c_3]), (by have ho : F_eraseOk s (nI aN) (nI bN) c = false := (by simp [F_eraseOk, tn, F_eraseIn, c_1, qaN, c_2, qbN, c_3]); simp only [pLw, pSz, pCs, F_eraseS, ho, tn, F_wr, Bool.false_eq_true, if_false, if_true, qaN, qbN] <;> rfl), by decide, by decide⟩
set_option maxRecDepth 100000 in
set_option maxHeartbeats 4000000 in
/-- X4_copy -/
theorem c_X4_copy (l : Launch) (G : xG) (o : Nat) (x : Nat → Nat) (w : Nat → Nat) (d : Nat → Nat) (h : Nat → Nat) (g : Nat → Nat) (q : Nat → Nat) (e : Nat) (ad : Nat → Nat → Nat) (lw : Nat) (sz : Nat) (s : xS) (cs : Nat → xS) (a : Int32) (b : Int32) (c : Int32) (hs6 : s.1 ≤ 6) (hs1 : 0 < s.1) (hq5 : s.2.1 ≤ 5) (hmi : ∀ j, j < 6 → inR (s.2.2.2.1 j) 6 = true) (hlw : lw < 8) (hsz : sz ≤ 8) : xM l G xE0 yX4_copy cX4_copy 4 (some .int) 5 104 0 0 [.ref o, .int a, .int b, .int c] (xJ [wInk G o x w d h g q e, wSh8 G h ad lw sz, wCq G w s, wCs G ad cs 8]) (some (.int (F_copy s a b c))) (fun w2 => w2 = xJ [wInk G o x w d h g q e, wSh8 G h ad (pLw (F_copyOk s a b c) lw sz) (pSz (F_copyOk s a b c) sz), wCq G w (F_copyS s a b c), wCs G ad (pCs (F_copyOk s a b c) cs lw sz s) 8]) := by
  refine x_entry (by decide +kernel) (Nat.le_of_ble_eq_true rfl) rfl ⟨_, rfl, rfl⟩ (fun K X => ?_)
  refine x_aloadn X dX4_copy_0 0 rfl ?_
  refine x_get X wu_X4 0 rfl rfl 1 (by decide) wf_X4_19 rfl rfl dX4_copy_1 ?_
  refine x_iloadn X dX4_copy_4 1 rfl ?_
  refine x_callVJrv (As := [.int a]) (rest := []) (segs := [wInk G o x w d h g q e, wSh8 G h ad lw sz, wCq G w s, wCs G ad cs 8]) [2] [0, 1, 3] (show ([2] ++ [0, 1, 3] : List Nat).Perm (List.range 4) from by decide) X (c_X0_hasPaper l G w s.1 s.2.1 s.2.2.1 s.2.2.2.1 s.2.2.2.2.1 s.2.2.2.2.2 a (by omega)) rfl xE0_ok (fun _ _ _ => trivial) 0 rfl rfl rfl wco_X0_hasPaper wi_X0 xd_X0_hasPaper wl_X4_109 win_X0_hasPaper wse_X0_hasPaper (by decide) (Nat.le_of_ble_eq_true rfl) dX4_copy_5 ?_
  refine x_ifeq_b 38 X dX4_copy_8 (by decide) (fun c_1 => ?_) (fun c_1 => ?_)
  · -- 8 t
    refine x_iconst (v := (-1)) X dX4_copy_38 (by decide) ?_
    exact x_ret X dX4_copy_39 ⟨ret_i (by simp [F_copy, F_copyOk, F_wr, tn, c_1]), (by have ho : F_copyOk s a b c = false := (by simp [F_copyOk, c_1]); simp only [pLw, pSz, pCs, F_copyS, ho, tn, F_wr, Bool.false_eq_true, if_false, if_true, if_true] <;> rfl), by decide, by decide⟩
  · -- 8 f
    obtain ⟨aN, haN, rfl⟩ := inR_nat c_1 (by omega)
    have qaN : (nI aN).toNatClampNeg = aN := nI_clamp (by omega)
    refine x_aloadn X dX4_copy_11 0 rfl ?_
    refine x_get X wu_X4 0 rfl rfl 1 (by decide) wf_X4_19 rfl rfl dX4_copy_12 ?_
    refine x_iloadn X dX4_copy_15 2 rfl ?_
    refine x_callVJrv (As := [.int b]) (rest := []) (segs := [wInk G o x w d h g q e, wSh8 G h ad lw sz, wCq G w s, wCs G ad cs 8]) [2] [0, 1, 3] (show ([2] ++ [0, 1, 3] : List Nat).Perm (List.range 4) from by decide) X (c_X0_hasPaper l G w s.1 s.2.1 s.2.2.1 s.2.2.2.1 s.2.2.2.2.1 s.2.2.2.2.2 b (by omega)) rfl xE0_ok (fun _ _ _ => trivial) 0 rfl rfl rfl wco_X0_hasPaper wi_X0 xd_X0_hasPaper wl_X4_109 win_X0_hasPaper wse_X0_hasPaper (by decide) (Nat.le_of_ble_eq_true rfl) dX4_copy_16 ?_
    refine x_ifeq_b 38 X dX4_copy_19 (by decide) (fun c_2 => ?_) (fun c_2 => ?_)
    · -- 19 t
      refine x_iconst (v := (-1)) X dX4_copy_38 (by decide) ?_
      exact x_ret X dX4_copy_39 ⟨ret_i (by simp [F_copy, F_copyOk, F_wr, tn, c_1, qaN, c_2]), (by have ho : F_copyOk s (nI aN) b c = false := (by simp [F_copyOk, c_1, qaN, c_2]); simp only [pLw, pSz, pCs, F_copyS, ho, tn, F_wr, Bool.false_eq_true, if_false, if_true, qaN] <;> rfl), by decide, by decide⟩
    · -- 19 f
      obtain ⟨bN, hbN, rfl⟩ := inR_nat c_2 (by omega)
      have qbN : (nI bN).toNatClampNeg = bN := nI_clamp (by omega)
      refine x_iloadn X dX4_copy_22 1 rfl ?_
      refine x_iloadn X dX4_copy_23 2 rfl ?_
      refine x_icmp_eq_n 38 X dX4_copy_24 (by decide) (by omega) (by omega) (fun c_3 => ?_) (fun c_3 => ?_)
      · -- 24 t
        have heq : nI aN = nI bN := congrArg nI c_3
        refine x_iconst (v := (-1)) X dX4_copy_38 (by decide) ?_
        exact x_ret X dX4_copy_39 ⟨ret_i (by simp [F_copy, F_copyOk, F_wr, tn, c_1, qaN, c_2, qbN, heq]), (by have ho : F_copyOk s (nI aN) (nI bN) c = false := (by simp [F_copyOk, c_1, qaN, c_2, qbN, heq]); simp only [pLw, pSz, pCs, F_copyS, ho, tn, F_wr, Bool.false_eq_true, if_false, if_true, qaN, qbN] <;> rfl), by decide, by decide⟩
      · -- 24 f
        have hne : ¬ nI aN = nI bN := fun q => c_3 ((nI_eq (by omega) (by omega)).mp q)
        refine x_aloadn X dX4_copy_27 0 rfl ?_
        refine x_get X wu_X4 0 rfl rfl 1 (by decide) wf_X4_19 rfl rfl dX4_copy_28 ?_
        refine x_iloadn X dX4_copy_31 3 rfl ?_
        refine x_callVJrv (As := [.int c]) (rest := []) (segs := [wInk G o x w d h g q e, wSh8 G h ad lw sz, wCq G w s, wCs G ad cs 8]) [2] [0, 1, 3] (show ([2] ++ [0, 1, 3] : List Nat).Perm (List.range 4) from by decide) X (c_X0_hasPerson l G w s.1 s.2.1 s.2.2.1 s.2.2.2.1 s.2.2.2.2.1 s.2.2.2.2.2 c (by omega)) rfl xE0_ok (fun _ _ _ => trivial) 0 rfl rfl rfl wco_X0_hasPerson wi_X0 xd_X0_hasPerson wl_X4_87 win_X0_hasPerson wse_X0_hasPerson (by decide) (Nat.le_of_ble_eq_true rfl) dX4_copy_32 ?_
        refine x_ifne_b 40 X dX4_copy_35 (by decide) (fun c_4 => ?_) (fun c_4 => ?_)
        · -- 35 t
          obtain ⟨cN, hcN, rfl⟩ := inR_nat c_4 (by omega)
          have qcN : (nI cN).toNatClampNeg = cN := nI_clamp (by omega)
          refine x_aloadn X dX4_copy_40 0 rfl ?_
          refine x_get X wu_X4 0 rfl rfl 3 (by decide) wf_X4_31 rfl rfl dX4_copy_41 ?_
          refine x_aloadn X dX4_copy_44 0 rfl ?_
          refine x_get X wu_X4 0 rfl rfl 1 (by decide) wf_X4_19 rfl rfl dX4_copy_45 ?_
          refine x_callVJf0 (As := [.ref (w 0)]) (rest := []) (segs := [wInk G o x w d h g q e, wSh8 G h ad lw sz, wCq G w s, wCs G ad cs 8]) (segs' := [wInk G o x w d h g q e, wSh8 G h ad (if sz < 8 then lw else (lw + 1) % 8) (if sz < 8 then sz + 1 else sz), wCq G w s, wCs G ad (updS cs ((lw + sz) % 8) s) 8]) (mid := [wInk G o x w d h g q e]) (w1 := xJ [wSh8 G h ad (if sz < 8 then lw else (lw + 1) % 8) (if sz < 8 then sz + 1 else sz), wCq G w s, wCs G ad (updS cs ((lw + sz) % 8) s) 8]) [1, 2, 3] [0] (show ([1, 2, 3] ++ [0] : List Nat).Perm (List.range 4) from by decide) rfl X (c_X1_push__8 l G h ad lw sz w s cs (by omega) (by omega)) rfl rfl rfl rfl xE0_ok (fun _ _ _ => trivial) 0 rfl rfl rfl wco_X1_push wi_X1 xd_X1_push wl_X4_122 win_X1_push wse_X1_push (by decide) (Nat.le_of_ble_eq_true rfl) dX4_copy_48 (by simp only [xJ, List.map_append, skCs, wCh, wIA, wTx, wSg, wSh8, wSh2, wInk, List.map_cons, List.map_nil]) ?_
          refine x_aloadn X dX4_copy_51 0 rfl ?_
          refine x_get X wu_X4 0 rfl rfl 1 (by decide) wf_X4_19 rfl rfl dX4_copy_52 ?_
          refine x_iloadn X dX4_copy_55 1 rfl ?_
          refine x_iloadn X dX4_copy_56 2 rfl ?_
          refine x_iloadn X dX4_copy_57 3 rfl ?_
          refine x_callVJf0 (As := [.int (nI aN), .int (nI bN), .int (nI cN)]) (rest := []) (segs := [wInk G o x w d h g q e, wSh8 G h ad (if sz < 8 then lw else (lw + 1) % 8) (if sz < 8 then sz + 1 else sz), wCq G w s, wCs G ad (updS cs ((lw + sz) % 8) s) 8]) (segs' := [wInk G o x w d h g q e, wSh8 G h ad (if sz < 8 then lw else (lw + 1) % 8) (if sz < 8 then sz + 1 else sz), wCh G w s.1 s.2.1 s.2.2.1 s.2.2.2.1 s.2.2.2.2.1 (cpP s.2.2.1 s.2.2.2.1 s.2.2.2.2.1 s.2.2.2.2.2 cN aN bN 5), wCs G ad (updS cs ((lw + sz) % 8) s) 8]) (mid := [wInk G o x w d h g q e, wSh8 G h ad (if sz < 8 then lw else (lw + 1) % 8) (if sz < 8 then sz + 1 else sz), wCs G ad (updS cs ((lw + sz) % 8) s) 8]) (w1 := wCh G w s.1 s.2.1 s.2.2.1 s.2.2.2.1 s.2.2.2.2.1 (cpP s.2.2.1 s.2.2.2.1 s.2.2.2.2.1 s.2.2.2.2.2 cN aN bN 5)) [2] [0, 1, 3] (show ([2] ++ [0, 1, 3] : List Nat).Perm (List.range 4) from by decide) rfl X (c_X0_copyPaper l G w s.1 s.2.1 s.2.2.1 s.2.2.2.1 s.2.2.2.2.1 s.2.2.2.2.2 aN bN cN (by omega) (by omega) (by omega) (by assumption)) rfl rfl rfl rfl xE0_ok (fun _ _ _ => trivial) 0 rfl rfl rfl wco_X0_copyPaper wi_X0 xd_X0_copyPaper wl_X4_129 win_X0_copyPaper wse_X0_copyPaper (by decide) (Nat.le_of_ble_eq_true rfl) dX4_copy_58 (Eq.trans (b := [w 0, w 1, w 2, w 3, w 4]) rfl rfl) ?_
          refine x_aloadn X dX4_copy_61 0 rfl ?_
          refine x_get X wu_X4 0 rfl rfl 1 (by decide) wf_X4_19 rfl rfl dX4_copy_62 ?_
          refine x_iloadn X dX4_copy_65 2 rfl ?_
          refine x_callVJrv (As := [.int (nI bN)]) (rest := []) (segs := [wInk G o x w d h g q e, wSh8 G h ad (if sz < 8 then lw else (lw + 1) % 8) (if sz < 8 then sz + 1 else sz), wCh G w s.1 s.2.1 s.2.2.1 s.2.2.2.1 s.2.2.2.2.1 (cpP s.2.2.1 s.2.2.2.1 s.2.2.2.2.1 s.2.2.2.2.2 cN aN bN 5), wCs G ad (updS cs ((lw + sz) % 8) s) 8]) [2] [0, 1, 3] (show ([2] ++ [0, 1, 3] : List Nat).Perm (List.range 4) from by decide) X (c_X0_filledLinesOf l G w s.1 s.2.1 s.2.2.1 s.2.2.2.1 s.2.2.2.2.1 (cpP s.2.2.1 s.2.2.2.1 s.2.2.2.2.1 s.2.2.2.2.2 cN aN bN 5) bN (by omega)) rfl xE0_ok (fun _ _ _ => trivial) 0 rfl rfl rfl wco_X0_filledLinesOf wi_X0 xd_X0_filledLinesOf wl_X4_132 win_X0_filledLinesOf wse_X0_filledLinesOf (by decide) (Nat.le_of_ble_eq_true rfl) dX4_copy_66 ?_
          exact x_ret X dX4_copy_69 ⟨ret_i (by simp [F_copy, F_copyOk, F_wr, tn, c_1, qaN, c_2, qbN, c_3, hne, c_4, qcN]), (by have ho : F_copyOk s (nI aN) (nI bN) (nI cN) = true := (by simp [F_copyOk, c_1, qaN, c_2, qbN, c_3, hne, c_4, qcN]); simp only [pLw, pSz, pCs, F_copyS, ho, tn, F_wr, Bool.false_eq_true, if_false, if_true, qaN, qbN, qcN] <;> rfl), by decide, by decide⟩
        · -- 35 f
          refine x_iconst (v := (-1)) X dX4_copy_38 (by decide) ?_
          exact x_ret X dX4_copy_39 ⟨ret_i (by simp [F_copy, F_copyOk, F_wr, tn, c_1, qaN, c_2, qbN, c_3, hne, c_4]), (by have ho : F_copyOk s (nI aN) (nI bN) c = false := (by simp [F_copyOk, c_1, qaN, c_2, qbN, c_3, hne, c_4]); simp only [pLw, pSz, pCs, F_copyS, ho, tn, F_wr, Bool.false_eq_true, if_false, if_true, qaN, qbN] <;> rfl), by decide, by decide⟩
set_option maxRecDepth 100000 in
set_option maxHeartbeats 4000000 in
/-- X4_think -/
theorem c_X4_think (l : Launch) (G : xG) (o : Nat) (x : Nat → Nat) (w : Nat → Nat) (d : Nat → Nat) (h : Nat → Nat) (g : Nat → Nat) (q : Nat → Nat) (e : Nat) (ad : Nat → Nat → Nat) (lw : Nat) (sz : Nat) (s : xS) (cs : Nat → xS) (a : Int32) (b : Int32) (c : Int32) (hs6 : s.1 ≤ 6) (hs1 : 0 < s.1) (hq5 : s.2.1 ≤ 5) (hmi : ∀ j, j < 6 → inR (s.2.2.2.1 j) 6 = true) (hlw : lw < 8) (hsz : sz ≤ 8) : xM l G xE0 yX4_think cX4_think 5 (some .int) 4 94 0 0 [.ref o, .int a, .int b, .int c] (xJ [wInk G o x w d h g q e, wSh8 G h ad lw sz, wCq G w s, wCs G ad cs 8]) (some (.int (F_think s a b c))) (fun w2 => w2 = xJ [wInk G o x w d h g q e, wSh8 G h ad (pLw (F_thinkOk s a b c) lw sz) (pSz (F_thinkOk s a b c) sz), wCq G w (F_thinkS s a b c), wCs G ad (pCs (F_thinkOk s a b c) cs lw sz s) 8]) := by
  refine x_entry (by decide +kernel) (Nat.le_of_ble_eq_true rfl) rfl ⟨_, rfl, rfl⟩ (fun K X => ?_)
  refine x_aloadn X dX4_think_0 0 rfl ?_
  refine x_get X wu_X4 0 rfl rfl 1 (by decide) wf_X4_19 rfl rfl dX4_think_1 ?_
  refine x_iloadn X dX4_think_4 1 rfl ?_
  refine x_callVJrv (As := [.int a]) (rest := []) (segs := [wInk G o x w d h g q e, wSh8 G h ad lw sz, wCq G w s, wCs G ad cs 8]) [2] [0, 1, 3] (show ([2] ++ [0, 1, 3] : List Nat).Perm (List.range 4) from by decide) X (c_X0_hasPerson l G w s.1 s.2.1 s.2.2.1 s.2.2.2.1 s.2.2.2.2.1 s.2.2.2.2.2 a (by omega)) rfl xE0_ok (fun _ _ _ => trivial) 0 rfl rfl rfl wco_X0_hasPerson wi_X0 xd_X0_hasPerson wl_X4_87 win_X0_hasPerson wse_X0_hasPerson (by decide) (Nat.le_of_ble_eq_true rfl) dX4_think_5 ?_
  refine x_ifeq_b 27 X dX4_think_8 (by decide) (fun c_1 => ?_) (fun c_1 => ?_)
  · -- 8 t
    refine x_iconst (v := (-1)) X dX4_think_27 (by decide) ?_
    exact x_ret X dX4_think_28 ⟨ret_i (by simp [F_think, F_thinkOk, F_wr, tn, c_1]), (by have ho : F_thinkOk s a b c = false := (by simp [F_thinkOk, c_1]); simp only [pLw, pSz, pCs, F_thinkS, ho, tn, F_wr, Bool.false_eq_true, if_false, if_true, if_true] <;> rfl), by decide, by decide⟩
  · -- 8 f
    obtain ⟨aN, haN, rfl⟩ := inR_nat c_1 (by omega)
    have qaN : (nI aN).toNatClampNeg = aN := nI_clamp (by omega)
    refine x_iloadn X dX4_think_11 2 rfl ?_
    refine x_callSrv (As := [.int b]) (rest := []) X (c_X4_isTheme l G b) xE0_ok (fun _ _ _ => trivial) [] rfl rfl rfl wco_X4_isTheme wi_X4 xd_X4_isTheme wl_X4_102 wst_X4_isTheme (by decide) (Nat.le_of_ble_eq_true rfl) dX4_think_12 ?_
    refine x_ifeq_b 27 X dX4_think_15 (by decide) (fun c_2 => ?_) (fun c_2 => ?_)
    · -- 15 t
      refine x_iconst (v := (-1)) X dX4_think_27 (by decide) ?_
      exact x_ret X dX4_think_28 ⟨ret_i (by simp [F_think, F_thinkOk, F_wr, tn, c_1, qaN, c_2]), (by have ho : F_thinkOk s (nI aN) b c = false := (by simp [F_thinkOk, c_1, qaN, c_2]); simp only [pLw, pSz, pCs, F_thinkS, ho, tn, F_wr, Bool.false_eq_true, if_false, if_true, qaN] <;> rfl), by decide, by decide⟩
    · -- 15 f
      obtain ⟨bN, hbN, rfl⟩ := inR_nat c_2 (by omega)
      have qbN : (nI bN).toNatClampNeg = bN := nI_clamp (by omega)
      refine x_iloadn X dX4_think_18 3 rfl ?_
      refine x_bipush (v := nI 18) X dX4_think_19 (by decide) ?_
      refine x_callSrv (As := [.int c, .int (nI 18)]) (rest := []) X (c_X4_isUpTo l G c 18 (by omega)) xE0_ok (fun _ _ _ => trivial) [] rfl rfl rfl wco_X4_isUpTo wi_X4 xd_X4_isUpTo wl_X4_91 wst_X4_isUpTo (by decide) (Nat.le_of_ble_eq_true rfl) dX4_think_21 ?_
      refine x_ifne_b 29 X dX4_think_24 (by decide) (fun c_3 => ?_) (fun c_3 => ?_)
      · -- 24 t
        obtain ⟨cN, hcN, rfl⟩ := inR_nat c_3 (by omega)
        have qcN : (nI cN).toNatClampNeg = cN := nI_clamp (by omega)
        refine x_aloadn X dX4_think_29 0 rfl ?_
        refine x_get X wu_X4 0 rfl rfl 3 (by decide) wf_X4_31 rfl rfl dX4_think_30 ?_
        refine x_aloadn X dX4_think_33 0 rfl ?_
        refine x_get X wu_X4 0 rfl rfl 1 (by decide) wf_X4_19 rfl rfl dX4_think_34 ?_
        refine x_callVJf0 (As := [.ref (w 0)]) (rest := []) (segs := [wInk G o x w d h g q e, wSh8 G h ad lw sz, wCq G w s, wCs G ad cs 8]) (segs' := [wInk G o x w d h g q e, wSh8 G h ad (if sz < 8 then lw else (lw + 1) % 8) (if sz < 8 then sz + 1 else sz), wCq G w s, wCs G ad (updS cs ((lw + sz) % 8) s) 8]) (mid := [wInk G o x w d h g q e]) (w1 := xJ [wSh8 G h ad (if sz < 8 then lw else (lw + 1) % 8) (if sz < 8 then sz + 1 else sz), wCq G w s, wCs G ad (updS cs ((lw + sz) % 8) s) 8]) [1, 2, 3] [0] (show ([1, 2, 3] ++ [0] : List Nat).Perm (List.range 4) from by decide) rfl X (c_X1_push__8 l G h ad lw sz w s cs (by omega) (by omega)) rfl rfl rfl rfl xE0_ok (fun _ _ _ => trivial) 0 rfl rfl rfl wco_X1_push wi_X1 xd_X1_push wl_X4_122 win_X1_push wse_X1_push (by decide) (Nat.le_of_ble_eq_true rfl) dX4_think_37 (by simp only [xJ, List.map_append, skCs, wCh, wIA, wTx, wSg, wSh8, wSh2, wInk, List.map_cons, List.map_nil]) ?_
        refine x_aloadn X dX4_think_40 0 rfl ?_
        refine x_get X wu_X4 0 rfl rfl 1 (by decide) wf_X4_19 rfl rfl dX4_think_41 ?_
        refine x_iloadn X dX4_think_44 1 rfl ?_
        refine x_iloadn X dX4_think_45 2 rfl ?_
        refine x_callVJrv (As := [.int (nI aN), .int (nI bN)]) (rest := []) (segs := [wInk G o x w d h g q e, wSh8 G h ad (if sz < 8 then lw else (lw + 1) % 8) (if sz < 8 then sz + 1 else sz), wCq G w s, wCs G ad (updS cs ((lw + sz) % 8) s) 8]) [2] [0, 1, 3] (show ([2] ++ [0, 1, 3] : List Nat).Perm (List.range 4) from by decide) X (c_X0_viewOf l G w s.1 s.2.1 s.2.2.1 s.2.2.2.1 s.2.2.2.2.1 s.2.2.2.2.2 aN bN (by omega) (by omega)) rfl xE0_ok (fun _ _ _ => trivial) 0 rfl rfl rfl wco_X0_viewOf wi_X0 xd_X0_viewOf wl_X4_105 win_X0_viewOf wse_X0_viewOf (by decide) (Nat.le_of_ble_eq_true rfl) dX4_think_46 ?_
        refine x_istore (lv' := [(4, .int (s.2.2.2.2.1 (aN * 5 + bN))), (0, .ref o), (1, .int (nI aN)), (2, .int (nI bN)), (3, .int (nI cN))]) X dX4_think_49 (by decide) rfl ?_
        refine x_aloadn X dX4_think_51 1 rfl ?_
        refine x_get X wu_X4 0 rfl rfl 1 (by decide) wf_X4_19 rfl rfl dX4_think_52 ?_
        refine x_iloadn X dX4_think_55 2 rfl ?_
        refine x_iloadn X dX4_think_56 3 rfl ?_
        refine x_iloadn X dX4_think_57 4 rfl ?_
        refine x_bipush (v := nI 9) X dX4_think_58 (by decide) ?_
        refine x_isub (v := (nI cN) - (nI 9)) X dX4_think_60 rfl ?_
        refine x_callVJf0 (As := [.int (nI aN), .int (nI bN), .int ((nI cN) - (nI 9))]) (rest := []) (segs := [wInk G o x w d h g q e, wSh8 G h ad (if sz < 8 then lw else (lw + 1) % 8) (if sz < 8 then sz + 1 else sz), wCq G w s, wCs G ad (updS cs ((lw + sz) % 8) s) 8]) (segs' := [wInk G o x w d h g q e, wSh8 G h ad (if sz < 8 then lw else (lw + 1) % 8) (if sz < 8 then sz + 1 else sz), wCh G w s.1 s.2.1 s.2.2.1 s.2.2.2.1 (upd s.2.2.2.2.1 (aN * 5 + bN) ((nI cN) - (nI 9))) s.2.2.2.2.2, wCs G ad (updS cs ((lw + sz) % 8) s) 8]) (mid := [wInk G o x w d h g q e, wSh8 G h ad (if sz < 8 then lw else (lw + 1) % 8) (if sz < 8 then sz + 1 else sz), wCs G ad (updS cs ((lw + sz) % 8) s) 8]) (w1 := wCh G w s.1 s.2.1 s.2.2.1 s.2.2.2.1 (upd s.2.2.2.2.1 (aN * 5 + bN) ((nI cN) - (nI 9))) s.2.2.2.2.2) [2] [0, 1, 3] (show ([2] ++ [0, 1, 3] : List Nat).Perm (List.range 4) from by decide) rfl X (c_X0_putView l G w s.1 s.2.1 s.2.2.1 s.2.2.2.1 s.2.2.2.2.1 s.2.2.2.2.2 aN bN ((nI cN) - (nI 9)) (by omega) (by omega)) rfl rfl rfl rfl xE0_ok (fun _ _ _ => trivial) 0 rfl rfl rfl wco_X0_putView wi_X0 xd_X0_putView wl_X4_135 win_X0_putView wse_X0_putView (by decide) (Nat.le_of_ble_eq_true rfl) dX4_think_61 (Eq.trans (b := [w 0, w 1, w 2, w 3, w 4]) rfl rfl) ?_
        refine x_iload X dX4_think_64 0 rfl ?_
        refine x_bipush (v := nI 9) X dX4_think_66 (by decide) ?_
        refine x_iadd (v := (s.2.2.2.2.1 (aN * 5 + bN)) + (nI 9)) X dX4_think_68 rfl ?_
        exact x_ret X dX4_think_69 ⟨ret_i (by simp [F_think, F_thinkOk, F_wr, tn, c_1, qaN, c_2, qbN, c_3, qcN]), (by have ho : F_thinkOk s (nI aN) (nI bN) (nI cN) = true := (by simp [F_thinkOk, c_1, qaN, c_2, qbN, c_3, qcN]); simp only [pLw, pSz, pCs, F_thinkS, ho, tn, F_wr, Bool.false_eq_true, if_false, if_true, qaN, qbN, qcN] <;> rfl), by decide, by decide⟩
      · -- 24 f
        refine x_iconst (v := (-1)) X dX4_think_27 (by decide) ?_
        exact x_ret X dX4_think_28 ⟨ret_i (by simp [F_think, F_thinkOk, F_wr, tn, c_1, qaN, c_2, qbN, c_3]), (by have ho : F_thinkOk s (nI aN) (nI bN) c = false := (by simp [F_thinkOk, c_1, qaN, c_2, qbN, c_3]); simp only [pLw, pSz, pCs, F_thinkS, ho, tn, F_wr, Bool.false_eq_true, if_false, if_true, qaN, qbN] <;> rfl), by decide, by decide⟩
set_option maxRecDepth 100000 in
set_option maxHeartbeats 4000000 in
/-- X4_mind -/
theorem c_X4_mind (l : Launch) (G : xG) (o : Nat) (x : Nat → Nat) (w : Nat → Nat) (d : Nat → Nat) (h : Nat → Nat) (g : Nat → Nat) (q : Nat → Nat) (e : Nat) (ad : Nat → Nat → Nat) (lw : Nat) (sz : Nat) (s : xS) (cs : Nat → xS) (a : Int32) (b : Int32) (hs6 : s.1 ≤ 6) (hs1 : 0 < s.1) (hq5 : s.2.1 ≤ 5) (hmi : ∀ j, j < 6 → inR (s.2.2.2.1 j) 6 = true) (hlw : lw < 8) (hsz : sz ≤ 8) : xM l G xE0 yX4_mind cX4_mind 4 (some .int) 4 94 0 0 [.ref o, .int a, .int b] (xJ [wInk G o x w d h g q e, wSh8 G h ad lw sz, wCq G w s, wCs G ad cs 8]) (some (.int (F_mind s a b))) (fun w2 => w2 = xJ [wInk G o x w d h g q e, wSh8 G h ad (pLw (F_mindOk s a b) lw sz) (pSz (F_mindOk s a b) sz), wCq G w (F_mindS s a b), wCs G ad (pCs (F_mindOk s a b) cs lw sz s) 8]) := by
  refine x_entry (by decide +kernel) (Nat.le_of_ble_eq_true rfl) rfl ⟨_, rfl, rfl⟩ (fun K X => ?_)
  refine x_aloadn X dX4_mind_0 0 rfl ?_
  refine x_get X wu_X4 0 rfl rfl 1 (by decide) wf_X4_19 rfl rfl dX4_mind_1 ?_
  refine x_iloadn X dX4_mind_4 1 rfl ?_
  refine x_callVJrv (As := [.int a]) (rest := []) (segs := [wInk G o x w d h g q e, wSh8 G h ad lw sz, wCq G w s, wCs G ad cs 8]) [2] [0, 1, 3] (show ([2] ++ [0, 1, 3] : List Nat).Perm (List.range 4) from by decide) X (c_X0_hasPerson l G w s.1 s.2.1 s.2.2.1 s.2.2.2.1 s.2.2.2.2.1 s.2.2.2.2.2 a (by omega)) rfl xE0_ok (fun _ _ _ => trivial) 0 rfl rfl rfl wco_X0_hasPerson wi_X0 xd_X0_hasPerson wl_X4_87 win_X0_hasPerson wse_X0_hasPerson (by decide) (Nat.le_of_ble_eq_true rfl) dX4_mind_5 ?_
  refine x_ifeq_b 22 X dX4_mind_8 (by decide) (fun c_1 => ?_) (fun c_1 => ?_)
  · -- 8 t
    refine x_iconst (v := (-1)) X dX4_mind_22 (by decide) ?_
    exact x_ret X dX4_mind_23 ⟨ret_i (by simp [F_mind, F_mindOk, F_wr, tn, c_1]), (by have ho : F_mindOk s a b = false := (by simp [F_mindOk, c_1]); simp only [pLw, pSz, pCs, F_mindS, ho, tn, F_wr, Bool.false_eq_true, if_false, if_true, if_true] <;> rfl), by decide, by decide⟩
  · -- 8 f
    obtain ⟨aN, haN, rfl⟩ := inR_nat c_1 (by omega)
    have qaN : (nI aN).toNatClampNeg = aN := nI_clamp (by omega)
    refine x_aloadn X dX4_mind_11 0 rfl ?_
    refine x_get X wu_X4 0 rfl rfl 1 (by decide) wf_X4_19 rfl rfl dX4_mind_12 ?_
    refine x_iloadn X dX4_mind_15 2 rfl ?_
    refine x_callVJrv (As := [.int b]) (rest := []) (segs := [wInk G o x w d h g q e, wSh8 G h ad lw sz, wCq G w s, wCs G ad cs 8]) [2] [0, 1, 3] (show ([2] ++ [0, 1, 3] : List Nat).Perm (List.range 4) from by decide) X (c_X0_hasPerson l G w s.1 s.2.1 s.2.2.1 s.2.2.2.1 s.2.2.2.2.1 s.2.2.2.2.2 b (by omega)) rfl xE0_ok (fun _ _ _ => trivial) 0 rfl rfl rfl wco_X0_hasPerson wi_X0 xd_X0_hasPerson wl_X4_87 win_X0_hasPerson wse_X0_hasPerson (by decide) (Nat.le_of_ble_eq_true rfl) dX4_mind_16 ?_
    refine x_ifne_b 24 X dX4_mind_19 (by decide) (fun c_2 => ?_) (fun c_2 => ?_)
    · -- 19 t
      obtain ⟨bN, hbN, rfl⟩ := inR_nat c_2 (by omega)
      have qbN : (nI bN).toNatClampNeg = bN := nI_clamp (by omega)
      refine x_aloadn X dX4_mind_24 0 rfl ?_
      refine x_get X wu_X4 0 rfl rfl 3 (by decide) wf_X4_31 rfl rfl dX4_mind_25 ?_
      refine x_aloadn X dX4_mind_28 0 rfl ?_
      refine x_get X wu_X4 0 rfl rfl 1 (by decide) wf_X4_19 rfl rfl dX4_mind_29 ?_
      refine x_callVJf0 (As := [.ref (w 0)]) (rest := []) (segs := [wInk G o x w d h g q e, wSh8 G h ad lw sz, wCq G w s, wCs G ad cs 8]) (segs' := [wInk G o x w d h g q e, wSh8 G h ad (if sz < 8 then lw else (lw + 1) % 8) (if sz < 8 then sz + 1 else sz), wCq G w s, wCs G ad (updS cs ((lw + sz) % 8) s) 8]) (mid := [wInk G o x w d h g q e]) (w1 := xJ [wSh8 G h ad (if sz < 8 then lw else (lw + 1) % 8) (if sz < 8 then sz + 1 else sz), wCq G w s, wCs G ad (updS cs ((lw + sz) % 8) s) 8]) [1, 2, 3] [0] (show ([1, 2, 3] ++ [0] : List Nat).Perm (List.range 4) from by decide) rfl X (c_X1_push__8 l G h ad lw sz w s cs (by omega) (by omega)) rfl rfl rfl rfl xE0_ok (fun _ _ _ => trivial) 0 rfl rfl rfl wco_X1_push wi_X1 xd_X1_push wl_X4_122 win_X1_push wse_X1_push (by decide) (Nat.le_of_ble_eq_true rfl) dX4_mind_32 (by simp only [xJ, List.map_append, skCs, wCh, wIA, wTx, wSg, wSh8, wSh2, wInk, List.map_cons, List.map_nil]) ?_
      refine x_aloadn X dX4_mind_35 0 rfl ?_
      refine x_get X wu_X4 0 rfl rfl 1 (by decide) wf_X4_19 rfl rfl dX4_mind_36 ?_
      refine x_iloadn X dX4_mind_39 1 rfl ?_
      refine x_callVJrv (As := [.int (nI aN)]) (rest := []) (segs := [wInk G o x w d h g q e, wSh8 G h ad (if sz < 8 then lw else (lw + 1) % 8) (if sz < 8 then sz + 1 else sz), wCq G w s, wCs G ad (updS cs ((lw + sz) % 8) s) 8]) [2] [0, 1, 3] (show ([2] ++ [0, 1, 3] : List Nat).Perm (List.range 4) from by decide) X (c_X0_mindOf l G w s.1 s.2.1 s.2.2.1 s.2.2.2.1 s.2.2.2.2.1 s.2.2.2.2.2 aN (by omega)) rfl xE0_ok (fun _ _ _ => trivial) 0 rfl rfl rfl wco_X0_mindOf wi_X0 xd_X0_mindOf wl_X4_99 win_X0_mindOf wse_X0_mindOf (by decide) (Nat.le_of_ble_eq_true rfl) dX4_mind_40 ?_
      refine x_istoren (lv' := [(3, .int (s.2.2.2.1 aN)), (0, .ref o), (1, .int (nI aN)), (2, .int (nI bN))]) X dX4_mind_43 (by decide) rfl ?_
      refine x_aloadn X dX4_mind_44 1 rfl ?_
      refine x_get X wu_X4 0 rfl rfl 1 (by decide) wf_X4_19 rfl rfl dX4_mind_45 ?_
      refine x_iloadn X dX4_mind_48 2 rfl ?_
      refine x_iloadn X dX4_mind_49 3 rfl ?_
      refine x_callVJf0 (As := [.int (nI aN), .int (nI bN)]) (rest := []) (segs := [wInk G o x w d h g q e, wSh8 G h ad (if sz < 8 then lw else (lw + 1) % 8) (if sz < 8 then sz + 1 else sz), wCq G w s, wCs G ad (updS cs ((lw + sz) % 8) s) 8]) (segs' := [wInk G o x w d h g q e, wSh8 G h ad (if sz < 8 then lw else (lw + 1) % 8) (if sz < 8 then sz + 1 else sz), wCh G w s.1 s.2.1 s.2.2.1 (upd s.2.2.2.1 aN (nI bN)) s.2.2.2.2.1 s.2.2.2.2.2, wCs G ad (updS cs ((lw + sz) % 8) s) 8]) (mid := [wInk G o x w d h g q e, wSh8 G h ad (if sz < 8 then lw else (lw + 1) % 8) (if sz < 8 then sz + 1 else sz), wCs G ad (updS cs ((lw + sz) % 8) s) 8]) (w1 := wCh G w s.1 s.2.1 s.2.2.1 (upd s.2.2.2.1 aN (nI bN)) s.2.2.2.2.1 s.2.2.2.2.2) [2] [0, 1, 3] (show ([2] ++ [0, 1, 3] : List Nat).Perm (List.range 4) from by decide) rfl X (c_X0_putMind l G w s.1 s.2.1 s.2.2.1 s.2.2.2.1 s.2.2.2.2.1 s.2.2.2.2.2 aN (nI bN) (by omega)) rfl rfl rfl rfl xE0_ok (fun _ _ _ => trivial) 0 rfl rfl rfl wco_X0_putMind wi_X0 xd_X0_putMind wl_X4_138 win_X0_putMind wse_X0_putMind (by decide) (Nat.le_of_ble_eq_true rfl) dX4_mind_50 (Eq.trans (b := [w 0, w 1, w 2, w 3, w 4]) rfl rfl) ?_
      refine x_iloadn X dX4_mind_53 0 rfl ?_
      exact x_ret X dX4_mind_54 ⟨ret_i (by simp [F_mind, F_mindOk, F_wr, tn, c_1, qaN, c_2, qbN]), (by have ho : F_mindOk s (nI aN) (nI bN) = true := (by simp [F_mindOk, c_1, qaN, c_2, qbN]); simp only [pLw, pSz, pCs, F_mindS, ho, tn, F_wr, Bool.false_eq_true, if_false, if_true, qaN, qbN] <;> rfl), by decide, by decide⟩
    · -- 19 f
      refine x_iconst (v := (-1)) X dX4_mind_22 (by decide) ?_
      exact x_ret X dX4_mind_23 ⟨ret_i (by simp [F_mind, F_mindOk, F_wr, tn, c_1, qaN, c_2]), (by have ho : F_mindOk s (nI aN) b = false := (by simp [F_mindOk, c_1, qaN, c_2]); simp only [pLw, pSz, pCs, F_mindS, ho, tn, F_wr, Bool.false_eq_true, if_false, if_true, qaN] <;> rfl), by decide, by decide⟩
set_option maxRecDepth 100000 in
set_option maxHeartbeats 4000000 in
/-- X4_undo -/
theorem c_X4_undo (l : Launch) (G : xG) (o : Nat) (x : Nat → Nat) (w : Nat → Nat) (d : Nat → Nat) (h : Nat → Nat) (g : Nat → Nat) (q : Nat → Nat) (e : Nat) (ad : Nat → Nat → Nat) (lw : Nat) (sz : Nat) (s : xS) (cs : Nat → xS) (hs6 : s.1 ≤ 6) (hs1 : 0 < s.1) (hq5 : s.2.1 ≤ 5) (hmi : ∀ j, j < 6 → inR (s.2.2.2.1 j) 6 = true) (hlw : lw < 8) (hsz : sz ≤ 8) : xM l G xE0 yX4_undo cX4_undo 1 (some .int) 4 94 0 0 [.ref o] (xJ [wInk G o x w d h g q e, wSh8 G h ad lw sz, wCq G w s, wCs G ad cs 8]) (some (.int (F_undo sz))) (fun w2 => w2 = xJ [wInk G o x w d h g q e, wSh8 G h ad lw (sz - 1), wCq G w (F_undoS s cs lw sz), wCs G ad cs 8]) := by
  refine x_entry (by decide +kernel) (Nat.le_of_ble_eq_true rfl) rfl ⟨_, rfl, rfl⟩ (fun K X => ?_)
  rcases Nat.eq_zero_or_pos sz with rfl | h0
  · -- 0
    refine x_aloadn X dX4_undo_0 0 rfl ?_
    refine x_get X wu_X4 0 rfl rfl 3 (by decide) wf_X4_31 rfl rfl dX4_undo_1 ?_
    refine x_aloadn X dX4_undo_4 0 rfl ?_
    refine x_get X wu_X4 0 rfl rfl 1 (by decide) wf_X4_19 rfl rfl dX4_undo_5 ?_
    refine x_callVJrv (As := [.ref (w 0)]) (rest := []) (segs := [wInk G o x w d h g q e, wSh8 G h ad lw 0, wCq G w s, wCs G ad cs 8]) [1, 2] [0, 3] (show ([1, 2] ++ [0, 3] : List Nat).Perm (List.range 4) from by decide) X (c_X1_popInto__80 l G h ad lw w s) rfl xE0_ok (fun _ _ _ => trivial) 0 rfl rfl rfl wco_X1_popInto wi_X1 xd_X1_popInto wl_X4_142 win_X1_popInto wse_X1_popInto (by decide) (Nat.le_of_ble_eq_true rfl) dX4_undo_8 ?_
    refine x_ifeq_b 24 X dX4_undo_11 (by decide) (fun c_1 => ?_) (fun c_1 => ?_)
    · -- 11 t
      refine x_bipush (v := (-2)) X dX4_undo_24 (by decide) ?_
      exact x_ret X dX4_undo_26 ⟨ret_i (by rfl), rfl, by decide, by decide⟩
    · -- 11 f
      exact absurd c_1 (by decide)
  · -- some
    refine x_aloadn X dX4_undo_0 0 rfl ?_
    refine x_get X wu_X4 0 rfl rfl 3 (by decide) wf_X4_31 rfl rfl dX4_undo_1 ?_
    refine x_aloadn X dX4_undo_4 0 rfl ?_
    refine x_get X wu_X4 0 rfl rfl 1 (by decide) wf_X4_19 rfl rfl dX4_undo_5 ?_
    refine x_callVJfv (As := [.ref (w 0)]) (rest := []) (segs := [wInk G o x w d h g q e, wSh8 G h ad lw sz, wCq G w s, wCs G ad cs 8]) (segs' := [wInk G o x w d h g q e, wSh8 G h ad lw (sz - 1), wCq G w (cs ((lw + (sz - 1)) % 8)), wCs G ad cs 8]) (mid := [wInk G o x w d h g q e]) (w1 := xJ [wSh8 G h ad lw (sz - 1), wCq G w (cs ((lw + (sz - 1)) % 8)), wCs G ad cs 8]) [1, 2, 3] [0] (show ([1, 2, 3] ++ [0] : List Nat).Perm (List.range 4) from by decide) rfl X (c_X1_popInto__8 l G h ad lw sz w s cs (by omega) (by omega) (by omega)) rfl rfl rfl rfl xE0_ok (fun _ _ _ => trivial) 0 rfl rfl rfl wco_X1_popInto wi_X1 xd_X1_popInto wl_X4_142 win_X1_popInto wse_X1_popInto (by decide) (Nat.le_of_ble_eq_true rfl) dX4_undo_8 (by simp only [xJ, List.map_append, skCs, wCh, wIA, wTx, wSg, wSh8, wSh2, wInk, List.map_cons, List.map_nil]) ?_
    refine x_ifeq_b 24 X dX4_undo_11 (by decide) (fun c_2 => ?_) (fun c_2 => ?_)
    · -- 11 t
      exact absurd c_2 (by decide)
    · -- 11 f
      refine x_aloadn X dX4_undo_14 0 rfl ?_
      refine x_get X wu_X4 0 rfl rfl 3 (by decide) wf_X4_31 rfl rfl dX4_undo_15 ?_
      refine x_callVJrv (As := []) (rest := []) (segs := [wInk G o x w d h g q e, wSh8 G h ad lw (sz - 1), wCq G w (cs ((lw + (sz - 1)) % 8)), wCs G ad cs 8]) [1] [0, 2, 3] (show ([1] ++ [0, 2, 3] : List Nat).Perm (List.range 4) from by decide) X (c_X1_size__8 l G h ad lw (sz - 1)) rfl xE0_ok (fun _ _ _ => trivial) 0 rfl rfl rfl wco_X1_size wi_X1 xd_X1_size wl_X4_146 win_X1_size wse_X1_size (by decide) (Nat.le_of_ble_eq_true rfl) dX4_undo_18 ?_
      refine x_goto 26 X dX4_undo_21 (by decide) ?_
      exact x_ret X dX4_undo_26 ⟨ret_i (by rw [F_undo, if_neg (by omega)]), (by rw [F_undoS, if_neg (by omega)]), by decide, by decide⟩
set_option maxRecDepth 100000 in
set_option maxHeartbeats 4000000 in
/-- X4_back -/
theorem c_X4_back (l : Launch) (G : xG) (o : Nat) (x : Nat → Nat) (w : Nat → Nat) (d : Nat → Nat) (h : Nat → Nat) (g : Nat → Nat) (q : Nat → Nat) (e : Nat) (ad : Nat → Nat → Nat) (lw : Nat) (sz : Nat) (ad2 : Nat → Nat → Nat) (lw2 : Nat) (sz2 : Nat) (s : xS) (cs2 : Nat → xS) (hs6 : s.1 ≤ 6) (hs1 : 0 < s.1) (hq5 : s.2.1 ≤ 5) (hmi : ∀ j, j < 6 → inR (s.2.2.2.1 j) 6 = true) (hlw2 : lw2 < 2) (hsz2 : sz2 ≤ 2) : xM l G xE0 yX4_back cX4_back 1 (some .int) 4 94 0 0 [.ref o] (xJ [wInk G o x w d h g q e, wSh8 G h ad lw sz, wSh2 G g ad2 lw2 sz2, wCq G w s, wCs G ad2 cs2 2]) (some (.int (F_undo sz2))) (fun w2 => w2 = xJ [wInk G o x w d h g q e, wSh8 G h ad lw (if sz2 = 0 then sz else 0), wSh2 G g ad2 lw2 (sz2 - 1), wCq G w (F_backS s cs2 lw2 sz2), wCs G ad2 cs2 2]) := by
  refine x_entry (by decide +kernel) (Nat.le_of_ble_eq_true rfl) rfl ⟨_, rfl, rfl⟩ (fun K X => ?_)
  rcases Nat.eq_zero_or_pos sz2 with rfl | h0
  · -- 0
    refine x_aloadn X dX4_back_0 0 rfl ?_
    refine x_get X wu_X4 0 rfl rfl 4 (by decide) wf_X4_35 rfl rfl dX4_back_1 ?_
    refine x_aloadn X dX4_back_4 0 rfl ?_
    refine x_get X wu_X4 0 rfl rfl 1 (by decide) wf_X4_19 rfl rfl dX4_back_5 ?_
    refine x_callVJrv (As := [.ref (w 0)]) (rest := []) (segs := [wInk G o x w d h g q e, wSh8 G h ad lw sz, wSh2 G g ad2 lw2 0, wCq G w s, wCs G ad2 cs2 2]) [2, 3] [0, 1, 4] (show ([2, 3] ++ [0, 1, 4] : List Nat).Perm (List.range 5) from by decide) X (c_X1_popInto__20 l G g ad2 lw2 w s) rfl xE0_ok (fun _ _ _ => trivial) 0 rfl rfl rfl wco_X1_popInto wi_X1 xd_X1_popInto wl_X4_142 win_X1_popInto wse_X1_popInto (by decide) (Nat.le_of_ble_eq_true rfl) dX4_back_8 ?_
    refine x_ifne_b 17 X dX4_back_11 (by decide) (fun c_1 => ?_) (fun c_1 => ?_)
    · -- 11 t
      exact absurd c_1 (by decide)
    · -- 11 f
      refine x_bipush (v := (-2)) X dX4_back_14 (by decide) ?_
      exact x_ret X dX4_back_16 ⟨ret_i (by rfl), rfl, by decide, by decide⟩
  · -- some
    refine x_aloadn X dX4_back_0 0 rfl ?_
    refine x_get X wu_X4 0 rfl rfl 4 (by decide) wf_X4_35 rfl rfl dX4_back_1 ?_
    refine x_aloadn X dX4_back_4 0 rfl ?_
    refine x_get X wu_X4 0 rfl rfl 1 (by decide) wf_X4_19 rfl rfl dX4_back_5 ?_
    refine x_callVJfv (As := [.ref (w 0)]) (rest := []) (segs := [wInk G o x w d h g q e, wSh8 G h ad lw sz, wSh2 G g ad2 lw2 sz2, wCq G w s, wCs G ad2 cs2 2]) (segs' := [wInk G o x w d h g q e, wSh8 G h ad lw sz, wSh2 G g ad2 lw2 (sz2 - 1), wCq G w (cs2 ((lw2 + (sz2 - 1)) % 2)), wCs G ad2 cs2 2]) (mid := [wInk G o x w d h g q e, wSh8 G h ad lw sz]) (w1 := xJ [wSh2 G g ad2 lw2 (sz2 - 1), wCq G w (cs2 ((lw2 + (sz2 - 1)) % 2)), wCs G ad2 cs2 2]) [2, 3, 4] [0, 1] (show ([2, 3, 4] ++ [0, 1] : List Nat).Perm (List.range 5) from by decide) rfl X (c_X1_popInto__2 l G g ad2 lw2 sz2 w s cs2 (by omega) (by omega) (by omega)) rfl rfl rfl rfl xE0_ok (fun _ _ _ => trivial) 0 rfl rfl rfl wco_X1_popInto wi_X1 xd_X1_popInto wl_X4_142 win_X1_popInto wse_X1_popInto (by decide) (Nat.le_of_ble_eq_true rfl) dX4_back_8 (by simp only [xJ, List.map_append, skCs, wCh, wIA, wTx, wSg, wSh8, wSh2, wInk, List.map_cons, List.map_nil]) ?_
    refine x_ifne_b 17 X dX4_back_11 (by decide) (fun c_2 => ?_) (fun c_2 => ?_)
    · -- 11 t
      refine x_aloadn X dX4_back_17 0 rfl ?_
      refine x_get X wu_X4 0 rfl rfl 3 (by decide) wf_X4_31 rfl rfl dX4_back_18 ?_
      refine x_callVJf0 (As := []) (rest := []) (segs := [wInk G o x w d h g q e, wSh8 G h ad lw sz, wSh2 G g ad2 lw2 (sz2 - 1), wCq G w (cs2 ((lw2 + (sz2 - 1)) % 2)), wCs G ad2 cs2 2]) (segs' := [wInk G o x w d h g q e, wSh8 G h ad lw 0, wSh2 G g ad2 lw2 (sz2 - 1), wCq G w (cs2 ((lw2 + (sz2 - 1)) % 2)), wCs G ad2 cs2 2]) (mid := [wInk G o x w d h g q e, wSh2 G g ad2 lw2 (sz2 - 1), wCq G w (cs2 ((lw2 + (sz2 - 1)) % 2)), wCs G ad2 cs2 2]) (w1 := wSh8 G h ad lw 0) [1] [0, 2, 3, 4] (show ([1] ++ [0, 2, 3, 4] : List Nat).Perm (List.range 5) from by decide) rfl X (c_X1_clear__8 l G h ad lw sz) rfl rfl rfl rfl xE0_ok (fun _ _ _ => trivial) 0 rfl rfl rfl wco_X1_clear wi_X1 xd_X1_clear wl_X4_83 win_X1_clear wse_X1_clear (by decide) (Nat.le_of_ble_eq_true rfl) dX4_back_21 (Eq.trans (b := [h 0, h 1]) rfl rfl) ?_
      refine x_aloadn X dX4_back_24 0 rfl ?_
      refine x_get X wu_X4 0 rfl rfl 4 (by decide) wf_X4_35 rfl rfl dX4_back_25 ?_
      refine x_callVJrv (As := []) (rest := []) (segs := [wInk G o x w d h g q e, wSh8 G h ad lw 0, wSh2 G g ad2 lw2 (sz2 - 1), wCq G w (cs2 ((lw2 + (sz2 - 1)) % 2)), wCs G ad2 cs2 2]) [2] [0, 1, 3, 4] (show ([2] ++ [0, 1, 3, 4] : List Nat).Perm (List.range 5) from by decide) X (c_X1_size__2 l G g ad2 lw2 (sz2 - 1)) rfl xE0_ok (fun _ _ _ => trivial) 0 rfl rfl rfl wco_X1_size wi_X1 xd_X1_size wl_X4_146 win_X1_size wse_X1_size (by decide) (Nat.le_of_ble_eq_true rfl) dX4_back_28 ?_
      exact x_ret X dX4_back_31 ⟨ret_i (by rw [F_undo, if_neg (by omega)]), (by rw [F_backS, if_neg (by omega), if_neg (by omega)]), by decide, by decide⟩
    · -- 11 f
      exact absurd c_2 (by decide)
set_option maxRecDepth 100000 in
set_option maxHeartbeats 4000000 in
/-- X4_keep -/
theorem c_X4_keep (l : Launch) (G : xG) (o : Nat) (x : Nat → Nat) (w : Nat → Nat) (d : Nat → Nat) (h : Nat → Nat) (g : Nat → Nat) (q : Nat → Nat) (e : Nat) (ad2 : Nat → Nat → Nat) (lw2 : Nat) (sz2 : Nat) (s : xS) (cs2 : Nat → xS) (hs6 : s.1 ≤ 6) (hs1 : 0 < s.1) (hq5 : s.2.1 ≤ 5) (hmi : ∀ j, j < 6 → inR (s.2.2.2.1 j) 6 = true) (hlw2 : lw2 < 2) (hsz2 : sz2 ≤ 2) : xM l G xE0 yX4_keep cX4_keep 1 (some .int) 4 94 0 0 [.ref o] (xJ [wInk G o x w d h g q e, wSh2 G g ad2 lw2 sz2, wCq G w s, wCs G ad2 cs2 2]) (some (.int (F_keep sz2))) (fun w2 => w2 = xJ [wInk G o x w d h g q e, wSh2 G g ad2 lw2 (kSz sz2), wCq G w s, wCs G ad2 (kCs cs2 lw2 sz2 s) 2]) := by
  refine x_entry (by decide +kernel) (Nat.le_of_ble_eq_true rfl) rfl ⟨_, rfl, rfl⟩ (fun K X => ?_)
  refine x_aloadn X dX4_keep_0 0 rfl ?_
  refine x_get X wu_X4 0 rfl rfl 4 (by decide) wf_X4_35 rfl rfl dX4_keep_1 ?_
  refine x_callVJrv (As := []) (rest := []) (segs := [wInk G o x w d h g q e, wSh2 G g ad2 lw2 sz2, wCq G w s, wCs G ad2 cs2 2]) [1] [0, 2, 3] (show ([1] ++ [0, 2, 3] : List Nat).Perm (List.range 4) from by decide) X (c_X1_size__2 l G g ad2 lw2 sz2) rfl xE0_ok (fun _ _ _ => trivial) 0 rfl rfl rfl wco_X1_size wi_X1 xd_X1_size wl_X4_146 win_X1_size wse_X1_size (by decide) (Nat.le_of_ble_eq_true rfl) dX4_keep_4 ?_
  refine x_iconst (v := nI 2) X dX4_keep_7 (by decide) ?_
  refine x_icmp_lt_n 14 X dX4_keep_8 (by decide) (by omega) (by omega) (fun c_1 => ?_) (fun c_1 => ?_)
  · -- 8 t
    refine x_aloadn X dX4_keep_14 0 rfl ?_
    refine x_get X wu_X4 0 rfl rfl 4 (by decide) wf_X4_35 rfl rfl dX4_keep_15 ?_
    refine x_aloadn X dX4_keep_18 0 rfl ?_
    refine x_get X wu_X4 0 rfl rfl 1 (by decide) wf_X4_19 rfl rfl dX4_keep_19 ?_
    refine x_callVJf0 (As := [.ref (w 0)]) (rest := []) (segs := [wInk G o x w d h g q e, wSh2 G g ad2 lw2 sz2, wCq G w s, wCs G ad2 cs2 2]) (segs' := [wInk G o x w d h g q e, wSh2 G g ad2 (if sz2 < 2 then lw2 else (lw2 + 1) % 2) (if sz2 < 2 then sz2 + 1 else sz2), wCq G w s, wCs G ad2 (updS cs2 ((lw2 + sz2) % 2) s) 2]) (mid := [wInk G o x w d h g q e]) (w1 := xJ [wSh2 G g ad2 (if sz2 < 2 then lw2 else (lw2 + 1) % 2) (if sz2 < 2 then sz2 + 1 else sz2), wCq G w s, wCs G ad2 (updS cs2 ((lw2 + sz2) % 2) s) 2]) [1, 2, 3] [0] (show ([1, 2, 3] ++ [0] : List Nat).Perm (List.range 4) from by decide) rfl X (c_X1_push__2 l G g ad2 lw2 sz2 w s cs2 (by omega) (by omega)) rfl rfl rfl rfl xE0_ok (fun _ _ _ => trivial) 0 rfl rfl rfl wco_X1_push wi_X1 xd_X1_push wl_X4_122 win_X1_push wse_X1_push (by decide) (Nat.le_of_ble_eq_true rfl) dX4_keep_22 (by simp only [xJ, List.map_append, skCs, wCh, wIA, wTx, wSg, wSh8, wSh2, wInk, List.map_cons, List.map_nil]) ?_
    refine x_aloadn X dX4_keep_25 0 rfl ?_
    refine x_get X wu_X4 0 rfl rfl 4 (by decide) wf_X4_35 rfl rfl dX4_keep_26 ?_
    refine x_callVJrv (As := []) (rest := []) (segs := [wInk G o x w d h g q e, wSh2 G g ad2 (if sz2 < 2 then lw2 else (lw2 + 1) % 2) (if sz2 < 2 then sz2 + 1 else sz2), wCq G w s, wCs G ad2 (updS cs2 ((lw2 + sz2) % 2) s) 2]) [1] [0, 2, 3] (show ([1] ++ [0, 2, 3] : List Nat).Perm (List.range 4) from by decide) X (c_X1_size__2 l G g ad2 (if sz2 < 2 then lw2 else (lw2 + 1) % 2) (if sz2 < 2 then sz2 + 1 else sz2)) rfl xE0_ok (fun _ _ _ => trivial) 0 rfl rfl rfl wco_X1_size wi_X1 xd_X1_size wl_X4_146 win_X1_size wse_X1_size (by decide) (Nat.le_of_ble_eq_true rfl) dX4_keep_29 ?_
    exact x_ret X dX4_keep_32 ⟨ret_i (by rw [F_keep, if_pos (by omega)]; rw [if_pos (by omega)]), (by simp only [kSz, kCs, show sz2 < 2 from by omega, if_true]), by decide, by decide⟩
  · -- 8 f
    have n_1 := Nat.not_lt.mpr c_1
    refine x_bipush (v := (-3)) X dX4_keep_11 (by decide) ?_
    exact x_ret X dX4_keep_13 ⟨ret_i (by rw [F_keep, if_neg (by omega)]), (by rw [kSz, kCs, if_neg (by omega), if_neg (by omega)]), by decide, by decide⟩
set_option maxRecDepth 100000 in
set_option maxHeartbeats 4000000 in
/-- X4_write -/
theorem c_X4_write (l : Launch) (G : xG) (o : Nat) (x : Nat → Nat) (w : Nat → Nat) (d : Nat → Nat) (h : Nat → Nat) (g : Nat → Nat) (q : Nat → Nat) (e : Nat) (le : Nat → Int32) (nl : Nat) (nu : Nat → Int32) (nc : Nat) (a : Int32) (hnl : nl ≤ 200) : xM l G xE0 yX4_write cX4_write 2 (some .int) 2 43 0 0 [.ref o, .int a] (xJ [wInk G o x w d h g q e, wTx G x le nl nu nc]) (some (.int (F_write a nl))) (fun w2 => w2 = xJ [wInk G o x w d h g q e, wTx G x (F_wLe a le nl) (F_wNl a nl) nu nc]) := by
  refine x_entry (by decide +kernel) (Nat.le_of_ble_eq_true rfl) rfl ⟨_, rfl, rfl⟩ (fun K X => ?_)
  refine x_iloadn X dX4_write_0 1 rfl ?_
  refine x_bipush (v := nI 32) X dX4_write_1 (by decide) ?_
  refine x_icmp_lt 12 X dX4_write_3 (by decide) (fun c_1 => ?_) (fun c_1 => ?_)
  · -- 3 t
    refine x_iconst (v := (-1)) X dX4_write_12 (by decide) ?_
    exact x_ret X dX4_write_13 ⟨ret_i (by simp [F_write, F_wOk, c_1]), (by simp only [F_wLe, F_wNl, F_wOk]; simp [c_1]), by decide, by decide⟩
  · -- 3 f
    refine x_iloadn X dX4_write_6 1 rfl ?_
    refine x_bipush (v := nI 126) X dX4_write_7 (by decide) ?_
    refine x_icmp_le 14 X dX4_write_9 (by decide) (fun c_2 => ?_) (fun c_2 => ?_)
    · -- 9 t
      replace c_2 := Int32.not_lt.mpr c_2
      refine x_aloadn X dX4_write_14 0 rfl ?_
      refine x_get X wu_X4 0 rfl rfl 0 (by decide) wf_X4_10 rfl rfl dX4_write_15 ?_
      refine x_callVrv (As := []) (rest := []) X (c_X3_size l G x le nl nu nc) xE0_ok (fun _ _ _ => trivial) [1, 2, 3] rfl 0 rfl rfl rfl rfl wco_X3_size wi_X3 xd_X3_size wl_X4_71 win_X3_size wse_X3_size (by decide) (Nat.le_of_ble_eq_true rfl) dX4_write_18 ?_
      refine x_sipush (v := nI 200) X dX4_write_21 (by decide) ?_
      refine x_icmp_lt_n 30 X dX4_write_24 (by decide) (by omega) (by omega) (fun c_3 => ?_) (fun c_3 => ?_)
      · -- 24 t
        refine x_aloadn X dX4_write_30 0 rfl ?_
        refine x_get X wu_X4 0 rfl rfl 0 (by decide) wf_X4_10 rfl rfl dX4_write_31 ?_
        refine x_iloadn X dX4_write_34 1 rfl ?_
        refine x_callVf0 (As := [.int a]) (rest := []) (w1 := wTx G x (upd le nl a) (nl + 1) nu nc) (ws' := xJ [wInk G o x w d h g q e, wTx G x (upd le nl a) (nl + 1) nu nc]) X (c_X3_append l G x le nl nu nc a (by omega)) xE0_ok (fun _ _ _ => trivial) [1, 2, 3] rfl 0 rfl rfl rfl rfl wco_X3_append wi_X3 xd_X3_append wl_X4_61 win_X3_append wse_X3_append (by decide) (Nat.le_of_ble_eq_true rfl) dX4_write_35 rfl (Eq.trans (b := [x 0, x 1, x 2]) rfl rfl) rfl ?_
        refine x_aloadn X dX4_write_38 0 rfl ?_
        refine x_get X wu_X4 0 rfl rfl 0 (by decide) wf_X4_10 rfl rfl dX4_write_39 ?_
        refine x_callVrv (As := []) (rest := []) X (c_X3_size l G x (upd le nl a) (nl + 1) nu nc) xE0_ok (fun _ _ _ => trivial) [1, 2, 3] rfl 0 rfl rfl rfl rfl wco_X3_size wi_X3 xd_X3_size wl_X4_71 win_X3_size wse_X3_size (by decide) (Nat.le_of_ble_eq_true rfl) dX4_write_42 ?_
        exact x_ret X dX4_write_45 ⟨ret_i (by simp [F_write, F_wOk, c_1, c_2, c_3]), (by simp only [F_wLe, F_wNl, F_wOk]; simp [c_1, c_2, c_3]), by decide, by decide⟩
      · -- 24 f
        have n_3 := Nat.not_lt.mpr c_3
        refine x_bipush (v := (-3)) X dX4_write_27 (by decide) ?_
        exact x_ret X dX4_write_29 ⟨ret_i (by simp [F_write, F_wOk, c_1, c_2, c_3, n_3]), (by simp only [F_wLe, F_wNl, F_wOk]; simp [c_1, c_2, c_3, n_3]), by decide, by decide⟩
    · -- 9 f
      replace c_2 := Int32.not_le.mp c_2
      refine x_iconst (v := (-1)) X dX4_write_12 (by decide) ?_
      exact x_ret X dX4_write_13 ⟨ret_i (by simp [F_write, F_wOk, c_1, c_2]), (by simp only [F_wLe, F_wNl, F_wOk]; simp [c_1, c_2]), by decide, by decide⟩
set_option maxRecDepth 100000 in
set_option maxHeartbeats 4000000 in
/-- X4_wipe -/
theorem c_X4_wipe (l : Launch) (G : xG) (o : Nat) (x : Nat → Nat) (w : Nat → Nat) (d : Nat → Nat) (h : Nat → Nat) (g : Nat → Nat) (q : Nat → Nat) (e : Nat) (le : Nat → Int32) (nl : Nat) (nu : Nat → Int32) (nc : Nat)  : xM l G xE0 yX4_wipe cX4_wipe 2 (some .int) 1 20 0 0 [.ref o] (xJ [wInk G o x w d h g q e, wTx G x le nl nu nc]) (some (.int (nI nl))) (fun w2 => w2 = xJ [wInk G o x w d h g q e, wTx G x le 0 nu nc]) := by
  refine x_entry (by decide +kernel) (Nat.le_of_ble_eq_true rfl) rfl ⟨_, rfl, rfl⟩ (fun K X => ?_)
  refine x_aloadn X dX4_wipe_0 0 rfl ?_
  refine x_get X wu_X4 0 rfl rfl 0 (by decide) wf_X4_10 rfl rfl dX4_wipe_1 ?_
  refine x_callVrv (As := []) (rest := []) X (c_X3_size l G x le nl nu nc) xE0_ok (fun _ _ _ => trivial) [1, 2, 3] rfl 0 rfl rfl rfl rfl wco_X3_size wi_X3 xd_X3_size wl_X4_71 win_X3_size wse_X3_size (by decide) (Nat.le_of_ble_eq_true rfl) dX4_wipe_4 ?_
  refine x_istoren (lv' := [(1, .int (nI nl)), (0, .ref o)]) X dX4_wipe_7 (by decide) rfl ?_
  refine x_aloadn X dX4_wipe_8 1 rfl ?_
  refine x_get X wu_X4 0 rfl rfl 0 (by decide) wf_X4_10 rfl rfl dX4_wipe_9 ?_
  refine x_callVf0 (As := []) (rest := []) (w1 := wTx G x le 0 nu nc) (ws' := xJ [wInk G o x w d h g q e, wTx G x le 0 nu nc]) X (c_X3_clear l G x le nl nu nc) xE0_ok (fun _ _ _ => trivial) [1, 2, 3] rfl 0 rfl rfl rfl rfl wco_X3_clear wi_X3 xd_X3_clear wl_X4_68 win_X3_clear wse_X3_clear (by decide) (Nat.le_of_ble_eq_true rfl) dX4_wipe_12 rfl (Eq.trans (b := [x 0, x 1, x 2]) rfl rfl) rfl ?_
  refine x_iloadn X dX4_wipe_15 0 rfl ?_
  exact x_ret X dX4_wipe_16 ⟨rfl, rfl, by decide, by decide⟩
set_option maxRecDepth 100000 in
set_option maxHeartbeats 4000000 in
/-- X4_fault -/
theorem c_X4_fault (l : Launch) (G : xG) (o : Nat) (x : Nat → Nat) (w : Nat → Nat) (d : Nat → Nat) (h : Nat → Nat) (g : Nat → Nat) (q : Nat → Nat) (e : Nat) (le : Nat → Int32) (nl : Nat) (nu : Nat → Int32) (nc : Nat) (sd : xS) (hl : nl ≤ 200) : xM l G xE0 yX4_fault cX4_fault 1 (some .int) 5 115 0 0 [.ref o] (xJ [wInk G o x w d h g q e, wTx G x le nl nu nc, wCq G d sd]) (some (.int ((prsT le nl).1))) (fun w2 => ∃ nu' : Nat → Int32, ∃ nc' : Nat, w2 = xJ [wInk G o x w d h g q e, wTx G x le nl nu' nc', wCq G d ((prsT le nl).2)]) := by
  refine x_entry (by decide +kernel) (Nat.le_of_ble_eq_true rfl) rfl ⟨_, rfl, rfl⟩ (fun K X => ?_)
  refine x_aloadn X dX4_fault_0 0 rfl ?_
  refine x_get X wu_X4 0 rfl rfl 0 (by decide) wf_X4_10 rfl rfl dX4_fault_1 ?_
  refine x_aloadn X dX4_fault_4 0 rfl ?_
  refine x_get X wu_X4 0 rfl rfl 2 (by decide) wf_X4_23 rfl rfl dX4_fault_5 ?_
  refine x_callV (As := [.ref (d 0)]) (rest := []) X (c_X3_readInto l G x le nl nu nc d sd (by omega)) xE0_ok (fun _ _ _ => trivial) [1, 2, 3, 4, 5, 6, 7, 8] rfl 0 rfl rfl rfl rfl wco_X3_readInto wi_X3 xd_X3_readInto wl_X4_64 win_X3_readInto wse_X3_readInto (by decide) (Nat.le_of_ble_eq_true rfl) dX4_fault_8 (fun w2 h => by obtain ⟨_, _, rfl⟩ := h; exact ⟨rfl, Eq.trans (b := [x 0, x 1, x 2, d 0, d 1, d 2, d 3, d 4]) rfl rfl⟩) (fun w_3 hw_3 => ?_)
  obtain ⟨nu_1, nc_2, rfl⟩ := hw_3
  refine x_wst (ws' := xJ [wInk G o x w d h g q e, wTx G x le nl nu_1 nc_2, wCq G d ((prs le nl 200 0 blankS).2)]) (st' := [.int ((prs le nl 200 0 blankS).1)]) rfl rfl ?_
  exact x_ret X dX4_fault_11 ⟨ret_i (by rfl), ⟨nu_1, nc_2, rfl⟩, by decide, by decide⟩
set_option maxRecDepth 100000 in
set_option maxHeartbeats 4000000 in
/-- X4_sign -/
theorem c_X4_sign (l : Launch) (G : xG) (o : Nat) (x : Nat → Nat) (w : Nat → Nat) (d : Nat → Nat) (h : Nat → Nat) (g : Nat → Nat) (q : Nat → Nat) (e : Nat) (th : Nat → Int32) (sa : Nat → Int32) (ns : Nat) (a : Int32) (b : Int32) (hns : ns ≤ 6) : xM l G xE0 yX4_sign cX4_sign 3 (some .int) 2 44 0 0 [.ref o, .int a, .int b] (xJ [wInk G o x w d h g q e, wSg G q th sa ns]) (some (.int (F_sign a b ns))) (fun w2 => w2 = xJ [wInk G o x w d h g q e, wSg G q (F_sTh a b th ns) (F_sSa a b sa ns) (F_sNs a b ns)]) := by
  refine x_entry (by decide +kernel) (Nat.le_of_ble_eq_true rfl) rfl ⟨_, rfl, rfl⟩ (fun K X => ?_)
  refine x_iloadn X dX4_sign_0 1 rfl ?_
  refine x_callSrv (As := [.int a]) (rest := []) X (c_X4_isTheme l G a) xE0_ok (fun _ _ _ => trivial) [] rfl rfl rfl wco_X4_isTheme wi_X4 xd_X4_isTheme wl_X4_102 wst_X4_isTheme (by decide) (Nat.le_of_ble_eq_true rfl) dX4_sign_1 ?_
  refine x_ifeq_b 16 X dX4_sign_4 (by decide) (fun c_1 => ?_) (fun c_1 => ?_)
  · -- 4 t
    refine x_iconst (v := (-1)) X dX4_sign_16 (by decide) ?_
    exact x_ret X dX4_sign_17 ⟨ret_i (by simp [F_sign, F_sOk, c_1]), (by simp only [F_sTh, F_sSa, F_sNs, F_sOk]; simp [c_1]), by decide, by decide⟩
  · -- 4 f
    obtain ⟨aN, haN, rfl⟩ := inR_nat c_1 (by omega)
    have qaN : (nI aN).toNatClampNeg = aN := nI_clamp (by omega)
    refine x_iloadn X dX4_sign_7 2 rfl ?_
    refine x_bipush (v := nI 18) X dX4_sign_8 (by decide) ?_
    refine x_callSrv (As := [.int b, .int (nI 18)]) (rest := []) X (c_X4_isUpTo l G b 18 (by omega)) xE0_ok (fun _ _ _ => trivial) [] rfl rfl rfl wco_X4_isUpTo wi_X4 xd_X4_isUpTo wl_X4_91 wst_X4_isUpTo (by decide) (Nat.le_of_ble_eq_true rfl) dX4_sign_10 ?_
    refine x_ifne_b 18 X dX4_sign_13 (by decide) (fun c_2 => ?_) (fun c_2 => ?_)
    · -- 13 t
      obtain ⟨bN, hbN, rfl⟩ := inR_nat c_2 (by omega)
      have qbN : (nI bN).toNatClampNeg = bN := nI_clamp (by omega)
      refine x_aloadn X dX4_sign_18 0 rfl ?_
      refine x_get X wu_X4 0 rfl rfl 5 (by decide) wf_X4_41 rfl rfl dX4_sign_19 ?_
      refine x_callVrv (As := []) (rest := []) X (c_X2_size l G q th sa ns) xE0_ok (fun _ _ _ => trivial) [1, 2, 3] rfl 0 rfl rfl rfl rfl wco_X2_size wi_X2 xd_X2_size wl_X4_175 win_X2_size wse_X2_size (by decide) (Nat.le_of_ble_eq_true rfl) dX4_sign_22 ?_
      refine x_bipush (v := nI 6) X dX4_sign_25 (by decide) ?_
      refine x_icmp_lt_n 33 X dX4_sign_27 (by decide) (by omega) (by omega) (fun c_3 => ?_) (fun c_3 => ?_)
      · -- 27 t
        refine x_aloadn X dX4_sign_33 0 rfl ?_
        refine x_get X wu_X4 0 rfl rfl 5 (by decide) wf_X4_41 rfl rfl dX4_sign_34 ?_
        refine x_iloadn X dX4_sign_37 1 rfl ?_
        refine x_iloadn X dX4_sign_38 2 rfl ?_
        refine x_bipush (v := nI 9) X dX4_sign_39 (by decide) ?_
        refine x_isub (v := (nI bN) - (nI 9)) X dX4_sign_41 rfl ?_
        refine x_callVf0 (As := [.int (nI aN), .int ((nI bN) - (nI 9))]) (rest := []) (w1 := wSg G q (upd th ns (nI aN)) (upd sa ns ((nI bN) - (nI 9))) (ns + 1)) (ws' := xJ [wInk G o x w d h g q e, wSg G q (upd th ns (nI aN)) (upd sa ns ((nI bN) - (nI 9))) (ns + 1)]) X (c_X2_add l G q th sa ns (nI aN) ((nI bN) - (nI 9)) (by omega)) xE0_ok (fun _ _ _ => trivial) [1, 2, 3] rfl 0 rfl rfl rfl rfl wco_X2_add wi_X2 xd_X2_add wl_X4_176 win_X2_add wse_X2_add (by decide) (Nat.le_of_ble_eq_true rfl) dX4_sign_42 rfl (Eq.trans (b := [q 0, q 1, q 2]) rfl rfl) rfl ?_
        refine x_aloadn X dX4_sign_45 0 rfl ?_
        refine x_get X wu_X4 0 rfl rfl 5 (by decide) wf_X4_41 rfl rfl dX4_sign_46 ?_
        refine x_callVrv (As := []) (rest := []) X (c_X2_size l G q (upd th ns (nI aN)) (upd sa ns ((nI bN) - (nI 9))) (ns + 1)) xE0_ok (fun _ _ _ => trivial) [1, 2, 3] rfl 0 rfl rfl rfl rfl wco_X2_size wi_X2 xd_X2_size wl_X4_175 win_X2_size wse_X2_size (by decide) (Nat.le_of_ble_eq_true rfl) dX4_sign_49 ?_
        exact x_ret X dX4_sign_52 ⟨ret_i (by simp [F_sign, F_sOk, c_1, qaN, c_2, qbN, c_3]), (by simp only [F_sTh, F_sSa, F_sNs, F_sOk]; simp [c_1, qaN, c_2, qbN, c_3]), by decide, by decide⟩
      · -- 27 f
        have n_3 := Nat.not_lt.mpr c_3
        refine x_bipush (v := (-3)) X dX4_sign_30 (by decide) ?_
        exact x_ret X dX4_sign_32 ⟨ret_i (by simp [F_sign, F_sOk, c_1, qaN, c_2, qbN, c_3, n_3]), (by simp only [F_sTh, F_sSa, F_sNs, F_sOk]; simp [c_1, qaN, c_2, qbN, c_3, n_3]), by decide, by decide⟩
    · -- 13 f
      refine x_iconst (v := (-1)) X dX4_sign_16 (by decide) ?_
      exact x_ret X dX4_sign_17 ⟨ret_i (by simp [F_sign, F_sOk, c_1, qaN, c_2]), (by simp only [F_sTh, F_sSa, F_sNs, F_sOk]; simp [c_1, qaN, c_2]), by decide, by decide⟩
set_option maxRecDepth 100000 in
set_option maxHeartbeats 4000000 in
/-- X4_forget -/
theorem c_X4_forget (l : Launch) (G : xG) (o : Nat) (x : Nat → Nat) (w : Nat → Nat) (d : Nat → Nat) (h : Nat → Nat) (g : Nat → Nat) (q : Nat → Nat) (e : Nat) (th : Nat → Int32) (sa : Nat → Int32) (ns : Nat)  : xM l G xE0 yX4_forget cX4_forget 2 (some .int) 1 20 0 0 [.ref o] (xJ [wInk G o x w d h g q e, wSg G q th sa ns]) (some (.int (nI ns))) (fun w2 => w2 = xJ [wInk G o x w d h g q e, wSg G q th sa 0]) := by
  refine x_entry (by decide +kernel) (Nat.le_of_ble_eq_true rfl) rfl ⟨_, rfl, rfl⟩ (fun K X => ?_)
  refine x_aloadn X dX4_forget_0 0 rfl ?_
  refine x_get X wu_X4 0 rfl rfl 5 (by decide) wf_X4_41 rfl rfl dX4_forget_1 ?_
  refine x_callVrv (As := []) (rest := []) X (c_X2_size l G q th sa ns) xE0_ok (fun _ _ _ => trivial) [1, 2, 3] rfl 0 rfl rfl rfl rfl wco_X2_size wi_X2 xd_X2_size wl_X4_175 win_X2_size wse_X2_size (by decide) (Nat.le_of_ble_eq_true rfl) dX4_forget_4 ?_
  refine x_istoren (lv' := [(1, .int (nI ns)), (0, .ref o)]) X dX4_forget_7 (by decide) rfl ?_
  refine x_aloadn X dX4_forget_8 1 rfl ?_
  refine x_get X wu_X4 0 rfl rfl 5 (by decide) wf_X4_41 rfl rfl dX4_forget_9 ?_
  refine x_callVf0 (As := []) (rest := []) (w1 := wSg G q th sa 0) (ws' := xJ [wInk G o x w d h g q e, wSg G q th sa 0]) X (c_X2_clear l G q th sa ns) xE0_ok (fun _ _ _ => trivial) [1, 2, 3] rfl 0 rfl rfl rfl rfl wco_X2_clear wi_X2 xd_X2_clear wl_X4_82 win_X2_clear wse_X2_clear (by decide) (Nat.le_of_ble_eq_true rfl) dX4_forget_12 rfl (Eq.trans (b := [q 0, q 1, q 2]) rfl rfl) rfl ?_
  refine x_iloadn X dX4_forget_15 0 rfl ?_
  exact x_ret X dX4_forget_16 ⟨rfl, rfl, by decide, by decide⟩
set_option maxRecDepth 100000 in
set_option maxHeartbeats 4000000 in
/-- X4_count -/
theorem c_X4_count (l : Launch) (G : xG) (o : Nat) (x : Nat → Nat) (w : Nat → Nat) (d : Nat → Nat) (h : Nat → Nat) (g : Nat → Nat) (q : Nat → Nat) (e : Nat) (s : xS) (th : Nat → Int32) (sa : Nat → Int32) (ns : Nat) (ad : Nat → Nat → Nat) (lw : Nat) (sz : Nat) (ad2 : Nat → Nat → Nat) (lw2 : Nat) (sz2 : Nat) (le : Nat → Int32) (nl : Nat) (nu : Nat → Int32) (nc : Nat) (a : Int32) (hs6 : s.1 ≤ 6) (hs1 : 0 < s.1) (hq5 : s.2.1 ≤ 5) (hmi : ∀ j, j < 6 → inR (s.2.2.2.1 j) 6 = true) : xM l G xE0 yX4_count cX4_count 2 (some .int) 4 88 0 0 [.ref o, .int a] (xJ [wInk G o x w d h g q e, wCq G w s, wSg G q th sa ns, wSh8 G h ad lw sz, wSh2 G g ad2 lw2 sz2, wTx G x le nl nu nc]) (some (.int (F_count s ns sz sz2 nl a))) (fun w2 => w2 = xJ [wInk G o x w d h g q e, wCq G w s, wSg G q th sa ns, wSh8 G h ad lw sz, wSh2 G g ad2 lw2 sz2, wTx G x le nl nu nc]) := by
  refine x_entry (by decide +kernel) (Nat.le_of_ble_eq_true rfl) rfl ⟨_, rfl, rfl⟩ (fun K X => ?_)
  refine x_iloadn X dX4_count_0 1 rfl ?_
  by_cases c_1 : a = 0
  · -- case 0
    refine x_int c_1 ?_
    refine x_tableIn 44 X dX4_count_1 (by decide) (by decide) rfl (by decide) ?_
    refine x_aloadn X dX4_count_44 0 rfl ?_
    refine x_get X wu_X4 0 rfl rfl 1 (by decide) wf_X4_19 rfl rfl dX4_count_45 ?_
    refine x_callVrv (As := []) (rest := []) X (c_X0_persons l G w s.1 s.2.1 s.2.2.1 s.2.2.2.1 s.2.2.2.2.1 s.2.2.2.2.2) xE0_ok (fun _ _ _ => trivial) [1, 2, 3, 4, 5] rfl 0 rfl rfl rfl rfl wco_X0_persons wi_X0 xd_X0_persons wl_X4_84 win_X0_persons wse_X0_persons (by decide) (Nat.le_of_ble_eq_true rfl) dX4_count_48 ?_
    exact x_ret X dX4_count_51 ⟨ret_i (by simp [F_count, c_1]), rfl, by decide, by decide⟩
  by_cases c_2 : a = 1
  · -- case 1
    refine x_int c_2 ?_
    refine x_tableIn 52 X dX4_count_1 (by decide) (by decide) rfl (by decide) ?_
    refine x_aloadn X dX4_count_52 0 rfl ?_
    refine x_get X wu_X4 0 rfl rfl 1 (by decide) wf_X4_19 rfl rfl dX4_count_53 ?_
    refine x_callVrv (As := []) (rest := []) X (c_X0_papers l G w s.1 s.2.1 s.2.2.1 s.2.2.2.1 s.2.2.2.2.1 s.2.2.2.2.2) xE0_ok (fun _ _ _ => trivial) [1, 2, 3, 4, 5] rfl 0 rfl rfl rfl rfl wco_X0_papers wi_X0 xd_X0_papers wl_X4_198 win_X0_papers wse_X0_papers (by decide) (Nat.le_of_ble_eq_true rfl) dX4_count_56 ?_
    exact x_ret X dX4_count_59 ⟨ret_i (by simp [F_count, c_1, c_2]), rfl, by decide, by decide⟩
  by_cases c_3 : a = 2
  · -- case 2
    refine x_int c_3 ?_
    refine x_tableIn 60 X dX4_count_1 (by decide) (by decide) rfl (by decide) ?_
    refine x_aloadn X dX4_count_60 0 rfl ?_
    refine x_get X wu_X4 0 rfl rfl 1 (by decide) wf_X4_19 rfl rfl dX4_count_61 ?_
    refine x_callVrv (As := []) (rest := []) X (c_X0_filledLines l G w s.1 s.2.1 s.2.2.1 s.2.2.2.1 s.2.2.2.2.1 s.2.2.2.2.2 (by omega)) xE0_ok (fun _ _ _ => trivial) [1, 2, 3, 4, 5] rfl 0 rfl rfl rfl rfl wco_X0_filledLines wi_X0 xd_X0_filledLines wl_X4_201 win_X0_filledLines wse_X0_filledLines (by decide) (Nat.le_of_ble_eq_true rfl) dX4_count_64 ?_
    exact x_ret X dX4_count_67 ⟨ret_i (by simp [F_count, c_1, c_2, c_3]), rfl, by decide, by decide⟩
  by_cases c_4 : a = 3
  · -- case 3
    refine x_int c_4 ?_
    refine x_tableIn 68 X dX4_count_1 (by decide) (by decide) rfl (by decide) ?_
    refine x_aloadn X dX4_count_68 0 rfl ?_
    refine x_get X wu_X4 0 rfl rfl 5 (by decide) wf_X4_41 rfl rfl dX4_count_69 ?_
    refine x_callVrv (As := []) (rest := []) X (c_X2_size l G q th sa ns) xE0_ok (fun _ _ _ => trivial) [6, 7, 8] rfl 0 rfl rfl rfl rfl wco_X2_size wi_X2 xd_X2_size wl_X4_175 win_X2_size wse_X2_size (by decide) (Nat.le_of_ble_eq_true rfl) dX4_count_72 ?_
    exact x_ret X dX4_count_75 ⟨ret_i (by simp [F_count, c_1, c_2, c_3, c_4]), rfl, by decide, by decide⟩
  by_cases c_5 : a = 4
  · -- case 4
    refine x_int c_5 ?_
    refine x_tableIn 76 X dX4_count_1 (by decide) (by decide) rfl (by decide) ?_
    refine x_aloadn X dX4_count_76 0 rfl ?_
    refine x_get X wu_X4 0 rfl rfl 3 (by decide) wf_X4_31 rfl rfl dX4_count_77 ?_
    refine x_callVrv (As := []) (rest := []) X (c_X1_size__8 l G h ad lw sz) xE0_ok (fun _ _ _ => trivial) [9, 10] rfl 0 rfl rfl rfl rfl wco_X1_size wi_X1 xd_X1_size wl_X4_146 win_X1_size wse_X1_size (by decide) (Nat.le_of_ble_eq_true rfl) dX4_count_80 ?_
    exact x_ret X dX4_count_83 ⟨ret_i (by simp [F_count, c_1, c_2, c_3, c_4, c_5]), rfl, by decide, by decide⟩
  by_cases c_6 : a = 5
  · -- case 5
    refine x_int c_6 ?_
    refine x_tableIn 84 X dX4_count_1 (by decide) (by decide) rfl (by decide) ?_
    refine x_aloadn X dX4_count_84 0 rfl ?_
    refine x_get X wu_X4 0 rfl rfl 4 (by decide) wf_X4_35 rfl rfl dX4_count_85 ?_
    refine x_callVrv (As := []) (rest := []) X (c_X1_size__2 l G g ad2 lw2 sz2) xE0_ok (fun _ _ _ => trivial) [11, 12] rfl 0 rfl rfl rfl rfl wco_X1_size wi_X1 xd_X1_size wl_X4_146 win_X1_size wse_X1_size (by decide) (Nat.le_of_ble_eq_true rfl) dX4_count_88 ?_
    exact x_ret X dX4_count_91 ⟨ret_i (by simp [F_count, c_1, c_2, c_3, c_4, c_5, c_6]), rfl, by decide, by decide⟩
  by_cases c_7 : a = 6
  · -- case 6
    refine x_int c_7 ?_
    refine x_tableIn 92 X dX4_count_1 (by decide) (by decide) rfl (by decide) ?_
    refine x_aloadn X dX4_count_92 0 rfl ?_
    refine x_get X wu_X4 0 rfl rfl 0 (by decide) wf_X4_10 rfl rfl dX4_count_93 ?_
    refine x_callVrv (As := []) (rest := []) X (c_X3_size l G x le nl nu nc) xE0_ok (fun _ _ _ => trivial) [13, 14, 15] rfl 0 rfl rfl rfl rfl wco_X3_size wi_X3 xd_X3_size wl_X4_71 win_X3_size wse_X3_size (by decide) (Nat.le_of_ble_eq_true rfl) dX4_count_96 ?_
    exact x_ret X dX4_count_99 ⟨ret_i (by simp [F_count, c_1, c_2, c_3, c_4, c_5, c_6, c_7]), rfl, by decide, by decide⟩
  refine x_tableOut 100 X dX4_count_1 (by have := lv_neT (a := 0) c_1 rfl; have := lv_neT (a := 1) c_2 rfl; have := lv_neT (a := 2) c_3 rfl; have := lv_neT (a := 3) c_4 rfl; have := lv_neT (a := 4) c_5 rfl; have := lv_neT (a := 5) c_6 rfl; have := lv_neT (a := 6) c_7 rfl; omega) (by decide) ?_
  refine x_iconst (v := (-1)) X dX4_count_100 (by decide) ?_
  exact x_ret X dX4_count_101 ⟨ret_i (by simp [F_count, c_1, c_2, c_3, c_4, c_5, c_6, c_7]), rfl, by decide, by decide⟩
set_option maxRecDepth 100000 in
set_option maxHeartbeats 4000000 in
/-- X4_lay -/
theorem c_X4_lay (l : Launch) (G : xG) (o : Nat) (x : Nat → Nat) (w : Nat → Nat) (d : Nat → Nat) (h : Nat → Nat) (g : Nat → Nat) (q : Nat → Nat) (e : Nat) (le : Nat → Int32) (nl : Nat) (nu : Nat → Int32) (nc : Nat) (s : xS) (sd : xS) (th : Nat → Int32) (sa : Nat → Int32) (ns : Nat) (ad : Nat → Nat → Nat) (lw : Nat) (sz : Nat) (ad2 : Nat → Nat → Nat) (lw2 : Nat) (sz2 : Nat) (hs6 : s.1 ≤ 6) (hs1 : 0 < s.1) (hq5 : s.2.1 ≤ 5) (hmi : ∀ j, j < 6 → inR (s.2.2.2.1 j) 6 = true) (hl : nl ≤ 200) : xM l G xE0 yX4_lay cX4_lay 1 (some .int) 5 115 0 0 [.ref o] (xJ [wInk G o x w d h g q e, wTx G x le nl nu nc, wCq G w s, wCq G d sd, wSg G q th sa ns, wSh8 G h ad lw sz, wSh2 G g ad2 lw2 sz2]) (some (.int (F_lay (prsT le nl)))) (fun w2 => ∃ nu' : Nat → Int32, ∃ nc' : Nat, w2 = xJ [wInk G o x w d h g q e, wTx G x le nl nu' nc', wCq G w (if F_layOk (prsT le nl) = true then (prsT le nl).2 else s), wCq G d ((prsT le nl).2), wSg G q th sa (l0 (F_layOk (prsT le nl)) ns), wSh8 G h ad lw (l0 (F_layOk (prsT le nl)) sz), wSh2 G g ad2 lw2 (l0 (F_layOk (prsT le nl)) sz2)]) := by
  refine x_entry (by decide +kernel) (Nat.le_of_ble_eq_true rfl) rfl ⟨_, rfl, rfl⟩ (fun K X => ?_)
  refine x_aloadn X dX4_lay_0 0 rfl ?_
  refine x_get X wu_X4 0 rfl rfl 0 (by decide) wf_X4_10 rfl rfl dX4_lay_1 ?_
  refine x_aloadn X dX4_lay_4 0 rfl ?_
  refine x_get X wu_X4 0 rfl rfl 2 (by decide) wf_X4_23 rfl rfl dX4_lay_5 ?_
  refine x_callVJ (As := [.ref (d 0)]) (rest := []) (segs := [wInk G o x w d h g q e, wTx G x le nl nu nc, wCq G w s, wCq G d sd, wSg G q th sa ns, wSh8 G h ad lw sz, wSh2 G g ad2 lw2 sz2]) [1, 3] [0, 2, 4, 5, 6] (show ([1, 3] ++ [0, 2, 4, 5, 6] : List Nat).Perm (List.range 7) from by decide) X (c_X3_readInto l G x le nl nu nc d sd (by omega)) rfl xE0_ok (fun _ _ _ => trivial) 0 rfl rfl rfl wco_X3_readInto wi_X3 xd_X3_readInto wl_X4_64 win_X3_readInto wse_X3_readInto (by decide) (Nat.le_of_ble_eq_true rfl) dX4_lay_8 (fun w2 h => by obtain ⟨nu_1, nc_2, rfl⟩ := h; exact (Eq.trans (b := [x 0, x 1, x 2, d 0, d 1, d 2, d 3, d 4]) rfl rfl)) (fun w_3 hw_3 => ?_)
  obtain ⟨nu_1, nc_2, rfl⟩ := hw_3
  refine x_backV (segs := [wInk G o x w d h g q e, wTx G x le nl nu nc, wCq G w s, wCq G d sd, wSg G q th sa ns, wSh8 G h ad lw sz, wSh2 G g ad2 lw2 sz2]) (segs' := [wInk G o x w d h g q e, wTx G x le nl nu_1 nc_2, wCq G w s, wCq G d ((prs le nl 200 0 blankS).2), wSg G q th sa ns, wSh8 G h ad lw sz, wSh2 G g ad2 lw2 sz2]) (mid := [wInk G o x w d h g q e, wCq G w s, wSg G q th sa ns, wSh8 G h ad lw sz, wSh2 G g ad2 lw2 sz2]) [1, 3] [0, 2, 4, 5, 6] (show ([1, 3] ++ [0, 2, 4, 5, 6] : List Nat).Perm (List.range 7) from by decide) X rfl rfl rfl ?_
  refine x_wst (ws' := xJ [wInk G o x w d h g q e, wTx G x le nl nu_1 nc_2, wCq G w s, wCq G d ((prs le nl 200 0 blankS).2), wSg G q th sa ns, wSh8 G h ad lw sz, wSh2 G g ad2 lw2 sz2]) (st' := [.int ((prs le nl 200 0 blankS).1)]) rfl rfl ?_
  refine x_bipush (v := (-4)) X dX4_lay_11 (by decide) ?_
  refine x_icmp_ne 26 X dX4_lay_13 (by decide) (fun c_4 => ?_) (fun c_4 => ?_)
  · -- 13 t
    refine x_bipush (v := (-2)) X dX4_lay_26 (by decide) ?_
    exact x_ret X dX4_lay_28 ⟨ret_i (by rw [F_lay, show F_layOk (prsT le nl) = false from (by unfold F_layOk prsT; rw [decide_eq_false c_4]; rfl)]; rfl), ⟨nu_1, nc_2, (by rw [show F_layOk (prsT le nl) = false from (by unfold F_layOk prsT; rw [decide_eq_false c_4]; rfl)]; rfl)⟩, by decide, by decide⟩
  · -- 13 f
    refine x_aloadn X dX4_lay_16 0 rfl ?_
    refine x_get X wu_X4 0 rfl rfl 2 (by decide) wf_X4_23 rfl rfl dX4_lay_17 ?_
    refine x_callVJrv (As := []) (rest := []) (segs := [wInk G o x w d h g q e, wTx G x le nl nu_1 nc_2, wCq G w s, wCq G d ((prs le nl 200 0 blankS).2), wSg G q th sa ns, wSh8 G h ad lw sz, wSh2 G g ad2 lw2 sz2]) [3] [0, 1, 2, 4, 5, 6] (show ([3] ++ [0, 1, 2, 4, 5, 6] : List Nat).Perm (List.range 7) from by decide) X (c_X0_canBeLaid l G d (((prs le nl 200 0 blankS).2).1) (((prs le nl 200 0 blankS).2).2.1) (((prs le nl 200 0 blankS).2).2.2.1) (((prs le nl 200 0 blankS).2).2.2.2.1) (((prs le nl 200 0 blankS).2).2.2.2.2.1) (((prs le nl 200 0 blankS).2).2.2.2.2.2) (prs_6 _ _ _ _ _ (by decide))) rfl xE0_ok (fun _ _ _ => trivial) 0 rfl rfl rfl wco_X0_canBeLaid wi_X0 xd_X0_canBeLaid wl_X4_74 win_X0_canBeLaid wse_X0_canBeLaid (by decide) (Nat.le_of_ble_eq_true rfl) dX4_lay_20 ?_
    refine x_ifne_b 29 X dX4_lay_23 (by decide) (fun c_5 => ?_) (fun c_5 => ?_)
    · -- 23 t
      refine x_aloadn X dX4_lay_29 0 rfl ?_
      refine x_get X wu_X4 0 rfl rfl 1 (by decide) wf_X4_19 rfl rfl dX4_lay_30 ?_
      refine x_aloadn X dX4_lay_33 0 rfl ?_
      refine x_get X wu_X4 0 rfl rfl 2 (by decide) wf_X4_23 rfl rfl dX4_lay_34 ?_
      refine x_callVJf0 (As := [.ref (d 0)]) (rest := []) (segs := [wInk G o x w d h g q e, wTx G x le nl nu_1 nc_2, wCq G w s, wCq G d ((prs le nl 200 0 blankS).2), wSg G q th sa ns, wSh8 G h ad lw sz, wSh2 G g ad2 lw2 sz2]) (segs' := [wInk G o x w d h g q e, wTx G x le nl nu_1 nc_2, wCh G w (((prs le nl 200 0 blankS).2).1) (((prs le nl 200 0 blankS).2).2.1) (((prs le nl 200 0 blankS).2).2.2.1) (((prs le nl 200 0 blankS).2).2.2.2.1) (((prs le nl 200 0 blankS).2).2.2.2.2.1) (((prs le nl 200 0 blankS).2).2.2.2.2.2), wCh G d (((prs le nl 200 0 blankS).2).1) (((prs le nl 200 0 blankS).2).2.1) (((prs le nl 200 0 blankS).2).2.2.1) (((prs le nl 200 0 blankS).2).2.2.2.1) (((prs le nl 200 0 blankS).2).2.2.2.2.1) (((prs le nl 200 0 blankS).2).2.2.2.2.2), wSg G q th sa ns, wSh8 G h ad lw sz, wSh2 G g ad2 lw2 sz2]) (mid := [wInk G o x w d h g q e, wTx G x le nl nu_1 nc_2, wSg G q th sa ns, wSh8 G h ad lw sz, wSh2 G g ad2 lw2 sz2]) (w1 := xJ [wCh G w (((prs le nl 200 0 blankS).2).1) (((prs le nl 200 0 blankS).2).2.1) (((prs le nl 200 0 blankS).2).2.2.1) (((prs le nl 200 0 blankS).2).2.2.2.1) (((prs le nl 200 0 blankS).2).2.2.2.2.1) (((prs le nl 200 0 blankS).2).2.2.2.2.2), wCh G d (((prs le nl 200 0 blankS).2).1) (((prs le nl 200 0 blankS).2).2.1) (((prs le nl 200 0 blankS).2).2.2.1) (((prs le nl 200 0 blankS).2).2.2.2.1) (((prs le nl 200 0 blankS).2).2.2.2.2.1) (((prs le nl 200 0 blankS).2).2.2.2.2.2)]) [2, 3] [0, 1, 4, 5, 6] (show ([2, 3] ++ [0, 1, 4, 5, 6] : List Nat).Perm (List.range 7) from by decide) rfl X (c_X0_becomeLike l G w s.1 s.2.1 s.2.2.1 s.2.2.2.1 s.2.2.2.2.1 s.2.2.2.2.2 d (((prs le nl 200 0 blankS).2).1) (((prs le nl 200 0 blankS).2).2.1) (((prs le nl 200 0 blankS).2).2.2.1) (((prs le nl 200 0 blankS).2).2.2.2.1) (((prs le nl 200 0 blankS).2).2.2.2.2.1) (((prs le nl 200 0 blankS).2).2.2.2.2.2)) rfl rfl rfl rfl xE0_ok (fun _ _ _ => trivial) 0 rfl rfl rfl wco_X0_becomeLike wi_X0 xd_X0_becomeLike wl_X4_78 win_X0_becomeLike wse_X0_becomeLike (by decide) (Nat.le_of_ble_eq_true rfl) dX4_lay_37 (Eq.trans (b := [w 0, w 1, w 2, w 3, w 4, d 0, d 1, d 2, d 3, d 4]) rfl rfl) ?_
      refine x_aloadn X dX4_lay_40 0 rfl ?_
      refine x_get X wu_X4 0 rfl rfl 5 (by decide) wf_X4_41 rfl rfl dX4_lay_41 ?_
      refine x_callVJf0 (As := []) (rest := []) (segs := [wInk G o x w d h g q e, wTx G x le nl nu_1 nc_2, wCh G w (((prs le nl 200 0 blankS).2).1) (((prs le nl 200 0 blankS).2).2.1) (((prs le nl 200 0 blankS).2).2.2.1) (((prs le nl 200 0 blankS).2).2.2.2.1) (((prs le nl 200 0 blankS).2).2.2.2.2.1) (((prs le nl 200 0 blankS).2).2.2.2.2.2), wCh G d (((prs le nl 200 0 blankS).2).1) (((prs le nl 200 0 blankS).2).2.1) (((prs le nl 200 0 blankS).2).2.2.1) (((prs le nl 200 0 blankS).2).2.2.2.1) (((prs le nl 200 0 blankS).2).2.2.2.2.1) (((prs le nl 200 0 blankS).2).2.2.2.2.2), wSg G q th sa ns, wSh8 G h ad lw sz, wSh2 G g ad2 lw2 sz2]) (segs' := [wInk G o x w d h g q e, wTx G x le nl nu_1 nc_2, wCh G w (((prs le nl 200 0 blankS).2).1) (((prs le nl 200 0 blankS).2).2.1) (((prs le nl 200 0 blankS).2).2.2.1) (((prs le nl 200 0 blankS).2).2.2.2.1) (((prs le nl 200 0 blankS).2).2.2.2.2.1) (((prs le nl 200 0 blankS).2).2.2.2.2.2), wCh G d (((prs le nl 200 0 blankS).2).1) (((prs le nl 200 0 blankS).2).2.1) (((prs le nl 200 0 blankS).2).2.2.1) (((prs le nl 200 0 blankS).2).2.2.2.1) (((prs le nl 200 0 blankS).2).2.2.2.2.1) (((prs le nl 200 0 blankS).2).2.2.2.2.2), wSg G q th sa 0, wSh8 G h ad lw sz, wSh2 G g ad2 lw2 sz2]) (mid := [wInk G o x w d h g q e, wTx G x le nl nu_1 nc_2, wCh G w (((prs le nl 200 0 blankS).2).1) (((prs le nl 200 0 blankS).2).2.1) (((prs le nl 200 0 blankS).2).2.2.1) (((prs le nl 200 0 blankS).2).2.2.2.1) (((prs le nl 200 0 blankS).2).2.2.2.2.1) (((prs le nl 200 0 blankS).2).2.2.2.2.2), wCh G d (((prs le nl 200 0 blankS).2).1) (((prs le nl 200 0 blankS).2).2.1) (((prs le nl 200 0 blankS).2).2.2.1) (((prs le nl 200 0 blankS).2).2.2.2.1) (((prs le nl 200 0 blankS).2).2.2.2.2.1) (((prs le nl 200 0 blankS).2).2.2.2.2.2), wSh8 G h ad lw sz, wSh2 G g ad2 lw2 sz2]) (w1 := wSg G q th sa 0) [4] [0, 1, 2, 3, 5, 6] (show ([4] ++ [0, 1, 2, 3, 5, 6] : List Nat).Perm (List.range 7) from by decide) rfl X (c_X2_clear l G q th sa ns) rfl rfl rfl rfl xE0_ok (fun _ _ _ => trivial) 0 rfl rfl rfl wco_X2_clear wi_X2 xd_X2_clear wl_X4_82 win_X2_clear wse_X2_clear (by decide) (Nat.le_of_ble_eq_true rfl) dX4_lay_44 (Eq.trans (b := [q 0, q 1, q 2]) rfl rfl) ?_
      refine x_aloadn X dX4_lay_47 0 rfl ?_
      refine x_get X wu_X4 0 rfl rfl 3 (by decide) wf_X4_31 rfl rfl dX4_lay_48 ?_
      refine x_callVJf0 (As := []) (rest := []) (segs := [wInk G o x w d h g q e, wTx G x le nl nu_1 nc_2, wCh G w (((prs le nl 200 0 blankS).2).1) (((prs le nl 200 0 blankS).2).2.1) (((prs le nl 200 0 blankS).2).2.2.1) (((prs le nl 200 0 blankS).2).2.2.2.1) (((prs le nl 200 0 blankS).2).2.2.2.2.1) (((prs le nl 200 0 blankS).2).2.2.2.2.2), wCh G d (((prs le nl 200 0 blankS).2).1) (((prs le nl 200 0 blankS).2).2.1) (((prs le nl 200 0 blankS).2).2.2.1) (((prs le nl 200 0 blankS).2).2.2.2.1) (((prs le nl 200 0 blankS).2).2.2.2.2.1) (((prs le nl 200 0 blankS).2).2.2.2.2.2), wSg G q th sa 0, wSh8 G h ad lw sz, wSh2 G g ad2 lw2 sz2]) (segs' := [wInk G o x w d h g q e, wTx G x le nl nu_1 nc_2, wCh G w (((prs le nl 200 0 blankS).2).1) (((prs le nl 200 0 blankS).2).2.1) (((prs le nl 200 0 blankS).2).2.2.1) (((prs le nl 200 0 blankS).2).2.2.2.1) (((prs le nl 200 0 blankS).2).2.2.2.2.1) (((prs le nl 200 0 blankS).2).2.2.2.2.2), wCh G d (((prs le nl 200 0 blankS).2).1) (((prs le nl 200 0 blankS).2).2.1) (((prs le nl 200 0 blankS).2).2.2.1) (((prs le nl 200 0 blankS).2).2.2.2.1) (((prs le nl 200 0 blankS).2).2.2.2.2.1) (((prs le nl 200 0 blankS).2).2.2.2.2.2), wSg G q th sa 0, wSh8 G h ad lw 0, wSh2 G g ad2 lw2 sz2]) (mid := [wInk G o x w d h g q e, wTx G x le nl nu_1 nc_2, wCh G w (((prs le nl 200 0 blankS).2).1) (((prs le nl 200 0 blankS).2).2.1) (((prs le nl 200 0 blankS).2).2.2.1) (((prs le nl 200 0 blankS).2).2.2.2.1) (((prs le nl 200 0 blankS).2).2.2.2.2.1) (((prs le nl 200 0 blankS).2).2.2.2.2.2), wCh G d (((prs le nl 200 0 blankS).2).1) (((prs le nl 200 0 blankS).2).2.1) (((prs le nl 200 0 blankS).2).2.2.1) (((prs le nl 200 0 blankS).2).2.2.2.1) (((prs le nl 200 0 blankS).2).2.2.2.2.1) (((prs le nl 200 0 blankS).2).2.2.2.2.2), wSg G q th sa 0, wSh2 G g ad2 lw2 sz2]) (w1 := wSh8 G h ad lw 0) [5] [0, 1, 2, 3, 4, 6] (show ([5] ++ [0, 1, 2, 3, 4, 6] : List Nat).Perm (List.range 7) from by decide) rfl X (c_X1_clear__8 l G h ad lw sz) rfl rfl rfl rfl xE0_ok (fun _ _ _ => trivial) 0 rfl rfl rfl wco_X1_clear wi_X1 xd_X1_clear wl_X4_83 win_X1_clear wse_X1_clear (by decide) (Nat.le_of_ble_eq_true rfl) dX4_lay_51 (Eq.trans (b := [h 0, h 1]) rfl rfl) ?_
      refine x_aloadn X dX4_lay_54 0 rfl ?_
      refine x_get X wu_X4 0 rfl rfl 4 (by decide) wf_X4_35 rfl rfl dX4_lay_55 ?_
      refine x_callVJf0 (As := []) (rest := []) (segs := [wInk G o x w d h g q e, wTx G x le nl nu_1 nc_2, wCh G w (((prs le nl 200 0 blankS).2).1) (((prs le nl 200 0 blankS).2).2.1) (((prs le nl 200 0 blankS).2).2.2.1) (((prs le nl 200 0 blankS).2).2.2.2.1) (((prs le nl 200 0 blankS).2).2.2.2.2.1) (((prs le nl 200 0 blankS).2).2.2.2.2.2), wCh G d (((prs le nl 200 0 blankS).2).1) (((prs le nl 200 0 blankS).2).2.1) (((prs le nl 200 0 blankS).2).2.2.1) (((prs le nl 200 0 blankS).2).2.2.2.1) (((prs le nl 200 0 blankS).2).2.2.2.2.1) (((prs le nl 200 0 blankS).2).2.2.2.2.2), wSg G q th sa 0, wSh8 G h ad lw 0, wSh2 G g ad2 lw2 sz2]) (segs' := [wInk G o x w d h g q e, wTx G x le nl nu_1 nc_2, wCh G w (((prs le nl 200 0 blankS).2).1) (((prs le nl 200 0 blankS).2).2.1) (((prs le nl 200 0 blankS).2).2.2.1) (((prs le nl 200 0 blankS).2).2.2.2.1) (((prs le nl 200 0 blankS).2).2.2.2.2.1) (((prs le nl 200 0 blankS).2).2.2.2.2.2), wCh G d (((prs le nl 200 0 blankS).2).1) (((prs le nl 200 0 blankS).2).2.1) (((prs le nl 200 0 blankS).2).2.2.1) (((prs le nl 200 0 blankS).2).2.2.2.1) (((prs le nl 200 0 blankS).2).2.2.2.2.1) (((prs le nl 200 0 blankS).2).2.2.2.2.2), wSg G q th sa 0, wSh8 G h ad lw 0, wSh2 G g ad2 lw2 0]) (mid := [wInk G o x w d h g q e, wTx G x le nl nu_1 nc_2, wCh G w (((prs le nl 200 0 blankS).2).1) (((prs le nl 200 0 blankS).2).2.1) (((prs le nl 200 0 blankS).2).2.2.1) (((prs le nl 200 0 blankS).2).2.2.2.1) (((prs le nl 200 0 blankS).2).2.2.2.2.1) (((prs le nl 200 0 blankS).2).2.2.2.2.2), wCh G d (((prs le nl 200 0 blankS).2).1) (((prs le nl 200 0 blankS).2).2.1) (((prs le nl 200 0 blankS).2).2.2.1) (((prs le nl 200 0 blankS).2).2.2.2.1) (((prs le nl 200 0 blankS).2).2.2.2.2.1) (((prs le nl 200 0 blankS).2).2.2.2.2.2), wSg G q th sa 0, wSh8 G h ad lw 0]) (w1 := wSh2 G g ad2 lw2 0) [6] [0, 1, 2, 3, 4, 5] (show ([6] ++ [0, 1, 2, 3, 4, 5] : List Nat).Perm (List.range 7) from by decide) rfl X (c_X1_clear__2 l G g ad2 lw2 sz2) rfl rfl rfl rfl xE0_ok (fun _ _ _ => trivial) 0 rfl rfl rfl wco_X1_clear wi_X1 xd_X1_clear wl_X4_83 win_X1_clear wse_X1_clear (by decide) (Nat.le_of_ble_eq_true rfl) dX4_lay_58 (Eq.trans (b := [g 0, g 1]) rfl rfl) ?_
      refine x_aloadn X dX4_lay_61 0 rfl ?_
      refine x_get X wu_X4 0 rfl rfl 1 (by decide) wf_X4_19 rfl rfl dX4_lay_62 ?_
      refine x_callVJrv (As := []) (rest := []) (segs := [wInk G o x w d h g q e, wTx G x le nl nu_1 nc_2, wCh G w (((prs le nl 200 0 blankS).2).1) (((prs le nl 200 0 blankS).2).2.1) (((prs le nl 200 0 blankS).2).2.2.1) (((prs le nl 200 0 blankS).2).2.2.2.1) (((prs le nl 200 0 blankS).2).2.2.2.2.1) (((prs le nl 200 0 blankS).2).2.2.2.2.2), wCh G d (((prs le nl 200 0 blankS).2).1) (((prs le nl 200 0 blankS).2).2.1) (((prs le nl 200 0 blankS).2).2.2.1) (((prs le nl 200 0 blankS).2).2.2.2.1) (((prs le nl 200 0 blankS).2).2.2.2.2.1) (((prs le nl 200 0 blankS).2).2.2.2.2.2), wSg G q th sa 0, wSh8 G h ad lw 0, wSh2 G g ad2 lw2 0]) [2] [0, 1, 3, 4, 5, 6] (show ([2] ++ [0, 1, 3, 4, 5, 6] : List Nat).Perm (List.range 7) from by decide) X (c_X0_persons l G w (((prs le nl 200 0 blankS).2).1) (((prs le nl 200 0 blankS).2).2.1) (((prs le nl 200 0 blankS).2).2.2.1) (((prs le nl 200 0 blankS).2).2.2.2.1) (((prs le nl 200 0 blankS).2).2.2.2.2.1) (((prs le nl 200 0 blankS).2).2.2.2.2.2)) rfl xE0_ok (fun _ _ _ => trivial) 0 rfl rfl rfl wco_X0_persons wi_X0 xd_X0_persons wl_X4_84 win_X0_persons wse_X0_persons (by decide) (Nat.le_of_ble_eq_true rfl) dX4_lay_65 ?_
      exact x_ret X dX4_lay_68 ⟨ret_i (by rw [F_lay, show F_layOk (prsT le nl) = true from (by unfold F_layOk prsT; rw [c_4, c_5]; rfl)]; rfl), ⟨nu_1, nc_2, (by rw [show F_layOk (prsT le nl) = true from (by unfold F_layOk prsT; rw [c_4, c_5]; rfl)]; rfl)⟩, by decide, by decide⟩
    · -- 23 f
      refine x_bipush (v := (-2)) X dX4_lay_26 (by decide) ?_
      exact x_ret X dX4_lay_28 ⟨ret_i (by rw [F_lay, show F_layOk (prsT le nl) = false from (by unfold F_layOk prsT; rw [c_4, c_5]; rfl)]; rfl), ⟨nu_1, nc_2, (by rw [show F_layOk (prsT le nl) = false from (by unfold F_layOk prsT; rw [c_4, c_5]; rfl)]; rfl)⟩, by decide, by decide⟩
