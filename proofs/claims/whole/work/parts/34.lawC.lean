/-! ===== the law: its loop and its start ===== -/
set_option maxRecDepth 100000 in
set_option maxHeartbeats 4000000 in
theorem law_loop {l : Launch} {G : xG} {nm : String} {tW sq sv : Nat} {sw : Value} {b L : Nat} {xs : Nat → Int32} {Z : Option Value → va_W → Nat → Nat → Prop} {K : xKt} (X : xR l G (xEL tW sq sv sw b L xs) RL nm cL_law 4 room_1 Z K) {o : Nat} {x : Nat → Nat} {w : Nat → Nat} {d : Nat → Nat} {h : Nat → Nat} {g : Nat → Nat} {q : Nat → Nat} {e : Nat} {ad : Nat → Nat → Nat} {ad2 : Nat → Nat → Nat} {a : Nat → Nat} (hL : L ≤ 384) (hZ : ∀ ws, Z (some (.int (nI 1))) ws 84 2407) : ∀ (fu i : Nat) (s : xS) (sd : xS) (le : Nat → Int32) (nl : Nat) (nu : Nat → Int32) (nc : Nat) (lw : Nat) (sz : Nat) (cs : Nat → xS) (lw2 : Nat) (sz2 : Nat) (cs2 : Nat → xS) (th : Nat → Int32) (sa : Nat → Int32) (ns : Nat) (f : Nat → Int32) (pa : Nat) (rp : Nat) (rq : Nat) (kd : Nat → Int32) (W : Nat → Int32) (Kp : Nat → Int32) (sg : Nat → Int32) (le2 : Nat → Int32) (tl : Nat → Int32) (rk : Nat → Int32) (rd : Nat → Int32) (nw : Nat → Int32) (rw : Nat → Int32), 400 - i < fu → i ≤ 390 → LI s kd le le2 nl lw sz cs W lw2 sz2 cs2 Kp ns th sa sg → K (xJ [wInk G o x w d h g q e, wTx G x le nl nu nc, wCq G w s, wCq G d sd, wSh8 G h ad lw sz, wSh2 G g ad2 lw2 sz2, wSg G q th sa ns, wIA G e 41 f, wMo G a s.1 s.2.1 sz sz2 ns nl pa rp rq kd (en s) W Kp sg le2 tl rk rd nw rw, wCs G ad cs 8, wCs G ad2 cs2 2]) 84 2407 18 [(3, .int (nI i)), (2, .ref (a 0)), (1, .ref o), (0, .ref b)] [] := by
  intro fu
  induction fu with
  | zero => intro i s sd le nl nu nc lw sz cs lw2 sz2 cs2 th sa ns f pa rp rq kd W Kp sg le2 tl rk rd nw rw h; exact absurd h (Nat.not_lt_zero _)
  | succ fu ih =>
    intro i s sd le nl nu nc lw sz cs lw2 sz2 cs2 th sa ns f pa rp rq kd W Kp sg le2 tl rk rd nw rw hfu hi h0
    refine x_iloadn X dL_law_18 0 rfl ?_
    refine x_aloadn X dL_law_19 3 rfl ?_
    refine x_slen X (fun _ _ h => h.2.2) dL_law_20 ?_
    refine x_bipush (v := nI 6) X dL_law_21 (by decide) ?_
    refine x_isub (v := nI L - nI 6) X dL_law_23 rfl ?_
    refine x_icmp_gt 1155 X dL_law_24 (by decide) (fun c_1 => ?_) (fun c_1 => ?_)
    · refine x_iconst (v := nI 1) X dL_law_1155 (by decide) ?_
      exact x_ret X dL_law_1156 (hZ _)
    · have hiL := lw_lt hL hi c_1
      have kk : ∀ (s : xS) (sd : xS) (le : Nat → Int32) (nl : Nat) (nu : Nat → Int32) (nc : Nat) (lw : Nat) (sz : Nat) (cs : Nat → xS) (lw2 : Nat) (sz2 : Nat) (cs2 : Nat → xS) (th : Nat → Int32) (sa : Nat → Int32) (ns : Nat) (f : Nat → Int32) (pa : Nat) (rp : Nat) (rq : Nat) (kd : Nat → Int32) (W : Nat → Int32) (Kp : Nat → Int32) (sg : Nat → Int32) (le2 : Nat → Int32) (tl : Nat → Int32) (rk : Nat → Int32) (rd : Nat → Int32) (nw : Nat → Int32) (rw : Nat → Int32), LI s kd le le2 nl lw sz cs W lw2 sz2 cs2 Kp ns th sa sg → K (xJ [wInk G o x w d h g q e, wTx G x le nl nu nc, wCq G w s, wCq G d sd, wSh8 G h ad lw sz, wSh2 G g ad2 lw2 sz2, wSg G q th sa ns, wIA G e 41 f, wMo G a s.1 s.2.1 sz sz2 ns nl pa rp rq kd (en s) W Kp sg le2 tl rk rd nw rw, wCs G ad cs 8, wCs G ad2 cs2 2]) 84 2407 1149 [(3, .int (nI i)), (2, .ref (a 0)), (1, .ref o), (0, .ref b)] [] := fun s sd le nl nu nc lw sz cs lw2 sz2 cs2 th sa ns f pa rp rq kd W Kp sg le2 tl rk rd nw rw h' => by
        refine x_iinc (v := nI (i + 6)) (lv' := [(3, .int (nI (i + 6))), (2, .ref (a 0)), (1, .ref o), (0, .ref b)]) X dL_law_1149 0 rfl (nI_add _ _) (by decide) rfl ?_
        refine x_goto 18 X dL_law_1152 (by decide) ?_
        exact ih (i + 6) s sd le nl nu nc lw sz cs lw2 sz2 cs2 th sa ns f pa rp rq kd W Kp sg le2 tl rk rd nw rw (by omega) (by omega) h'
      refine x_aloadn X dL_law_27 3 rfl ?_
      refine x_iloadn X dL_law_28 0 rfl ?_
      refine x_sld X (fun _ _ h => h.2.2) (by omega) (by omega) dL_law_29 ?_
      refine x_bipush (v := nI 31) X dL_law_30 (by decide) ?_
      refine x_iand (v := xs i &&& nI 31) X dL_law_32 rfl ?_
      by_cases e0 : xs i &&& nI 31 = 0
      · refine x_int e0 ?_
        refine x_tableIn 168 X dL_law_33 (by decide) (by decide) rfl (by decide) ?_
        exact lw_write X hL hiL kk s sd le nl nu nc lw sz cs lw2 sz2 cs2 th sa ns f pa rp rq kd W Kp sg le2 tl rk rd nw rw h0
      by_cases e1 : xs i &&& nI 31 = 1
      · refine x_int e1 ?_
        refine x_tableIn 191 X dL_law_33 (by decide) (by decide) rfl (by decide) ?_
        exact lw_wipe X hL hiL kk s sd le nl nu nc lw sz cs lw2 sz2 cs2 th sa ns f pa rp rq kd W Kp sg le2 tl rk rd nw rw h0
      by_cases e2 : xs i &&& nI 31 = 2
      · refine x_int e2 ?_
        refine x_tableIn 204 X dL_law_33 (by decide) (by decide) rfl (by decide) ?_
        exact lw_fault X hL hiL kk s sd le nl nu nc lw sz cs lw2 sz2 cs2 th sa ns f pa rp rq kd W Kp sg le2 tl rk rd nw rw h0
      by_cases e3 : xs i &&& nI 31 = 3
      · refine x_int e3 ?_
        refine x_tableIn 217 X dL_law_33 (by decide) (by decide) rfl (by decide) ?_
        exact lw_lay X hL hiL kk s sd le nl nu nc lw sz cs lw2 sz2 cs2 th sa ns f pa rp rq kd W Kp sg le2 tl rk rd nw rw h0
      by_cases e4 : xs i &&& nI 31 = 4
      · refine x_int e4 ?_
        refine x_tableIn 230 X dL_law_33 (by decide) (by decide) rfl (by decide) ?_
        exact lw_person X hL hiL kk s sd le nl nu nc lw sz cs lw2 sz2 cs2 th sa ns f pa rp rq kd W Kp sg le2 tl rk rd nw rw h0
      by_cases e5 : xs i &&& nI 31 = 5
      · refine x_int e5 ?_
        refine x_tableIn 263 X dL_law_33 (by decide) (by decide) rfl (by decide) ?_
        exact lw_view X hL hiL kk s sd le nl nu nc lw sz cs lw2 sz2 cs2 th sa ns f pa rp rq kd W Kp sg le2 tl rk rd nw rw h0
      by_cases e6 : xs i &&& nI 31 = 6
      · refine x_int e6 ?_
        refine x_tableIn 296 X dL_law_33 (by decide) (by decide) rfl (by decide) ?_
        exact lw_line X hL hiL kk s sd le nl nu nc lw sz cs lw2 sz2 cs2 th sa ns f pa rp rq kd W Kp sg le2 tl rk rd nw rw h0
      by_cases e7 : xs i &&& nI 31 = 7
      · refine x_int e7 ?_
        refine x_tableIn 329 X dL_law_33 (by decide) (by decide) rfl (by decide) ?_
        exact lw_would X hL hiL kk s sd le nl nu nc lw sz cs lw2 sz2 cs2 th sa ns f pa rp rq kd W Kp sg le2 tl rk rd nw rw h0
      by_cases e8 : xs i &&& nI 31 = 8
      · refine x_int e8 ?_
        refine x_tableIn 372 X dL_law_33 (by decide) (by decide) rfl (by decide) ?_
        exact lw_set X hL hiL kk s sd le nl nu nc lw sz cs lw2 sz2 cs2 th sa ns f pa rp rq kd W Kp sg le2 tl rk rd nw rw h0
      by_cases e9 : xs i &&& nI 31 = 9
      · refine x_int e9 ?_
        refine x_tableIn 425 X dL_law_33 (by decide) (by decide) rfl (by decide) ?_
        exact lw_erase X hL hiL kk s sd le nl nu nc lw sz cs lw2 sz2 cs2 th sa ns f pa rp rq kd W Kp sg le2 tl rk rd nw rw h0
      by_cases e10 : xs i &&& nI 31 = 10
      · refine x_int e10 ?_
        refine x_tableIn 468 X dL_law_33 (by decide) (by decide) rfl (by decide) ?_
        exact lw_copy X hL hiL kk s sd le nl nu nc lw sz cs lw2 sz2 cs2 th sa ns f pa rp rq kd W Kp sg le2 tl rk rd nw rw h0
      by_cases e11 : xs i &&& nI 31 = 11
      · refine x_int e11 ?_
        refine x_tableIn 511 X dL_law_33 (by decide) (by decide) rfl (by decide) ?_
        exact lw_think X hL hiL kk s sd le nl nu nc lw sz cs lw2 sz2 cs2 th sa ns f pa rp rq kd W Kp sg le2 tl rk rd nw rw h0
      by_cases e12 : xs i &&& nI 31 = 12
      · refine x_int e12 ?_
        refine x_tableIn 554 X dL_law_33 (by decide) (by decide) rfl (by decide) ?_
        exact lw_mind X hL hiL kk s sd le nl nu nc lw sz cs lw2 sz2 cs2 th sa ns f pa rp rq kd W Kp sg le2 tl rk rd nw rw h0
      by_cases e13 : xs i &&& nI 31 = 13
      · refine x_int e13 ?_
        refine x_tableIn 587 X dL_law_33 (by decide) (by decide) rfl (by decide) ?_
        exact lw_undo X hL hiL kk s sd le nl nu nc lw sz cs lw2 sz2 cs2 th sa ns f pa rp rq kd W Kp sg le2 tl rk rd nw rw h0
      by_cases e14 : xs i &&& nI 31 = 14
      · refine x_int e14 ?_
        refine x_tableIn 600 X dL_law_33 (by decide) (by decide) rfl (by decide) ?_
        exact lw_own X hL hiL kk s sd le nl nu nc lw sz cs lw2 sz2 cs2 th sa ns f pa rp rq kd W Kp sg le2 tl rk rd nw rw h0
      by_cases e15 : xs i &&& nI 31 = 15
      · refine x_int e15 ?_
        refine x_tableIn 633 X dL_law_33 (by decide) (by decide) rfl (by decide) ?_
        exact lw_tears X hL hiL kk s sd le nl nu nc lw sz cs lw2 sz2 cs2 th sa ns f pa rp rq kd W Kp sg le2 tl rk rd nw rw h0
      by_cases e16 : xs i &&& nI 31 = 16
      · refine x_int e16 ?_
        refine x_tableIn 676 X dL_law_33 (by decide) (by decide) rfl (by decide) ?_
        exact lw_whom X hL hiL kk s sd le nl nu nc lw sz cs lw2 sz2 cs2 th sa ns f pa rp rq kd W Kp sg le2 tl rk rd nw rw h0
      by_cases e17 : xs i &&& nI 31 = 17
      · refine x_int e17 ?_
        refine x_tableIn 719 X dL_law_33 (by decide) (by decide) rfl (by decide) ?_
        exact lw_treaty X hL hiL kk s sd le nl nu nc lw sz cs lw2 sz2 cs2 th sa ns f pa rp rq kd W Kp sg le2 tl rk rd nw rw h0
      by_cases e18 : xs i &&& nI 31 = 18
      · refine x_int e18 ?_
        refine x_tableIn 762 X dL_law_33 (by decide) (by decide) rfl (by decide) ?_
        exact lw_round X hL hiL kk s sd le nl nu nc lw sz cs lw2 sz2 cs2 th sa ns f pa rp rq kd W Kp sg le2 tl rk rd nw rw h0
      by_cases e19 : xs i &&& nI 31 = 19
      · refine x_int e19 ?_
        refine x_tableIn 805 X dL_law_33 (by decide) (by decide) rfl (by decide) ?_
        exact lw_again X hL hiL kk s sd le nl nu nc lw sz cs lw2 sz2 cs2 th sa ns f pa rp rq kd W Kp sg le2 tl rk rd nw rw h0
      by_cases e20 : xs i &&& nI 31 = 20
      · refine x_int e20 ?_
        refine x_tableIn 838 X dL_law_33 (by decide) (by decide) rfl (by decide) ?_
        exact lw_least X hL hiL kk s sd le nl nu nc lw sz cs lw2 sz2 cs2 th sa ns f pa rp rq kd W Kp sg le2 tl rk rd nw rw h0
      by_cases e21 : xs i &&& nI 31 = 21
      · refine x_int e21 ?_
        refine x_tableIn 881 X dL_law_33 (by decide) (by decide) rfl (by decide) ?_
        exact lw_sign X hL hiL kk s sd le nl nu nc lw sz cs lw2 sz2 cs2 th sa ns f pa rp rq kd W Kp sg le2 tl rk rd nw rw h0
      by_cases e22 : xs i &&& nI 31 = 22
      · refine x_int e22 ?_
        refine x_tableIn 914 X dL_law_33 (by decide) (by decide) rfl (by decide) ?_
        exact lw_forget X hL hiL kk s sd le nl nu nc lw sz cs lw2 sz2 cs2 th sa ns f pa rp rq kd W Kp sg le2 tl rk rd nw rw h0
      by_cases e23 : xs i &&& nI 31 = 23
      · refine x_int e23 ?_
        refine x_tableIn 927 X dL_law_33 (by decide) (by decide) rfl (by decide) ?_
        exact lw_who X hL hiL kk s sd le nl nu nc lw sz cs lw2 sz2 cs2 th sa ns f pa rp rq kd W Kp sg le2 tl rk rd nw rw h0
      by_cases e24 : xs i &&& nI 31 = 24
      · refine x_int e24 ?_
        refine x_tableIn 950 X dL_law_33 (by decide) (by decide) rfl (by decide) ?_
        exact lw_views X hL hiL kk s sd le nl nu nc lw sz cs lw2 sz2 cs2 th sa ns f pa rp rq kd W Kp sg le2 tl rk rd nw rw h0
      by_cases e25 : xs i &&& nI 31 = 25
      · refine x_int e25 ?_
        refine x_tableIn 993 X dL_law_33 (by decide) (by decide) rfl (by decide) ?_
        exact lw_drops X hL hiL kk s sd le nl nu nc lw sz cs lw2 sz2 cs2 th sa ns f pa rp rq kd W Kp sg le2 tl rk rd nw rw h0
      by_cases e26 : xs i &&& nI 31 = 26
      · refine x_int e26 ?_
        refine x_tableIn 1057 X dL_law_33 (by decide) (by decide) rfl (by decide) ?_
        exact lw_weeks X hL hiL kk s sd le nl nu nc lw sz cs lw2 sz2 cs2 th sa ns f pa rp rq kd W Kp sg le2 tl rk rd nw rw h0
      by_cases e27 : xs i &&& nI 31 = 27
      · refine x_int e27 ?_
        refine x_tableIn 1100 X dL_law_33 (by decide) (by decide) rfl (by decide) ?_
        exact lw_keep X hL hiL kk s sd le nl nu nc lw sz cs lw2 sz2 cs2 th sa ns f pa rp rq kd W Kp sg le2 tl rk rd nw rw h0
      by_cases e28 : xs i &&& nI 31 = 28
      · refine x_int e28 ?_
        refine x_tableIn 1113 X dL_law_33 (by decide) (by decide) rfl (by decide) ?_
        exact lw_back X hL hiL kk s sd le nl nu nc lw sz cs lw2 sz2 cs2 th sa ns f pa rp rq kd W Kp sg le2 tl rk rd nw rw h0
      by_cases e29 : xs i &&& nI 31 = 29
      · refine x_int e29 ?_
        refine x_tableIn 1126 X dL_law_33 (by decide) (by decide) rfl (by decide) ?_
        exact lw_count X hL hiL kk s sd le nl nu nc lw sz cs lw2 sz2 cs2 th sa ns f pa rp rq kd W Kp sg le2 tl rk rd nw rw h0
      refine x_tableOut 1149 X dL_law_33 (by have := lv_neT (a := 0) e0 rfl; have := lv_neT (a := 1) e1 rfl; have := lv_neT (a := 2) e2 rfl; have := lv_neT (a := 3) e3 rfl; have := lv_neT (a := 4) e4 rfl; have := lv_neT (a := 5) e5 rfl; have := lv_neT (a := 6) e6 rfl; have := lv_neT (a := 7) e7 rfl; have := lv_neT (a := 8) e8 rfl; have := lv_neT (a := 9) e9 rfl; have := lv_neT (a := 10) e10 rfl; have := lv_neT (a := 11) e11 rfl; have := lv_neT (a := 12) e12 rfl; have := lv_neT (a := 13) e13 rfl; have := lv_neT (a := 14) e14 rfl; have := lv_neT (a := 15) e15 rfl; have := lv_neT (a := 16) e16 rfl; have := lv_neT (a := 17) e17 rfl; have := lv_neT (a := 18) e18 rfl; have := lv_neT (a := 19) e19 rfl; have := lv_neT (a := 20) e20 rfl; have := lv_neT (a := 21) e21 rfl; have := lv_neT (a := 22) e22 rfl; have := lv_neT (a := 23) e23 rfl; have := lv_neT (a := 24) e24 rfl; have := lv_neT (a := 25) e25 rfl; have := lv_neT (a := 26) e26 rfl; have := lv_neT (a := 27) e27 rfl; have := lv_neT (a := 28) e28 rfl; have := lv_neT (a := 29) e29 rfl; omega) (by decide) ?_
      exact kk s sd le nl nu nc lw sz cs lw2 sz2 cs2 th sa ns f pa rp rq kd W Kp sg le2 tl rk rd nw rw h0

set_option maxRecDepth 100000 in
set_option maxHeartbeats 4000000 in
theorem law_entry {l : Launch} {G : xG} {nm : String} {tW sq sv : Nat} {sw : Value} {b L : Nat} {xs : Nat → Int32} {Z : Option Value → va_W → Nat → Nat → Prop} {K : xKt} (X : xR l G (xEL tW sq sv sw b L xs) RL nm cL_law 4 room_1 Z K) (hL : L ≤ 384) (hw : sw = .null ∨ ∃ f, sw = .ref f) (hZ : ∀ ws, Z (some (.int (nI 1))) ws 84 2407) : K [] 0 0 0 [(0, .ref b)] [] := by
  refine x_new (ci := 4) (fs := [.null, .null, .null, .null, .null, .null, .null]) X wu_X4 tyX4_ok wcl_L_7 wns_X4 wi_X4 rfl (by decide) (by decide) dL_law_0 (fun q_1 => ?_)
  refine x_wst (ws' := wOb G q_1 4 ([.null, .null, .null, .null, .null, .null, .null])) (st' := [.ref q_1]) rfl rfl ?_
  refine x_dup X dL_law_3 rfl ?_
  refine x_wst (ws' := [] ++ wOb G q_1 4 ([.null, .null, .null, .null, .null, .null, .null])) (st' := [.ref q_1, .ref q_1]) rfl rfl ?_
  refine x_callIL (As := []) (rest := [.ref q_1]) X (c_X4_init l G q_1 sq sv sw hw) (xES_ok sq sv sw) (fun _ _ h => h.2.1) rfl wco_X4_init wi_X4 xd_X4_init wl_L_9 win_X4_init rfl (by decide) (Nat.le_of_ble_eq_true rfl) dL_law_4 (fun w_2 hw_2 => ?_)
  obtain ⟨x_3, w_4, d_5, h_6, g_7, q_8, e_9, ad_10, ad2_11, le_12, nu_13, nc_14, rfl⟩ := hw_2
  refine x_wst (ws' := xJ [wInk G q_1 x_3 w_4 d_5 h_6 g_7 q_8 e_9, wTx G x_3 le_12 0 nu_13 nc_14, wCq G w_4 sF, wCq G d_5 zS, wSh8 G h_6 ad_10 0 0, wCs G ad_10 (fun _ => zS) 8, wSh2 G g_7 ad2_11 0 0, wCs G ad2_11 (fun _ => zS) 2, wSg G q_8 (fun _ => nI 0) (fun _ => nI 0) 0, wIA G e_9 41 (fun _ => nI 0)]) (st' := [.ref q_1]) (by simp only [xJ, List.append_assoc, List.nil_append]) rfl ?_
  refine x_astoren (lv' := [(1, .ref q_1), (0, .ref b)]) X dL_law_7 (by decide) rfl ?_
  refine x_new (ci := 5) (fs := [.int (nI 0), .null, .int (nI 0), .null, .int (nI 0), .null, .int (nI 0), .null, .int (nI 0), .null, .null, .int (nI 0), .int (nI 0), .null, .int (nI 0), .null, .int (nI 0), .null, .null, .null]) X wu_X5 tyX5_ok wcl_L_10 wns_X5 wi_X5 rfl (by decide) (by decide) dL_law_8 (fun q_15 => ?_)
  refine x_wst (ws' := xJ [wInk G q_1 x_3 w_4 d_5 h_6 g_7 q_8 e_9, wTx G x_3 le_12 0 nu_13 nc_14, wCq G w_4 sF, wCq G d_5 zS, wSh8 G h_6 ad_10 0 0, wCs G ad_10 (fun _ => zS) 8, wSh2 G g_7 ad2_11 0 0, wCs G ad2_11 (fun _ => zS) 2, wSg G q_8 (fun _ => nI 0) (fun _ => nI 0) 0, wIA G e_9 41 (fun _ => nI 0), wOb G q_15 5 ([.int (nI 0), .null, .int (nI 0), .null, .int (nI 0), .null, .int (nI 0), .null, .int (nI 0), .null, .null, .int (nI 0), .int (nI 0), .null, .int (nI 0), .null, .int (nI 0), .null, .null, .null])]) (st' := [.ref q_15]) (by simp only [xJ, List.append_assoc, List.nil_append]) rfl ?_
  refine x_dup X dL_law_11 rfl ?_
  refine x_wst (ws' := xJ [wInk G q_1 x_3 w_4 d_5 h_6 g_7 q_8 e_9, wTx G x_3 le_12 0 nu_13 nc_14, wCq G w_4 sF, wCq G d_5 zS, wSh8 G h_6 ad_10 0 0, wCs G ad_10 (fun _ => zS) 8, wSh2 G g_7 ad2_11 0 0, wCs G ad2_11 (fun _ => zS) 2, wSg G q_8 (fun _ => nI 0) (fun _ => nI 0) 0, wIA G e_9 41 (fun _ => nI 0)] ++ wOb G q_15 5 ([.int (nI 0), .null, .int (nI 0), .null, .int (nI 0), .null, .int (nI 0), .null, .int (nI 0), .null, .null, .int (nI 0), .int (nI 0), .null, .int (nI 0), .null, .int (nI 0), .null, .null, .null])) (st' := [.ref q_15, .ref q_15]) (by simp only [xJ, List.append_assoc]) rfl ?_
  refine x_callIL (As := []) (rest := [.ref q_15]) X (c_X5_init l G q_15) xE0_ok (fun _ _ _ => trivial) rfl wco_X5_init wi_X5 xd_X5_init wl_L_12 win_X5_init rfl (by decide) (Nat.le_of_ble_eq_true rfl) dL_law_12 (fun w_16 hw_16 => ?_)
  obtain ⟨a_17, pa_18, rp_19, rq_20, kd_21, W_22, Kp_23, sg_24, le_25, tl_26, rk_27, rd_28, nw_29, rw_30, rfl, e_31, g_32⟩ := hw_16
  subst e_31
  refine x_wst (ws' := xJ [wInk G q_1 x_3 w_4 d_5 h_6 g_7 q_8 e_9, wTx G x_3 le_12 0 nu_13 nc_14, wCq G w_4 sF, wCq G d_5 zS, wSh8 G h_6 ad_10 0 0, wCs G ad_10 (fun _ => zS) 8, wSh2 G g_7 ad2_11 0 0, wCs G ad2_11 (fun _ => zS) 2, wSg G q_8 (fun _ => nI 0) (fun _ => nI 0) 0, wIA G e_9 41 (fun _ => nI 0), wMo G a_17 sF.1 sF.2.1 0 0 0 0 pa_18 rp_19 rq_20 kd_21 (en sF) W_22 Kp_23 sg_24 le_25 tl_26 rk_27 rd_28 nw_29 rw_30]) (st' := [.ref (a_17 0)]) (by simp only [xJ, List.append_assoc, List.nil_append]) rfl ?_
  refine x_astoren (lv' := [(2, .ref (a_17 0)), (1, .ref q_1), (0, .ref b)]) X dL_law_15 (by decide) rfl ?_
  refine x_iconst (v := nI 0) X dL_law_16 (by decide) ?_
  refine x_istoren (lv' := [(3, .int (nI 0)), (2, .ref (a_17 0)), (1, .ref q_1), (0, .ref b)]) X dL_law_17 (by decide) rfl ?_
  refine x_perm (ws' := xJ [wInk G q_1 x_3 w_4 d_5 h_6 g_7 q_8 e_9, wTx G x_3 le_12 0 nu_13 nc_14, wCq G w_4 sF, wCq G d_5 zS, wSh8 G h_6 ad_10 0 0, wSh2 G g_7 ad2_11 0 0, wSg G q_8 (fun _ => nI 0) (fun _ => nI 0) 0, wIA G e_9 41 (fun _ => nI 0), wMo G a_17 sF.1 sF.2.1 0 0 0 0 pa_18 rp_19 rq_20 kd_21 (en sF) W_22 Kp_23 sg_24 le_25 tl_26 rk_27 rd_28 nw_29 rw_30, wCs G ad_10 (fun _ => zS) 8, wCs G ad2_11 (fun _ => zS) 2] ++ []) X (xJ_perm (segs := [wInk G q_1 x_3 w_4 d_5 h_6 g_7 q_8 e_9, wTx G x_3 le_12 0 nu_13 nc_14, wCq G w_4 sF, wCq G d_5 zS, wSh8 G h_6 ad_10 0 0, wCs G ad_10 (fun _ => zS) 8, wSh2 G g_7 ad2_11 0 0, wCs G ad2_11 (fun _ => zS) 2, wSg G q_8 (fun _ => nI 0) (fun _ => nI 0) 0, wIA G e_9 41 (fun _ => nI 0), wMo G a_17 sF.1 sF.2.1 0 0 0 0 pa_18 rp_19 rq_20 kd_21 (en sF) W_22 Kp_23 sg_24 le_25 tl_26 rk_27 rd_28 nw_29 rw_30]) (is := [0, 1, 2, 3, 4, 6, 8, 9, 10, 5, 7]) (js := []) (show ([0, 1, 2, 3, 4, 6, 8, 9, 10, 5, 7] ++ [] : List Nat).Perm (List.range 11) from by decide)) ?_
  refine x_wst (ws' := xJ [wInk G q_1 x_3 w_4 d_5 h_6 g_7 q_8 e_9, wTx G x_3 le_12 0 nu_13 nc_14, wCq G w_4 sF, wCq G d_5 zS, wSh8 G h_6 ad_10 0 0, wSh2 G g_7 ad2_11 0 0, wSg G q_8 (fun _ => nI 0) (fun _ => nI 0) 0, wIA G e_9 41 (fun _ => nI 0), wMo G a_17 sF.1 sF.2.1 0 0 0 0 pa_18 rp_19 rq_20 kd_21 (en sF) W_22 Kp_23 sg_24 le_25 tl_26 rk_27 rd_28 nw_29 rw_30, wCs G ad_10 (fun _ => zS) 8, wCs G ad2_11 (fun _ => zS) 2]) (st' := []) (List.append_nil _) rfl ?_
  exact law_loop X hL hZ 401 0 sF zS le_12 0 nu_13 nc_14 0 0 (fun _ => zS) 0 0 (fun _ => zS) (fun _ => nI 0) (fun _ => nI 0) 0 (fun _ => nI 0) pa_18 rp_19 rq_20 kd_21 W_22 Kp_23 sg_24 le_25 tl_26 rk_27 rd_28 nw_29 rw_30 (by omega) (by omega) ⟨⟨GS_T txF 122, by rw [sF_1]; decide, g_32⟩, ⟨Nat.zero_le _, fun j hj => absurd hj (Nat.not_lt_zero _)⟩, ⟨by decide, by decide, fun j hj => absurd hj (Nat.not_lt_zero _), fun j hj => absurd hj (Nat.not_lt_zero _)⟩, ⟨by decide, by decide, fun j hj => absurd hj (Nat.not_lt_zero _), fun j hj => absurd hj (Nat.not_lt_zero _)⟩, ⟨Nat.zero_le _, fun j hj => absurd hj (Nat.not_lt_zero _), fun j hj => absurd hj (Nat.not_lt_zero _)⟩⟩

