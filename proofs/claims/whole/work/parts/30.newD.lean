/-! ===== the class's constructor ===== -/
theorem ltA_cg {le le2 : Nat → Int32} {nl : Nat} (h : ∀ j, j < nl → le j = le2 j) : ltA le nl = ltA le2 nl := by
  funext j
  unfold ltA
  split
  · rename_i hj; exact h j hj
  · rfl
theorem figs_cg {le le2 : Nat → Int32} {nl : Nat} (h : ∀ j, j < nl → le j = le2 j) : figs le nl = figs le2 nl := by
  funext p
  simp only [figs, ltA_cg h]
theorem valN_cg {le le2 : Nat → Int32} {nl : Nat} (h : ∀ j, j < nl → le j = le2 j) : valN le nl = valN le2 nl := by
  funext p
  simp only [valN, figs_cg h, ltA_cg h]
theorem rdN_cg {le le2 : Nat → Int32} {nl : Nat} (h : ∀ j, j < nl → le j = le2 j) : ∀ k, rdN le nl k = rdN le2 nl k
  | 0 => by funext p; rfl
  | k + 1 => by
    funext p
    simp only [rdN, figs_cg h, ltA_cg h, rdN_cg h k]
theorem prs_cg {le le2 : Nat → Int32} {nl : Nat} (h : ∀ j, j < nl → le j = le2 j) : ∀ k p s, prs le nl k p s = prs le2 nl k p s
  | 0, p, s => rfl
  | k + 1, p, s => by
    have hnx : nx le nl = nx le2 nl := by funext p; simp only [nx, figs_cg h]
    simp only [prs, hnx, valN_cg h, ltA_cg h, rdN_cg h, prs_cg h k]

set_option maxRecDepth 100000 in
set_option maxHeartbeats 4000000 in
/-- X4_init -/
theorem c_X4_init (l : Launch) (G : xG) (o : Nat) (sq : Nat) (sv : Nat) (sw : Value) (hw : sw = .null ∨ ∃ f, sw = .ref f) : xM l G (xES sq sv sw) yX4_init cX4_init 2 none 5 115 71 1155 [.ref o] (wOb G o 4 ([.null, .null, .null, .null, .null, .null, .null])) none (fun w2 => ∃ x' : Nat → Nat, ∃ w' : Nat → Nat, ∃ d' : Nat → Nat, ∃ h' : Nat → Nat, ∃ g' : Nat → Nat, ∃ q' : Nat → Nat, ∃ e' : Nat, ∃ ad' : Nat → Nat → Nat, ∃ ad2' : Nat → Nat → Nat, ∃ le' : Nat → Int32, ∃ nu' : Nat → Int32, ∃ nc' : Nat, w2 = xJ [wInk G o x' w' d' h' g' q' e', wTx G x' le' 0 nu' nc', wCq G w' sF, wCq G d' zS, wSh8 G h' ad' 0 0, wCs G ad' (fun _ => zS) 8, wSh2 G g' ad2' 0 0, wCs G ad2' (fun _ => zS) 2, wSg G q' (fun _ => nI 0) (fun _ => nI 0) 0, wIA G e' 41 (fun _ => nI 0)]) := by
  refine x_entry (by decide +kernel) (Nat.le_of_ble_eq_true rfl) rfl rfl (fun K X => ?_)
  refine x_aloadn X dX4_init_0 0 rfl ?_
  refine x_objInit X wl_X4_1 (by decide) (Nat.le_of_ble_eq_true rfl) dX4_init_1 ?_
  refine x_aloadn X dX4_init_4 0 rfl ?_
  refine x_new (ci := 3) (fs := [.null, .int (nI 0), .null, .int (nI 0)]) X wu_X3 tyX3_ok wcl_X4_7 wns_X3 wi_X3 rfl (by decide) (by decide) dX4_init_5 (fun q_1 => ?_)
  refine x_wst (ws' := xJ [wOb G o 4 ([.null, .null, .null, .null, .null, .null, .null]), wOb G q_1 3 ([.null, .int (nI 0), .null, .int (nI 0)])]) (st' := [.ref q_1, .ref o]) rfl rfl ?_
  refine x_dup X dX4_init_8 rfl ?_
  refine x_wst (ws' := wOb G o 4 ([.null, .null, .null, .null, .null, .null, .null]) ++ wOb G q_1 3 ([.null, .int (nI 0), .null, .int (nI 0)])) (st' := [.ref q_1, .ref q_1, .ref o]) rfl rfl ?_
  refine x_callIL (As := []) (rest := [.ref q_1, .ref o]) X (c_X3_init l G q_1) xE0_ok (fun _ _ _ => trivial) rfl wco_X3_init wi_X3 xd_X3_init wl_X4_9 win_X3_init rfl (by decide) (Nat.le_of_ble_eq_true rfl) dX4_init_9 (fun w_2 hw_2 => ?_)
  obtain ⟨a_3, rfl, e_4⟩ := hw_2
  subst e_4
  refine x_wst (ws' := xJ [wOb G o 4 ([.null, .null, .null, .null, .null, .null, .null]), wTx G a_3 (fun _ => nI 0) 0 (fun _ => nI 0) 0]) (st' := [.ref (a_3 0), .ref o]) rfl rfl ?_
  refine x_putF (ws' := xJ [wOb G o 4 ([.ref (a_3 0), .null, .null, .null, .null, .null, .null]), wTx G a_3 (fun _ => nI 0) 0 (fun _ => nI 0) 0]) (ty := tyX4 0) X wu_X4 tyX4_ok nmX4 0 rfl rfl 0 (by decide) wf_X4_10 rfl rfl rfl (by decide +kernel) rfl rfl (Nat.le_of_ble_eq_true rfl) rfl dX4_init_12 ?_
  refine x_aloadn X dX4_init_15 0 rfl ?_
  refine x_new (ci := 0) (fs := [.int (nI 0), .int (nI 0), .null, .null, .null, .null]) X wu_X0 tyX0_ok wcl_X4_16 wns_X0 wi_X0 rfl (by decide) (by decide) dX4_init_16 (fun q_5 => ?_)
  refine x_wst (ws' := xJ [wOb G o 4 ([.ref (a_3 0), .null, .null, .null, .null, .null, .null]), wTx G a_3 (fun _ => nI 0) 0 (fun _ => nI 0) 0, wOb G q_5 0 ([.int (nI 0), .int (nI 0), .null, .null, .null, .null])]) (st' := [.ref q_5, .ref o]) rfl rfl ?_
  refine x_dup X dX4_init_19 rfl ?_
  refine x_wst (ws' := xJ [wOb G o 4 ([.ref (a_3 0), .null, .null, .null, .null, .null, .null]), wTx G a_3 (fun _ => nI 0) 0 (fun _ => nI 0) 0] ++ wOb G q_5 0 ([.int (nI 0), .int (nI 0), .null, .null, .null, .null])) (st' := [.ref q_5, .ref q_5, .ref o]) rfl rfl ?_
  refine x_callIL (As := []) (rest := [.ref q_5, .ref o]) X (c_X0_init l G q_5) xE0_ok (fun _ _ _ => trivial) rfl wco_X0_init wi_X0 xd_X0_init wl_X4_18 win_X0_init rfl (by decide) (Nat.le_of_ble_eq_true rfl) dX4_init_20 (fun w_6 hw_6 => ?_)
  obtain ⟨a_7, rfl, e_8⟩ := hw_6
  subst e_8
  refine x_wst (ws' := xJ [wOb G o 4 ([.ref (a_3 0), .null, .null, .null, .null, .null, .null]), wTx G a_3 (fun _ => nI 0) 0 (fun _ => nI 0) 0, wCq G a_7 zS]) (st' := [.ref (a_7 0), .ref o]) rfl rfl ?_
  refine x_putF (ws' := xJ [wOb G o 4 ([.ref (a_3 0), .ref (a_7 0), .null, .null, .null, .null, .null]), wTx G a_3 (fun _ => nI 0) 0 (fun _ => nI 0) 0, wCq G a_7 zS]) (ty := tyX4 1) X wu_X4 tyX4_ok nmX4 0 rfl rfl 1 (by decide) wf_X4_19 rfl rfl rfl (by decide +kernel) rfl rfl (Nat.le_of_ble_eq_true rfl) rfl dX4_init_23 ?_
  refine x_aloadn X dX4_init_26 0 rfl ?_
  refine x_new (ci := 0) (fs := [.int (nI 0), .int (nI 0), .null, .null, .null, .null]) X wu_X0 tyX0_ok wcl_X4_16 wns_X0 wi_X0 rfl (by decide) (by decide) dX4_init_27 (fun q_9 => ?_)
  refine x_wst (ws' := xJ [wOb G o 4 ([.ref (a_3 0), .ref (a_7 0), .null, .null, .null, .null, .null]), wTx G a_3 (fun _ => nI 0) 0 (fun _ => nI 0) 0, wCq G a_7 zS, wOb G q_9 0 ([.int (nI 0), .int (nI 0), .null, .null, .null, .null])]) (st' := [.ref q_9, .ref o]) rfl rfl ?_
  refine x_dup X dX4_init_30 rfl ?_
  refine x_wst (ws' := xJ [wOb G o 4 ([.ref (a_3 0), .ref (a_7 0), .null, .null, .null, .null, .null]), wTx G a_3 (fun _ => nI 0) 0 (fun _ => nI 0) 0, wCq G a_7 zS] ++ wOb G q_9 0 ([.int (nI 0), .int (nI 0), .null, .null, .null, .null])) (st' := [.ref q_9, .ref q_9, .ref o]) rfl rfl ?_
  refine x_callIL (As := []) (rest := [.ref q_9, .ref o]) X (c_X0_init l G q_9) xE0_ok (fun _ _ _ => trivial) rfl wco_X0_init wi_X0 xd_X0_init wl_X4_18 win_X0_init rfl (by decide) (Nat.le_of_ble_eq_true rfl) dX4_init_31 (fun w_10 hw_10 => ?_)
  obtain ⟨a_11, rfl, e_12⟩ := hw_10
  subst e_12
  refine x_wst (ws' := xJ [wOb G o 4 ([.ref (a_3 0), .ref (a_7 0), .null, .null, .null, .null, .null]), wTx G a_3 (fun _ => nI 0) 0 (fun _ => nI 0) 0, wCq G a_7 zS, wCq G a_11 zS]) (st' := [.ref (a_11 0), .ref o]) rfl rfl ?_
  refine x_putF (ws' := xJ [wOb G o 4 ([.ref (a_3 0), .ref (a_7 0), .ref (a_11 0), .null, .null, .null, .null]), wTx G a_3 (fun _ => nI 0) 0 (fun _ => nI 0) 0, wCq G a_7 zS, wCq G a_11 zS]) (ty := tyX4 2) X wu_X4 tyX4_ok nmX4 0 rfl rfl 2 (by decide) wf_X4_23 rfl rfl rfl (by decide +kernel) rfl rfl (Nat.le_of_ble_eq_true rfl) rfl dX4_init_34 ?_
  refine x_aloadn X dX4_init_37 0 rfl ?_
  refine x_new (ci := 1) (fs := [.null, .int (nI 0), .int (nI 0)]) X wu_X1 tyX1_ok wcl_X4_26 wns_X1 wi_X1 rfl (by decide) (by decide) dX4_init_38 (fun q_13 => ?_)
  refine x_wst (ws' := xJ [wOb G o 4 ([.ref (a_3 0), .ref (a_7 0), .ref (a_11 0), .null, .null, .null, .null]), wTx G a_3 (fun _ => nI 0) 0 (fun _ => nI 0) 0, wCq G a_7 zS, wCq G a_11 zS, wOb G q_13 1 ([.null, .int (nI 0), .int (nI 0)])]) (st' := [.ref q_13, .ref o]) rfl rfl ?_
  refine x_dup X dX4_init_41 rfl ?_
  refine x_bipush (v := nI 8) X dX4_init_42 (by decide) ?_
  refine x_wst (ws' := xJ [wOb G o 4 ([.ref (a_3 0), .ref (a_7 0), .ref (a_11 0), .null, .null, .null, .null]), wTx G a_3 (fun _ => nI 0) 0 (fun _ => nI 0) 0, wCq G a_7 zS, wCq G a_11 zS] ++ wOb G q_13 1 ([.null, .int (nI 0), .int (nI 0)])) (st' := [.int (nI 8), .ref q_13, .ref q_13, .ref o]) rfl rfl ?_
  refine x_callIL (As := [.int (nI 8)]) (rest := [.ref q_13, .ref o]) X (c_X1_init__8 l G q_13) xEA_ok (fun _ _ h => h.2.1) rfl wco_X1_init wi_X1 xd_X1_init wl_X4_28 win_X1_init rfl (by decide) (Nat.le_of_ble_eq_true rfl) dX4_init_44 (fun w_14 hw_14 => ?_)
  obtain ⟨a_15, ad_16, rfl, e_17⟩ := hw_14
  subst e_17
  refine x_wst (ws' := xJ [wOb G o 4 ([.ref (a_3 0), .ref (a_7 0), .ref (a_11 0), .null, .null, .null, .null]), wTx G a_3 (fun _ => nI 0) 0 (fun _ => nI 0) 0, wCq G a_7 zS, wCq G a_11 zS, wSh8 G a_15 ad_16 0 0, wCs G ad_16 (fun _ => zS) 8]) (st' := [.ref (a_15 0), .ref o]) (by simp only [xJ, List.append_assoc, List.nil_append]) rfl ?_
  refine x_putF (ws' := xJ [wOb G o 4 ([.ref (a_3 0), .ref (a_7 0), .ref (a_11 0), .ref (a_15 0), .null, .null, .null]), wTx G a_3 (fun _ => nI 0) 0 (fun _ => nI 0) 0, wCq G a_7 zS, wCq G a_11 zS, wSh8 G a_15 ad_16 0 0, wCs G ad_16 (fun _ => zS) 8]) (ty := tyX4 3) X wu_X4 tyX4_ok nmX4 0 rfl rfl 3 (by decide) wf_X4_31 rfl rfl rfl (by decide +kernel) rfl rfl (Nat.le_of_ble_eq_true rfl) rfl dX4_init_47 ?_
  refine x_aloadn X dX4_init_50 0 rfl ?_
  refine x_new (ci := 1) (fs := [.null, .int (nI 0), .int (nI 0)]) X wu_X1 tyX1_ok wcl_X4_26 wns_X1 wi_X1 rfl (by decide) (by decide) dX4_init_51 (fun q_18 => ?_)
  refine x_wst (ws' := xJ [wOb G o 4 ([.ref (a_3 0), .ref (a_7 0), .ref (a_11 0), .ref (a_15 0), .null, .null, .null]), wTx G a_3 (fun _ => nI 0) 0 (fun _ => nI 0) 0, wCq G a_7 zS, wCq G a_11 zS, wSh8 G a_15 ad_16 0 0, wCs G ad_16 (fun _ => zS) 8, wOb G q_18 1 ([.null, .int (nI 0), .int (nI 0)])]) (st' := [.ref q_18, .ref o]) (by simp only [xJ, List.append_assoc, List.nil_append]) rfl ?_
  refine x_dup X dX4_init_54 rfl ?_
  refine x_iconst (v := nI 2) X dX4_init_55 (by decide) ?_
  refine x_wst (ws' := xJ [wOb G o 4 ([.ref (a_3 0), .ref (a_7 0), .ref (a_11 0), .ref (a_15 0), .null, .null, .null]), wTx G a_3 (fun _ => nI 0) 0 (fun _ => nI 0) 0, wCq G a_7 zS, wCq G a_11 zS, wSh8 G a_15 ad_16 0 0, wCs G ad_16 (fun _ => zS) 8] ++ wOb G q_18 1 ([.null, .int (nI 0), .int (nI 0)])) (st' := [.int (nI 2), .ref q_18, .ref q_18, .ref o]) (by simp only [xJ, List.append_assoc]) rfl ?_
  refine x_callIL (As := [.int (nI 2)]) (rest := [.ref q_18, .ref o]) X (c_X1_init__2 l G q_18) xEA_ok (fun _ _ h => h.2.1) rfl wco_X1_init wi_X1 xd_X1_init wl_X4_28 win_X1_init rfl (by decide) (Nat.le_of_ble_eq_true rfl) dX4_init_56 (fun w_19 hw_19 => ?_)
  obtain ⟨a_20, ad_21, rfl, e_22⟩ := hw_19
  subst e_22
  refine x_wst (ws' := xJ [wOb G o 4 ([.ref (a_3 0), .ref (a_7 0), .ref (a_11 0), .ref (a_15 0), .null, .null, .null]), wTx G a_3 (fun _ => nI 0) 0 (fun _ => nI 0) 0, wCq G a_7 zS, wCq G a_11 zS, wSh8 G a_15 ad_16 0 0, wCs G ad_16 (fun _ => zS) 8, wSh2 G a_20 ad_21 0 0, wCs G ad_21 (fun _ => zS) 2]) (st' := [.ref (a_20 0), .ref o]) (by simp only [xJ, List.append_assoc, List.nil_append]) rfl ?_
  refine x_putF (ws' := xJ [wOb G o 4 ([.ref (a_3 0), .ref (a_7 0), .ref (a_11 0), .ref (a_15 0), .ref (a_20 0), .null, .null]), wTx G a_3 (fun _ => nI 0) 0 (fun _ => nI 0) 0, wCq G a_7 zS, wCq G a_11 zS, wSh8 G a_15 ad_16 0 0, wCs G ad_16 (fun _ => zS) 8, wSh2 G a_20 ad_21 0 0, wCs G ad_21 (fun _ => zS) 2]) (ty := tyX4 4) X wu_X4 tyX4_ok nmX4 0 rfl rfl 4 (by decide) wf_X4_35 rfl rfl rfl (by decide +kernel) rfl rfl (Nat.le_of_ble_eq_true rfl) rfl dX4_init_59 ?_
  refine x_aloadn X dX4_init_62 0 rfl ?_
  refine x_new (ci := 2) (fs := [.null, .null, .int (nI 0)]) X wu_X2 tyX2_ok wcl_X4_38 wns_X2 wi_X2 rfl (by decide) (by decide) dX4_init_63 (fun q_23 => ?_)
  refine x_wst (ws' := xJ [wOb G o 4 ([.ref (a_3 0), .ref (a_7 0), .ref (a_11 0), .ref (a_15 0), .ref (a_20 0), .null, .null]), wTx G a_3 (fun _ => nI 0) 0 (fun _ => nI 0) 0, wCq G a_7 zS, wCq G a_11 zS, wSh8 G a_15 ad_16 0 0, wCs G ad_16 (fun _ => zS) 8, wSh2 G a_20 ad_21 0 0, wCs G ad_21 (fun _ => zS) 2, wOb G q_23 2 ([.null, .null, .int (nI 0)])]) (st' := [.ref q_23, .ref o]) (by simp only [xJ, List.append_assoc, List.nil_append]) rfl ?_
  refine x_dup X dX4_init_66 rfl ?_
  refine x_wst (ws' := xJ [wOb G o 4 ([.ref (a_3 0), .ref (a_7 0), .ref (a_11 0), .ref (a_15 0), .ref (a_20 0), .null, .null]), wTx G a_3 (fun _ => nI 0) 0 (fun _ => nI 0) 0, wCq G a_7 zS, wCq G a_11 zS, wSh8 G a_15 ad_16 0 0, wCs G ad_16 (fun _ => zS) 8, wSh2 G a_20 ad_21 0 0, wCs G ad_21 (fun _ => zS) 2] ++ wOb G q_23 2 ([.null, .null, .int (nI 0)])) (st' := [.ref q_23, .ref q_23, .ref o]) (by simp only [xJ, List.append_assoc]) rfl ?_
  refine x_callIL (As := []) (rest := [.ref q_23, .ref o]) X (c_X2_init l G q_23) xE0_ok (fun _ _ _ => trivial) rfl wco_X2_init wi_X2 xd_X2_init wl_X4_40 win_X2_init rfl (by decide) (Nat.le_of_ble_eq_true rfl) dX4_init_67 (fun w_24 hw_24 => ?_)
  obtain ⟨a_25, rfl, e_26⟩ := hw_24
  subst e_26
  refine x_wst (ws' := xJ [wOb G o 4 ([.ref (a_3 0), .ref (a_7 0), .ref (a_11 0), .ref (a_15 0), .ref (a_20 0), .null, .null]), wTx G a_3 (fun _ => nI 0) 0 (fun _ => nI 0) 0, wCq G a_7 zS, wCq G a_11 zS, wSh8 G a_15 ad_16 0 0, wCs G ad_16 (fun _ => zS) 8, wSh2 G a_20 ad_21 0 0, wCs G ad_21 (fun _ => zS) 2, wSg G a_25 (fun _ => nI 0) (fun _ => nI 0) 0]) (st' := [.ref (a_25 0), .ref o]) (by simp only [xJ, List.append_assoc, List.nil_append]) rfl ?_
  refine x_putF (ws' := xJ [wOb G o 4 ([.ref (a_3 0), .ref (a_7 0), .ref (a_11 0), .ref (a_15 0), .ref (a_20 0), .ref (a_25 0), .null]), wTx G a_3 (fun _ => nI 0) 0 (fun _ => nI 0) 0, wCq G a_7 zS, wCq G a_11 zS, wSh8 G a_15 ad_16 0 0, wCs G ad_16 (fun _ => zS) 8, wSh2 G a_20 ad_21 0 0, wCs G ad_21 (fun _ => zS) 2, wSg G a_25 (fun _ => nI 0) (fun _ => nI 0) 0]) (ty := tyX4 5) X wu_X4 tyX4_ok nmX4 0 rfl rfl 5 (by decide) wf_X4_41 rfl rfl rfl (by decide +kernel) rfl rfl (Nat.le_of_ble_eq_true rfl) rfl dX4_init_70 ?_
  refine x_aloadn X dX4_init_73 0 rfl ?_
  refine x_bipush (v := nI 41) X dX4_init_74 (by decide) ?_
  refine x_newa X (by decide) (by decide) dX4_init_76 (fun q_27 => ?_)
  refine x_wst (ws' := xJ [wOb G o 4 ([.ref (a_3 0), .ref (a_7 0), .ref (a_11 0), .ref (a_15 0), .ref (a_20 0), .ref (a_25 0), .null]), wTx G a_3 (fun _ => nI 0) 0 (fun _ => nI 0) 0, wCq G a_7 zS, wCq G a_11 zS, wSh8 G a_15 ad_16 0 0, wCs G ad_16 (fun _ => zS) 8, wSh2 G a_20 ad_21 0 0, wCs G ad_21 (fun _ => zS) 2, wSg G a_25 (fun _ => nI 0) (fun _ => nI 0) 0, wIA G q_27 41 (fun _ => nI 0)]) (st' := [.ref q_27, .ref o]) (by simp only [xJ, List.append_assoc, List.nil_append]) rfl ?_
  refine x_putF (ws' := xJ [wOb G o 4 ([.ref (a_3 0), .ref (a_7 0), .ref (a_11 0), .ref (a_15 0), .ref (a_20 0), .ref (a_25 0), .ref q_27]), wTx G a_3 (fun _ => nI 0) 0 (fun _ => nI 0) 0, wCq G a_7 zS, wCq G a_11 zS, wSh8 G a_15 ad_16 0 0, wCs G ad_16 (fun _ => zS) 8, wSh2 G a_20 ad_21 0 0, wCs G ad_21 (fun _ => zS) 2, wSg G a_25 (fun _ => nI 0) (fun _ => nI 0) 0, wIA G q_27 41 (fun _ => nI 0)]) (ty := tyX4 6) X wu_X4 tyX4_ok nmX4 0 rfl rfl 6 (by decide) wf_X4_45 rfl rfl rfl (by decide +kernel) rfl rfl (Nat.le_of_ble_eq_true rfl) rfl dX4_init_78 ?_
  refine x_iconst (v := nI 0) X dX4_init_81 (by decide) ?_
  refine x_istoren (lv' := [(1, .int (nI 0)), (0, .ref o)]) X dX4_init_82 (by decide) rfl ?_
  have L83 : ∀ (fu : Nat) (i : Nat) (f : Nat → Int32), 122 - i < fu → (i ≤ 122) → (∀ j, j < i → f j = txF j) → K (xJ [wOb G o 4 ([.ref (a_3 0), .ref (a_7 0), .ref (a_11 0), .ref (a_15 0), .ref (a_20 0), .ref (a_25 0), .ref q_27]), wTx G a_3 f i (fun _ => nI 0) 0, wCq G a_7 zS, wCq G a_11 zS, wSh8 G a_15 ad_16 0 0, wCs G ad_16 (fun _ => zS) 8, wSh2 G a_20 ad_21 0 0, wCs G ad_21 (fun _ => zS) 2, wSg G a_25 (fun _ => nI 0) (fun _ => nI 0) 0, wIA G q_27 41 (fun _ => nI 0)]) 71 1155 83 [(0, .ref o), (1, .int (nI i))] [] := by
    intro fu
    induction fu with
    | zero => intro i f hfu; exact absurd hfu (Nat.not_lt_zero _)
    | succ fu ih_L83 =>
      intro i f hfu_L83 hi hf
      refine x_iloadn X dX4_init_83 1 rfl ?_
      refine x_ldcS X (fun _ _ h => h.1) dX4_init_84 ?_
      refine x_callVE (As := []) (rest := [.int (nI i)]) X (c_J0_length l G sq sv sw) (xES_ok sq sv sw) (fun _ _ h => h) (fun _ _ h => h.2.2.1) rfl wco_J0_length_8abf5 wi_J0 xd_J0_length_8abf5 wl_X4_51 win_J0_length_8abf5 wse_J0_length_8abf5 (by decide) (Nat.le_of_ble_eq_true rfl) dX4_init_86 ?_
      refine x_icmp_ge_n 111 X dX4_init_89 (by decide) (by omega) (by omega) (fun c_28 => ?_) (fun c_28 => ?_)
      · -- 89 t
        have n_28 := Nat.not_lt.mpr c_28
        have ei : i = 122 := by omega
        subst ei
        refine x_aloadn X dX4_init_111 0 rfl ?_
        refine x_get X wu_X4 0 rfl rfl 0 (by decide) wf_X4_10 rfl rfl dX4_init_112 ?_
        refine x_aloadn X dX4_init_115 0 rfl ?_
        refine x_get X wu_X4 0 rfl rfl 1 (by decide) wf_X4_19 rfl rfl dX4_init_116 ?_
        refine x_callVJ (As := [.ref (a_7 0)]) (rest := []) (segs := [wOb G o 4 ([.ref (a_3 0), .ref (a_7 0), .ref (a_11 0), .ref (a_15 0), .ref (a_20 0), .ref (a_25 0), .ref q_27]), wTx G a_3 f 122 (fun _ => nI 0) 0, wCq G a_7 zS, wCq G a_11 zS, wSh8 G a_15 ad_16 0 0, wCs G ad_16 (fun _ => zS) 8, wSh2 G a_20 ad_21 0 0, wCs G ad_21 (fun _ => zS) 2, wSg G a_25 (fun _ => nI 0) (fun _ => nI 0) 0, wIA G q_27 41 (fun _ => nI 0)]) [1, 2] [0, 3, 4, 5, 6, 7, 8, 9] (show ([1, 2] ++ [0, 3, 4, 5, 6, 7, 8, 9] : List Nat).Perm (List.range 10) from by decide) X (c_X3_readInto l G a_3 f 122 (fun _ => nI 0) 0 a_7 zS (by omega)) rfl xE0_ok (fun _ _ _ => trivial) 0 rfl rfl rfl wco_X3_readInto wi_X3 xd_X3_readInto wl_X4_64 win_X3_readInto wse_X3_readInto (by decide) (Nat.le_of_ble_eq_true rfl) dX4_init_119 (fun w2 h => by obtain ⟨nu_29, nc_30, rfl⟩ := h; exact (Eq.trans (b := [a_3 0, a_3 1, a_3 2, a_7 0, a_7 1, a_7 2, a_7 3, a_7 4]) rfl rfl)) (fun w_31 hw_31 => ?_)
        obtain ⟨nu_29, nc_30, rfl⟩ := hw_31
        refine x_backV (segs := [wOb G o 4 ([.ref (a_3 0), .ref (a_7 0), .ref (a_11 0), .ref (a_15 0), .ref (a_20 0), .ref (a_25 0), .ref q_27]), wTx G a_3 f 122 (fun _ => nI 0) 0, wCq G a_7 zS, wCq G a_11 zS, wSh8 G a_15 ad_16 0 0, wCs G ad_16 (fun _ => zS) 8, wSh2 G a_20 ad_21 0 0, wCs G ad_21 (fun _ => zS) 2, wSg G a_25 (fun _ => nI 0) (fun _ => nI 0) 0, wIA G q_27 41 (fun _ => nI 0)]) (segs' := [wOb G o 4 ([.ref (a_3 0), .ref (a_7 0), .ref (a_11 0), .ref (a_15 0), .ref (a_20 0), .ref (a_25 0), .ref q_27]), wTx G a_3 f 122 nu_29 nc_30, wCq G a_7 ((prs f 122 200 0 blankS).2), wCq G a_11 zS, wSh8 G a_15 ad_16 0 0, wCs G ad_16 (fun _ => zS) 8, wSh2 G a_20 ad_21 0 0, wCs G ad_21 (fun _ => zS) 2, wSg G a_25 (fun _ => nI 0) (fun _ => nI 0) 0, wIA G q_27 41 (fun _ => nI 0)]) (mid := [wOb G o 4 ([.ref (a_3 0), .ref (a_7 0), .ref (a_11 0), .ref (a_15 0), .ref (a_20 0), .ref (a_25 0), .ref q_27]), wCq G a_11 zS, wSh8 G a_15 ad_16 0 0, wCs G ad_16 (fun _ => zS) 8, wSh2 G a_20 ad_21 0 0, wCs G ad_21 (fun _ => zS) 2, wSg G a_25 (fun _ => nI 0) (fun _ => nI 0) 0, wIA G q_27 41 (fun _ => nI 0)]) [1, 2] [0, 3, 4, 5, 6, 7, 8, 9] (show ([1, 2] ++ [0, 3, 4, 5, 6, 7, 8, 9] : List Nat).Perm (List.range 10) from by decide) X rfl rfl rfl ?_
        refine x_wst (ws' := xJ [wOb G o 4 ([.ref (a_3 0), .ref (a_7 0), .ref (a_11 0), .ref (a_15 0), .ref (a_20 0), .ref (a_25 0), .ref q_27]), wTx G a_3 f 122 nu_29 nc_30, wCq G a_7 ((prs f 122 200 0 blankS).2), wCq G a_11 zS, wSh8 G a_15 ad_16 0 0, wCs G ad_16 (fun _ => zS) 8, wSh2 G a_20 ad_21 0 0, wCs G ad_21 (fun _ => zS) 2, wSg G a_25 (fun _ => nI 0) (fun _ => nI 0) 0, wIA G q_27 41 (fun _ => nI 0)]) (st' := [.int ((prs f 122 200 0 blankS).1)]) rfl rfl ?_
        refine x_pop X dX4_init_122 rfl ?_
        refine x_aloadn X dX4_init_123 0 rfl ?_
        refine x_get X wu_X4 0 rfl rfl 0 (by decide) wf_X4_10 rfl rfl dX4_init_124 ?_
        refine x_callVJf0 (As := []) (rest := []) (segs := [wOb G o 4 ([.ref (a_3 0), .ref (a_7 0), .ref (a_11 0), .ref (a_15 0), .ref (a_20 0), .ref (a_25 0), .ref q_27]), wTx G a_3 f 122 nu_29 nc_30, wCq G a_7 ((prs f 122 200 0 blankS).2), wCq G a_11 zS, wSh8 G a_15 ad_16 0 0, wCs G ad_16 (fun _ => zS) 8, wSh2 G a_20 ad_21 0 0, wCs G ad_21 (fun _ => zS) 2, wSg G a_25 (fun _ => nI 0) (fun _ => nI 0) 0, wIA G q_27 41 (fun _ => nI 0)]) (segs' := [wOb G o 4 ([.ref (a_3 0), .ref (a_7 0), .ref (a_11 0), .ref (a_15 0), .ref (a_20 0), .ref (a_25 0), .ref q_27]), wTx G a_3 f 0 nu_29 nc_30, wCq G a_7 ((prs f 122 200 0 blankS).2), wCq G a_11 zS, wSh8 G a_15 ad_16 0 0, wCs G ad_16 (fun _ => zS) 8, wSh2 G a_20 ad_21 0 0, wCs G ad_21 (fun _ => zS) 2, wSg G a_25 (fun _ => nI 0) (fun _ => nI 0) 0, wIA G q_27 41 (fun _ => nI 0)]) (mid := [wOb G o 4 ([.ref (a_3 0), .ref (a_7 0), .ref (a_11 0), .ref (a_15 0), .ref (a_20 0), .ref (a_25 0), .ref q_27]), wCq G a_7 ((prs f 122 200 0 blankS).2), wCq G a_11 zS, wSh8 G a_15 ad_16 0 0, wCs G ad_16 (fun _ => zS) 8, wSh2 G a_20 ad_21 0 0, wCs G ad_21 (fun _ => zS) 2, wSg G a_25 (fun _ => nI 0) (fun _ => nI 0) 0, wIA G q_27 41 (fun _ => nI 0)]) (w1 := wTx G a_3 f 0 nu_29 nc_30) [1] [0, 2, 3, 4, 5, 6, 7, 8, 9] (show ([1] ++ [0, 2, 3, 4, 5, 6, 7, 8, 9] : List Nat).Perm (List.range 10) from by decide) rfl X (c_X3_clear l G a_3 f 122 nu_29 nc_30) rfl rfl rfl rfl xE0_ok (fun _ _ _ => trivial) 0 rfl rfl rfl wco_X3_clear wi_X3 xd_X3_clear wl_X4_68 win_X3_clear wse_X3_clear (by decide) (Nat.le_of_ble_eq_true rfl) dX4_init_127 (Eq.trans (b := [a_3 0, a_3 1, a_3 2]) rfl rfl) ?_
        exact x_retv X dX4_init_130 ⟨rfl, ⟨a_3, a_7, a_11, a_15, a_20, a_25, q_27, ad_16, ad_21, f, nu_29, nc_30, (by rw [show (prs f 122 200 0 blankS).2 = sF from congrArg Prod.snd (prs_cg hf _ _ _)]; first | done | rfl)⟩, by decide, by decide⟩
      · -- 89 f
        refine x_aloadn X dX4_init_92 0 rfl ?_
        refine x_get X wu_X4 0 rfl rfl 0 (by decide) wf_X4_10 rfl rfl dX4_init_93 ?_
        refine x_ldcS X (fun _ _ h => h.1) dX4_init_96 ?_
        refine x_iloadn X dX4_init_98 1 rfl ?_
        refine x_callVE (As := [.int (nI i)]) (rest := [.ref (a_3 0)]) X (c_J0_charAt l G sq sv sw i hw (by omega)) (xES_ok sq sv sw) (fun _ _ h => h) (fun _ _ h => h.2.2.1) rfl wco_J0_charAt_5068e wi_J0 xd_J0_charAt_5068e wl_X4_57 win_J0_charAt_5068e wse_J0_charAt_5068e (by decide) (Nat.le_of_ble_eq_true rfl) dX4_init_99 ?_
        refine x_callVJf0 (As := [.int (txF i)]) (rest := []) (segs := [wOb G o 4 ([.ref (a_3 0), .ref (a_7 0), .ref (a_11 0), .ref (a_15 0), .ref (a_20 0), .ref (a_25 0), .ref q_27]), wTx G a_3 f i (fun _ => nI 0) 0, wCq G a_7 zS, wCq G a_11 zS, wSh8 G a_15 ad_16 0 0, wCs G ad_16 (fun _ => zS) 8, wSh2 G a_20 ad_21 0 0, wCs G ad_21 (fun _ => zS) 2, wSg G a_25 (fun _ => nI 0) (fun _ => nI 0) 0, wIA G q_27 41 (fun _ => nI 0)]) (segs' := [wOb G o 4 ([.ref (a_3 0), .ref (a_7 0), .ref (a_11 0), .ref (a_15 0), .ref (a_20 0), .ref (a_25 0), .ref q_27]), wTx G a_3 (upd f i (txF i)) (i + 1) (fun _ => nI 0) 0, wCq G a_7 zS, wCq G a_11 zS, wSh8 G a_15 ad_16 0 0, wCs G ad_16 (fun _ => zS) 8, wSh2 G a_20 ad_21 0 0, wCs G ad_21 (fun _ => zS) 2, wSg G a_25 (fun _ => nI 0) (fun _ => nI 0) 0, wIA G q_27 41 (fun _ => nI 0)]) (mid := [wOb G o 4 ([.ref (a_3 0), .ref (a_7 0), .ref (a_11 0), .ref (a_15 0), .ref (a_20 0), .ref (a_25 0), .ref q_27]), wCq G a_7 zS, wCq G a_11 zS, wSh8 G a_15 ad_16 0 0, wCs G ad_16 (fun _ => zS) 8, wSh2 G a_20 ad_21 0 0, wCs G ad_21 (fun _ => zS) 2, wSg G a_25 (fun _ => nI 0) (fun _ => nI 0) 0, wIA G q_27 41 (fun _ => nI 0)]) (w1 := wTx G a_3 (upd f i (txF i)) (i + 1) (fun _ => nI 0) 0) [1] [0, 2, 3, 4, 5, 6, 7, 8, 9] (show ([1] ++ [0, 2, 3, 4, 5, 6, 7, 8, 9] : List Nat).Perm (List.range 10) from by decide) rfl X (c_X3_append l G a_3 f i (fun _ => nI 0) 0 (txF i) (by omega)) rfl rfl rfl rfl xE0_ok (fun _ _ _ => trivial) 0 rfl rfl rfl wco_X3_append wi_X3 xd_X3_append wl_X4_61 win_X3_append wse_X3_append (by decide) (Nat.le_of_ble_eq_true rfl) dX4_init_102 (Eq.trans (b := [a_3 0, a_3 1, a_3 2]) rfl rfl) ?_
        refine x_iinc (v := nI (i + 1)) (lv' := [(1, .int (nI (i + 1))), (0, .ref o)]) X dX4_init_105 1 rfl (nI_1 _) (by decide) rfl ?_
        refine x_goto 83 X dX4_init_108 (by decide) ?_
        refine x_lv (lv' := [(0, .ref o), (1, .int (nI (i + 1)))]) X [1, 0] rfl ?_
        exact ih_L83 (i + 1) (upd f i (txF i)) (by omega) (by omega) (fun j hj => if e : j = i then (by rw [upd, if_pos e, e]) else (by rw [upd, if_neg e]; exact hf j (by omega)))
  refine x_lv (lv' := [(0, .ref o), (1, .int (nI 0))]) X [1, 0] rfl ?_
  exact L83 _ 0 (fun _ => nI 0) (Nat.lt_succ_self _) (by omega) (fun j hj => absurd hj (Nat.not_lt_zero _))
