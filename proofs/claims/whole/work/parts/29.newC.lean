/-! ===== constructors ===== -/
abbrev wOb (G : xG) (a ci : Nat) (fs : List Value) : va_W := [(a, .inr (ci, fs))]
def zS : xS := (0, 0, fun _ => nI 0, fun _ => nI 0, fun _ => nI 0, fun _ => nI 0)
/-- the state told by the first text -/
def sF : xS := (prsT txF 122).2
theorem sF_1 : sF.1 = 6 := by decide +kernel
theorem sF_2 : sF.2.1 = 4 := by decide +kernel

set_option maxRecDepth 100000 in
set_option maxHeartbeats 4000000 in
/-- X0_init -/
theorem c_X0_init (l : Launch) (G : xG) (o : Nat)  : xM l G xE0 yX0_init cX0_init 1 none 1 12 4 67 [.ref o] (wOb G o 0 ([.int (nI 0), .int (nI 0), .null, .null, .null, .null])) none (fun w2 => ∃ a' : Nat → Nat, w2 = wCq G a' zS ∧ (a' 0 = o)) := by
  refine x_entry (by decide +kernel) (Nat.le_of_ble_eq_true rfl) rfl rfl (fun K X => ?_)
  refine x_aloadn X dX0_init_0 0 rfl ?_
  refine x_objInit X wl_X0_3 (by decide) (Nat.le_of_ble_eq_true rfl) dX0_init_1 ?_
  refine x_aloadn X dX0_init_4 0 rfl ?_
  refine x_bipush (v := nI 6) X dX0_init_5 (by decide) ?_
  refine x_newa X (by decide) (by decide) dX0_init_7 (fun q_1 => ?_)
  refine x_wst (ws' := xJ [wOb G o 0 ([.int (nI 0), .int (nI 0), .null, .null, .null, .null]), wIA G q_1 6 (fun _ => nI 0)]) (st' := [.ref q_1, .ref o]) rfl rfl ?_
  refine x_putF (ws' := xJ [wOb G o 0 ([.int (nI 0), .int (nI 0), .ref q_1, .null, .null, .null]), wIA G q_1 6 (fun _ => nI 0)]) (ty := tyX0 2) X wu_X0 tyX0_ok nmX0 0 rfl rfl 2 (by decide) wf_X0_9 rfl rfl rfl (by decide +kernel) rfl rfl (Nat.le_of_ble_eq_true rfl) rfl dX0_init_9 ?_
  refine x_aloadn X dX0_init_12 0 rfl ?_
  refine x_bipush (v := nI 6) X dX0_init_13 (by decide) ?_
  refine x_newa X (by decide) (by decide) dX0_init_15 (fun q_2 => ?_)
  refine x_wst (ws' := xJ [wOb G o 0 ([.int (nI 0), .int (nI 0), .ref q_1, .null, .null, .null]), wIA G q_1 6 (fun _ => nI 0), wIA G q_2 6 (fun _ => nI 0)]) (st' := [.ref q_2, .ref o]) rfl rfl ?_
  refine x_putF (ws' := xJ [wOb G o 0 ([.int (nI 0), .int (nI 0), .ref q_1, .ref q_2, .null, .null]), wIA G q_1 6 (fun _ => nI 0), wIA G q_2 6 (fun _ => nI 0)]) (ty := tyX0 3) X wu_X0 tyX0_ok nmX0 0 rfl rfl 3 (by decide) wf_X0_15 rfl rfl rfl (by decide +kernel) rfl rfl (Nat.le_of_ble_eq_true rfl) rfl dX0_init_17 ?_
  refine x_aloadn X dX0_init_20 0 rfl ?_
  refine x_bipush (v := nI 30) X dX0_init_21 (by decide) ?_
  refine x_newa X (by decide) (by decide) dX0_init_23 (fun q_3 => ?_)
  refine x_wst (ws' := xJ [wOb G o 0 ([.int (nI 0), .int (nI 0), .ref q_1, .ref q_2, .null, .null]), wIA G q_1 6 (fun _ => nI 0), wIA G q_2 6 (fun _ => nI 0), wIA G q_3 30 (fun _ => nI 0)]) (st' := [.ref q_3, .ref o]) rfl rfl ?_
  refine x_putF (ws' := xJ [wOb G o 0 ([.int (nI 0), .int (nI 0), .ref q_1, .ref q_2, .ref q_3, .null]), wIA G q_1 6 (fun _ => nI 0), wIA G q_2 6 (fun _ => nI 0), wIA G q_3 30 (fun _ => nI 0)]) (ty := tyX0 4) X wu_X0 tyX0_ok nmX0 0 rfl rfl 4 (by decide) wf_X0_18 rfl rfl rfl (by decide +kernel) rfl rfl (Nat.le_of_ble_eq_true rfl) rfl dX0_init_25 ?_
  refine x_aloadn X dX0_init_28 0 rfl ?_
  refine x_bipush (v := nI 25) X dX0_init_29 (by decide) ?_
  refine x_newa X (by decide) (by decide) dX0_init_31 (fun q_4 => ?_)
  refine x_wst (ws' := xJ [wOb G o 0 ([.int (nI 0), .int (nI 0), .ref q_1, .ref q_2, .ref q_3, .null]), wIA G q_1 6 (fun _ => nI 0), wIA G q_2 6 (fun _ => nI 0), wIA G q_3 30 (fun _ => nI 0), wIA G q_4 25 (fun _ => nI 0)]) (st' := [.ref q_4, .ref o]) rfl rfl ?_
  refine x_putF (ws' := xJ [wOb G o 0 ([.int (nI 0), .int (nI 0), .ref q_1, .ref q_2, .ref q_3, .ref q_4]), wIA G q_1 6 (fun _ => nI 0), wIA G q_2 6 (fun _ => nI 0), wIA G q_3 30 (fun _ => nI 0), wIA G q_4 25 (fun _ => nI 0)]) (ty := tyX0 5) X wu_X0 tyX0_ok nmX0 0 rfl rfl 5 (by decide) wf_X0_21 rfl rfl rfl (by decide +kernel) rfl rfl (Nat.le_of_ble_eq_true rfl) rfl dX0_init_33 ?_
  exact x_retv X dX0_init_36 ⟨rfl, ⟨fun i => ([o, q_1, q_2, q_3, q_4] : List Nat).getD i 0, rfl, rfl⟩, by decide, by decide⟩
set_option maxRecDepth 100000 in
set_option maxHeartbeats 4000000 in
/-- X2_init -/
theorem c_X2_init (l : Launch) (G : xG) (o : Nat)  : xM l G xE0 yX2_init cX2_init 1 none 1 12 2 12 [.ref o] (wOb G o 2 ([.null, .null, .int (nI 0)])) none (fun w2 => ∃ a' : Nat → Nat, w2 = wSg G a' (fun _ => nI 0) (fun _ => nI 0) 0 ∧ (a' 0 = o)) := by
  refine x_entry (by decide +kernel) (Nat.le_of_ble_eq_true rfl) rfl rfl (fun K X => ?_)
  refine x_aloadn X dX2_init_0 0 rfl ?_
  refine x_objInit X wl_X2_3 (by decide) (Nat.le_of_ble_eq_true rfl) dX2_init_1 ?_
  refine x_aloadn X dX2_init_4 0 rfl ?_
  refine x_bipush (v := nI 6) X dX2_init_5 (by decide) ?_
  refine x_newa X (by decide) (by decide) dX2_init_7 (fun q_1 => ?_)
  refine x_wst (ws' := xJ [wOb G o 2 ([.null, .null, .int (nI 0)]), wIA G q_1 6 (fun _ => nI 0)]) (st' := [.ref q_1, .ref o]) rfl rfl ?_
  refine x_putF (ws' := xJ [wOb G o 2 ([.ref q_1, .null, .int (nI 0)]), wIA G q_1 6 (fun _ => nI 0)]) (ty := tyX2 0) X wu_X2 tyX2_ok nmX2 0 rfl rfl 0 (by decide) wf_X2_9 rfl rfl rfl (by decide +kernel) rfl rfl (Nat.le_of_ble_eq_true rfl) rfl dX2_init_9 ?_
  refine x_aloadn X dX2_init_12 0 rfl ?_
  refine x_bipush (v := nI 6) X dX2_init_13 (by decide) ?_
  refine x_newa X (by decide) (by decide) dX2_init_15 (fun q_2 => ?_)
  refine x_wst (ws' := xJ [wOb G o 2 ([.ref q_1, .null, .int (nI 0)]), wIA G q_1 6 (fun _ => nI 0), wIA G q_2 6 (fun _ => nI 0)]) (st' := [.ref q_2, .ref o]) rfl rfl ?_
  refine x_putF (ws' := xJ [wOb G o 2 ([.ref q_1, .ref q_2, .int (nI 0)]), wIA G q_1 6 (fun _ => nI 0), wIA G q_2 6 (fun _ => nI 0)]) (ty := tyX2 1) X wu_X2 tyX2_ok nmX2 0 rfl rfl 1 (by decide) wf_X2_15 rfl rfl rfl (by decide +kernel) rfl rfl (Nat.le_of_ble_eq_true rfl) rfl dX2_init_17 ?_
  exact x_retv X dX2_init_20 ⟨rfl, ⟨fun i => ([o, q_1, q_2] : List Nat).getD i 0, rfl, rfl⟩, by decide, by decide⟩
set_option maxRecDepth 100000 in
set_option maxHeartbeats 4000000 in
/-- X3_init -/
theorem c_X3_init (l : Launch) (G : xG) (o : Nat)  : xM l G xE0 yX3_init cX3_init 1 none 1 12 2 203 [.ref o] (wOb G o 3 ([.null, .int (nI 0), .null, .int (nI 0)])) none (fun w2 => ∃ a' : Nat → Nat, w2 = wTx G a' (fun _ => nI 0) 0 (fun _ => nI 0) 0 ∧ (a' 0 = o)) := by
  refine x_entry (by decide +kernel) (Nat.le_of_ble_eq_true rfl) rfl rfl (fun K X => ?_)
  refine x_aloadn X dX3_init_0 0 rfl ?_
  refine x_objInit X wl_X3_3 (by decide) (Nat.le_of_ble_eq_true rfl) dX3_init_1 ?_
  refine x_aloadn X dX3_init_4 0 rfl ?_
  refine x_sipush (v := nI 200) X dX3_init_5 (by decide) ?_
  refine x_newa X (by decide) (by decide) dX3_init_8 (fun q_1 => ?_)
  refine x_wst (ws' := xJ [wOb G o 3 ([.null, .int (nI 0), .null, .int (nI 0)]), wIA G q_1 200 (fun _ => nI 0)]) (st' := [.ref q_1, .ref o]) rfl rfl ?_
  refine x_putF (ws' := xJ [wOb G o 3 ([.ref q_1, .int (nI 0), .null, .int (nI 0)]), wIA G q_1 200 (fun _ => nI 0)]) (ty := tyX3 0) X wu_X3 tyX3_ok nmX3 0 rfl rfl 0 (by decide) wf_X3_9 rfl rfl rfl (by decide +kernel) rfl rfl (Nat.le_of_ble_eq_true rfl) rfl dX3_init_10 ?_
  refine x_aloadn X dX3_init_13 0 rfl ?_
  refine x_iconst (v := nI 3) X dX3_init_14 (by decide) ?_
  refine x_newa X (by decide) (by decide) dX3_init_15 (fun q_2 => ?_)
  refine x_wst (ws' := xJ [wOb G o 3 ([.ref q_1, .int (nI 0), .null, .int (nI 0)]), wIA G q_1 200 (fun _ => nI 0), wIA G q_2 3 (fun _ => nI 0)]) (st' := [.ref q_2, .ref o]) rfl rfl ?_
  refine x_putF (ws' := xJ [wOb G o 3 ([.ref q_1, .int (nI 0), .ref q_2, .int (nI 0)]), wIA G q_1 200 (fun _ => nI 0), wIA G q_2 3 (fun _ => nI 0)]) (ty := tyX3 2) X wu_X3 tyX3_ok nmX3 0 rfl rfl 2 (by decide) wf_X3_15 rfl rfl rfl (by decide +kernel) rfl rfl (Nat.le_of_ble_eq_true rfl) rfl dX3_init_17 ?_
  exact x_retv X dX3_init_20 ⟨rfl, ⟨fun i => ([o, q_1, q_2] : List Nat).getD i 0, rfl, rfl⟩, by decide, by decide⟩
set_option maxRecDepth 100000 in
set_option maxHeartbeats 4000000 in
/-- X5_init -/
theorem c_X5_init (l : Launch) (G : xG) (o : Nat)  : xM l G xE0 yX5_init cX5_init 1 none 2 45 11 1225 [.ref o] (wOb G o 5 ([.int (nI 0), .null, .int (nI 0), .null, .int (nI 0), .null, .int (nI 0), .null, .int (nI 0), .null, .null, .int (nI 0), .int (nI 0), .null, .int (nI 0), .null, .int (nI 0), .null, .null, .null])) none (fun w2 => ∃ a' : Nat → Nat, ∃ pa' : Nat, ∃ rp' : Nat, ∃ rq' : Nat, ∃ kd' : Nat → Int32, ∃ W' : Nat → Int32, ∃ Kp' : Nat → Int32, ∃ sg' : Nat → Int32, ∃ le' : Nat → Int32, ∃ tl' : Nat → Int32, ∃ rk' : Nat → Int32, ∃ rd' : Nat → Int32, ∃ nw' : Nat → Int32, ∃ rw' : Nat → Int32, w2 = wMo G a' sF.1 sF.2.1 0 0 0 0 pa' rp' rq' kd' (en sF) W' Kp' sg' le' tl' rk' rd' nw' rw' ∧ (a' 0 = o) ∧ (∀ p, p < sF.1 → kd' p = sF.2.2.1 p)) := by
  refine x_entry (by decide +kernel) (Nat.le_of_ble_eq_true rfl) rfl rfl (fun K X => ?_)
  refine x_aloadn X dX5_init_0 0 rfl ?_
  refine x_objInit X wl_X5_1 (by decide) (Nat.le_of_ble_eq_true rfl) dX5_init_1 ?_
  refine x_aloadn X dX5_init_4 0 rfl ?_
  refine x_bipush (v := nI 6) X dX5_init_5 (by decide) ?_
  refine x_newa X (by decide) (by decide) dX5_init_7 (fun q_1 => ?_)
  refine x_wst (ws' := xJ [wOb G o 5 ([.int (nI 0), .null, .int (nI 0), .null, .int (nI 0), .null, .int (nI 0), .null, .int (nI 0), .null, .null, .int (nI 0), .int (nI 0), .null, .int (nI 0), .null, .int (nI 0), .null, .null, .null]), wIA G q_1 6 (fun _ => nI 0)]) (st' := [.ref q_1, .ref o]) rfl rfl ?_
  refine x_putF (ws' := xJ [wOb G o 5 ([.int (nI 0), .ref q_1, .int (nI 0), .null, .int (nI 0), .null, .int (nI 0), .null, .int (nI 0), .null, .null, .int (nI 0), .int (nI 0), .null, .int (nI 0), .null, .int (nI 0), .null, .null, .null]), wIA G q_1 6 (fun _ => nI 0)]) (ty := tyX5 1) X wu_X5 tyX5_ok nmX5 0 rfl rfl 1 (by decide) wf_X5_7 rfl rfl rfl (by decide +kernel) rfl rfl (Nat.le_of_ble_eq_true rfl) rfl dX5_init_9 ?_
  refine x_aloadn X dX5_init_12 0 rfl ?_
  refine x_bipush (v := nI 61) X dX5_init_13 (by decide) ?_
  refine x_newa X (by decide) (by decide) dX5_init_15 (fun q_2 => ?_)
  refine x_wst (ws' := xJ [wOb G o 5 ([.int (nI 0), .ref q_1, .int (nI 0), .null, .int (nI 0), .null, .int (nI 0), .null, .int (nI 0), .null, .null, .int (nI 0), .int (nI 0), .null, .int (nI 0), .null, .int (nI 0), .null, .null, .null]), wIA G q_1 6 (fun _ => nI 0), wIA G q_2 61 (fun _ => nI 0)]) (st' := [.ref q_2, .ref o]) rfl rfl ?_
  refine x_putF (ws' := xJ [wOb G o 5 ([.int (nI 0), .ref q_1, .int (nI 0), .ref q_2, .int (nI 0), .null, .int (nI 0), .null, .int (nI 0), .null, .null, .int (nI 0), .int (nI 0), .null, .int (nI 0), .null, .int (nI 0), .null, .null, .null]), wIA G q_1 6 (fun _ => nI 0), wIA G q_2 61 (fun _ => nI 0)]) (ty := tyX5 3) X wu_X5 tyX5_ok nmX5 0 rfl rfl 3 (by decide) wf_X5_13 rfl rfl rfl (by decide +kernel) rfl rfl (Nat.le_of_ble_eq_true rfl) rfl dX5_init_17 ?_
  refine x_aloadn X dX5_init_20 0 rfl ?_
  refine x_sipush (v := nI 488) X dX5_init_21 (by decide) ?_
  refine x_newa X (by decide) (by decide) dX5_init_24 (fun q_3 => ?_)
  refine x_wst (ws' := xJ [wOb G o 5 ([.int (nI 0), .ref q_1, .int (nI 0), .ref q_2, .int (nI 0), .null, .int (nI 0), .null, .int (nI 0), .null, .null, .int (nI 0), .int (nI 0), .null, .int (nI 0), .null, .int (nI 0), .null, .null, .null]), wIA G q_1 6 (fun _ => nI 0), wIA G q_2 61 (fun _ => nI 0), wIA G q_3 488 (fun _ => nI 0)]) (st' := [.ref q_3, .ref o]) rfl rfl ?_
  refine x_putF (ws' := xJ [wOb G o 5 ([.int (nI 0), .ref q_1, .int (nI 0), .ref q_2, .int (nI 0), .ref q_3, .int (nI 0), .null, .int (nI 0), .null, .null, .int (nI 0), .int (nI 0), .null, .int (nI 0), .null, .int (nI 0), .null, .null, .null]), wIA G q_1 6 (fun _ => nI 0), wIA G q_2 61 (fun _ => nI 0), wIA G q_3 488 (fun _ => nI 0)]) (ty := tyX5 5) X wu_X5 tyX5_ok nmX5 0 rfl rfl 5 (by decide) wf_X5_16 rfl rfl rfl (by decide +kernel) rfl rfl (Nat.le_of_ble_eq_true rfl) rfl dX5_init_26 ?_
  refine x_aloadn X dX5_init_29 0 rfl ?_
  refine x_bipush (v := nI 122) X dX5_init_30 (by decide) ?_
  refine x_newa X (by decide) (by decide) dX5_init_32 (fun q_4 => ?_)
  refine x_wst (ws' := xJ [wOb G o 5 ([.int (nI 0), .ref q_1, .int (nI 0), .ref q_2, .int (nI 0), .ref q_3, .int (nI 0), .null, .int (nI 0), .null, .null, .int (nI 0), .int (nI 0), .null, .int (nI 0), .null, .int (nI 0), .null, .null, .null]), wIA G q_1 6 (fun _ => nI 0), wIA G q_2 61 (fun _ => nI 0), wIA G q_3 488 (fun _ => nI 0), wIA G q_4 122 (fun _ => nI 0)]) (st' := [.ref q_4, .ref o]) rfl rfl ?_
  refine x_putF (ws' := xJ [wOb G o 5 ([.int (nI 0), .ref q_1, .int (nI 0), .ref q_2, .int (nI 0), .ref q_3, .int (nI 0), .ref q_4, .int (nI 0), .null, .null, .int (nI 0), .int (nI 0), .null, .int (nI 0), .null, .int (nI 0), .null, .null, .null]), wIA G q_1 6 (fun _ => nI 0), wIA G q_2 61 (fun _ => nI 0), wIA G q_3 488 (fun _ => nI 0), wIA G q_4 122 (fun _ => nI 0)]) (ty := tyX5 7) X wu_X5 tyX5_ok nmX5 0 rfl rfl 7 (by decide) wf_X5_19 rfl rfl rfl (by decide +kernel) rfl rfl (Nat.le_of_ble_eq_true rfl) rfl dX5_init_34 ?_
  refine x_aloadn X dX5_init_37 0 rfl ?_
  refine x_bipush (v := nI 12) X dX5_init_38 (by decide) ?_
  refine x_newa X (by decide) (by decide) dX5_init_40 (fun q_5 => ?_)
  refine x_wst (ws' := xJ [wOb G o 5 ([.int (nI 0), .ref q_1, .int (nI 0), .ref q_2, .int (nI 0), .ref q_3, .int (nI 0), .ref q_4, .int (nI 0), .null, .null, .int (nI 0), .int (nI 0), .null, .int (nI 0), .null, .int (nI 0), .null, .null, .null]), wIA G q_1 6 (fun _ => nI 0), wIA G q_2 61 (fun _ => nI 0), wIA G q_3 488 (fun _ => nI 0), wIA G q_4 122 (fun _ => nI 0), wIA G q_5 12 (fun _ => nI 0)]) (st' := [.ref q_5, .ref o]) rfl rfl ?_
  refine x_putF (ws' := xJ [wOb G o 5 ([.int (nI 0), .ref q_1, .int (nI 0), .ref q_2, .int (nI 0), .ref q_3, .int (nI 0), .ref q_4, .int (nI 0), .ref q_5, .null, .int (nI 0), .int (nI 0), .null, .int (nI 0), .null, .int (nI 0), .null, .null, .null]), wIA G q_1 6 (fun _ => nI 0), wIA G q_2 61 (fun _ => nI 0), wIA G q_3 488 (fun _ => nI 0), wIA G q_4 122 (fun _ => nI 0), wIA G q_5 12 (fun _ => nI 0)]) (ty := tyX5 9) X wu_X5 tyX5_ok nmX5 0 rfl rfl 9 (by decide) wf_X5_22 rfl rfl rfl (by decide +kernel) rfl rfl (Nat.le_of_ble_eq_true rfl) rfl dX5_init_42 ?_
  refine x_aloadn X dX5_init_45 0 rfl ?_
  refine x_sipush (v := nI 200) X dX5_init_46 (by decide) ?_
  refine x_newa X (by decide) (by decide) dX5_init_49 (fun q_6 => ?_)
  refine x_wst (ws' := xJ [wOb G o 5 ([.int (nI 0), .ref q_1, .int (nI 0), .ref q_2, .int (nI 0), .ref q_3, .int (nI 0), .ref q_4, .int (nI 0), .ref q_5, .null, .int (nI 0), .int (nI 0), .null, .int (nI 0), .null, .int (nI 0), .null, .null, .null]), wIA G q_1 6 (fun _ => nI 0), wIA G q_2 61 (fun _ => nI 0), wIA G q_3 488 (fun _ => nI 0), wIA G q_4 122 (fun _ => nI 0), wIA G q_5 12 (fun _ => nI 0), wIA G q_6 200 (fun _ => nI 0)]) (st' := [.ref q_6, .ref o]) rfl rfl ?_
  refine x_putF (ws' := xJ [wOb G o 5 ([.int (nI 0), .ref q_1, .int (nI 0), .ref q_2, .int (nI 0), .ref q_3, .int (nI 0), .ref q_4, .int (nI 0), .ref q_5, .ref q_6, .int (nI 0), .int (nI 0), .null, .int (nI 0), .null, .int (nI 0), .null, .null, .null]), wIA G q_1 6 (fun _ => nI 0), wIA G q_2 61 (fun _ => nI 0), wIA G q_3 488 (fun _ => nI 0), wIA G q_4 122 (fun _ => nI 0), wIA G q_5 12 (fun _ => nI 0), wIA G q_6 200 (fun _ => nI 0)]) (ty := tyX5 10) X wu_X5 tyX5_ok nmX5 0 rfl rfl 10 (by decide) wf_X5_25 rfl rfl rfl (by decide +kernel) rfl rfl (Nat.le_of_ble_eq_true rfl) rfl dX5_init_51 ?_
  refine x_aloadn X dX5_init_54 0 rfl ?_
  refine x_iconst (v := nI 3) X dX5_init_55 (by decide) ?_
  refine x_newa X (by decide) (by decide) dX5_init_56 (fun q_7 => ?_)
  refine x_wst (ws' := xJ [wOb G o 5 ([.int (nI 0), .ref q_1, .int (nI 0), .ref q_2, .int (nI 0), .ref q_3, .int (nI 0), .ref q_4, .int (nI 0), .ref q_5, .ref q_6, .int (nI 0), .int (nI 0), .null, .int (nI 0), .null, .int (nI 0), .null, .null, .null]), wIA G q_1 6 (fun _ => nI 0), wIA G q_2 61 (fun _ => nI 0), wIA G q_3 488 (fun _ => nI 0), wIA G q_4 122 (fun _ => nI 0), wIA G q_5 12 (fun _ => nI 0), wIA G q_6 200 (fun _ => nI 0), wIA G q_7 3 (fun _ => nI 0)]) (st' := [.ref q_7, .ref o]) rfl rfl ?_
  refine x_putF (ws' := xJ [wOb G o 5 ([.int (nI 0), .ref q_1, .int (nI 0), .ref q_2, .int (nI 0), .ref q_3, .int (nI 0), .ref q_4, .int (nI 0), .ref q_5, .ref q_6, .int (nI 0), .int (nI 0), .ref q_7, .int (nI 0), .null, .int (nI 0), .null, .null, .null]), wIA G q_1 6 (fun _ => nI 0), wIA G q_2 61 (fun _ => nI 0), wIA G q_3 488 (fun _ => nI 0), wIA G q_4 122 (fun _ => nI 0), wIA G q_5 12 (fun _ => nI 0), wIA G q_6 200 (fun _ => nI 0), wIA G q_7 3 (fun _ => nI 0)]) (ty := tyX5 13) X wu_X5 tyX5_ok nmX5 0 rfl rfl 13 (by decide) wf_X5_28 rfl rfl rfl (by decide +kernel) rfl rfl (Nat.le_of_ble_eq_true rfl) rfl dX5_init_58 ?_
  refine x_aloadn X dX5_init_61 0 rfl ?_
  refine x_bipush (v := nI 6) X dX5_init_62 (by decide) ?_
  refine x_newa X (by decide) (by decide) dX5_init_64 (fun q_8 => ?_)
  refine x_wst (ws' := xJ [wOb G o 5 ([.int (nI 0), .ref q_1, .int (nI 0), .ref q_2, .int (nI 0), .ref q_3, .int (nI 0), .ref q_4, .int (nI 0), .ref q_5, .ref q_6, .int (nI 0), .int (nI 0), .ref q_7, .int (nI 0), .null, .int (nI 0), .null, .null, .null]), wIA G q_1 6 (fun _ => nI 0), wIA G q_2 61 (fun _ => nI 0), wIA G q_3 488 (fun _ => nI 0), wIA G q_4 122 (fun _ => nI 0), wIA G q_5 12 (fun _ => nI 0), wIA G q_6 200 (fun _ => nI 0), wIA G q_7 3 (fun _ => nI 0), wIA G q_8 6 (fun _ => nI 0)]) (st' := [.ref q_8, .ref o]) rfl rfl ?_
  refine x_putF (ws' := xJ [wOb G o 5 ([.int (nI 0), .ref q_1, .int (nI 0), .ref q_2, .int (nI 0), .ref q_3, .int (nI 0), .ref q_4, .int (nI 0), .ref q_5, .ref q_6, .int (nI 0), .int (nI 0), .ref q_7, .int (nI 0), .ref q_8, .int (nI 0), .null, .null, .null]), wIA G q_1 6 (fun _ => nI 0), wIA G q_2 61 (fun _ => nI 0), wIA G q_3 488 (fun _ => nI 0), wIA G q_4 122 (fun _ => nI 0), wIA G q_5 12 (fun _ => nI 0), wIA G q_6 200 (fun _ => nI 0), wIA G q_7 3 (fun _ => nI 0), wIA G q_8 6 (fun _ => nI 0)]) (ty := tyX5 15) X wu_X5 tyX5_ok nmX5 0 rfl rfl 15 (by decide) wf_X5_31 rfl rfl rfl (by decide +kernel) rfl rfl (Nat.le_of_ble_eq_true rfl) rfl dX5_init_66 ?_
  refine x_aloadn X dX5_init_69 0 rfl ?_
  refine x_bipush (v := nI 61) X dX5_init_70 (by decide) ?_
  refine x_newa X (by decide) (by decide) dX5_init_72 (fun q_9 => ?_)
  refine x_wst (ws' := xJ [wOb G o 5 ([.int (nI 0), .ref q_1, .int (nI 0), .ref q_2, .int (nI 0), .ref q_3, .int (nI 0), .ref q_4, .int (nI 0), .ref q_5, .ref q_6, .int (nI 0), .int (nI 0), .ref q_7, .int (nI 0), .ref q_8, .int (nI 0), .null, .null, .null]), wIA G q_1 6 (fun _ => nI 0), wIA G q_2 61 (fun _ => nI 0), wIA G q_3 488 (fun _ => nI 0), wIA G q_4 122 (fun _ => nI 0), wIA G q_5 12 (fun _ => nI 0), wIA G q_6 200 (fun _ => nI 0), wIA G q_7 3 (fun _ => nI 0), wIA G q_8 6 (fun _ => nI 0), wIA G q_9 61 (fun _ => nI 0)]) (st' := [.ref q_9, .ref o]) rfl rfl ?_
  refine x_putF (ws' := xJ [wOb G o 5 ([.int (nI 0), .ref q_1, .int (nI 0), .ref q_2, .int (nI 0), .ref q_3, .int (nI 0), .ref q_4, .int (nI 0), .ref q_5, .ref q_6, .int (nI 0), .int (nI 0), .ref q_7, .int (nI 0), .ref q_8, .int (nI 0), .ref q_9, .null, .null]), wIA G q_1 6 (fun _ => nI 0), wIA G q_2 61 (fun _ => nI 0), wIA G q_3 488 (fun _ => nI 0), wIA G q_4 122 (fun _ => nI 0), wIA G q_5 12 (fun _ => nI 0), wIA G q_6 200 (fun _ => nI 0), wIA G q_7 3 (fun _ => nI 0), wIA G q_8 6 (fun _ => nI 0), wIA G q_9 61 (fun _ => nI 0)]) (ty := tyX5 17) X wu_X5 tyX5_ok nmX5 0 rfl rfl 17 (by decide) wf_X5_34 rfl rfl rfl (by decide +kernel) rfl rfl (Nat.le_of_ble_eq_true rfl) rfl dX5_init_74 ?_
  refine x_aloadn X dX5_init_77 0 rfl ?_
  refine x_bipush (v := nI 61) X dX5_init_78 (by decide) ?_
  refine x_newa X (by decide) (by decide) dX5_init_80 (fun q_10 => ?_)
  refine x_wst (ws' := xJ [wOb G o 5 ([.int (nI 0), .ref q_1, .int (nI 0), .ref q_2, .int (nI 0), .ref q_3, .int (nI 0), .ref q_4, .int (nI 0), .ref q_5, .ref q_6, .int (nI 0), .int (nI 0), .ref q_7, .int (nI 0), .ref q_8, .int (nI 0), .ref q_9, .null, .null]), wIA G q_1 6 (fun _ => nI 0), wIA G q_2 61 (fun _ => nI 0), wIA G q_3 488 (fun _ => nI 0), wIA G q_4 122 (fun _ => nI 0), wIA G q_5 12 (fun _ => nI 0), wIA G q_6 200 (fun _ => nI 0), wIA G q_7 3 (fun _ => nI 0), wIA G q_8 6 (fun _ => nI 0), wIA G q_9 61 (fun _ => nI 0), wIA G q_10 61 (fun _ => nI 0)]) (st' := [.ref q_10, .ref o]) rfl rfl ?_
  refine x_putF (ws' := xJ [wOb G o 5 ([.int (nI 0), .ref q_1, .int (nI 0), .ref q_2, .int (nI 0), .ref q_3, .int (nI 0), .ref q_4, .int (nI 0), .ref q_5, .ref q_6, .int (nI 0), .int (nI 0), .ref q_7, .int (nI 0), .ref q_8, .int (nI 0), .ref q_9, .ref q_10, .null]), wIA G q_1 6 (fun _ => nI 0), wIA G q_2 61 (fun _ => nI 0), wIA G q_3 488 (fun _ => nI 0), wIA G q_4 122 (fun _ => nI 0), wIA G q_5 12 (fun _ => nI 0), wIA G q_6 200 (fun _ => nI 0), wIA G q_7 3 (fun _ => nI 0), wIA G q_8 6 (fun _ => nI 0), wIA G q_9 61 (fun _ => nI 0), wIA G q_10 61 (fun _ => nI 0)]) (ty := tyX5 18) X wu_X5 tyX5_ok nmX5 0 rfl rfl 18 (by decide) wf_X5_37 rfl rfl rfl (by decide +kernel) rfl rfl (Nat.le_of_ble_eq_true rfl) rfl dX5_init_82 ?_
  refine x_aloadn X dX5_init_85 0 rfl ?_
  refine x_sipush (v := nI 205) X dX5_init_86 (by decide) ?_
  refine x_newa X (by decide) (by decide) dX5_init_89 (fun q_11 => ?_)
  refine x_wst (ws' := xJ [wOb G o 5 ([.int (nI 0), .ref q_1, .int (nI 0), .ref q_2, .int (nI 0), .ref q_3, .int (nI 0), .ref q_4, .int (nI 0), .ref q_5, .ref q_6, .int (nI 0), .int (nI 0), .ref q_7, .int (nI 0), .ref q_8, .int (nI 0), .ref q_9, .ref q_10, .null]), wIA G q_1 6 (fun _ => nI 0), wIA G q_2 61 (fun _ => nI 0), wIA G q_3 488 (fun _ => nI 0), wIA G q_4 122 (fun _ => nI 0), wIA G q_5 12 (fun _ => nI 0), wIA G q_6 200 (fun _ => nI 0), wIA G q_7 3 (fun _ => nI 0), wIA G q_8 6 (fun _ => nI 0), wIA G q_9 61 (fun _ => nI 0), wIA G q_10 61 (fun _ => nI 0), wIA G q_11 205 (fun _ => nI 0)]) (st' := [.ref q_11, .ref o]) rfl rfl ?_
  refine x_putF (ws' := xJ [wOb G o 5 ([.int (nI 0), .ref q_1, .int (nI 0), .ref q_2, .int (nI 0), .ref q_3, .int (nI 0), .ref q_4, .int (nI 0), .ref q_5, .ref q_6, .int (nI 0), .int (nI 0), .ref q_7, .int (nI 0), .ref q_8, .int (nI 0), .ref q_9, .ref q_10, .ref q_11]), wIA G q_1 6 (fun _ => nI 0), wIA G q_2 61 (fun _ => nI 0), wIA G q_3 488 (fun _ => nI 0), wIA G q_4 122 (fun _ => nI 0), wIA G q_5 12 (fun _ => nI 0), wIA G q_6 200 (fun _ => nI 0), wIA G q_7 3 (fun _ => nI 0), wIA G q_8 6 (fun _ => nI 0), wIA G q_9 61 (fun _ => nI 0), wIA G q_10 61 (fun _ => nI 0), wIA G q_11 205 (fun _ => nI 0)]) (ty := tyX5 19) X wu_X5 tyX5_ok nmX5 0 rfl rfl 19 (by decide) wf_X5_40 rfl rfl rfl (by decide +kernel) rfl rfl (Nat.le_of_ble_eq_true rfl) rfl dX5_init_91 ?_
  obtain ⟨a, ea0, ea1, ea2, ea3, ea4, ea5, ea6, ea7, ea8, ea9, ea10, ea11⟩ : ∃ a : Nat → Nat, a 0 = o ∧ a 1 = q_1 ∧ a 2 = q_2 ∧ a 3 = q_3 ∧ a 4 = q_4 ∧ a 5 = q_5 ∧ a 6 = q_6 ∧ a 7 = q_7 ∧ a 8 = q_8 ∧ a 9 = q_9 ∧ a 10 = q_10 ∧ a 11 = q_11 := ⟨fun i => ([o, q_1, q_2, q_3, q_4, q_5, q_6, q_7, q_8, q_9, q_10, q_11] : List Nat).getD i 0, rfl, rfl, rfl, rfl, rfl, rfl, rfl, rfl, rfl, rfl, rfl, rfl⟩
  subst ea0
  subst ea1
  subst ea2
  subst ea3
  subst ea4
  subst ea5
  subst ea6
  subst ea7
  subst ea8
  subst ea9
  subst ea10
  subst ea11
  refine x_wst (ws' := wMo G a 0 0 0 0 0 0 0 0 0 (fun _ => nI 0) (fun _ => nI 0) (fun _ => nI 0) (fun _ => nI 0) (fun _ => nI 0) (fun _ => nI 0) (fun _ => nI 0) (fun _ => nI 0) (fun _ => nI 0) (fun _ => nI 0) (fun _ => nI 0)) (st' := []) rfl rfl ?_
  refine x_aloadn X dX5_init_94 0 rfl ?_
  refine x_callVf0 (As := []) (rest := []) (w1 := wMo G a 0 0 0 0 0 0 0 0 3 (fun _ => nI 0) (fun _ => nI 0) (fun _ => nI 0) (fun _ => nI 0) (fun _ => nI 0) (fun _ => nI 0) (fun _ => nI 0) (fun _ => nI 0) (fun _ => nI 0) (fun _ => nI 0) (fun _ => nI 0)) (ws' := wMo G a 0 0 0 0 0 0 0 0 3 (fun _ => nI 0) (fun _ => nI 0) (fun _ => nI 0) (fun _ => nI 0) (fun _ => nI 0) (fun _ => nI 0) (fun _ => nI 0) (fun _ => nI 0) (fun _ => nI 0) (fun _ => nI 0) (fun _ => nI 0)) X (c_X5_clearTold l G a 0 0 0 0 0 0 0 0 0 (fun _ => nI 0) (fun _ => nI 0) (fun _ => nI 0) (fun _ => nI 0) (fun _ => nI 0) (fun _ => nI 0) (fun _ => nI 0) (fun _ => nI 0) (fun _ => nI 0) (fun _ => nI 0) (fun _ => nI 0)) xE0_ok (fun _ _ _ => trivial) [0, 1, 2, 3, 4, 5, 6, 7, 8, 9, 10, 11] rfl 0 rfl rfl rfl rfl wco_X5_clearTold wi_X5 xd_X5_clearTold wl_X5_43 win_X5_clearTold wse_X5_clearTold (by decide) (Nat.le_of_ble_eq_true rfl) dX5_init_95 rfl (Eq.trans (b := [a 0, a 1, a 2, a 3, a 4, a 5, a 6, a 7, a 8, a 9, a 10, a 11]) rfl rfl) rfl ?_
  refine x_aloadn X dX5_init_98 0 rfl ?_
  refine x_iconst (v := nI 0) X dX5_init_99 (by decide) ?_
  refine x_iconst (v := nI 1) X dX5_init_100 (by decide) ?_
  refine x_callVf0 (As := [.int (nI 0), .int (nI 1)]) (rest := []) (w1 := wMo G a 0 0 0 0 0 0 0 (0 + 1) 3 (fun _ => nI 0) (fun _ => nI 0) (fun _ => nI 0) (fun _ => nI 0) (fun _ => nI 0) (fun _ => nI 0) (fun _ => nI 0) (upd (fun _ => nI 0) 0 (nI 0)) (upd (fun _ => nI 0) 0 (nI 1)) (fun _ => nI 0) (fun _ => nI 0)) (ws' := wMo G a 0 0 0 0 0 0 0 (0 + 1) 3 (fun _ => nI 0) (fun _ => nI 0) (fun _ => nI 0) (fun _ => nI 0) (fun _ => nI 0) (fun _ => nI 0) (fun _ => nI 0) (upd (fun _ => nI 0) 0 (nI 0)) (upd (fun _ => nI 0) 0 (nI 1)) (fun _ => nI 0) (fun _ => nI 0)) X (c_X5_tellsPerson l G a 0 0 0 0 0 0 0 0 3 (fun _ => nI 0) (fun _ => nI 0) (fun _ => nI 0) (fun _ => nI 0) (fun _ => nI 0) (fun _ => nI 0) (fun _ => nI 0) (fun _ => nI 0) (fun _ => nI 0) (fun _ => nI 0) (fun _ => nI 0) (nI 0) (nI 1) (by omega)) xE0_ok (fun _ _ _ => trivial) [0, 1, 2, 3, 4, 5, 6, 7, 8, 9, 10, 11] rfl 0 rfl rfl rfl rfl wco_X5_tellsPerson wi_X5 xd_X5_tellsPerson wl_X5_46 win_X5_tellsPerson wse_X5_tellsPerson (by decide) (Nat.le_of_ble_eq_true rfl) dX5_init_101 rfl (Eq.trans (b := [a 0, a 1, a 2, a 3, a 4, a 5, a 6, a 7, a 8, a 9, a 10, a 11]) rfl rfl) rfl ?_
  refine x_aloadn X dX5_init_104 0 rfl ?_
  refine x_iconst (v := nI 0) X dX5_init_105 (by decide) ?_
  refine x_iconst (v := nI 0) X dX5_init_106 (by decide) ?_
  refine x_callVf0 (As := [.int (nI 0), .int (nI 0)]) (rest := []) (w1 := wMo G a 0 0 0 0 0 0 0 (1 + 1) 3 (fun _ => nI 0) (fun _ => nI 0) (fun _ => nI 0) (fun _ => nI 0) (fun _ => nI 0) (fun _ => nI 0) (fun _ => nI 0) (upd (upd (fun _ => nI 0) 0 (nI 0)) 1 (nI 0)) (upd (upd (fun _ => nI 0) 0 (nI 1)) (0 + 1) (nI 0)) (fun _ => nI 0) (fun _ => nI 0)) (ws' := wMo G a 0 0 0 0 0 0 0 (1 + 1) 3 (fun _ => nI 0) (fun _ => nI 0) (fun _ => nI 0) (fun _ => nI 0) (fun _ => nI 0) (fun _ => nI 0) (fun _ => nI 0) (upd (upd (fun _ => nI 0) 0 (nI 0)) 1 (nI 0)) (upd (upd (fun _ => nI 0) 0 (nI 1)) (0 + 1) (nI 0)) (fun _ => nI 0) (fun _ => nI 0)) X (c_X5_tellsPerson l G a 0 0 0 0 0 0 0 (0 + 1) 3 (fun _ => nI 0) (fun _ => nI 0) (fun _ => nI 0) (fun _ => nI 0) (fun _ => nI 0) (fun _ => nI 0) (fun _ => nI 0) (upd (fun _ => nI 0) 0 (nI 0)) (upd (fun _ => nI 0) 0 (nI 1)) (fun _ => nI 0) (fun _ => nI 0) (nI 0) (nI 0) (by omega)) xE0_ok (fun _ _ _ => trivial) [0, 1, 2, 3, 4, 5, 6, 7, 8, 9, 10, 11] rfl 0 rfl rfl rfl rfl wco_X5_tellsPerson wi_X5 xd_X5_tellsPerson wl_X5_46 win_X5_tellsPerson wse_X5_tellsPerson (by decide) (Nat.le_of_ble_eq_true rfl) dX5_init_107 rfl (Eq.trans (b := [a 0, a 1, a 2, a 3, a 4, a 5, a 6, a 7, a 8, a 9, a 10, a 11]) rfl rfl) rfl ?_
  refine x_aloadn X dX5_init_110 0 rfl ?_
  refine x_iconst (v := nI 1) X dX5_init_111 (by decide) ?_
  refine x_iconst (v := nI 0) X dX5_init_112 (by decide) ?_
  refine x_callVf0 (As := [.int (nI 1), .int (nI 0)]) (rest := []) (w1 := wMo G a 0 0 0 0 0 0 0 (2 + 1) 3 (fun _ => nI 0) (fun _ => nI 0) (fun _ => nI 0) (fun _ => nI 0) (fun _ => nI 0) (fun _ => nI 0) (fun _ => nI 0) (upd (upd (upd (fun _ => nI 0) 0 (nI 0)) 1 (nI 0)) 2 (nI 1)) (upd (upd (upd (fun _ => nI 0) 0 (nI 1)) 1 (nI 0)) (0 + 2) (nI 0)) (fun _ => nI 0) (fun _ => nI 0)) (ws' := wMo G a 0 0 0 0 0 0 0 (2 + 1) 3 (fun _ => nI 0) (fun _ => nI 0) (fun _ => nI 0) (fun _ => nI 0) (fun _ => nI 0) (fun _ => nI 0) (fun _ => nI 0) (upd (upd (upd (fun _ => nI 0) 0 (nI 0)) 1 (nI 0)) 2 (nI 1)) (upd (upd (upd (fun _ => nI 0) 0 (nI 1)) 1 (nI 0)) (0 + 2) (nI 0)) (fun _ => nI 0) (fun _ => nI 0)) X (c_X5_tellsPerson l G a 0 0 0 0 0 0 0 (1 + 1) 3 (fun _ => nI 0) (fun _ => nI 0) (fun _ => nI 0) (fun _ => nI 0) (fun _ => nI 0) (fun _ => nI 0) (fun _ => nI 0) (upd (upd (fun _ => nI 0) 0 (nI 0)) 1 (nI 0)) (upd (upd (fun _ => nI 0) 0 (nI 1)) (0 + 1) (nI 0)) (fun _ => nI 0) (fun _ => nI 0) (nI 1) (nI 0) (by omega)) xE0_ok (fun _ _ _ => trivial) [0, 1, 2, 3, 4, 5, 6, 7, 8, 9, 10, 11] rfl 0 rfl rfl rfl rfl wco_X5_tellsPerson wi_X5 xd_X5_tellsPerson wl_X5_46 win_X5_tellsPerson wse_X5_tellsPerson (by decide) (Nat.le_of_ble_eq_true rfl) dX5_init_113 rfl (Eq.trans (b := [a 0, a 1, a 2, a 3, a 4, a 5, a 6, a 7, a 8, a 9, a 10, a 11]) rfl rfl) rfl ?_
  refine x_aloadn X dX5_init_116 0 rfl ?_
  refine x_iconst (v := nI 2) X dX5_init_117 (by decide) ?_
  refine x_iconst (v := nI 3) X dX5_init_118 (by decide) ?_
  refine x_callVf0 (As := [.int (nI 2), .int (nI 3)]) (rest := []) (w1 := wMo G a 0 0 0 0 0 0 0 (3 + 1) 3 (fun _ => nI 0) (fun _ => nI 0) (fun _ => nI 0) (fun _ => nI 0) (fun _ => nI 0) (fun _ => nI 0) (fun _ => nI 0) (upd (upd (upd (upd (fun _ => nI 0) 0 (nI 0)) 1 (nI 0)) 2 (nI 1)) 3 (nI 2)) (upd (upd (upd (upd (fun _ => nI 0) 0 (nI 1)) 1 (nI 0)) 2 (nI 0)) (0 + 3) (nI 3)) (fun _ => nI 0) (fun _ => nI 0)) (ws' := wMo G a 0 0 0 0 0 0 0 (3 + 1) 3 (fun _ => nI 0) (fun _ => nI 0) (fun _ => nI 0) (fun _ => nI 0) (fun _ => nI 0) (fun _ => nI 0) (fun _ => nI 0) (upd (upd (upd (upd (fun _ => nI 0) 0 (nI 0)) 1 (nI 0)) 2 (nI 1)) 3 (nI 2)) (upd (upd (upd (upd (fun _ => nI 0) 0 (nI 1)) 1 (nI 0)) 2 (nI 0)) (0 + 3) (nI 3)) (fun _ => nI 0) (fun _ => nI 0)) X (c_X5_tellsPerson l G a 0 0 0 0 0 0 0 (2 + 1) 3 (fun _ => nI 0) (fun _ => nI 0) (fun _ => nI 0) (fun _ => nI 0) (fun _ => nI 0) (fun _ => nI 0) (fun _ => nI 0) (upd (upd (upd (fun _ => nI 0) 0 (nI 0)) 1 (nI 0)) 2 (nI 1)) (upd (upd (upd (fun _ => nI 0) 0 (nI 1)) 1 (nI 0)) (0 + 2) (nI 0)) (fun _ => nI 0) (fun _ => nI 0) (nI 2) (nI 3) (by omega)) xE0_ok (fun _ _ _ => trivial) [0, 1, 2, 3, 4, 5, 6, 7, 8, 9, 10, 11] rfl 0 rfl rfl rfl rfl wco_X5_tellsPerson wi_X5 xd_X5_tellsPerson wl_X5_46 win_X5_tellsPerson wse_X5_tellsPerson (by decide) (Nat.le_of_ble_eq_true rfl) dX5_init_119 rfl (Eq.trans (b := [a 0, a 1, a 2, a 3, a 4, a 5, a 6, a 7, a 8, a 9, a 10, a 11]) rfl rfl) rfl ?_
  refine x_aloadn X dX5_init_122 0 rfl ?_
  refine x_iconst (v := nI 3) X dX5_init_123 (by decide) ?_
  refine x_iconst (v := nI 1) X dX5_init_124 (by decide) ?_
  refine x_callVf0 (As := [.int (nI 3), .int (nI 1)]) (rest := []) (w1 := wMo G a 0 0 0 0 0 0 0 (4 + 1) 3 (fun _ => nI 0) (fun _ => nI 0) (fun _ => nI 0) (fun _ => nI 0) (fun _ => nI 0) (fun _ => nI 0) (fun _ => nI 0) (upd (upd (upd (upd (upd (fun _ => nI 0) 0 (nI 0)) 1 (nI 0)) 2 (nI 1)) 3 (nI 2)) 4 (nI 3)) (upd (upd (upd (upd (upd (fun _ => nI 0) 0 (nI 1)) 1 (nI 0)) 2 (nI 0)) 3 (nI 3)) (0 + 4) (nI 1)) (fun _ => nI 0) (fun _ => nI 0)) (ws' := wMo G a 0 0 0 0 0 0 0 (4 + 1) 3 (fun _ => nI 0) (fun _ => nI 0) (fun _ => nI 0) (fun _ => nI 0) (fun _ => nI 0) (fun _ => nI 0) (fun _ => nI 0) (upd (upd (upd (upd (upd (fun _ => nI 0) 0 (nI 0)) 1 (nI 0)) 2 (nI 1)) 3 (nI 2)) 4 (nI 3)) (upd (upd (upd (upd (upd (fun _ => nI 0) 0 (nI 1)) 1 (nI 0)) 2 (nI 0)) 3 (nI 3)) (0 + 4) (nI 1)) (fun _ => nI 0) (fun _ => nI 0)) X (c_X5_tellsPerson l G a 0 0 0 0 0 0 0 (3 + 1) 3 (fun _ => nI 0) (fun _ => nI 0) (fun _ => nI 0) (fun _ => nI 0) (fun _ => nI 0) (fun _ => nI 0) (fun _ => nI 0) (upd (upd (upd (upd (fun _ => nI 0) 0 (nI 0)) 1 (nI 0)) 2 (nI 1)) 3 (nI 2)) (upd (upd (upd (upd (fun _ => nI 0) 0 (nI 1)) 1 (nI 0)) 2 (nI 0)) (0 + 3) (nI 3)) (fun _ => nI 0) (fun _ => nI 0) (nI 3) (nI 1) (by omega)) xE0_ok (fun _ _ _ => trivial) [0, 1, 2, 3, 4, 5, 6, 7, 8, 9, 10, 11] rfl 0 rfl rfl rfl rfl wco_X5_tellsPerson wi_X5 xd_X5_tellsPerson wl_X5_46 win_X5_tellsPerson wse_X5_tellsPerson (by decide) (Nat.le_of_ble_eq_true rfl) dX5_init_125 rfl (Eq.trans (b := [a 0, a 1, a 2, a 3, a 4, a 5, a 6, a 7, a 8, a 9, a 10, a 11]) rfl rfl) rfl ?_
  refine x_aloadn X dX5_init_128 0 rfl ?_
  refine x_iconst (v := nI 4) X dX5_init_129 (by decide) ?_
  refine x_iconst (v := nI 0) X dX5_init_130 (by decide) ?_
  refine x_callVf0 (As := [.int (nI 4), .int (nI 0)]) (rest := []) (w1 := wMo G a 0 0 0 0 0 0 0 (5 + 1) 3 (fun _ => nI 0) (fun _ => nI 0) (fun _ => nI 0) (fun _ => nI 0) (fun _ => nI 0) (fun _ => nI 0) (fun _ => nI 0) (upd (upd (upd (upd (upd (upd (fun _ => nI 0) 0 (nI 0)) 1 (nI 0)) 2 (nI 1)) 3 (nI 2)) 4 (nI 3)) 5 (nI 4)) (upd (upd (upd (upd (upd (upd (fun _ => nI 0) 0 (nI 1)) 1 (nI 0)) 2 (nI 0)) 3 (nI 3)) 4 (nI 1)) (0 + 5) (nI 0)) (fun _ => nI 0) (fun _ => nI 0)) (ws' := wMo G a 0 0 0 0 0 0 0 (5 + 1) 3 (fun _ => nI 0) (fun _ => nI 0) (fun _ => nI 0) (fun _ => nI 0) (fun _ => nI 0) (fun _ => nI 0) (fun _ => nI 0) (upd (upd (upd (upd (upd (upd (fun _ => nI 0) 0 (nI 0)) 1 (nI 0)) 2 (nI 1)) 3 (nI 2)) 4 (nI 3)) 5 (nI 4)) (upd (upd (upd (upd (upd (upd (fun _ => nI 0) 0 (nI 1)) 1 (nI 0)) 2 (nI 0)) 3 (nI 3)) 4 (nI 1)) (0 + 5) (nI 0)) (fun _ => nI 0) (fun _ => nI 0)) X (c_X5_tellsPerson l G a 0 0 0 0 0 0 0 (4 + 1) 3 (fun _ => nI 0) (fun _ => nI 0) (fun _ => nI 0) (fun _ => nI 0) (fun _ => nI 0) (fun _ => nI 0) (fun _ => nI 0) (upd (upd (upd (upd (upd (fun _ => nI 0) 0 (nI 0)) 1 (nI 0)) 2 (nI 1)) 3 (nI 2)) 4 (nI 3)) (upd (upd (upd (upd (upd (fun _ => nI 0) 0 (nI 1)) 1 (nI 0)) 2 (nI 0)) 3 (nI 3)) (0 + 4) (nI 1)) (fun _ => nI 0) (fun _ => nI 0) (nI 4) (nI 0) (by omega)) xE0_ok (fun _ _ _ => trivial) [0, 1, 2, 3, 4, 5, 6, 7, 8, 9, 10, 11] rfl 0 rfl rfl rfl rfl wco_X5_tellsPerson wi_X5 xd_X5_tellsPerson wl_X5_46 win_X5_tellsPerson wse_X5_tellsPerson (by decide) (Nat.le_of_ble_eq_true rfl) dX5_init_131 rfl (Eq.trans (b := [a 0, a 1, a 2, a 3, a 4, a 5, a 6, a 7, a 8, a 9, a 10, a 11]) rfl rfl) rfl ?_
  refine x_aloadn X dX5_init_134 0 rfl ?_
  refine x_get X wu_X5 0 rfl rfl 17 (by decide) wf_X5_34 rfl rfl dX5_init_135 ?_
  refine x_bipush (v := nI 6) X dX5_init_138 (by decide) ?_
  refine x_iconst (v := nI 5) X dX5_init_140 (by decide) ?_
  refine x_iast_n (g := upd (upd (upd (upd (upd (upd (upd (fun _ => nI 0) 0 (nI 1)) 1 (nI 0)) 2 (nI 0)) 3 (nI 3)) 4 (nI 1)) (0 + 5) (nI 0)) 6 (nI 5)) (ws' := wMo G a 0 0 0 0 0 0 0 (5 + 1) 3 (fun _ => nI 0) (fun _ => nI 0) (fun _ => nI 0) (fun _ => nI 0) (fun _ => nI 0) (fun _ => nI 0) (fun _ => nI 0) (upd (upd (upd (upd (upd (upd (fun _ => nI 0) 0 (nI 0)) 1 (nI 0)) 2 (nI 1)) 3 (nI 2)) 4 (nI 3)) 5 (nI 4)) (upd (upd (upd (upd (upd (upd (upd (fun _ => nI 0) 0 (nI 1)) 1 (nI 0)) 2 (nI 0)) 3 (nI 3)) 4 (nI 1)) (0 + 5) (nI 0)) 6 (nI 5)) (fun _ => nI 0) (fun _ => nI 0)) X 9 rfl (by omega) (by omega) rfl rfl dX5_init_141 ?_
  refine x_aloadn X dX5_init_142 0 rfl ?_
  refine x_get X wu_X5 0 rfl rfl 17 (by decide) wf_X5_34 rfl rfl dX5_init_143 ?_
  refine x_bipush (v := nI 7) X dX5_init_146 (by decide) ?_
  refine x_bipush (v := (-3)) X dX5_init_148 (by decide) ?_
  refine x_iast_n (g := upd (upd (upd (upd (upd (upd (upd (upd (fun _ => nI 0) 0 (nI 1)) 1 (nI 0)) 2 (nI 0)) 3 (nI 3)) 4 (nI 1)) (0 + 5) (nI 0)) 6 (nI 5)) 7 (-3)) (ws' := wMo G a 0 0 0 0 0 0 0 (5 + 1) 3 (fun _ => nI 0) (fun _ => nI 0) (fun _ => nI 0) (fun _ => nI 0) (fun _ => nI 0) (fun _ => nI 0) (fun _ => nI 0) (upd (upd (upd (upd (upd (upd (fun _ => nI 0) 0 (nI 0)) 1 (nI 0)) 2 (nI 1)) 3 (nI 2)) 4 (nI 3)) 5 (nI 4)) (upd (upd (upd (upd (upd (upd (upd (upd (fun _ => nI 0) 0 (nI 1)) 1 (nI 0)) 2 (nI 0)) 3 (nI 3)) 4 (nI 1)) (0 + 5) (nI 0)) 6 (nI 5)) 7 (-3)) (fun _ => nI 0) (fun _ => nI 0)) X 9 rfl (by omega) (by omega) rfl rfl dX5_init_150 ?_
  refine x_aloadn X dX5_init_151 0 rfl ?_
  refine x_get X wu_X5 0 rfl rfl 17 (by decide) wf_X5_34 rfl rfl dX5_init_152 ?_
  refine x_bipush (v := nI 8) X dX5_init_155 (by decide) ?_
  refine x_bipush (v := nI 9) X dX5_init_157 (by decide) ?_
  refine x_iast_n (g := upd (upd (upd (upd (upd (upd (upd (upd (upd (fun _ => nI 0) 0 (nI 1)) 1 (nI 0)) 2 (nI 0)) 3 (nI 3)) 4 (nI 1)) (0 + 5) (nI 0)) 6 (nI 5)) 7 (-3)) 8 (nI 9)) (ws' := wMo G a 0 0 0 0 0 0 0 (5 + 1) 3 (fun _ => nI 0) (fun _ => nI 0) (fun _ => nI 0) (fun _ => nI 0) (fun _ => nI 0) (fun _ => nI 0) (fun _ => nI 0) (upd (upd (upd (upd (upd (upd (fun _ => nI 0) 0 (nI 0)) 1 (nI 0)) 2 (nI 1)) 3 (nI 2)) 4 (nI 3)) 5 (nI 4)) (upd (upd (upd (upd (upd (upd (upd (upd (upd (fun _ => nI 0) 0 (nI 1)) 1 (nI 0)) 2 (nI 0)) 3 (nI 3)) 4 (nI 1)) (0 + 5) (nI 0)) 6 (nI 5)) 7 (-3)) 8 (nI 9)) (fun _ => nI 0) (fun _ => nI 0)) X 9 rfl (by omega) (by omega) rfl rfl dX5_init_159 ?_
  refine x_aloadn X dX5_init_160 0 rfl ?_
  refine x_get X wu_X5 0 rfl rfl 17 (by decide) wf_X5_34 rfl rfl dX5_init_161 ?_
  refine x_bipush (v := nI 11) X dX5_init_164 (by decide) ?_
  refine x_bipush (v := (-7)) X dX5_init_166 (by decide) ?_
  refine x_iast_n (g := upd (upd (upd (upd (upd (upd (upd (upd (upd (upd (fun _ => nI 0) 0 (nI 1)) 1 (nI 0)) 2 (nI 0)) 3 (nI 3)) 4 (nI 1)) (0 + 5) (nI 0)) 6 (nI 5)) 7 (-3)) 8 (nI 9)) 11 (-7)) (ws' := wMo G a 0 0 0 0 0 0 0 (5 + 1) 3 (fun _ => nI 0) (fun _ => nI 0) (fun _ => nI 0) (fun _ => nI 0) (fun _ => nI 0) (fun _ => nI 0) (fun _ => nI 0) (upd (upd (upd (upd (upd (upd (fun _ => nI 0) 0 (nI 0)) 1 (nI 0)) 2 (nI 1)) 3 (nI 2)) 4 (nI 3)) 5 (nI 4)) (upd (upd (upd (upd (upd (upd (upd (upd (upd (upd (fun _ => nI 0) 0 (nI 1)) 1 (nI 0)) 2 (nI 0)) 3 (nI 3)) 4 (nI 1)) (0 + 5) (nI 0)) 6 (nI 5)) 7 (-3)) 8 (nI 9)) 11 (-7)) (fun _ => nI 0) (fun _ => nI 0)) X 9 rfl (by omega) (by omega) rfl rfl dX5_init_168 ?_
  refine x_aloadn X dX5_init_169 0 rfl ?_
  refine x_get X wu_X5 0 rfl rfl 17 (by decide) wf_X5_34 rfl rfl dX5_init_170 ?_
  refine x_bipush (v := nI 12) X dX5_init_173 (by decide) ?_
  refine x_iconst (v := nI 0) X dX5_init_175 (by decide) ?_
  refine x_iast_n (g := upd (upd (upd (upd (upd (upd (upd (upd (upd (upd (upd (fun _ => nI 0) 0 (nI 1)) 1 (nI 0)) 2 (nI 0)) 3 (nI 3)) 4 (nI 1)) (0 + 5) (nI 0)) 6 (nI 5)) 7 (-3)) 8 (nI 9)) 11 (-7)) 12 (nI 0)) (ws' := wMo G a 0 0 0 0 0 0 0 (5 + 1) 3 (fun _ => nI 0) (fun _ => nI 0) (fun _ => nI 0) (fun _ => nI 0) (fun _ => nI 0) (fun _ => nI 0) (fun _ => nI 0) (upd (upd (upd (upd (upd (upd (fun _ => nI 0) 0 (nI 0)) 1 (nI 0)) 2 (nI 1)) 3 (nI 2)) 4 (nI 3)) 5 (nI 4)) (upd (upd (upd (upd (upd (upd (upd (upd (upd (upd (upd (fun _ => nI 0) 0 (nI 1)) 1 (nI 0)) 2 (nI 0)) 3 (nI 3)) 4 (nI 1)) (0 + 5) (nI 0)) 6 (nI 5)) 7 (-3)) 8 (nI 9)) 11 (-7)) 12 (nI 0)) (fun _ => nI 0) (fun _ => nI 0)) X 9 rfl (by omega) (by omega) rfl rfl dX5_init_176 ?_
  refine x_aloadn X dX5_init_177 0 rfl ?_
  refine x_get X wu_X5 0 rfl rfl 17 (by decide) wf_X5_34 rfl rfl dX5_init_178 ?_
  refine x_bipush (v := nI 14) X dX5_init_181 (by decide) ?_
  refine x_bipush (v := nI 7) X dX5_init_183 (by decide) ?_
  refine x_iast_n (g := upd (upd (upd (upd (upd (upd (upd (upd (upd (upd (upd (upd (fun _ => nI 0) 0 (nI 1)) 1 (nI 0)) 2 (nI 0)) 3 (nI 3)) 4 (nI 1)) (0 + 5) (nI 0)) 6 (nI 5)) 7 (-3)) 8 (nI 9)) 11 (-7)) 12 (nI 0)) 14 (nI 7)) (ws' := wMo G a 0 0 0 0 0 0 0 (5 + 1) 3 (fun _ => nI 0) (fun _ => nI 0) (fun _ => nI 0) (fun _ => nI 0) (fun _ => nI 0) (fun _ => nI 0) (fun _ => nI 0) (upd (upd (upd (upd (upd (upd (fun _ => nI 0) 0 (nI 0)) 1 (nI 0)) 2 (nI 1)) 3 (nI 2)) 4 (nI 3)) 5 (nI 4)) (upd (upd (upd (upd (upd (upd (upd (upd (upd (upd (upd (upd (fun _ => nI 0) 0 (nI 1)) 1 (nI 0)) 2 (nI 0)) 3 (nI 3)) 4 (nI 1)) (0 + 5) (nI 0)) 6 (nI 5)) 7 (-3)) 8 (nI 9)) 11 (-7)) 12 (nI 0)) 14 (nI 7)) (fun _ => nI 0) (fun _ => nI 0)) X 9 rfl (by omega) (by omega) rfl rfl dX5_init_185 ?_
  refine x_aloadn X dX5_init_186 0 rfl ?_
  refine x_get X wu_X5 0 rfl rfl 17 (by decide) wf_X5_34 rfl rfl dX5_init_187 ?_
  refine x_bipush (v := nI 16) X dX5_init_190 (by decide) ?_
  refine x_iconst (v := nI 2) X dX5_init_192 (by decide) ?_
  refine x_iast_n (g := upd (upd (upd (upd (upd (upd (upd (upd (upd (upd (upd (upd (upd (fun _ => nI 0) 0 (nI 1)) 1 (nI 0)) 2 (nI 0)) 3 (nI 3)) 4 (nI 1)) (0 + 5) (nI 0)) 6 (nI 5)) 7 (-3)) 8 (nI 9)) 11 (-7)) 12 (nI 0)) 14 (nI 7)) 16 (nI 2)) (ws' := wMo G a 0 0 0 0 0 0 0 (5 + 1) 3 (fun _ => nI 0) (fun _ => nI 0) (fun _ => nI 0) (fun _ => nI 0) (fun _ => nI 0) (fun _ => nI 0) (fun _ => nI 0) (upd (upd (upd (upd (upd (upd (fun _ => nI 0) 0 (nI 0)) 1 (nI 0)) 2 (nI 1)) 3 (nI 2)) 4 (nI 3)) 5 (nI 4)) (upd (upd (upd (upd (upd (upd (upd (upd (upd (upd (upd (upd (upd (fun _ => nI 0) 0 (nI 1)) 1 (nI 0)) 2 (nI 0)) 3 (nI 3)) 4 (nI 1)) (0 + 5) (nI 0)) 6 (nI 5)) 7 (-3)) 8 (nI 9)) 11 (-7)) 12 (nI 0)) 14 (nI 7)) 16 (nI 2)) (fun _ => nI 0) (fun _ => nI 0)) X 9 rfl (by omega) (by omega) rfl rfl dX5_init_193 ?_
  refine x_aloadn X dX5_init_194 0 rfl ?_
  refine x_get X wu_X5 0 rfl rfl 17 (by decide) wf_X5_34 rfl rfl dX5_init_195 ?_
  refine x_bipush (v := nI 20) X dX5_init_198 (by decide) ?_
  refine x_bipush (v := (-9)) X dX5_init_200 (by decide) ?_
  refine x_iast_n (g := upd (upd (upd (upd (upd (upd (upd (upd (upd (upd (upd (upd (upd (upd (fun _ => nI 0) 0 (nI 1)) 1 (nI 0)) 2 (nI 0)) 3 (nI 3)) 4 (nI 1)) (0 + 5) (nI 0)) 6 (nI 5)) 7 (-3)) 8 (nI 9)) 11 (-7)) 12 (nI 0)) 14 (nI 7)) 16 (nI 2)) 20 (-9)) (ws' := wMo G a 0 0 0 0 0 0 0 (5 + 1) 3 (fun _ => nI 0) (fun _ => nI 0) (fun _ => nI 0) (fun _ => nI 0) (fun _ => nI 0) (fun _ => nI 0) (fun _ => nI 0) (upd (upd (upd (upd (upd (upd (fun _ => nI 0) 0 (nI 0)) 1 (nI 0)) 2 (nI 1)) 3 (nI 2)) 4 (nI 3)) 5 (nI 4)) (upd (upd (upd (upd (upd (upd (upd (upd (upd (upd (upd (upd (upd (upd (fun _ => nI 0) 0 (nI 1)) 1 (nI 0)) 2 (nI 0)) 3 (nI 3)) 4 (nI 1)) (0 + 5) (nI 0)) 6 (nI 5)) 7 (-3)) 8 (nI 9)) 11 (-7)) 12 (nI 0)) 14 (nI 7)) 16 (nI 2)) 20 (-9)) (fun _ => nI 0) (fun _ => nI 0)) X 9 rfl (by omega) (by omega) rfl rfl dX5_init_202 ?_
  refine x_aloadn X dX5_init_203 0 rfl ?_
  refine x_get X wu_X5 0 rfl rfl 17 (by decide) wf_X5_34 rfl rfl dX5_init_204 ?_
  refine x_bipush (v := nI 21) X dX5_init_207 (by decide) ?_
  refine x_bipush (v := nI 9) X dX5_init_209 (by decide) ?_
  refine x_iast_n (g := upd (upd (upd (upd (upd (upd (upd (upd (upd (upd (upd (upd (upd (upd (upd (fun _ => nI 0) 0 (nI 1)) 1 (nI 0)) 2 (nI 0)) 3 (nI 3)) 4 (nI 1)) (0 + 5) (nI 0)) 6 (nI 5)) 7 (-3)) 8 (nI 9)) 11 (-7)) 12 (nI 0)) 14 (nI 7)) 16 (nI 2)) 20 (-9)) 21 (nI 9)) (ws' := wMo G a 0 0 0 0 0 0 0 (5 + 1) 3 (fun _ => nI 0) (fun _ => nI 0) (fun _ => nI 0) (fun _ => nI 0) (fun _ => nI 0) (fun _ => nI 0) (fun _ => nI 0) (upd (upd (upd (upd (upd (upd (fun _ => nI 0) 0 (nI 0)) 1 (nI 0)) 2 (nI 1)) 3 (nI 2)) 4 (nI 3)) 5 (nI 4)) (upd (upd (upd (upd (upd (upd (upd (upd (upd (upd (upd (upd (upd (upd (upd (fun _ => nI 0) 0 (nI 1)) 1 (nI 0)) 2 (nI 0)) 3 (nI 3)) 4 (nI 1)) (0 + 5) (nI 0)) 6 (nI 5)) 7 (-3)) 8 (nI 9)) 11 (-7)) 12 (nI 0)) 14 (nI 7)) 16 (nI 2)) 20 (-9)) 21 (nI 9)) (fun _ => nI 0) (fun _ => nI 0)) X 9 rfl (by omega) (by omega) rfl rfl dX5_init_211 ?_
  refine x_aloadn X dX5_init_212 0 rfl ?_
  refine x_get X wu_X5 0 rfl rfl 17 (by decide) wf_X5_34 rfl rfl dX5_init_213 ?_
  refine x_bipush (v := nI 23) X dX5_init_216 (by decide) ?_
  refine x_bipush (v := (-6)) X dX5_init_218 (by decide) ?_
  refine x_iast_n (g := upd (upd (upd (upd (upd (upd (upd (upd (upd (upd (upd (upd (upd (upd (upd (upd (fun _ => nI 0) 0 (nI 1)) 1 (nI 0)) 2 (nI 0)) 3 (nI 3)) 4 (nI 1)) (0 + 5) (nI 0)) 6 (nI 5)) 7 (-3)) 8 (nI 9)) 11 (-7)) 12 (nI 0)) 14 (nI 7)) 16 (nI 2)) 20 (-9)) 21 (nI 9)) 23 (-6)) (ws' := wMo G a 0 0 0 0 0 0 0 (5 + 1) 3 (fun _ => nI 0) (fun _ => nI 0) (fun _ => nI 0) (fun _ => nI 0) (fun _ => nI 0) (fun _ => nI 0) (fun _ => nI 0) (upd (upd (upd (upd (upd (upd (fun _ => nI 0) 0 (nI 0)) 1 (nI 0)) 2 (nI 1)) 3 (nI 2)) 4 (nI 3)) 5 (nI 4)) (upd (upd (upd (upd (upd (upd (upd (upd (upd (upd (upd (upd (upd (upd (upd (upd (fun _ => nI 0) 0 (nI 1)) 1 (nI 0)) 2 (nI 0)) 3 (nI 3)) 4 (nI 1)) (0 + 5) (nI 0)) 6 (nI 5)) 7 (-3)) 8 (nI 9)) 11 (-7)) 12 (nI 0)) 14 (nI 7)) 16 (nI 2)) 20 (-9)) 21 (nI 9)) 23 (-6)) (fun _ => nI 0) (fun _ => nI 0)) X 9 rfl (by omega) (by omega) rfl rfl dX5_init_220 ?_
  refine x_aloadn X dX5_init_221 0 rfl ?_
  refine x_get X wu_X5 0 rfl rfl 17 (by decide) wf_X5_34 rfl rfl dX5_init_222 ?_
  refine x_bipush (v := nI 26) X dX5_init_225 (by decide) ?_
  refine x_bipush (v := (-2)) X dX5_init_227 (by decide) ?_
  refine x_iast_n (g := upd (upd (upd (upd (upd (upd (upd (upd (upd (upd (upd (upd (upd (upd (upd (upd (upd (fun _ => nI 0) 0 (nI 1)) 1 (nI 0)) 2 (nI 0)) 3 (nI 3)) 4 (nI 1)) (0 + 5) (nI 0)) 6 (nI 5)) 7 (-3)) 8 (nI 9)) 11 (-7)) 12 (nI 0)) 14 (nI 7)) 16 (nI 2)) 20 (-9)) 21 (nI 9)) 23 (-6)) 26 (-2)) (ws' := wMo G a 0 0 0 0 0 0 0 (5 + 1) 3 (fun _ => nI 0) (fun _ => nI 0) (fun _ => nI 0) (fun _ => nI 0) (fun _ => nI 0) (fun _ => nI 0) (fun _ => nI 0) (upd (upd (upd (upd (upd (upd (fun _ => nI 0) 0 (nI 0)) 1 (nI 0)) 2 (nI 1)) 3 (nI 2)) 4 (nI 3)) 5 (nI 4)) (upd (upd (upd (upd (upd (upd (upd (upd (upd (upd (upd (upd (upd (upd (upd (upd (upd (fun _ => nI 0) 0 (nI 1)) 1 (nI 0)) 2 (nI 0)) 3 (nI 3)) 4 (nI 1)) (0 + 5) (nI 0)) 6 (nI 5)) 7 (-3)) 8 (nI 9)) 11 (-7)) 12 (nI 0)) 14 (nI 7)) 16 (nI 2)) 20 (-9)) 21 (nI 9)) 23 (-6)) 26 (-2)) (fun _ => nI 0) (fun _ => nI 0)) X 9 rfl (by omega) (by omega) rfl rfl dX5_init_229 ?_
  refine x_aloadn X dX5_init_230 0 rfl ?_
  refine x_get X wu_X5 0 rfl rfl 17 (by decide) wf_X5_34 rfl rfl dX5_init_231 ?_
  refine x_bipush (v := nI 32) X dX5_init_234 (by decide) ?_
  refine x_bipush (v := (-5)) X dX5_init_236 (by decide) ?_
  refine x_iast_n (g := upd (upd (upd (upd (upd (upd (upd (upd (upd (upd (upd (upd (upd (upd (upd (upd (upd (upd (fun _ => nI 0) 0 (nI 1)) 1 (nI 0)) 2 (nI 0)) 3 (nI 3)) 4 (nI 1)) (0 + 5) (nI 0)) 6 (nI 5)) 7 (-3)) 8 (nI 9)) 11 (-7)) 12 (nI 0)) 14 (nI 7)) 16 (nI 2)) 20 (-9)) 21 (nI 9)) 23 (-6)) 26 (-2)) 32 (-5)) (ws' := wMo G a 0 0 0 0 0 0 0 (5 + 1) 3 (fun _ => nI 0) (fun _ => nI 0) (fun _ => nI 0) (fun _ => nI 0) (fun _ => nI 0) (fun _ => nI 0) (fun _ => nI 0) (upd (upd (upd (upd (upd (upd (fun _ => nI 0) 0 (nI 0)) 1 (nI 0)) 2 (nI 1)) 3 (nI 2)) 4 (nI 3)) 5 (nI 4)) (upd (upd (upd (upd (upd (upd (upd (upd (upd (upd (upd (upd (upd (upd (upd (upd (upd (upd (fun _ => nI 0) 0 (nI 1)) 1 (nI 0)) 2 (nI 0)) 3 (nI 3)) 4 (nI 1)) (0 + 5) (nI 0)) 6 (nI 5)) 7 (-3)) 8 (nI 9)) 11 (-7)) 12 (nI 0)) 14 (nI 7)) 16 (nI 2)) 20 (-9)) 21 (nI 9)) 23 (-6)) 26 (-2)) 32 (-5)) (fun _ => nI 0) (fun _ => nI 0)) X 9 rfl (by omega) (by omega) rfl rfl dX5_init_238 ?_
  refine x_aloadn X dX5_init_239 0 rfl ?_
  refine x_iconst (v := nI 4) X dX5_init_240 (by decide) ?_
  refine x_put (ws' := wMo G a 0 0 0 0 0 0 0 (5 + 1) 4 (fun _ => nI 0) (fun _ => nI 0) (fun _ => nI 0) (fun _ => nI 0) (fun _ => nI 0) (fun _ => nI 0) (fun _ => nI 0) (upd (upd (upd (upd (upd (upd (fun _ => nI 0) 0 (nI 0)) 1 (nI 0)) 2 (nI 1)) 3 (nI 2)) 4 (nI 3)) 5 (nI 4)) (upd (upd (upd (upd (upd (upd (upd (upd (upd (upd (upd (upd (upd (upd (upd (upd (upd (upd (fun _ => nI 0) 0 (nI 1)) 1 (nI 0)) 2 (nI 0)) 3 (nI 3)) 4 (nI 1)) (0 + 5) (nI 0)) 6 (nI 5)) 7 (-3)) 8 (nI 9)) 11 (-7)) 12 (nI 0)) 14 (nI 7)) 16 (nI 2)) 20 (-9)) 21 (nI 9)) 23 (-6)) 26 (-2)) 32 (-5)) (fun _ => nI 0) (fun _ => nI 0)) (ty := tyX5 16) X wu_X5 tyX5_ok nmX5 0 rfl rfl 16 (by decide) wf_X5_50 rfl rfl (by decide +kernel) rfl rfl (Nat.le_of_ble_eq_true rfl) rfl dX5_init_241 ?_
  refine x_rowc (ws' := wMo G a 0 0 0 0 0 0 0 (5 + 1) 4 (fun _ => nI 0) (fun _ => nI 0) (fun _ => nI 0) (fun _ => nI 0) (fun _ => nI 0) (fun _ => nI 0) (fun _ => nI 0) (upd (upd (upd (upd (upd (upd (fun _ => nI 0) 0 (nI 0)) 1 (nI 0)) 2 (nI 1)) 3 (nI 2)) 4 (nI 3)) 5 (nI 4)) (en sF) (fun _ => nI 0) (fun _ => nI 0)) (en sF) X 9 rfl (by decide +kernel) rfl ?_
  refine x_aloadn X dX5_init_244 0 rfl ?_
  refine x_callVf0 (As := []) (rest := []) (w1 := wMo G a (5 + 1) 4 0 0 0 0 0 (5 + 1) 4 (kds (upd (upd (upd (upd (upd (upd (fun _ => nI 0) 0 (nI 0)) 1 (nI 0)) 2 (nI 1)) 3 (nI 2)) 4 (nI 3)) 5 (nI 4)) (fun _ => nI 0) 6) (en sF) (fun _ => nI 0) (fun _ => nI 0) (fun _ => nI 0) (fun _ => nI 0) (fun _ => nI 0) (upd (upd (upd (upd (upd (upd (fun _ => nI 0) 0 (nI 0)) 1 (nI 0)) 2 (nI 1)) 3 (nI 2)) 4 (nI 3)) 5 (nI 4)) (en sF) (fun _ => nI 0) (fun _ => nI 0)) (ws' := wMo G a (5 + 1) 4 0 0 0 0 0 (5 + 1) 4 (kds (upd (upd (upd (upd (upd (upd (fun _ => nI 0) 0 (nI 0)) 1 (nI 0)) 2 (nI 1)) 3 (nI 2)) 4 (nI 3)) 5 (nI 4)) (fun _ => nI 0) 6) (en sF) (fun _ => nI 0) (fun _ => nI 0) (fun _ => nI 0) (fun _ => nI 0) (fun _ => nI 0) (upd (upd (upd (upd (upd (upd (fun _ => nI 0) 0 (nI 0)) 1 (nI 0)) 2 (nI 1)) 3 (nI 2)) 4 (nI 3)) 5 (nI 4)) (en sF) (fun _ => nI 0) (fun _ => nI 0)) X (c_X5_settles l G a 0 0 0 0 0 0 0 (5 + 1) 4 (fun _ => nI 0) (fun _ => nI 0) (fun _ => nI 0) (fun _ => nI 0) (fun _ => nI 0) (fun _ => nI 0) (fun _ => nI 0) (upd (upd (upd (upd (upd (upd (fun _ => nI 0) 0 (nI 0)) 1 (nI 0)) 2 (nI 1)) 3 (nI 2)) 4 (nI 3)) 5 (nI 4)) (en sF) (fun _ => nI 0) (fun _ => nI 0) (by omega)) xE0_ok (fun _ _ _ => trivial) [0, 1, 2, 3, 4, 5, 6, 7, 8, 9, 10, 11] rfl 0 rfl rfl rfl rfl wco_X5_settles wi_X5 xd_X5_settles wl_X5_54 win_X5_settles wse_X5_settles (by decide) (Nat.le_of_ble_eq_true rfl) dX5_init_245 rfl (Eq.trans (b := [a 0, a 1, a 2, a 3, a 4, a 5, a 6, a 7, a 8, a 9, a 10, a 11]) rfl rfl) rfl ?_
  exact x_retv X dX5_init_248 ⟨rfl, ⟨a, 0, (5 + 1), 4, (kds (upd (upd (upd (upd (upd (upd (fun _ => nI 0) 0 (nI 0)) 1 (nI 0)) 2 (nI 1)) 3 (nI 2)) 4 (nI 3)) 5 (nI 4)) (fun _ => nI 0) 6), (fun _ => nI 0), (fun _ => nI 0), (fun _ => nI 0), (fun _ => nI 0), (fun _ => nI 0), (upd (upd (upd (upd (upd (upd (fun _ => nI 0) 0 (nI 0)) 1 (nI 0)) 2 (nI 1)) 3 (nI 2)) 4 (nI 3)) 5 (nI 4)), (en sF), (fun _ => nI 0), (fun _ => nI 0), (by rw [sF_1, sF_2]; first | done | rfl), rfl, by rw [sF_1]; decide +kernel⟩, by decide, by decide⟩
def xEA : xE := fun _ U => va_AO RX0 U
theorem xEA_ok : xEok xEA := ⟨fun A U g mk a h => va_AO.moved (u := U) (U := U.calling g mk a) (Vm.Alike.refl U.vm) h, fun A A1 s U hW hk hA h => va_AO.moved hW.alike h⟩
theorem wCs_cg {G : xG} {ad ad2 : Nat → Nat → Nat} {cs : Nat → xS} {n : Nat} (h : ∀ j, j < n → ad j = ad2 j) : wCs G ad cs n = wCs G ad2 cs n := by
  simp only [wCs, wCsN, List.flatMap_def]
  congr 1
  apply List.map_congr_left
  intro j hj
  rw [h j (List.mem_range.mp hj)]
theorem wCs_s (G : xG) (ad : Nat → Nat → Nat) (cs : Nat → xS) (n : Nat) : wCs G ad cs (n + 1) = wCs G ad cs n ++ wCq G (ad n) (cs n) := by
  simp only [wCs, wCsN, List.range_succ, List.flatMap_append, List.flatMap_cons, List.flatMap_nil, List.append_nil]
theorem x_rowq {l : Launch} {G : xG} {E : xE} {own nm : String} {cc : ByteArray} {nL : Nat} {R : Room} {Z : Option Value → va_W → Nat → Nat → Prop} {K : xKt} {ws : va_W} {k z pc : Nat} {lv : xL} {st : List Value} {a n : Nat} {cA : ClassId} {f : Nat → Option Nat} (g : Nat → Option Nat) (X : xR l G E own nm cc nL R Z K) (q0 : Nat) (h0 : ws[q0]? = some (a, .inl (cA, n, .inr (.inr (.inr (.inr f)))))) (hfg : ∀ j, j < n → f j = g j) (kk : K (ws.set q0 (a, .inl (cA, n, .inr (.inr (.inr (.inr g)))))) k z pc lv st) : K ws k z pc lv st := by
  obtain ⟨p, e, s, m, args, below, meth, c, Q, A, hx, hb, hml, hown, hts, hK, hE, hA, hnm, rfl, hZ⟩ := X
  intro H locs ls hP hD hS hl
  refine kk H locs ls (hP.set hD h0 ?_ (fun _ _ => rfl)) (hD.set h0) hS hl
  have h1 : H[a]? = some (vp_cell cA (n, .inr (.inr (.inr (.inr f))))) := hP q0 _ h0
  show H[a]? = some (vp_cell cA (n, .inr (.inr (.inr (.inr g)))))
  rw [h1, vp_cell_q, vp_cell_q]
  congr 1
  unfold arrV
  congr 1
  apply Array.ext
  · simp
  · intro i h1 h2
    simp at h1
    simp [hfg i (by simpa using h1)]
set_option maxRecDepth 100000 in
set_option maxHeartbeats 4000000 in
/-- a shelf of 8 -/
theorem c_X1_init__8 (l : Launch) (G : xG) (o : Nat) : xM l G xEA yX1_init cX1_init 3 none 2 32 41 592 [.ref o, .int (nI 8)] (wOb G o 1 [.null, .int (nI 0), .int (nI 0)]) none (fun w2 => ∃ (a' : Nat → Nat) (ad' : Nat → Nat → Nat), w2 = xJ [wSh8 G a' ad' 0 0, wCs G ad' (fun _ => zS) 8] ∧ a' 0 = o) := by
  refine x_entry (by decide +kernel) (Nat.le_of_ble_eq_true rfl) rfl rfl (fun K X => ?_)
  refine x_aloadn X dX1_init_0 0 rfl ?_
  refine x_objInit X wl_X1_1 (by decide) (Nat.le_of_ble_eq_true rfl) dX1_init_1 ?_
  refine x_aloadn X dX1_init_4 0 rfl ?_
  refine x_iloadn X dX1_init_5 1 rfl ?_
  refine x_iconst (v := nI 0) X dX1_init_6 (by decide) ?_
  refine x_max (v := nI 8) X wl_X1_7 (by decide) (Nat.le_of_ble_eq_true rfl) (by decide) (by decide) dX1_init_7 ?_
  refine x_newq X (by decide) (fun _ _ h => h) wcl_X1_13 (by decide) dX1_init_10 (fun q => ?_)
  refine x_wst (ws' := xJ [wOb G o 1 [.null, .int (nI 0), .int (nI 0)], wQA G q 8 (fun _ => none)]) (st' := [.ref q, .ref o]) rfl rfl ?_
  refine x_putF (ws' := xJ [wOb G o 1 [.ref q, .int (nI 0), .int (nI 0)], wQA G q 8 (fun _ => none)]) (ty := tyX1 0) X wu_X1 tyX1_ok nmX1 0 rfl rfl 0 (by decide) wf_X1_15 rfl rfl rfl (by decide +kernel) rfl rfl (Nat.le_of_ble_eq_true rfl) rfl dX1_init_13 ?_
  refine x_iconst (v := nI 0) X dX1_init_16 (by decide) ?_
  refine x_istoren (lv' := [(2, .int (nI (0))), (0, .ref o), (1, .int (nI 8))]) X dX1_init_17 (by decide) rfl ?_
  have L : ∀ (fu i : Nat) (ad : Nat → Nat → Nat) (f : Nat → Option Nat), 8 - i < fu → i ≤ 8 → (∀ j, j < i → f j = some (ad j 0)) → K (xJ [wOb G o 1 [.ref q, .int (nI 0), .int (nI 0)], wQA G q 8 (f), wCs G (ad) (fun _ => zS) (i)]) (1 + 5 * i) (8 + 73 * i) 18 [(2, .int (nI (i))), (0, .ref o), (1, .int (nI 8))] [] := by
    intro fu
    induction fu with
    | zero => intro i ad f hfu; exact absurd hfu (Nat.not_lt_zero _)
    | succ fu ih =>
      intro i ad f hfu hi hf
      refine x_iloadn X dX1_init_18 0 rfl ?_
      refine x_aloadn X dX1_init_19 1 rfl ?_
      refine x_get X wu_X1 0 rfl rfl 0 (by decide) wf_X1_15 rfl rfl dX1_init_20 ?_
      refine x_alenq X 1 rfl dX1_init_23 ?_
      refine x_icmp_ge_n 46 X dX1_init_24 (by decide) (by omega) (by omega) (fun c_1 => ?_) (fun c_1 => ?_)
      · obtain rfl : i = 8 := by omega
        refine x_rowq (fun j => some (ad j 0)) X 1 rfl hf ?_
        exact x_retv X dX1_init_46 ⟨rfl, ⟨fun j => ([o, q] : List Nat).getD j 0, ad, rfl, rfl⟩, by decide, by decide⟩
      · refine x_aloadn X dX1_init_27 1 rfl ?_
        refine x_get X wu_X1 0 rfl rfl 0 (by decide) wf_X1_15 rfl rfl dX1_init_28 ?_
        refine x_iloadn X dX1_init_31 0 rfl ?_
        refine x_new (ci := 0) (fs := [.int (nI 0), .int (nI 0), .null, .null, .null, .null]) X wu_X0 tyX0_ok wcl_X1_13 wns_X0 wi_X0 rfl (by decide) ⟨by show 1 + 5 * i + 1 ≤ 41; omega, by show 8 + 73 * i + 6 ≤ 592; omega⟩ dX1_init_32 (fun r => ?_)
        refine x_dup X dX1_init_35 rfl ?_
        refine x_callIL (wc := wOb G r 0 [.int (nI 0), .int (nI 0), .null, .null, .null, .null]) (As := []) (rest := [.ref r, .int (nI i), .ref q]) X (c_X0_init l G r) xE0_ok (fun _ _ _ => trivial) rfl wco_X0_init wi_X0 xd_X0_init wl_X1_21 win_X0_init rfl ⟨by decide, by decide, by show 1 + 5 * i + 1 + 4 ≤ 41; omega, by show 8 + 73 * i + 6 + 67 ≤ 592; omega⟩ (Nat.le_of_ble_eq_true rfl) dX1_init_36 (fun w2 h2 => ?_)
        obtain ⟨a1, rfl, e1⟩ := h2
        subst e1
        obtain ⟨ad', had⟩ : ∃ ad' : Nat → Nat → Nat, ad' = fun j => if j = i then a1 else ad j := ⟨_, rfl⟩
        have ha1 : a1 = ad' i := by rw [had]; simp
        have hcs : wCs G ad (fun _ => zS) i = wCs G ad' (fun _ => zS) i := wCs_cg (fun j hj => by rw [had]; simp [Nat.ne_of_lt hj])
        refine x_perm (ws' := xJ [wOb G o 1 [.ref q, .int (nI 0), .int (nI 0)], wQA G q 8 (f), wCq G a1 zS, wCs G (ad') (fun _ => zS) (i)]) X (by
          rw [hcs, xJ_eq, xJ_eq]
          simp only [List.flatten_cons, List.flatten_nil, List.append_nil, List.append_assoc]
          exact List.Perm.append_left _ (List.Perm.append_left _ List.perm_append_comm)) ?_
        refine x_aast X 1 2 rfl rfl (by omega) (by decide) dX1_init_39 ?_
        refine x_iinc (v := nI (i + 1)) (lv' := [(2, .int (nI (i + 1))), (0, .ref o), (1, .int (nI 8))]) X dX1_init_40 0 rfl (nI_1 _) (by decide) rfl ?_
        refine x_goto 18 X dX1_init_43 (by decide) ?_
        have hh := ih (i + 1) ad' (va_up f i (some (a1 0))) (by omega) (by omega) (fun j hj => by
          by_cases e : j = i
          · subst e; rw [va_up_self, ha1]
          · rw [va_up_ne _ _ e, hf j (by omega), had]; simp [e])
        rw [show 1 + 5 * (i + 1) = 1 + 5 * i + 1 + 4 by omega, show 8 + 73 * (i + 1) = 8 + 73 * i + 6 + 67 by omega] at hh
        refine x_perm (ws := xJ [wOb G o 1 [.ref q, .int (nI 0), .int (nI 0)], wQA G q 8 (va_up f i (some (a1 0))), wCq G a1 zS, wCs G (ad') (fun _ => zS) (i)]) X ?_ hh
        rw [wCs_s, ← ha1, xJ_eq, xJ_eq]
        simp only [List.flatten_cons, List.flatten_nil, List.append_nil, List.append_assoc]
        exact List.Perm.append_left _ (List.Perm.append_left _ List.perm_append_comm)
  exact x_wst (ws' := xJ [wOb G o 1 [.ref q, .int (nI 0), .int (nI 0)], wQA G q 8 (fun _ => none), wCs G (fun _ _ => 0) (fun _ => zS) (0)]) (st' := []) rfl rfl (L _ 0 (fun _ _ => 0) (fun _ => none) (Nat.lt_succ_self _) (by omega) (fun j hj => absurd hj (Nat.not_lt_zero _)))
set_option maxRecDepth 100000 in
set_option maxHeartbeats 4000000 in
/-- a shelf of 2 -/
theorem c_X1_init__2 (l : Launch) (G : xG) (o : Nat) : xM l G xEA yX1_init cX1_init 3 none 2 32 11 148 [.ref o, .int (nI 2)] (wOb G o 1 [.null, .int (nI 0), .int (nI 0)]) none (fun w2 => ∃ (a' : Nat → Nat) (ad' : Nat → Nat → Nat), w2 = xJ [wSh2 G a' ad' 0 0, wCs G ad' (fun _ => zS) 2] ∧ a' 0 = o) := by
  refine x_entry (by decide +kernel) (Nat.le_of_ble_eq_true rfl) rfl rfl (fun K X => ?_)
  refine x_aloadn X dX1_init_0 0 rfl ?_
  refine x_objInit X wl_X1_1 (by decide) (Nat.le_of_ble_eq_true rfl) dX1_init_1 ?_
  refine x_aloadn X dX1_init_4 0 rfl ?_
  refine x_iloadn X dX1_init_5 1 rfl ?_
  refine x_iconst (v := nI 0) X dX1_init_6 (by decide) ?_
  refine x_max (v := nI 2) X wl_X1_7 (by decide) (Nat.le_of_ble_eq_true rfl) (by decide) (by decide) dX1_init_7 ?_
  refine x_newq X (by decide) (fun _ _ h => h) wcl_X1_13 (by decide) dX1_init_10 (fun q => ?_)
  refine x_wst (ws' := xJ [wOb G o 1 [.null, .int (nI 0), .int (nI 0)], wQA G q 2 (fun _ => none)]) (st' := [.ref q, .ref o]) rfl rfl ?_
  refine x_putF (ws' := xJ [wOb G o 1 [.ref q, .int (nI 0), .int (nI 0)], wQA G q 2 (fun _ => none)]) (ty := tyX1 0) X wu_X1 tyX1_ok nmX1 0 rfl rfl 0 (by decide) wf_X1_15 rfl rfl rfl (by decide +kernel) rfl rfl (Nat.le_of_ble_eq_true rfl) rfl dX1_init_13 ?_
  refine x_iconst (v := nI 0) X dX1_init_16 (by decide) ?_
  refine x_istoren (lv' := [(2, .int (nI (0))), (0, .ref o), (1, .int (nI 2))]) X dX1_init_17 (by decide) rfl ?_
  have L : ∀ (fu i : Nat) (ad : Nat → Nat → Nat) (f : Nat → Option Nat), 2 - i < fu → i ≤ 2 → (∀ j, j < i → f j = some (ad j 0)) → K (xJ [wOb G o 1 [.ref q, .int (nI 0), .int (nI 0)], wQA G q 2 (f), wCs G (ad) (fun _ => zS) (i)]) (1 + 5 * i) (2 + 73 * i) 18 [(2, .int (nI (i))), (0, .ref o), (1, .int (nI 2))] [] := by
    intro fu
    induction fu with
    | zero => intro i ad f hfu; exact absurd hfu (Nat.not_lt_zero _)
    | succ fu ih =>
      intro i ad f hfu hi hf
      refine x_iloadn X dX1_init_18 0 rfl ?_
      refine x_aloadn X dX1_init_19 1 rfl ?_
      refine x_get X wu_X1 0 rfl rfl 0 (by decide) wf_X1_15 rfl rfl dX1_init_20 ?_
      refine x_alenq X 1 rfl dX1_init_23 ?_
      refine x_icmp_ge_n 46 X dX1_init_24 (by decide) (by omega) (by omega) (fun c_1 => ?_) (fun c_1 => ?_)
      · obtain rfl : i = 2 := by omega
        refine x_rowq (fun j => some (ad j 0)) X 1 rfl hf ?_
        exact x_retv X dX1_init_46 ⟨rfl, ⟨fun j => ([o, q] : List Nat).getD j 0, ad, rfl, rfl⟩, by decide, by decide⟩
      · refine x_aloadn X dX1_init_27 1 rfl ?_
        refine x_get X wu_X1 0 rfl rfl 0 (by decide) wf_X1_15 rfl rfl dX1_init_28 ?_
        refine x_iloadn X dX1_init_31 0 rfl ?_
        refine x_new (ci := 0) (fs := [.int (nI 0), .int (nI 0), .null, .null, .null, .null]) X wu_X0 tyX0_ok wcl_X1_13 wns_X0 wi_X0 rfl (by decide) ⟨by show 1 + 5 * i + 1 ≤ 11; omega, by show 2 + 73 * i + 6 ≤ 148; omega⟩ dX1_init_32 (fun r => ?_)
        refine x_dup X dX1_init_35 rfl ?_
        refine x_callIL (wc := wOb G r 0 [.int (nI 0), .int (nI 0), .null, .null, .null, .null]) (As := []) (rest := [.ref r, .int (nI i), .ref q]) X (c_X0_init l G r) xE0_ok (fun _ _ _ => trivial) rfl wco_X0_init wi_X0 xd_X0_init wl_X1_21 win_X0_init rfl ⟨by decide, by decide, by show 1 + 5 * i + 1 + 4 ≤ 11; omega, by show 2 + 73 * i + 6 + 67 ≤ 148; omega⟩ (Nat.le_of_ble_eq_true rfl) dX1_init_36 (fun w2 h2 => ?_)
        obtain ⟨a1, rfl, e1⟩ := h2
        subst e1
        obtain ⟨ad', had⟩ : ∃ ad' : Nat → Nat → Nat, ad' = fun j => if j = i then a1 else ad j := ⟨_, rfl⟩
        have ha1 : a1 = ad' i := by rw [had]; simp
        have hcs : wCs G ad (fun _ => zS) i = wCs G ad' (fun _ => zS) i := wCs_cg (fun j hj => by rw [had]; simp [Nat.ne_of_lt hj])
        refine x_perm (ws' := xJ [wOb G o 1 [.ref q, .int (nI 0), .int (nI 0)], wQA G q 2 (f), wCq G a1 zS, wCs G (ad') (fun _ => zS) (i)]) X (by
          rw [hcs, xJ_eq, xJ_eq]
          simp only [List.flatten_cons, List.flatten_nil, List.append_nil, List.append_assoc]
          exact List.Perm.append_left _ (List.Perm.append_left _ List.perm_append_comm)) ?_
        refine x_aast X 1 2 rfl rfl (by omega) (by decide) dX1_init_39 ?_
        refine x_iinc (v := nI (i + 1)) (lv' := [(2, .int (nI (i + 1))), (0, .ref o), (1, .int (nI 2))]) X dX1_init_40 0 rfl (nI_1 _) (by decide) rfl ?_
        refine x_goto 18 X dX1_init_43 (by decide) ?_
        have hh := ih (i + 1) ad' (va_up f i (some (a1 0))) (by omega) (by omega) (fun j hj => by
          by_cases e : j = i
          · subst e; rw [va_up_self, ha1]
          · rw [va_up_ne _ _ e, hf j (by omega), had]; simp [e])
        rw [show 1 + 5 * (i + 1) = 1 + 5 * i + 1 + 4 by omega, show 2 + 73 * (i + 1) = 2 + 73 * i + 6 + 67 by omega] at hh
        refine x_perm (ws := xJ [wOb G o 1 [.ref q, .int (nI 0), .int (nI 0)], wQA G q 2 (va_up f i (some (a1 0))), wCq G a1 zS, wCs G (ad') (fun _ => zS) (i)]) X ?_ hh
        rw [wCs_s, ← ha1, xJ_eq, xJ_eq]
        simp only [List.flatten_cons, List.flatten_nil, List.append_nil, List.append_assoc]
        exact List.Perm.append_left _ (List.Perm.append_left _ List.perm_append_comm)
  exact x_wst (ws' := xJ [wOb G o 1 [.ref q, .int (nI 0), .int (nI 0)], wQA G q 2 (fun _ => none), wCs G (fun _ _ => 0) (fun _ => zS) (0)]) (st' := []) rfl rfl (L _ 0 (fun _ _ => 0) (fun _ => none) (Nat.lt_succ_self _) (by omega) (fun j hj => absurd hj (Nat.not_lt_zero _)))

