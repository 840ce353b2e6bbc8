/-! ===== the shelves ===== -/
def wCsN (G : xG) (ad : Nat → Nat → Nat) (cs : Nat → xS) (js : List Nat) : va_W := js.flatMap (fun j => wCq G (ad j) (cs j))
/-- the n Chanceries of a shelf -/
def wCs (G : xG) (ad : Nat → Nat → Nat) (cs : Nat → xS) (n : Nat) : va_W := wCsN G ad cs (List.range n)
/-- all but one -/
def wCo (G : xG) (ad : Nat → Nat → Nat) (cs : Nat → xS) (n j : Nat) : va_W := wCsN G ad cs ((List.range n).erase j)
theorem skCs (G : xG) (ad : Nat → Nat → Nat) (cs : Nat → xS) (n : Nat) : (wCs G ad cs n).map Prod.fst = (List.range n).flatMap (fun j => [ad j 0, ad j 1, ad j 2, ad j 3, ad j 4]) := by
  simp only [wCs, wCsN, List.map_flatMap, List.map_cons, List.map_nil, wCq, wCh]
theorem cut_cs {G : xG} {ad : Nat → Nat → Nat} {cs : Nat → xS} {n j : Nat} (hj : j < n) : (wCs G ad cs n).Perm (wCq G (ad j) (cs j) ++ wCo G ad cs n j) := by
  have h : (List.range n).Perm (j :: (List.range n).erase j) := List.perm_cons_erase (List.mem_range.mpr hj)
  exact h.flatMap_right (fun j => wCq G (ad j) (cs j))
theorem put_co {G : xG} {ad : Nat → Nat → Nat} {cs : Nat → xS} {n j : Nat} {s : xS} : wCo G ad (updS cs j s) n j = wCo G ad cs n j := by
  simp only [wCo, wCsN, List.flatMap_def]
  congr 1
  apply List.map_congr_left
  intro i hi
  have hne : i ≠ j := fun e => by
    subst e
    exact (List.Nodup.not_mem_erase (List.nodup_range)) hi
  simp [updS, hne]
theorem put_cs {G : xG} {ad : Nat → Nat → Nat} {cs : Nat → xS} {n j : Nat} {s : xS} (hj : j < n) : (wCs G ad (updS cs j s) n).Perm (wCq G (ad j) s ++ wCo G ad cs n j) := by
  have h := cut_cs (G := G) (ad := ad) (cs := updS cs j s) hj
  rw [put_co] at h
  have e : updS cs j s j = s := by simp [updS]
  rw [e] at h
  exact h

set_option maxRecDepth 100000 in
set_option maxHeartbeats 4000000 in
/-- X1_size__8 -/
theorem c_X1_size__8 (l : Launch) (G : xG) (a : Nat → Nat) (ad : Nat → Nat → Nat) (lw : Nat) (sz : Nat)  : xM l G xE0 yX1_size cX1_size 1 (some .int) 0 0 0 0 [.ref (a 0)] (wSh8 G a ad lw sz) (some (.int (nI sz))) (fun w2 => w2 = wSh8 G a ad lw sz) := by
  refine x_entry (by decide +kernel) (Nat.le_of_ble_eq_true rfl) rfl ⟨_, rfl, rfl⟩ (fun K X => ?_)
  refine x_aloadn X dX1_size_0 0 rfl ?_
  refine x_get X wu_X1 0 rfl rfl 2 (by decide) wf_X1_22 rfl rfl dX1_size_1 ?_
  exact x_ret X dX1_size_4 ⟨rfl, rfl, by decide, by decide⟩
set_option maxRecDepth 100000 in
set_option maxHeartbeats 4000000 in
/-- X1_clear__8 -/
theorem c_X1_clear__8 (l : Launch) (G : xG) (a : Nat → Nat) (ad : Nat → Nat → Nat) (lw : Nat) (sz : Nat)  : xM l G xE0 yX1_clear cX1_clear 1 none 0 0 0 0 [.ref (a 0)] (wSh8 G a ad lw sz) none (fun w2 => w2 = wSh8 G a ad lw 0) := by
  refine x_entry (by decide +kernel) (Nat.le_of_ble_eq_true rfl) rfl rfl (fun K X => ?_)
  refine x_aloadn X dX1_clear_0 0 rfl ?_
  refine x_iconst (v := nI 0) X dX1_clear_1 (by decide) ?_
  refine x_put (ws' := wSh8 G a ad lw 0) (ty := tyX1 2) X wu_X1 tyX1_ok nmX1 0 rfl rfl 2 (by decide) wf_X1_22 rfl rfl (by decide +kernel) rfl rfl (Nat.le_of_ble_eq_true rfl) rfl dX1_clear_2 ?_
  exact x_retv X dX1_clear_5 ⟨rfl, rfl, by decide, by decide⟩
set_option maxRecDepth 100000 in
set_option maxHeartbeats 4000000 in
/-- X1_placeAbove__8 -/
theorem c_X1_placeAbove__8 (l : Launch) (G : xG) (a : Nat → Nat) (ad : Nat → Nat → Nat) (lw : Nat) (sz : Nat) (x : Nat) (hx : x ≤ 8) (hlw : lw ≤ 8) : xM l G xE0 yX1_placeAbove cX1_placeAbove 3 (some (.object "OtherSideInk$Chancery")) 1 21 0 0 [.ref (a 0), .int (nI x)] (wSh8 G a ad lw sz) (some (.ref ((ad ((lw + x) % 8)) 0))) (fun w2 => w2 = wSh8 G a ad lw sz) := by
  refine x_entry (by decide +kernel) (Nat.le_of_ble_eq_true rfl) rfl ⟨_, rfl⟩ (fun K X => ?_)
  have hm : (lw + x) % 8 < 8 := Nat.mod_lt _ (by decide)
  refine x_aloadn X dX1_placeAbove_0 0 rfl ?_
  refine x_get X wu_X1 0 rfl rfl 1 (by decide) wf_X1_34 rfl rfl dX1_placeAbove_1 ?_
  refine x_iloadn X dX1_placeAbove_4 1 rfl ?_
  refine x_iadd (v := nI (lw + x)) X dX1_placeAbove_5 (nI_add _ _) ?_
  refine x_aloadn X dX1_placeAbove_6 0 rfl ?_
  refine x_get X wu_X1 0 rfl rfl 0 (by decide) wf_X1_15 rfl rfl dX1_placeAbove_7 ?_
  refine x_alenq X 1 rfl dX1_placeAbove_10 ?_
  refine x_callNrv (As := [.int (nI (lw + x)), .int (nI 8)]) (rest := []) X (c_X4_remainder l G (lw + x) 8 (by omega) (by omega) (by omega)) xE0_ok (fun _ _ _ => trivial) [] rfl rfl rfl wco_X4_remainder wi_X4 xd_X4_remainder wn_X1_37 wst_X4_remainder (by decide) (Nat.le_of_ble_eq_true rfl) dX1_placeAbove_11 ?_
  refine x_istoren (lv' := [(2, .int (nI ((lw + x) % 8))), (0, .ref (a 0)), (1, .int (nI x))]) X dX1_placeAbove_14 (by decide) rfl ?_
  refine x_iloadn X dX1_placeAbove_15 0 rfl ?_
  refine x_if_lt_n 37 X dX1_placeAbove_16 (by decide) (by omega) (fun c_1 => ?_) (fun c_1 => ?_)
  · -- 16 t
    exact absurd c_1 (by omega)
  · -- 16 f
    refine x_iloadn X dX1_placeAbove_19 0 rfl ?_
    refine x_aloadn X dX1_placeAbove_20 1 rfl ?_
    refine x_get X wu_X1 0 rfl rfl 0 (by decide) wf_X1_15 rfl rfl dX1_placeAbove_21 ?_
    refine x_alenq X 1 rfl dX1_placeAbove_24 ?_
    refine x_icmp_ge_n 37 X dX1_placeAbove_25 (by decide) (by omega) (by omega) (fun c_2 => ?_) (fun c_2 => ?_)
    · -- 25 t
      exact absurd c_2 (by omega)
    · -- 25 f
      refine x_aloadn X dX1_placeAbove_28 1 rfl ?_
      refine x_get X wu_X1 0 rfl rfl 0 (by decide) wf_X1_15 rfl rfl dX1_placeAbove_29 ?_
      refine x_iloadn X dX1_placeAbove_32 0 rfl ?_
      refine x_aald_n (v := .ref ((ad ((lw + x) % 8)) 0)) X 1 rfl (by omega) (by omega) rfl dX1_placeAbove_33 ?_
      refine x_goto 38 X dX1_placeAbove_34 (by decide) ?_
      exact x_ret X dX1_placeAbove_38 ⟨rfl, rfl, by decide, by decide⟩
set_option maxRecDepth 100000 in
set_option maxHeartbeats 4000000 in
/-- X1_push__8 -/
theorem c_X1_push__8 (l : Launch) (G : xG) (a : Nat → Nat) (ad : Nat → Nat → Nat) (lw : Nat) (sz : Nat) (b : Nat → Nat) (s : xS) (cs : Nat → xS) (hlw : lw < 8) (hsz : sz ≤ 8) : xM l G xE0 yX1_push cX1_push 3 none 3 72 0 0 [.ref (a 0), .ref (b 0)] (xJ [wSh8 G a ad lw sz, wCq G b s, wCs G ad cs 8]) none (fun w2 => w2 = xJ [wSh8 G a ad (if sz < 8 then lw else (lw + 1) % 8) (if sz < 8 then sz + 1 else sz), wCq G b s, wCs G ad (updS cs ((lw + sz) % 8) s) 8]) := by
  refine x_entry (by decide +kernel) (Nat.le_of_ble_eq_true rfl) rfl rfl (fun K X => ?_)
  refine x_aloadn X dX1_push_0 0 rfl ?_
  refine x_aloadn X dX1_push_1 0 rfl ?_
  refine x_get X wu_X1 0 rfl rfl 2 (by decide) wf_X1_22 rfl rfl dX1_push_2 ?_
  refine x_callVJrv (As := [.int (nI sz)]) (rest := []) (segs := [wSh8 G a ad lw sz, wCq G b s, wCs G ad cs 8]) [0] [1, 2] (show ([0] ++ [1, 2] : List Nat).Perm (List.range 3) from by decide) X (c_X1_placeAbove__8 l G a ad lw sz sz (by omega) (by omega)) rfl xE0_ok (fun _ _ _ => trivial) 0 rfl rfl rfl wco_X1_placeAbove wi_X1 xd_X1_placeAbove wl_X1_26 win_X1_placeAbove wse_X1_placeAbove (by decide) (Nat.le_of_ble_eq_true rfl) dX1_push_5 ?_
  obtain ⟨j, ej⟩ : ∃ j : Nat, j = (lw + sz) % 8 := ⟨_, rfl⟩
  have hj : j < 8 := by rw [ej]; exact Nat.mod_lt _ (by decide)
  rw [← ej]
  refine x_perm (ws' := xJ [wSh8 G a ad lw sz, wCq G b s, wCq G (ad j) (cs j), wCo G ad cs 8 j]) X (List.Perm.append_left _ (List.Perm.append_left _ (cut_cs hj))) ?_
  refine x_astoren (lv' := [(2, .ref ((ad j) 0)), (0, .ref (a 0)), (1, .ref (b 0))]) X dX1_push_8 (by decide) rfl ?_
  refine x_aloadn X dX1_push_9 0 rfl ?_
  refine x_ifnonnull 14 X dX1_push_10 (by decide) ?_
  refine x_aloadn X dX1_push_14 0 rfl ?_
  refine x_aloadn X dX1_push_15 2 rfl ?_
  refine x_callVJf0 (As := [.ref (b 0)]) (rest := []) (segs := [wSh8 G a ad lw sz, wCq G b s, wCq G (ad j) (cs j), wCo G ad cs 8 j]) (segs' := [wSh8 G a ad lw sz, wCh G b s.1 s.2.1 s.2.2.1 s.2.2.2.1 s.2.2.2.2.1 s.2.2.2.2.2, wCh G (ad j) s.1 s.2.1 s.2.2.1 s.2.2.2.1 s.2.2.2.2.1 s.2.2.2.2.2, wCo G ad cs 8 j]) (mid := [wSh8 G a ad lw sz, wCo G ad cs 8 j]) (w1 := xJ [wCh G (ad j) s.1 s.2.1 s.2.2.1 s.2.2.2.1 s.2.2.2.2.1 s.2.2.2.2.2, wCh G b s.1 s.2.1 s.2.2.1 s.2.2.2.1 s.2.2.2.2.1 s.2.2.2.2.2]) [2, 1] [0, 3] (show ([2, 1] ++ [0, 3] : List Nat).Perm (List.range 4) from by decide) rfl X (c_X0_becomeLike l G (ad j) ((cs j).1) ((cs j).2.1) ((cs j).2.2.1) ((cs j).2.2.2.1) ((cs j).2.2.2.2.1) ((cs j).2.2.2.2.2) b s.1 s.2.1 s.2.2.1 s.2.2.2.1 s.2.2.2.2.1 s.2.2.2.2.2) rfl rfl rfl rfl xE0_ok (fun _ _ _ => trivial) 0 rfl rfl rfl wco_X0_becomeLike wi_X0 xd_X0_becomeLike wl_X1_30 win_X0_becomeLike wse_X0_becomeLike (by decide) (Nat.le_of_ble_eq_true rfl) dX1_push_16 (Eq.trans (b := [(ad j) 0, (ad j) 1, (ad j) 2, (ad j) 3, (ad j) 4, b 0, b 1, b 2, b 3, b 4]) rfl rfl) ?_
  refine x_aloadn X dX1_push_19 1 rfl ?_
  refine x_get X wu_X1 0 rfl rfl 2 (by decide) wf_X1_22 rfl rfl dX1_push_20 ?_
  refine x_aloadn X dX1_push_23 1 rfl ?_
  refine x_get X wu_X1 0 rfl rfl 0 (by decide) wf_X1_15 rfl rfl dX1_push_24 ?_
  refine x_alenq X 1 rfl dX1_push_27 ?_
  refine x_icmp_ge_n 44 X dX1_push_28 (by decide) (by omega) (by omega) (fun c_1 => ?_) (fun c_1 => ?_)
  · -- 28 t
    have n_1 := Nat.not_lt.mpr c_1
    refine x_aloadn X dX1_push_44 1 rfl ?_
    refine x_aloadn X dX1_push_45 1 rfl ?_
    refine x_get X wu_X1 0 rfl rfl 1 (by decide) wf_X1_34 rfl rfl dX1_push_46 ?_
    refine x_iconst (v := nI 1) X dX1_push_49 (by decide) ?_
    refine x_iadd (v := nI (lw + 1)) X dX1_push_50 (nI_add _ _) ?_
    refine x_aloadn X dX1_push_51 1 rfl ?_
    refine x_get X wu_X1 0 rfl rfl 0 (by decide) wf_X1_15 rfl rfl dX1_push_52 ?_
    refine x_alenq X 1 rfl dX1_push_55 ?_
    refine x_callNrv (As := [.int (nI (lw + 1)), .int (nI 8)]) (rest := [.ref (a 0)]) X (c_X4_remainder l G (lw + 1) 8 (by omega) (by omega) (by omega)) xE0_ok (fun _ _ _ => trivial) [] rfl rfl rfl wco_X4_remainder wi_X4 xd_X4_remainder wn_X1_37 wst_X4_remainder (by decide) (Nat.le_of_ble_eq_true rfl) dX1_push_56 ?_
    refine x_put (ws' := xJ [wSh8 G a ad ((lw + 1) % 8) sz, wCh G b s.1 s.2.1 s.2.2.1 s.2.2.2.1 s.2.2.2.2.1 s.2.2.2.2.2, wCh G (ad j) s.1 s.2.1 s.2.2.1 s.2.2.2.1 s.2.2.2.2.1 s.2.2.2.2.2, wCo G ad cs 8 j]) (ty := tyX1 1) X wu_X1 tyX1_ok nmX1 0 rfl rfl 1 (by decide) wf_X1_34 rfl rfl (by decide +kernel) rfl rfl (Nat.le_of_ble_eq_true rfl) rfl dX1_push_59 ?_
    refine x_perm (ws' := xJ [wSh8 G a ad ((lw + 1) % 8) sz, wCh G b s.1 s.2.1 s.2.2.1 s.2.2.2.1 s.2.2.2.2.1 s.2.2.2.2.2, wCs G ad (updS cs j s) 8]) X (List.Perm.append_left _ (List.Perm.append_left _ (put_cs hj).symm)) ?_
    exact x_retv X dX1_push_62 ⟨rfl, (by rw [← ej]; first | rw [if_pos (by omega), if_pos (by omega)] | rw [if_neg (by omega), if_neg (by omega)]), by decide, by decide⟩
  · -- 28 f
    refine x_aloadn X dX1_push_31 1 rfl ?_
    refine x_dup X dX1_push_32 rfl ?_
    refine x_get X wu_X1 0 rfl rfl 2 (by decide) wf_X1_22 rfl rfl dX1_push_33 ?_
    refine x_iconst (v := nI 1) X dX1_push_36 (by decide) ?_
    refine x_iadd (v := nI (sz + 1)) X dX1_push_37 (nI_add _ _) ?_
    refine x_put (ws' := xJ [wSh8 G a ad lw (sz + 1), wCh G b s.1 s.2.1 s.2.2.1 s.2.2.2.1 s.2.2.2.2.1 s.2.2.2.2.2, wCh G (ad j) s.1 s.2.1 s.2.2.1 s.2.2.2.1 s.2.2.2.2.1 s.2.2.2.2.2, wCo G ad cs 8 j]) (ty := tyX1 2) X wu_X1 tyX1_ok nmX1 0 rfl rfl 2 (by decide) wf_X1_22 rfl rfl (by decide +kernel) rfl rfl (Nat.le_of_ble_eq_true rfl) rfl dX1_push_38 ?_
    refine x_goto 62 X dX1_push_41 (by decide) ?_
    refine x_perm (ws' := xJ [wSh8 G a ad lw (sz + 1), wCh G b s.1 s.2.1 s.2.2.1 s.2.2.2.1 s.2.2.2.2.1 s.2.2.2.2.2, wCs G ad (updS cs j s) 8]) X (List.Perm.append_left _ (List.Perm.append_left _ (put_cs hj).symm)) ?_
    exact x_retv X dX1_push_62 ⟨rfl, (by rw [← ej]; first | rw [if_pos (by omega), if_pos (by omega)] | rw [if_neg (by omega), if_neg (by omega)]), by decide, by decide⟩
set_option maxRecDepth 100000 in
set_option maxHeartbeats 4000000 in
/-- X1_popInto__80 -/
theorem c_X1_popInto__80 (l : Launch) (G : xG) (a : Nat → Nat) (ad : Nat → Nat → Nat) (lw : Nat) (b : Nat → Nat) (s : xS)  : xM l G xE0 yX1_popInto cX1_popInto 3 (some .boolean) 0 0 0 0 [.ref (a 0), .ref (b 0)] (xJ [wSh8 G a ad lw 0, wCq G b s]) (some (.int (bI false))) (fun w2 => w2 = xJ [wSh8 G a ad lw 0, wCq G b s]) := by
  refine x_entry (by decide +kernel) (Nat.le_of_ble_eq_true rfl) rfl ⟨_, rfl, bI_narrow _⟩ (fun K X => ?_)
  refine x_aloadn X dX1_popInto_0 0 rfl ?_
  refine x_get X wu_X1 0 rfl rfl 2 (by decide) wf_X1_22 rfl rfl dX1_popInto_1 ?_
  refine x_if_le_n 20 X dX1_popInto_4 (by decide) (by omega) (fun c_1 => ?_) (fun c_1 => ?_)
  · -- 4 t
    refine x_null X dX1_popInto_20 ?_
    refine x_astorenN (lv' := [(2, .null), (0, .ref (a 0)), (1, .ref (b 0))]) X dX1_popInto_21 (by decide) rfl ?_
    refine x_aloadnN X dX1_popInto_22 0 rfl ?_
    refine x_ifnonnullN X dX1_popInto_23 ?_
    refine x_iconst (v := nI 0) X dX1_popInto_26 (by decide) ?_
    exact x_ret X dX1_popInto_27 ⟨ret_i (by rfl), rfl, by decide, by decide⟩
  · -- 4 f
    exact absurd c_1 (by omega)
set_option maxRecDepth 100000 in
set_option maxHeartbeats 4000000 in
/-- X1_popInto__8 -/
theorem c_X1_popInto__8 (l : Launch) (G : xG) (a : Nat → Nat) (ad : Nat → Nat → Nat) (lw : Nat) (sz : Nat) (b : Nat → Nat) (s : xS) (cs : Nat → xS) (hlw : lw < 8) (hsz : sz ≤ 8) (h0 : 0 < sz) : xM l G xE0 yX1_popInto cX1_popInto 3 (some .boolean) 3 72 0 0 [.ref (a 0), .ref (b 0)] (xJ [wSh8 G a ad lw sz, wCq G b s, wCs G ad cs 8]) (some (.int (bI true))) (fun w2 => w2 = xJ [wSh8 G a ad lw (sz - 1), wCq G b (cs ((lw + (sz - 1)) % 8)), wCs G ad cs 8]) := by
  refine x_entry (by decide +kernel) (Nat.le_of_ble_eq_true rfl) rfl ⟨_, rfl, bI_narrow _⟩ (fun K X => ?_)
  refine x_aloadn X dX1_popInto_0 0 rfl ?_
  refine x_get X wu_X1 0 rfl rfl 2 (by decide) wf_X1_22 rfl rfl dX1_popInto_1 ?_
  refine x_if_le_n 20 X dX1_popInto_4 (by decide) (by omega) (fun c_1 => ?_) (fun c_1 => ?_)
  · -- 4 t
    exact absurd c_1 (by omega)
  · -- 4 f
    refine x_aloadn X dX1_popInto_7 0 rfl ?_
    refine x_aloadn X dX1_popInto_8 0 rfl ?_
    refine x_get X wu_X1 0 rfl rfl 2 (by decide) wf_X1_22 rfl rfl dX1_popInto_9 ?_
    refine x_iconst (v := nI 1) X dX1_popInto_12 (by decide) ?_
    refine x_isub (v := nI (sz - 1)) X dX1_popInto_13 (pk_sub (by omega)) ?_
    refine x_callVJrv (As := [.int (nI (sz - 1))]) (rest := []) (segs := [wSh8 G a ad lw sz, wCq G b s, wCs G ad cs 8]) [0] [1, 2] (show ([0] ++ [1, 2] : List Nat).Perm (List.range 3) from by decide) X (c_X1_placeAbove__8 l G a ad lw sz (sz - 1) (by omega) (by omega)) rfl xE0_ok (fun _ _ _ => trivial) 0 rfl rfl rfl wco_X1_placeAbove wi_X1 xd_X1_placeAbove wl_X1_26 win_X1_placeAbove wse_X1_placeAbove (by decide) (Nat.le_of_ble_eq_true rfl) dX1_popInto_14 ?_
    obtain ⟨j, ej⟩ : ∃ j : Nat, j = (lw + (sz - 1)) % 8 := ⟨_, rfl⟩
    have hj : j < 8 := by rw [ej]; exact Nat.mod_lt _ (by decide)
    rw [← ej]
    refine x_perm (ws' := xJ [wSh8 G a ad lw sz, wCq G b s, wCq G (ad j) (cs j), wCo G ad cs 8 j]) X (List.Perm.append_left _ (List.Perm.append_left _ (cut_cs hj))) ?_
    refine x_goto 21 X dX1_popInto_17 (by decide) ?_
    refine x_astoren (lv' := [(2, .ref ((ad j) 0)), (0, .ref (a 0)), (1, .ref (b 0))]) X dX1_popInto_21 (by decide) rfl ?_
    refine x_aloadn X dX1_popInto_22 0 rfl ?_
    refine x_ifnonnull 28 X dX1_popInto_23 (by decide) ?_
    refine x_aloadn X dX1_popInto_28 2 rfl ?_
    refine x_aloadn X dX1_popInto_29 0 rfl ?_
    refine x_callVJf0 (As := [.ref ((ad j) 0)]) (rest := []) (segs := [wSh8 G a ad lw sz, wCq G b s, wCq G (ad j) (cs j), wCo G ad cs 8 j]) (segs' := [wSh8 G a ad lw sz, wCh G b ((cs j).1) ((cs j).2.1) ((cs j).2.2.1) ((cs j).2.2.2.1) ((cs j).2.2.2.2.1) ((cs j).2.2.2.2.2), wCh G (ad j) ((cs j).1) ((cs j).2.1) ((cs j).2.2.1) ((cs j).2.2.2.1) ((cs j).2.2.2.2.1) ((cs j).2.2.2.2.2), wCo G ad cs 8 j]) (mid := [wSh8 G a ad lw sz, wCo G ad cs 8 j]) (w1 := xJ [wCh G b ((cs j).1) ((cs j).2.1) ((cs j).2.2.1) ((cs j).2.2.2.1) ((cs j).2.2.2.2.1) ((cs j).2.2.2.2.2), wCh G (ad j) ((cs j).1) ((cs j).2.1) ((cs j).2.2.1) ((cs j).2.2.2.1) ((cs j).2.2.2.2.1) ((cs j).2.2.2.2.2)]) [1, 2] [0, 3] (show ([1, 2] ++ [0, 3] : List Nat).Perm (List.range 4) from by decide) rfl X (c_X0_becomeLike l G b s.1 s.2.1 s.2.2.1 s.2.2.2.1 s.2.2.2.2.1 s.2.2.2.2.2 (ad j) ((cs j).1) ((cs j).2.1) ((cs j).2.2.1) ((cs j).2.2.2.1) ((cs j).2.2.2.2.1) ((cs j).2.2.2.2.2)) rfl rfl rfl rfl xE0_ok (fun _ _ _ => trivial) 0 rfl rfl rfl wco_X0_becomeLike wi_X0 xd_X0_becomeLike wl_X1_30 win_X0_becomeLike wse_X0_becomeLike (by decide) (Nat.le_of_ble_eq_true rfl) dX1_popInto_30 (Eq.trans (b := [b 0, b 1, b 2, b 3, b 4, (ad j) 0, (ad j) 1, (ad j) 2, (ad j) 3, (ad j) 4]) rfl rfl) ?_
    refine x_aloadn X dX1_popInto_33 1 rfl ?_
    refine x_dup X dX1_popInto_34 rfl ?_
    refine x_get X wu_X1 0 rfl rfl 2 (by decide) wf_X1_22 rfl rfl dX1_popInto_35 ?_
    refine x_iconst (v := nI 1) X dX1_popInto_38 (by decide) ?_
    refine x_isub (v := nI (sz - 1)) X dX1_popInto_39 (pk_sub (by omega)) ?_
    refine x_put (ws' := xJ [wSh8 G a ad lw (sz - 1), wCh G b ((cs j).1) ((cs j).2.1) ((cs j).2.2.1) ((cs j).2.2.2.1) ((cs j).2.2.2.2.1) ((cs j).2.2.2.2.2), wCh G (ad j) ((cs j).1) ((cs j).2.1) ((cs j).2.2.1) ((cs j).2.2.2.1) ((cs j).2.2.2.2.1) ((cs j).2.2.2.2.2), wCo G ad cs 8 j]) (ty := tyX1 2) X wu_X1 tyX1_ok nmX1 0 rfl rfl 2 (by decide) wf_X1_22 rfl rfl (by decide +kernel) rfl rfl (Nat.le_of_ble_eq_true rfl) rfl dX1_popInto_40 ?_
    refine x_iconst (v := nI 1) X dX1_popInto_43 (by decide) ?_
    refine x_perm (ws' := xJ [wSh8 G a ad lw (sz - 1), wCh G b ((cs j).1) ((cs j).2.1) ((cs j).2.2.1) ((cs j).2.2.2.1) ((cs j).2.2.2.2.1) ((cs j).2.2.2.2.2), wCs G ad cs 8]) X (List.Perm.append_left _ (List.Perm.append_left _ (cut_cs hj).symm)) ?_
    exact x_ret X dX1_popInto_44 ⟨ret_i (by rfl), (by rw [← ej]), by decide, by decide⟩
set_option maxRecDepth 100000 in
set_option maxHeartbeats 4000000 in
/-- X1_size__2 -/
theorem c_X1_size__2 (l : Launch) (G : xG) (a : Nat → Nat) (ad : Nat → Nat → Nat) (lw : Nat) (sz : Nat)  : xM l G xE0 yX1_size cX1_size 1 (some .int) 0 0 0 0 [.ref (a 0)] (wSh2 G a ad lw sz) (some (.int (nI sz))) (fun w2 => w2 = wSh2 G a ad lw sz) := by
  refine x_entry (by decide +kernel) (Nat.le_of_ble_eq_true rfl) rfl ⟨_, rfl, rfl⟩ (fun K X => ?_)
  refine x_aloadn X dX1_size_0 0 rfl ?_
  refine x_get X wu_X1 0 rfl rfl 2 (by decide) wf_X1_22 rfl rfl dX1_size_1 ?_
  exact x_ret X dX1_size_4 ⟨rfl, rfl, by decide, by decide⟩
set_option maxRecDepth 100000 in
set_option maxHeartbeats 4000000 in
/-- X1_clear__2 -/
theorem c_X1_clear__2 (l : Launch) (G : xG) (a : Nat → Nat) (ad : Nat → Nat → Nat) (lw : Nat) (sz : Nat)  : xM l G xE0 yX1_clear cX1_clear 1 none 0 0 0 0 [.ref (a 0)] (wSh2 G a ad lw sz) none (fun w2 => w2 = wSh2 G a ad lw 0) := by
  refine x_entry (by decide +kernel) (Nat.le_of_ble_eq_true rfl) rfl rfl (fun K X => ?_)
  refine x_aloadn X dX1_clear_0 0 rfl ?_
  refine x_iconst (v := nI 0) X dX1_clear_1 (by decide) ?_
  refine x_put (ws' := wSh2 G a ad lw 0) (ty := tyX1 2) X wu_X1 tyX1_ok nmX1 0 rfl rfl 2 (by decide) wf_X1_22 rfl rfl (by decide +kernel) rfl rfl (Nat.le_of_ble_eq_true rfl) rfl dX1_clear_2 ?_
  exact x_retv X dX1_clear_5 ⟨rfl, rfl, by decide, by decide⟩
set_option maxRecDepth 100000 in
set_option maxHeartbeats 4000000 in
/-- X1_placeAbove__2 -/
theorem c_X1_placeAbove__2 (l : Launch) (G : xG) (a : Nat → Nat) (ad : Nat → Nat → Nat) (lw : Nat) (sz : Nat) (x : Nat) (hx : x ≤ 8) (hlw : lw ≤ 8) : xM l G xE0 yX1_placeAbove cX1_placeAbove 3 (some (.object "OtherSideInk$Chancery")) 1 21 0 0 [.ref (a 0), .int (nI x)] (wSh2 G a ad lw sz) (some (.ref ((ad ((lw + x) % 2)) 0))) (fun w2 => w2 = wSh2 G a ad lw sz) := by
  refine x_entry (by decide +kernel) (Nat.le_of_ble_eq_true rfl) rfl ⟨_, rfl⟩ (fun K X => ?_)
  have hm : (lw + x) % 2 < 2 := Nat.mod_lt _ (by decide)
  refine x_aloadn X dX1_placeAbove_0 0 rfl ?_
  refine x_get X wu_X1 0 rfl rfl 1 (by decide) wf_X1_34 rfl rfl dX1_placeAbove_1 ?_
  refine x_iloadn X dX1_placeAbove_4 1 rfl ?_
  refine x_iadd (v := nI (lw + x)) X dX1_placeAbove_5 (nI_add _ _) ?_
  refine x_aloadn X dX1_placeAbove_6 0 rfl ?_
  refine x_get X wu_X1 0 rfl rfl 0 (by decide) wf_X1_15 rfl rfl dX1_placeAbove_7 ?_
  refine x_alenq X 1 rfl dX1_placeAbove_10 ?_
  refine x_callNrv (As := [.int (nI (lw + x)), .int (nI 2)]) (rest := []) X (c_X4_remainder l G (lw + x) 2 (by omega) (by omega) (by omega)) xE0_ok (fun _ _ _ => trivial) [] rfl rfl rfl wco_X4_remainder wi_X4 xd_X4_remainder wn_X1_37 wst_X4_remainder (by decide) (Nat.le_of_ble_eq_true rfl) dX1_placeAbove_11 ?_
  refine x_istoren (lv' := [(2, .int (nI ((lw + x) % 2))), (0, .ref (a 0)), (1, .int (nI x))]) X dX1_placeAbove_14 (by decide) rfl ?_
  refine x_iloadn X dX1_placeAbove_15 0 rfl ?_
  refine x_if_lt_n 37 X dX1_placeAbove_16 (by decide) (by omega) (fun c_1 => ?_) (fun c_1 => ?_)
  · -- 16 t
    exact absurd c_1 (by omega)
  · -- 16 f
    refine x_iloadn X dX1_placeAbove_19 0 rfl ?_
    refine x_aloadn X dX1_placeAbove_20 1 rfl ?_
    refine x_get X wu_X1 0 rfl rfl 0 (by decide) wf_X1_15 rfl rfl dX1_placeAbove_21 ?_
    refine x_alenq X 1 rfl dX1_placeAbove_24 ?_
    refine x_icmp_ge_n 37 X dX1_placeAbove_25 (by decide) (by omega) (by omega) (fun c_2 => ?_) (fun c_2 => ?_)
    · -- 25 t
      exact absurd c_2 (by omega)
    · -- 25 f
      refine x_aloadn X dX1_placeAbove_28 1 rfl ?_
      refine x_get X wu_X1 0 rfl rfl 0 (by decide) wf_X1_15 rfl rfl dX1_placeAbove_29 ?_
      refine x_iloadn X dX1_placeAbove_32 0 rfl ?_
      refine x_aald_n (v := .ref ((ad ((lw + x) % 2)) 0)) X 1 rfl (by omega) (by omega) rfl dX1_placeAbove_33 ?_
      refine x_goto 38 X dX1_placeAbove_34 (by decide) ?_
      exact x_ret X dX1_placeAbove_38 ⟨rfl, rfl, by decide, by decide⟩
set_option maxRecDepth 100000 in
set_option maxHeartbeats 4000000 in
/-- X1_push__2 -/
theorem c_X1_push__2 (l : Launch) (G : xG) (a : Nat → Nat) (ad : Nat → Nat → Nat) (lw : Nat) (sz : Nat) (b : Nat → Nat) (s : xS) (cs : Nat → xS) (hlw : lw < 2) (hsz : sz ≤ 2) : xM l G xE0 yX1_push cX1_push 3 none 3 72 0 0 [.ref (a 0), .ref (b 0)] (xJ [wSh2 G a ad lw sz, wCq G b s, wCs G ad cs 2]) none (fun w2 => w2 = xJ [wSh2 G a ad (if sz < 2 then lw else (lw + 1) % 2) (if sz < 2 then sz + 1 else sz), wCq G b s, wCs G ad (updS cs ((lw + sz) % 2) s) 2]) := by
  refine x_entry (by decide +kernel) (Nat.le_of_ble_eq_true rfl) rfl rfl (fun K X => ?_)
  refine x_aloadn X dX1_push_0 0 rfl ?_
  refine x_aloadn X dX1_push_1 0 rfl ?_
  refine x_get X wu_X1 0 rfl rfl 2 (by decide) wf_X1_22 rfl rfl dX1_push_2 ?_
  refine x_callVJrv (As := [.int (nI sz)]) (rest := []) (segs := [wSh2 G a ad lw sz, wCq G b s, wCs G ad cs 2]) [0] [1, 2] (show ([0] ++ [1, 2] : List Nat).Perm (List.range 3) from by decide) X (c_X1_placeAbove__2 l G a ad lw sz sz (by omega) (by omega)) rfl xE0_ok (fun _ _ _ => trivial) 0 rfl rfl rfl wco_X1_placeAbove wi_X1 xd_X1_placeAbove wl_X1_26 win_X1_placeAbove wse_X1_placeAbove (by decide) (Nat.le_of_ble_eq_true rfl) dX1_push_5 ?_
  obtain ⟨j, ej⟩ : ∃ j : Nat, j = (lw + sz) % 2 := ⟨_, rfl⟩
  have hj : j < 2 := by rw [ej]; exact Nat.mod_lt _ (by decide)
  rw [← ej]
  refine x_perm (ws' := xJ [wSh2 G a ad lw sz, wCq G b s, wCq G (ad j) (cs j), wCo G ad cs 2 j]) X (List.Perm.append_left _ (List.Perm.append_left _ (cut_cs hj))) ?_
  refine x_astoren (lv' := [(2, .ref ((ad j) 0)), (0, .ref (a 0)), (1, .ref (b 0))]) X dX1_push_8 (by decide) rfl ?_
  refine x_aloadn X dX1_push_9 0 rfl ?_
  refine x_ifnonnull 14 X dX1_push_10 (by decide) ?_
  refine x_aloadn X dX1_push_14 0 rfl ?_
  refine x_aloadn X dX1_push_15 2 rfl ?_
  refine x_callVJf0 (As := [.ref (b 0)]) (rest := []) (segs := [wSh2 G a ad lw sz, wCq G b s, wCq G (ad j) (cs j), wCo G ad cs 2 j]) (segs' := [wSh2 G a ad lw sz, wCh G b s.1 s.2.1 s.2.2.1 s.2.2.2.1 s.2.2.2.2.1 s.2.2.2.2.2, wCh G (ad j) s.1 s.2.1 s.2.2.1 s.2.2.2.1 s.2.2.2.2.1 s.2.2.2.2.2, wCo G ad cs 2 j]) (mid := [wSh2 G a ad lw sz, wCo G ad cs 2 j]) (w1 := xJ [wCh G (ad j) s.1 s.2.1 s.2.2.1 s.2.2.2.1 s.2.2.2.2.1 s.2.2.2.2.2, wCh G b s.1 s.2.1 s.2.2.1 s.2.2.2.1 s.2.2.2.2.1 s.2.2.2.2.2]) [2, 1] [0, 3] (show ([2, 1] ++ [0, 3] : List Nat).Perm (List.range 4) from by decide) rfl X (c_X0_becomeLike l G (ad j) ((cs j).1) ((cs j).2.1) ((cs j).2.2.1) ((cs j).2.2.2.1) ((cs j).2.2.2.2.1) ((cs j).2.2.2.2.2) b s.1 s.2.1 s.2.2.1 s.2.2.2.1 s.2.2.2.2.1 s.2.2.2.2.2) rfl rfl rfl rfl xE0_ok (fun _ _ _ => trivial) 0 rfl rfl rfl wco_X0_becomeLike wi_X0 xd_X0_becomeLike wl_X1_30 win_X0_becomeLike wse_X0_becomeLike (by decide) (Nat.le_of_ble_eq_true rfl) dX1_push_16 (Eq.trans (b := [(ad j) 0, (ad j) 1, (ad j) 2, (ad j) 3, (ad j) 4, b 0, b 1, b 2, b 3, b 4]) rfl rfl) ?_
  refine x_aloadn X dX1_push_19 1 rfl ?_
  refine x_get X wu_X1 0 rfl rfl 2 (by decide) wf_X1_22 rfl rfl dX1_push_20 ?_
  refine x_aloadn X dX1_push_23 1 rfl ?_
  refine x_get X wu_X1 0 rfl rfl 0 (by decide) wf_X1_15 rfl rfl dX1_push_24 ?_
  refine x_alenq X 1 rfl dX1_push_27 ?_
  refine x_icmp_ge_n 44 X dX1_push_28 (by decide) (by omega) (by omega) (fun c_1 => ?_) (fun c_1 => ?_)
  · -- 28 t
    have n_1 := Nat.not_lt.mpr c_1
    refine x_aloadn X dX1_push_44 1 rfl ?_
    refine x_aloadn X dX1_push_45 1 rfl ?_
    refine x_get X wu_X1 0 rfl rfl 1 (by decide) wf_X1_34 rfl rfl dX1_push_46 ?_
    refine x_iconst (v := nI 1) X dX1_push_49 (by decide) ?_
    refine x_iadd (v := nI (lw + 1)) X dX1_push_50 (nI_add _ _) ?_
    refine x_aloadn X dX1_push_51 1 rfl ?_
    refine x_get X wu_X1 0 rfl rfl 0 (by decide) wf_X1_15 rfl rfl dX1_push_52 ?_
    refine x_alenq X 1 rfl dX1_push_55 ?_
    refine x_callNrv (As := [.int (nI (lw + 1)), .int (nI 2)]) (rest := [.ref (a 0)]) X (c_X4_remainder l G (lw + 1) 2 (by omega) (by omega) (by omega)) xE0_ok (fun _ _ _ => trivial) [] rfl rfl rfl wco_X4_remainder wi_X4 xd_X4_remainder wn_X1_37 wst_X4_remainder (by decide) (Nat.le_of_ble_eq_true rfl) dX1_push_56 ?_
    refine x_put (ws' := xJ [wSh2 G a ad ((lw + 1) % 2) sz, wCh G b s.1 s.2.1 s.2.2.1 s.2.2.2.1 s.2.2.2.2.1 s.2.2.2.2.2, wCh G (ad j) s.1 s.2.1 s.2.2.1 s.2.2.2.1 s.2.2.2.2.1 s.2.2.2.2.2, wCo G ad cs 2 j]) (ty := tyX1 1) X wu_X1 tyX1_ok nmX1 0 rfl rfl 1 (by decide) wf_X1_34 rfl rfl (by decide +kernel) rfl rfl (Nat.le_of_ble_eq_true rfl) rfl dX1_push_59 ?_
    refine x_perm (ws' := xJ [wSh2 G a ad ((lw + 1) % 2) sz, wCh G b s.1 s.2.1 s.2.2.1 s.2.2.2.1 s.2.2.2.2.1 s.2.2.2.2.2, wCs G ad (updS cs j s) 2]) X (List.Perm.append_left _ (List.Perm.append_left _ (put_cs hj).symm)) ?_
    exact x_retv X dX1_push_62 ⟨rfl, (by rw [← ej]; first | rw [if_pos (by omega), if_pos (by omega)] | rw [if_neg (by omega), if_neg (by omega)]), by decide, by decide⟩
  · -- 28 f
    refine x_aloadn X dX1_push_31 1 rfl ?_
    refine x_dup X dX1_push_32 rfl ?_
    refine x_get X wu_X1 0 rfl rfl 2 (by decide) wf_X1_22 rfl rfl dX1_push_33 ?_
    refine x_iconst (v := nI 1) X dX1_push_36 (by decide) ?_
    refine x_iadd (v := nI (sz + 1)) X dX1_push_37 (nI_add _ _) ?_
    refine x_put (ws' := xJ [wSh2 G a ad lw (sz + 1), wCh G b s.1 s.2.1 s.2.2.1 s.2.2.2.1 s.2.2.2.2.1 s.2.2.2.2.2, wCh G (ad j) s.1 s.2.1 s.2.2.1 s.2.2.2.1 s.2.2.2.2.1 s.2.2.2.2.2, wCo G ad cs 2 j]) (ty := tyX1 2) X wu_X1 tyX1_ok nmX1 0 rfl rfl 2 (by decide) wf_X1_22 rfl rfl (by decide +kernel) rfl rfl (Nat.le_of_ble_eq_true rfl) rfl dX1_push_38 ?_
    refine x_goto 62 X dX1_push_41 (by decide) ?_
    refine x_perm (ws' := xJ [wSh2 G a ad lw (sz + 1), wCh G b s.1 s.2.1 s.2.2.1 s.2.2.2.1 s.2.2.2.2.1 s.2.2.2.2.2, wCs G ad (updS cs j s) 2]) X (List.Perm.append_left _ (List.Perm.append_left _ (put_cs hj).symm)) ?_
    exact x_retv X dX1_push_62 ⟨rfl, (by rw [← ej]; first | rw [if_pos (by omega), if_pos (by omega)] | rw [if_neg (by omega), if_neg (by omega)]), by decide, by decide⟩
set_option maxRecDepth 100000 in
set_option maxHeartbeats 4000000 in
/-- X1_popInto__20 -/
theorem c_X1_popInto__20 (l : Launch) (G : xG) (a : Nat → Nat) (ad : Nat → Nat → Nat) (lw : Nat) (b : Nat → Nat) (s : xS)  : xM l G xE0 yX1_popInto cX1_popInto 3 (some .boolean) 0 0 0 0 [.ref (a 0), .ref (b 0)] (xJ [wSh2 G a ad lw 0, wCq G b s]) (some (.int (bI false))) (fun w2 => w2 = xJ [wSh2 G a ad lw 0, wCq G b s]) := by
  refine x_entry (by decide +kernel) (Nat.le_of_ble_eq_true rfl) rfl ⟨_, rfl, bI_narrow _⟩ (fun K X => ?_)
  refine x_aloadn X dX1_popInto_0 0 rfl ?_
  refine x_get X wu_X1 0 rfl rfl 2 (by decide) wf_X1_22 rfl rfl dX1_popInto_1 ?_
  refine x_if_le_n 20 X dX1_popInto_4 (by decide) (by omega) (fun c_1 => ?_) (fun c_1 => ?_)
  · -- 4 t
    refine x_null X dX1_popInto_20 ?_
    refine x_astorenN (lv' := [(2, .null), (0, .ref (a 0)), (1, .ref (b 0))]) X dX1_popInto_21 (by decide) rfl ?_
    refine x_aloadnN X dX1_popInto_22 0 rfl ?_
    refine x_ifnonnullN X dX1_popInto_23 ?_
    refine x_iconst (v := nI 0) X dX1_popInto_26 (by decide) ?_
    exact x_ret X dX1_popInto_27 ⟨ret_i (by rfl), rfl, by decide, by decide⟩
  · -- 4 f
    exact absurd c_1 (by omega)
set_option maxRecDepth 100000 in
set_option maxHeartbeats 4000000 in
/-- X1_popInto__2 -/
theorem c_X1_popInto__2 (l : Launch) (G : xG) (a : Nat → Nat) (ad : Nat → Nat → Nat) (lw : Nat) (sz : Nat) (b : Nat → Nat) (s : xS) (cs : Nat → xS) (hlw : lw < 2) (hsz : sz ≤ 2) (h0 : 0 < sz) : xM l G xE0 yX1_popInto cX1_popInto 3 (some .boolean) 3 72 0 0 [.ref (a 0), .ref (b 0)] (xJ [wSh2 G a ad lw sz, wCq G b s, wCs G ad cs 2]) (some (.int (bI true))) (fun w2 => w2 = xJ [wSh2 G a ad lw (sz - 1), wCq G b (cs ((lw + (sz - 1)) % 2)), wCs G ad cs 2]) := by
  refine x_entry (by decide +kernel) (Nat.le_of_ble_eq_true rfl) rfl ⟨_, rfl, bI_narrow _⟩ (fun K X => ?_)
  refine x_aloadn X dX1_popInto_0 0 rfl ?_
  refine x_get X wu_X1 0 rfl rfl 2 (by decide) wf_X1_22 rfl rfl dX1_popInto_1 ?_
  refine x_if_le_n 20 X dX1_popInto_4 (by decide) (by omega) (fun c_1 => ?_) (fun c_1 => ?_)
  · -- 4 t
    exact absurd c_1 (by omega)
  · -- 4 f
    refine x_aloadn X dX1_popInto_7 0 rfl ?_
    refine x_aloadn X dX1_popInto_8 0 rfl ?_
    refine x_get X wu_X1 0 rfl rfl 2 (by decide) wf_X1_22 rfl rfl dX1_popInto_9 ?_
    refine x_iconst (v := nI 1) X dX1_popInto_12 (by decide) ?_
    refine x_isub (v := nI (sz - 1)) X dX1_popInto_13 (pk_sub (by omega)) ?_
    refine x_callVJrv (As := [.int (nI (sz - 1))]) (rest := []) (segs := [wSh2 G a ad lw sz, wCq G b s, wCs G ad cs 2]) [0] [1, 2] (show ([0] ++ [1, 2] : List Nat).Perm (List.range 3) from by decide) X (c_X1_placeAbove__2 l G a ad lw sz (sz - 1) (by omega) (by omega)) rfl xE0_ok (fun _ _ _ => trivial) 0 rfl rfl rfl wco_X1_placeAbove wi_X1 xd_X1_placeAbove wl_X1_26 win_X1_placeAbove wse_X1_placeAbove (by decide) (Nat.le_of_ble_eq_true rfl) dX1_popInto_14 ?_
    obtain ⟨j, ej⟩ : ∃ j : Nat, j = (lw + (sz - 1)) % 2 := ⟨_, rfl⟩
    have hj : j < 2 := by rw [ej]; exact Nat.mod_lt _ (by decide)
    rw [← ej]
    refine x_perm (ws' := xJ [wSh2 G a ad lw sz, wCq G b s, wCq G (ad j) (cs j), wCo G ad cs 2 j]) X (List.Perm.append_left _ (List.Perm.append_left _ (cut_cs hj))) ?_
    refine x_goto 21 X dX1_popInto_17 (by decide) ?_
    refine x_astoren (lv' := [(2, .ref ((ad j) 0)), (0, .ref (a 0)), (1, .ref (b 0))]) X dX1_popInto_21 (by decide) rfl ?_
    refine x_aloadn X dX1_popInto_22 0 rfl ?_
    refine x_ifnonnull 28 X dX1_popInto_23 (by decide) ?_
    refine x_aloadn X dX1_popInto_28 2 rfl ?_
    refine x_aloadn X dX1_popInto_29 0 rfl ?_
    refine x_callVJf0 (As := [.ref ((ad j) 0)]) (rest := []) (segs := [wSh2 G a ad lw sz, wCq G b s, wCq G (ad j) (cs j), wCo G ad cs 2 j]) (segs' := [wSh2 G a ad lw sz, wCh G b ((cs j).1) ((cs j).2.1) ((cs j).2.2.1) ((cs j).2.2.2.1) ((cs j).2.2.2.2.1) ((cs j).2.2.2.2.2), wCh G (ad j) ((cs j).1) ((cs j).2.1) ((cs j).2.2.1) ((cs j).2.2.2.1) ((cs j).2.2.2.2.1) ((cs j).2.2.2.2.2), wCo G ad cs 2 j]) (mid := [wSh2 G a ad lw sz, wCo G ad cs 2 j]) (w1 := xJ [wCh G b ((cs j).1) ((cs j).2.1) ((cs j).2.2.1) ((cs j).2.2.2.1) ((cs j).2.2.2.2.1) ((cs j).2.2.2.2.2), wCh G (ad j) ((cs j).1) ((cs j).2.1) ((cs j).2.2.1) ((cs j).2.2.2.1) ((cs j).2.2.2.2.1) ((cs j).2.2.2.2.2)]) [1, 2] [0, 3] (show ([1, 2] ++ [0, 3] : List Nat).Perm (List.range 4) from by decide) rfl X (c_X0_becomeLike l G b s.1 s.2.1 s.2.2.1 s.2.2.2.1 s.2.2.2.2.1 s.2.2.2.2.2 (ad j) ((cs j).1) ((cs j).2.1) ((cs j).2.2.1) ((cs j).2.2.2.1) ((cs j).2.2.2.2.1) ((cs j).2.2.2.2.2)) rfl rfl rfl rfl xE0_ok (fun _ _ _ => trivial) 0 rfl rfl rfl wco_X0_becomeLike wi_X0 xd_X0_becomeLike wl_X1_30 win_X0_becomeLike wse_X0_becomeLike (by decide) (Nat.le_of_ble_eq_true rfl) dX1_popInto_30 (Eq.trans (b := [b 0, b 1, b 2, b 3, b 4, (ad j) 0, (ad j) 1, (ad j) 2, (ad j) 3, (ad j) 4]) rfl rfl) ?_
    refine x_aloadn X dX1_popInto_33 1 rfl ?_
    refine x_dup X dX1_popInto_34 rfl ?_
    refine x_get X wu_X1 0 rfl rfl 2 (by decide) wf_X1_22 rfl rfl dX1_popInto_35 ?_
    refine x_iconst (v := nI 1) X dX1_popInto_38 (by decide) ?_
    refine x_isub (v := nI (sz - 1)) X dX1_popInto_39 (pk_sub (by omega)) ?_
    refine x_put (ws' := xJ [wSh2 G a ad lw (sz - 1), wCh G b ((cs j).1) ((cs j).2.1) ((cs j).2.2.1) ((cs j).2.2.2.1) ((cs j).2.2.2.2.1) ((cs j).2.2.2.2.2), wCh G (ad j) ((cs j).1) ((cs j).2.1) ((cs j).2.2.1) ((cs j).2.2.2.1) ((cs j).2.2.2.2.1) ((cs j).2.2.2.2.2), wCo G ad cs 2 j]) (ty := tyX1 2) X wu_X1 tyX1_ok nmX1 0 rfl rfl 2 (by decide) wf_X1_22 rfl rfl (by decide +kernel) rfl rfl (Nat.le_of_ble_eq_true rfl) rfl dX1_popInto_40 ?_
    refine x_iconst (v := nI 1) X dX1_popInto_43 (by decide) ?_
    refine x_perm (ws' := xJ [wSh2 G a ad lw (sz - 1), wCh G b ((cs j).1) ((cs j).2.1) ((cs j).2.2.1) ((cs j).2.2.2.1) ((cs j).2.2.2.2.1) ((cs j).2.2.2.2.2), wCs G ad cs 2]) X (List.Perm.append_left _ (List.Perm.append_left _ (cut_cs hj).symm)) ?_
    exact x_ret X dX1_popInto_44 ⟨ret_i (by rfl), (by rw [← ej]), by decide, by decide⟩
