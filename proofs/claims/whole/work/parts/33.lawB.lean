/-! ===== the law: each call of the script ===== -/
def xEL (tW q v : Nat) (w : Value) (b L : Nat) (xs : Nat → Int32) : xE := fun A U => xEW tW A U ∧ xES q v w A U ∧ (va_X b L xs U U.heap ∧ b < U.heap.size ∧ ¬ A b)
section XL
variable {l : Launch} {G : xG} {E : xE} {own nm : String} {cc : ByteArray} {nL : Nat} {R : Room} {Z : Option Value → va_W → Nat → Nat → Prop} {K : xKt} {ws : va_W} {k z pc : Nat} {lv : xL} {st : List Value}
theorem x_sld {b L j : Nat} {xs : Nat → Int32} (X : xR l G E own nm cc nL R Z K) (hX : ∀ A U, E A U → va_X b L xs U U.heap ∧ b < U.heap.size ∧ ¬ A b) (hj : j < L) (hL : L < 2 ^ 31) (hdg : decode cc pc = .ok (.iaload, 1)) (kk : K ws k z (pc + 1) lv (.int (xs j) :: st)) : K ws k z pc lv (.int (nI j) :: .ref b :: st) := by
  obtain ⟨p, e, s, m, args, below, meth, c, Q, A, hx, hb, hml, hown, hts, hK, hE, hA, hnm, rfl, hZ⟩ := X
  intro H locs ls hP hD hS hl
  obtain ⟨h1, h2, h3⟩ := hX _ _ hE
  refine va_sld hx hb h1 h2 h3 hS (vp_in_nI hj hL) hdg ?_
  rw [nI_clamp (by omega)]
  exact kk H locs ls hP hD hS hl
theorem x_slen {b L : Nat} {xs : Nat → Int32} (X : xR l G E own nm cc nL R Z K) (hX : ∀ A U, E A U → va_X b L xs U U.heap ∧ b < U.heap.size ∧ ¬ A b) (hdg : decode cc pc = .ok (.arraylength, 1)) (kk : K ws k z (pc + 1) lv (.int (nI L) :: st)) : K ws k z pc lv (.ref b :: st) := by
  obtain ⟨p, e, s, m, args, below, meth, c, Q, A, hx, hb, hml, hown, hts, hK, hE, hA, hnm, rfl, hZ⟩ := X
  intro H locs ls hP hD hS hl
  obtain ⟨h1, h2, h3⟩ := hX _ _ hE
  exact va_slen hx hb h1 h2 h3 hS hdg (kk H locs ls hP hD hS hl)
end XL

set_option maxRecDepth 100000 in
set_option maxHeartbeats 4000000 in
/-- write -/
theorem lw_write {l : Launch} {G : xG} {nm : String} {tW sq sv : Nat} {sw : Value} {b L : Nat} {xs : Nat → Int32} {Z : Option Value → va_W → Nat → Nat → Prop} {K : xKt} (X : xR l G (xEL tW sq sv sw b L xs) RL nm cL_law 4 room_1 Z K) {o : Nat} {x : Nat → Nat} {w : Nat → Nat} {d : Nat → Nat} {h : Nat → Nat} {g : Nat → Nat} {q : Nat → Nat} {e : Nat} {ad : Nat → Nat → Nat} {ad2 : Nat → Nat → Nat} {a : Nat → Nat} (hL : L ≤ 384) {i : Nat} (hi : i + 6 ≤ L) (kk : ∀ (s : xS) (sd : xS) (le : Nat → Int32) (nl : Nat) (nu : Nat → Int32) (nc : Nat) (lw : Nat) (sz : Nat) (cs : Nat → xS) (lw2 : Nat) (sz2 : Nat) (cs2 : Nat → xS) (th : Nat → Int32) (sa : Nat → Int32) (ns : Nat) (f : Nat → Int32) (pa : Nat) (rp : Nat) (rq : Nat) (kd : Nat → Int32) (W : Nat → Int32) (Kp : Nat → Int32) (sg : Nat → Int32) (le2 : Nat → Int32) (tl : Nat → Int32) (rk : Nat → Int32) (rd : Nat → Int32) (nw : Nat → Int32) (rw : Nat → Int32), LI s kd le le2 nl lw sz cs W lw2 sz2 cs2 Kp ns th sa sg → K (xJ [wInk G o x w d h g q e, wTx G x le nl nu nc, wCq G w s, wCq G d sd, wSh8 G h ad lw sz, wSh2 G g ad2 lw2 sz2, wSg G q th sa ns, wIA G e 41 f, wMo G a s.1 s.2.1 sz sz2 ns nl pa rp rq kd (en s) W Kp sg le2 tl rk rd nw rw, wCs G ad cs 8, wCs G ad2 cs2 2]) 84 2407 1149 [(3, .int (nI i)), (2, .ref (a 0)), (1, .ref o), (0, .ref b)] []) (s : xS) (sd : xS) (le : Nat → Int32) (nl : Nat) (nu : Nat → Int32) (nc : Nat) (lw : Nat) (sz : Nat) (cs : Nat → xS) (lw2 : Nat) (sz2 : Nat) (cs2 : Nat → xS) (th : Nat → Int32) (sa : Nat → Int32) (ns : Nat) (f : Nat → Int32) (pa : Nat) (rp : Nat) (rq : Nat) (kd : Nat → Int32) (W : Nat → Int32) (Kp : Nat → Int32) (sg : Nat → Int32) (le2 : Nat → Int32) (tl : Nat → Int32) (rk : Nat → Int32) (rd : Nat → Int32) (nw : Nat → Int32) (rw : Nat → Int32) (h0 : LI s kd le le2 nl lw sz cs W lw2 sz2 cs2 Kp ns th sa sg) : K (xJ [wInk G o x w d h g q e, wTx G x le nl nu nc, wCq G w s, wCq G d sd, wSh8 G h ad lw sz, wSh2 G g ad2 lw2 sz2, wSg G q th sa ns, wIA G e 41 f, wMo G a s.1 s.2.1 sz sz2 ns nl pa rp rq kd (en s) W Kp sg le2 tl rk rd nw rw, wCs G ad cs 8, wCs G ad2 cs2 2]) 84 2407 168 [(3, .int (nI i)), (2, .ref (a 0)), (1, .ref o), (0, .ref b)] [] := by
  have hall := h0
  obtain ⟨⟨hg, hs1, hkd⟩, ⟨hnl, hle⟩, ⟨hlw, hsz, hW, hcs⟩, ⟨hlw2, hsz2, hKp, hcs2⟩, ⟨hns, hsg, hth⟩⟩ := h0
  obtain ⟨hs6, ⟨hq1, hq5⟩, hmi, hbv, hbl⟩ := hg
  have hg : GS s := hall.st.gs
  refine x_aloadn X dL_law_168 2 rfl ?_
  refine x_aloadn X dL_law_169 3 rfl ?_
  refine x_iloadn X dL_law_170 0 rfl ?_
  refine x_iconst (v := nI 1) X dL_law_171 (by decide) ?_
  refine x_iadd (v := nI (i + 1)) X dL_law_172 (nI_add _ _) ?_
  refine x_sld X (fun _ _ h => h.2.2) (by omega) (by omega) dL_law_173 ?_
  refine x_callVJfv (As := [.int (xs (i + 1))]) (rest := []) (segs := [wInk G o x w d h g q e, wTx G x le nl nu nc, wCq G w s, wCq G d sd, wSh8 G h ad lw sz, wSh2 G g ad2 lw2 sz2, wSg G q th sa ns, wIA G e 41 f, wMo G a s.1 s.2.1 sz sz2 ns nl pa rp rq kd (en s) W Kp sg le2 tl rk rd nw rw, wCs G ad cs 8, wCs G ad2 cs2 2]) (segs' := [wInk G o x w d h g q e, wTx G x (F_wLe (xs (i + 1)) le nl) (F_wNl (xs (i + 1)) nl) nu nc, wCq G w s, wCq G d sd, wSh8 G h ad lw sz, wSh2 G g ad2 lw2 sz2, wSg G q th sa ns, wIA G e 41 f, wMo G a s.1 s.2.1 sz sz2 ns nl pa rp rq kd (en s) W Kp sg le2 tl rk rd nw rw, wCs G ad cs 8, wCs G ad2 cs2 2]) (mid := [wCq G w s, wCq G d sd, wSh8 G h ad lw sz, wSh2 G g ad2 lw2 sz2, wSg G q th sa ns, wIA G e 41 f, wMo G a s.1 s.2.1 sz sz2 ns nl pa rp rq kd (en s) W Kp sg le2 tl rk rd nw rw, wCs G ad cs 8, wCs G ad2 cs2 2]) (w1 := xJ [wInk G o x w d h g q e, wTx G x (F_wLe (xs (i + 1)) le nl) (F_wNl (xs (i + 1)) nl) nu nc]) [0, 1] [2, 3, 4, 5, 6, 7, 8, 9, 10] (show ([0, 1] ++ [2, 3, 4, 5, 6, 7, 8, 9, 10] : List Nat).Perm (List.range 11) from by decide) rfl X (c_X4_write l G o x w d h g q e le nl nu nc (xs (i + 1)) (by omega)) rfl rfl rfl rfl xE0_ok (fun _ _ _ => trivial) 0 rfl rfl rfl wco_X4_write wi_X4 xd_X4_write wl_L_13 win_X4_write wse_X4_write (by decide) (Nat.le_of_ble_eq_true rfl) dL_law_174 (Eq.trans (b := [o, x 0, x 1, x 2]) rfl rfl) ?_
  refine x_aloadn X dL_law_177 1 rfl ?_
  refine x_aloadn X dL_law_178 3 rfl ?_
  refine x_iloadn X dL_law_179 0 rfl ?_
  refine x_iconst (v := nI 1) X dL_law_180 (by decide) ?_
  refine x_iadd (v := nI (i + 1)) X dL_law_181 (nI_add _ _) ?_
  refine x_sld X (fun _ _ h => h.2.2) (by omega) (by omega) dL_law_182 ?_
  refine x_callVJfv (As := [.int (xs (i + 1))]) (rest := [.int (F_write (xs (i + 1)) nl)]) (segs := [wInk G o x w d h g q e, wTx G x (F_wLe (xs (i + 1)) le nl) (F_wNl (xs (i + 1)) nl) nu nc, wCq G w s, wCq G d sd, wSh8 G h ad lw sz, wSh2 G g ad2 lw2 sz2, wSg G q th sa ns, wIA G e 41 f, wMo G a s.1 s.2.1 sz sz2 ns nl pa rp rq kd (en s) W Kp sg le2 tl rk rd nw rw, wCs G ad cs 8, wCs G ad2 cs2 2]) (segs' := [wInk G o x w d h g q e, wTx G x (F_wLe (xs (i + 1)) le nl) (F_wNl (xs (i + 1)) nl) nu nc, wCq G w s, wCq G d sd, wSh8 G h ad lw sz, wSh2 G g ad2 lw2 sz2, wSg G q th sa ns, wIA G e 41 f, wMo G a s.1 s.2.1 sz sz2 ns (F_wNl (xs (i + 1)) nl) pa rp rq kd (en s) W Kp sg (F_wLe (xs (i + 1)) le2 nl) tl rk rd nw rw, wCs G ad cs 8, wCs G ad2 cs2 2]) (mid := [wInk G o x w d h g q e, wTx G x (F_wLe (xs (i + 1)) le nl) (F_wNl (xs (i + 1)) nl) nu nc, wCq G w s, wCq G d sd, wSh8 G h ad lw sz, wSh2 G g ad2 lw2 sz2, wSg G q th sa ns, wIA G e 41 f, wCs G ad cs 8, wCs G ad2 cs2 2]) (w1 := wMo G a s.1 s.2.1 sz sz2 ns (F_wNl (xs (i + 1)) nl) pa rp rq kd (en s) W Kp sg (F_wLe (xs (i + 1)) le2 nl) tl rk rd nw rw) [8] [0, 1, 2, 3, 4, 5, 6, 7, 9, 10] (show ([8] ++ [0, 1, 2, 3, 4, 5, 6, 7, 9, 10] : List Nat).Perm (List.range 11) from by decide) rfl X (c_X5_write l G a s.1 s.2.1 sz sz2 ns nl pa rp rq kd (en s) W Kp sg le2 tl rk rd nw rw (xs (i + 1)) (by omega)) rfl rfl rfl rfl xE0_ok (fun _ _ _ => trivial) 0 rfl rfl rfl wco_X5_write wi_X5 xd_X5_write wl_L_17 win_X5_write wse_X5_write (by decide) (Nat.le_of_ble_eq_true rfl) dL_law_183 (Eq.trans (b := [a 0, a 1, a 2, a 3, a 4, a 5, a 6, a 7, a 8, a 9, a 10, a 11]) rfl rfl) ?_
  refine x_icmp_eq 1149 X dL_law_186 (by decide) (fun c_1 => ?_) (fun c_1 => ?_)
  · -- 186 t
    exact kk s sd (F_wLe (xs (i + 1)) le nl) (F_wNl (xs (i + 1)) nl) nu nc lw sz cs lw2 sz2 cs2 th sa ns f pa rp rq kd W Kp sg (F_wLe (xs (i + 1)) le2 nl) tl rk rd nw rw (⟨hall.st, hall.tx.write _, hall.ps, hall.kp, hall.si⟩)
  · -- 186 f
    exact absurd rfl c_1
set_option maxRecDepth 100000 in
set_option maxHeartbeats 4000000 in
/-- wipe -/
theorem lw_wipe {l : Launch} {G : xG} {nm : String} {tW sq sv : Nat} {sw : Value} {b L : Nat} {xs : Nat → Int32} {Z : Option Value → va_W → Nat → Nat → Prop} {K : xKt} (X : xR l G (xEL tW sq sv sw b L xs) RL nm cL_law 4 room_1 Z K) {o : Nat} {x : Nat → Nat} {w : Nat → Nat} {d : Nat → Nat} {h : Nat → Nat} {g : Nat → Nat} {q : Nat → Nat} {e : Nat} {ad : Nat → Nat → Nat} {ad2 : Nat → Nat → Nat} {a : Nat → Nat} (hL : L ≤ 384) {i : Nat} (hi : i + 6 ≤ L) (kk : ∀ (s : xS) (sd : xS) (le : Nat → Int32) (nl : Nat) (nu : Nat → Int32) (nc : Nat) (lw : Nat) (sz : Nat) (cs : Nat → xS) (lw2 : Nat) (sz2 : Nat) (cs2 : Nat → xS) (th : Nat → Int32) (sa : Nat → Int32) (ns : Nat) (f : Nat → Int32) (pa : Nat) (rp : Nat) (rq : Nat) (kd : Nat → Int32) (W : Nat → Int32) (Kp : Nat → Int32) (sg : Nat → Int32) (le2 : Nat → Int32) (tl : Nat → Int32) (rk : Nat → Int32) (rd : Nat → Int32) (nw : Nat → Int32) (rw : Nat → Int32), LI s kd le le2 nl lw sz cs W lw2 sz2 cs2 Kp ns th sa sg → K (xJ [wInk G o x w d h g q e, wTx G x le nl nu nc, wCq G w s, wCq G d sd, wSh8 G h ad lw sz, wSh2 G g ad2 lw2 sz2, wSg G q th sa ns, wIA G e 41 f, wMo G a s.1 s.2.1 sz sz2 ns nl pa rp rq kd (en s) W Kp sg le2 tl rk rd nw rw, wCs G ad cs 8, wCs G ad2 cs2 2]) 84 2407 1149 [(3, .int (nI i)), (2, .ref (a 0)), (1, .ref o), (0, .ref b)] []) (s : xS) (sd : xS) (le : Nat → Int32) (nl : Nat) (nu : Nat → Int32) (nc : Nat) (lw : Nat) (sz : Nat) (cs : Nat → xS) (lw2 : Nat) (sz2 : Nat) (cs2 : Nat → xS) (th : Nat → Int32) (sa : Nat → Int32) (ns : Nat) (f : Nat → Int32) (pa : Nat) (rp : Nat) (rq : Nat) (kd : Nat → Int32) (W : Nat → Int32) (Kp : Nat → Int32) (sg : Nat → Int32) (le2 : Nat → Int32) (tl : Nat → Int32) (rk : Nat → Int32) (rd : Nat → Int32) (nw : Nat → Int32) (rw : Nat → Int32) (h0 : LI s kd le le2 nl lw sz cs W lw2 sz2 cs2 Kp ns th sa sg) : K (xJ [wInk G o x w d h g q e, wTx G x le nl nu nc, wCq G w s, wCq G d sd, wSh8 G h ad lw sz, wSh2 G g ad2 lw2 sz2, wSg G q th sa ns, wIA G e 41 f, wMo G a s.1 s.2.1 sz sz2 ns nl pa rp rq kd (en s) W Kp sg le2 tl rk rd nw rw, wCs G ad cs 8, wCs G ad2 cs2 2]) 84 2407 191 [(3, .int (nI i)), (2, .ref (a 0)), (1, .ref o), (0, .ref b)] [] := by
  have hall := h0
  obtain ⟨⟨hg, hs1, hkd⟩, ⟨hnl, hle⟩, ⟨hlw, hsz, hW, hcs⟩, ⟨hlw2, hsz2, hKp, hcs2⟩, ⟨hns, hsg, hth⟩⟩ := h0
  obtain ⟨hs6, ⟨hq1, hq5⟩, hmi, hbv, hbl⟩ := hg
  have hg : GS s := hall.st.gs
  refine x_aloadn X dL_law_191 2 rfl ?_
  refine x_callVJfv (As := []) (rest := []) (segs := [wInk G o x w d h g q e, wTx G x le nl nu nc, wCq G w s, wCq G d sd, wSh8 G h ad lw sz, wSh2 G g ad2 lw2 sz2, wSg G q th sa ns, wIA G e 41 f, wMo G a s.1 s.2.1 sz sz2 ns nl pa rp rq kd (en s) W Kp sg le2 tl rk rd nw rw, wCs G ad cs 8, wCs G ad2 cs2 2]) (segs' := [wInk G o x w d h g q e, wTx G x le 0 nu nc, wCq G w s, wCq G d sd, wSh8 G h ad lw sz, wSh2 G g ad2 lw2 sz2, wSg G q th sa ns, wIA G e 41 f, wMo G a s.1 s.2.1 sz sz2 ns nl pa rp rq kd (en s) W Kp sg le2 tl rk rd nw rw, wCs G ad cs 8, wCs G ad2 cs2 2]) (mid := [wCq G w s, wCq G d sd, wSh8 G h ad lw sz, wSh2 G g ad2 lw2 sz2, wSg G q th sa ns, wIA G e 41 f, wMo G a s.1 s.2.1 sz sz2 ns nl pa rp rq kd (en s) W Kp sg le2 tl rk rd nw rw, wCs G ad cs 8, wCs G ad2 cs2 2]) (w1 := xJ [wInk G o x w d h g q e, wTx G x le 0 nu nc]) [0, 1] [2, 3, 4, 5, 6, 7, 8, 9, 10] (show ([0, 1] ++ [2, 3, 4, 5, 6, 7, 8, 9, 10] : List Nat).Perm (List.range 11) from by decide) rfl X (c_X4_wipe l G o x w d h g q e le nl nu nc) rfl rfl rfl rfl xE0_ok (fun _ _ _ => trivial) 0 rfl rfl rfl wco_X4_wipe wi_X4 xd_X4_wipe wl_L_18 win_X4_wipe wse_X4_wipe (by decide) (Nat.le_of_ble_eq_true rfl) dL_law_192 (Eq.trans (b := [o, x 0, x 1, x 2]) rfl rfl) ?_
  refine x_aloadn X dL_law_195 1 rfl ?_
  refine x_callVJfv (As := []) (rest := [.int (nI nl)]) (segs := [wInk G o x w d h g q e, wTx G x le 0 nu nc, wCq G w s, wCq G d sd, wSh8 G h ad lw sz, wSh2 G g ad2 lw2 sz2, wSg G q th sa ns, wIA G e 41 f, wMo G a s.1 s.2.1 sz sz2 ns nl pa rp rq kd (en s) W Kp sg le2 tl rk rd nw rw, wCs G ad cs 8, wCs G ad2 cs2 2]) (segs' := [wInk G o x w d h g q e, wTx G x le 0 nu nc, wCq G w s, wCq G d sd, wSh8 G h ad lw sz, wSh2 G g ad2 lw2 sz2, wSg G q th sa ns, wIA G e 41 f, wMo G a s.1 s.2.1 sz sz2 ns 0 pa rp rq kd (en s) W Kp sg le2 tl rk rd nw rw, wCs G ad cs 8, wCs G ad2 cs2 2]) (mid := [wInk G o x w d h g q e, wTx G x le 0 nu nc, wCq G w s, wCq G d sd, wSh8 G h ad lw sz, wSh2 G g ad2 lw2 sz2, wSg G q th sa ns, wIA G e 41 f, wCs G ad cs 8, wCs G ad2 cs2 2]) (w1 := wMo G a s.1 s.2.1 sz sz2 ns 0 pa rp rq kd (en s) W Kp sg le2 tl rk rd nw rw) [8] [0, 1, 2, 3, 4, 5, 6, 7, 9, 10] (show ([8] ++ [0, 1, 2, 3, 4, 5, 6, 7, 9, 10] : List Nat).Perm (List.range 11) from by decide) rfl X (c_X5_wipe l G a s.1 s.2.1 sz sz2 ns nl pa rp rq kd (en s) W Kp sg le2 tl rk rd nw rw) rfl rfl rfl rfl xE0_ok (fun _ _ _ => trivial) 0 rfl rfl rfl wco_X5_wipe wi_X5 xd_X5_wipe wl_L_22 win_X5_wipe wse_X5_wipe (by decide) (Nat.le_of_ble_eq_true rfl) dL_law_196 (Eq.trans (b := [a 0, a 1, a 2, a 3, a 4, a 5, a 6, a 7, a 8, a 9, a 10, a 11]) rfl rfl) ?_
  refine x_icmp_eq_n 1149 X dL_law_199 (by decide) (by omega) (by omega) (fun c_1 => ?_) (fun c_1 => ?_)
  · -- 199 t
    exact kk s sd le 0 nu nc lw sz cs lw2 sz2 cs2 th sa ns f pa rp rq kd W Kp sg le2 tl rk rd nw rw (⟨hall.st, ⟨Nat.zero_le _, fun j hj => absurd hj (Nat.not_lt_zero _)⟩, hall.ps, hall.kp, hall.si⟩)
  · -- 199 f
    exact absurd rfl c_1
set_option maxRecDepth 100000 in
set_option maxHeartbeats 4000000 in
/-- fault -/
theorem lw_fault {l : Launch} {G : xG} {nm : String} {tW sq sv : Nat} {sw : Value} {b L : Nat} {xs : Nat → Int32} {Z : Option Value → va_W → Nat → Nat → Prop} {K : xKt} (X : xR l G (xEL tW sq sv sw b L xs) RL nm cL_law 4 room_1 Z K) {o : Nat} {x : Nat → Nat} {w : Nat → Nat} {d : Nat → Nat} {h : Nat → Nat} {g : Nat → Nat} {q : Nat → Nat} {e : Nat} {ad : Nat → Nat → Nat} {ad2 : Nat → Nat → Nat} {a : Nat → Nat} (hL : L ≤ 384) {i : Nat} (hi : i + 6 ≤ L) (kk : ∀ (s : xS) (sd : xS) (le : Nat → Int32) (nl : Nat) (nu : Nat → Int32) (nc : Nat) (lw : Nat) (sz : Nat) (cs : Nat → xS) (lw2 : Nat) (sz2 : Nat) (cs2 : Nat → xS) (th : Nat → Int32) (sa : Nat → Int32) (ns : Nat) (f : Nat → Int32) (pa : Nat) (rp : Nat) (rq : Nat) (kd : Nat → Int32) (W : Nat → Int32) (Kp : Nat → Int32) (sg : Nat → Int32) (le2 : Nat → Int32) (tl : Nat → Int32) (rk : Nat → Int32) (rd : Nat → Int32) (nw : Nat → Int32) (rw : Nat → Int32), LI s kd le le2 nl lw sz cs W lw2 sz2 cs2 Kp ns th sa sg → K (xJ [wInk G o x w d h g q e, wTx G x le nl nu nc, wCq G w s, wCq G d sd, wSh8 G h ad lw sz, wSh2 G g ad2 lw2 sz2, wSg G q th sa ns, wIA G e 41 f, wMo G a s.1 s.2.1 sz sz2 ns nl pa rp rq kd (en s) W Kp sg le2 tl rk rd nw rw, wCs G ad cs 8, wCs G ad2 cs2 2]) 84 2407 1149 [(3, .int (nI i)), (2, .ref (a 0)), (1, .ref o), (0, .ref b)] []) (s : xS) (sd : xS) (le : Nat → Int32) (nl : Nat) (nu : Nat → Int32) (nc : Nat) (lw : Nat) (sz : Nat) (cs : Nat → xS) (lw2 : Nat) (sz2 : Nat) (cs2 : Nat → xS) (th : Nat → Int32) (sa : Nat → Int32) (ns : Nat) (f : Nat → Int32) (pa : Nat) (rp : Nat) (rq : Nat) (kd : Nat → Int32) (W : Nat → Int32) (Kp : Nat → Int32) (sg : Nat → Int32) (le2 : Nat → Int32) (tl : Nat → Int32) (rk : Nat → Int32) (rd : Nat → Int32) (nw : Nat → Int32) (rw : Nat → Int32) (h0 : LI s kd le le2 nl lw sz cs W lw2 sz2 cs2 Kp ns th sa sg) : K (xJ [wInk G o x w d h g q e, wTx G x le nl nu nc, wCq G w s, wCq G d sd, wSh8 G h ad lw sz, wSh2 G g ad2 lw2 sz2, wSg G q th sa ns, wIA G e 41 f, wMo G a s.1 s.2.1 sz sz2 ns nl pa rp rq kd (en s) W Kp sg le2 tl rk rd nw rw, wCs G ad cs 8, wCs G ad2 cs2 2]) 84 2407 204 [(3, .int (nI i)), (2, .ref (a 0)), (1, .ref o), (0, .ref b)] [] := by
  have hall := h0
  obtain ⟨⟨hg, hs1, hkd⟩, ⟨hnl, hle⟩, ⟨hlw, hsz, hW, hcs⟩, ⟨hlw2, hsz2, hKp, hcs2⟩, ⟨hns, hsg, hth⟩⟩ := h0
  obtain ⟨hs6, ⟨hq1, hq5⟩, hmi, hbv, hbl⟩ := hg
  have hg : GS s := hall.st.gs
  refine x_aloadn X dL_law_204 2 rfl ?_
  refine x_callVJ (As := []) (rest := []) (segs := [wInk G o x w d h g q e, wTx G x le nl nu nc, wCq G w s, wCq G d sd, wSh8 G h ad lw sz, wSh2 G g ad2 lw2 sz2, wSg G q th sa ns, wIA G e 41 f, wMo G a s.1 s.2.1 sz sz2 ns nl pa rp rq kd (en s) W Kp sg le2 tl rk rd nw rw, wCs G ad cs 8, wCs G ad2 cs2 2]) [0, 1, 3] [2, 4, 5, 6, 7, 8, 9, 10] (show ([0, 1, 3] ++ [2, 4, 5, 6, 7, 8, 9, 10] : List Nat).Perm (List.range 11) from by decide) X (c_X4_fault l G o x w d h g q e le nl nu nc sd (by omega)) rfl xE0_ok (fun _ _ _ => trivial) 0 rfl rfl rfl wco_X4_fault wi_X4 xd_X4_fault wl_L_23 win_X4_fault wse_X4_fault (by decide) (Nat.le_of_ble_eq_true rfl) dL_law_205 (fun w2 h => by obtain ⟨nu_1, nc_2, rfl⟩ := h; exact (Eq.trans (b := [o, x 0, x 1, x 2, d 0, d 1, d 2, d 3, d 4]) rfl rfl)) (fun w_3 hw_3 => ?_)
  obtain ⟨nu_1, nc_2, rfl⟩ := hw_3
  refine x_backV (segs := [wInk G o x w d h g q e, wTx G x le nl nu nc, wCq G w s, wCq G d sd, wSh8 G h ad lw sz, wSh2 G g ad2 lw2 sz2, wSg G q th sa ns, wIA G e 41 f, wMo G a s.1 s.2.1 sz sz2 ns nl pa rp rq kd (en s) W Kp sg le2 tl rk rd nw rw, wCs G ad cs 8, wCs G ad2 cs2 2]) (segs' := [wInk G o x w d h g q e, wTx G x le nl nu_1 nc_2, wCq G w s, wCq G d ((prsT le nl).2), wSh8 G h ad lw sz, wSh2 G g ad2 lw2 sz2, wSg G q th sa ns, wIA G e 41 f, wMo G a s.1 s.2.1 sz sz2 ns nl pa rp rq kd (en s) W Kp sg le2 tl rk rd nw rw, wCs G ad cs 8, wCs G ad2 cs2 2]) (mid := [wCq G w s, wSh8 G h ad lw sz, wSh2 G g ad2 lw2 sz2, wSg G q th sa ns, wIA G e 41 f, wMo G a s.1 s.2.1 sz sz2 ns nl pa rp rq kd (en s) W Kp sg le2 tl rk rd nw rw, wCs G ad cs 8, wCs G ad2 cs2 2]) [0, 1, 3] [2, 4, 5, 6, 7, 8, 9, 10] (show ([0, 1, 3] ++ [2, 4, 5, 6, 7, 8, 9, 10] : List Nat).Perm (List.range 11) from by decide) X rfl rfl rfl ?_
  refine x_wst (ws' := xJ [wInk G o x w d h g q e, wTx G x le nl nu_1 nc_2, wCq G w s, wCq G d ((prsT le nl).2), wSh8 G h ad lw sz, wSh2 G g ad2 lw2 sz2, wSg G q th sa ns, wIA G e 41 f, wMo G a s.1 s.2.1 sz sz2 ns nl pa rp rq kd (en s) W Kp sg le2 tl rk rd nw rw, wCs G ad cs 8, wCs G ad2 cs2 2]) (st' := [.int ((prsT le nl).1)]) rfl rfl ?_
  refine x_aloadn X dL_law_208 1 rfl ?_
  refine x_callVJ (As := []) (rest := [.int ((prsT le nl).1)]) (segs := [wInk G o x w d h g q e, wTx G x le nl nu_1 nc_2, wCq G w s, wCq G d ((prsT le nl).2), wSh8 G h ad lw sz, wSh2 G g ad2 lw2 sz2, wSg G q th sa ns, wIA G e 41 f, wMo G a s.1 s.2.1 sz sz2 ns nl pa rp rq kd (en s) W Kp sg le2 tl rk rd nw rw, wCs G ad cs 8, wCs G ad2 cs2 2]) [8] [0, 1, 2, 3, 4, 5, 6, 7, 9, 10] (show ([8] ++ [0, 1, 2, 3, 4, 5, 6, 7, 9, 10] : List Nat).Perm (List.range 11) from by decide) X (c_X5_fault l G a s.1 s.2.1 sz sz2 ns nl pa rp rq kd (en s) W Kp sg le2 tl rk rd nw rw (by omega)) rfl xE0_ok (fun _ _ _ => trivial) 0 rfl rfl rfl wco_X5_fault wi_X5 xd_X5_fault wl_L_26 win_X5_fault wse_X5_fault (by decide) (Nat.le_of_ble_eq_true rfl) dL_law_209 (fun w2 h => by obtain ⟨pa_4, tl_5, rk_6, s_7, rfl, -⟩ := h; exact (Eq.trans (b := [a 0, a 1, a 2, a 3, a 4, a 5, a 6, a 7, a 8, a 9, a 10, a 11]) rfl rfl)) (fun w_8 hw_8 => ?_)
  obtain ⟨pa_4, tl_5, rk_6, s_7, rfl, f_9⟩ := hw_8
  refine x_backV (segs := [wInk G o x w d h g q e, wTx G x le nl nu_1 nc_2, wCq G w s, wCq G d ((prsT le nl).2), wSh8 G h ad lw sz, wSh2 G g ad2 lw2 sz2, wSg G q th sa ns, wIA G e 41 f, wMo G a s.1 s.2.1 sz sz2 ns nl pa rp rq kd (en s) W Kp sg le2 tl rk rd nw rw, wCs G ad cs 8, wCs G ad2 cs2 2]) (segs' := [wInk G o x w d h g q e, wTx G x le nl nu_1 nc_2, wCq G w s, wCq G d ((prsT le nl).2), wSh8 G h ad lw sz, wSh2 G g ad2 lw2 sz2, wSg G q th sa ns, wIA G e 41 f, wMo G a s.1 s.2.1 sz sz2 ns nl pa_4 s_7.1 s_7.2.1 kd (en s) W Kp sg le2 tl_5 rk_6 (en s_7) nw rw, wCs G ad cs 8, wCs G ad2 cs2 2]) (mid := [wInk G o x w d h g q e, wTx G x le nl nu_1 nc_2, wCq G w s, wCq G d ((prsT le nl).2), wSh8 G h ad lw sz, wSh2 G g ad2 lw2 sz2, wSg G q th sa ns, wIA G e 41 f, wCs G ad cs 8, wCs G ad2 cs2 2]) [8] [0, 1, 2, 3, 4, 5, 6, 7, 9, 10] (show ([8] ++ [0, 1, 2, 3, 4, 5, 6, 7, 9, 10] : List Nat).Perm (List.range 11) from by decide) X rfl rfl rfl ?_
  refine x_wst (ws' := xJ [wInk G o x w d h g q e, wTx G x le nl nu_1 nc_2, wCq G w s, wCq G d ((prsT le nl).2), wSh8 G h ad lw sz, wSh2 G g ad2 lw2 sz2, wSg G q th sa ns, wIA G e 41 f, wMo G a s.1 s.2.1 sz sz2 ns nl pa_4 s_7.1 s_7.2.1 kd (en s) W Kp sg le2 tl_5 rk_6 (en s_7) nw rw, wCs G ad cs 8, wCs G ad2 cs2 2]) (st' := [.int ((prsT le2 nl).1), .int ((prsT le nl).1)]) rfl rfl ?_
  rw [hall.tx.prs]
  refine x_icmp_eq 1149 X dL_law_212 (by decide) (fun c_10 => ?_) (fun c_10 => ?_)
  · -- 212 t
    exact kk s ((prsT le nl).2) le nl nu_1 nc_2 lw sz cs lw2 sz2 cs2 th sa ns f pa_4 s_7.1 s_7.2.1 kd W Kp sg le2 tl_5 rk_6 (en s_7) nw rw hall
  · -- 212 f
    exact absurd rfl c_10
set_option maxRecDepth 100000 in
set_option maxHeartbeats 4000000 in
/-- lay -/
theorem lw_lay {l : Launch} {G : xG} {nm : String} {tW sq sv : Nat} {sw : Value} {b L : Nat} {xs : Nat → Int32} {Z : Option Value → va_W → Nat → Nat → Prop} {K : xKt} (X : xR l G (xEL tW sq sv sw b L xs) RL nm cL_law 4 room_1 Z K) {o : Nat} {x : Nat → Nat} {w : Nat → Nat} {d : Nat → Nat} {h : Nat → Nat} {g : Nat → Nat} {q : Nat → Nat} {e : Nat} {ad : Nat → Nat → Nat} {ad2 : Nat → Nat → Nat} {a : Nat → Nat} (hL : L ≤ 384) {i : Nat} (hi : i + 6 ≤ L) (kk : ∀ (s : xS) (sd : xS) (le : Nat → Int32) (nl : Nat) (nu : Nat → Int32) (nc : Nat) (lw : Nat) (sz : Nat) (cs : Nat → xS) (lw2 : Nat) (sz2 : Nat) (cs2 : Nat → xS) (th : Nat → Int32) (sa : Nat → Int32) (ns : Nat) (f : Nat → Int32) (pa : Nat) (rp : Nat) (rq : Nat) (kd : Nat → Int32) (W : Nat → Int32) (Kp : Nat → Int32) (sg : Nat → Int32) (le2 : Nat → Int32) (tl : Nat → Int32) (rk : Nat → Int32) (rd : Nat → Int32) (nw : Nat → Int32) (rw : Nat → Int32), LI s kd le le2 nl lw sz cs W lw2 sz2 cs2 Kp ns th sa sg → K (xJ [wInk G o x w d h g q e, wTx G x le nl nu nc, wCq G w s, wCq G d sd, wSh8 G h ad lw sz, wSh2 G g ad2 lw2 sz2, wSg G q th sa ns, wIA G e 41 f, wMo G a s.1 s.2.1 sz sz2 ns nl pa rp rq kd (en s) W Kp sg le2 tl rk rd nw rw, wCs G ad cs 8, wCs G ad2 cs2 2]) 84 2407 1149 [(3, .int (nI i)), (2, .ref (a 0)), (1, .ref o), (0, .ref b)] []) (s : xS) (sd : xS) (le : Nat → Int32) (nl : Nat) (nu : Nat → Int32) (nc : Nat) (lw : Nat) (sz : Nat) (cs : Nat → xS) (lw2 : Nat) (sz2 : Nat) (cs2 : Nat → xS) (th : Nat → Int32) (sa : Nat → Int32) (ns : Nat) (f : Nat → Int32) (pa : Nat) (rp : Nat) (rq : Nat) (kd : Nat → Int32) (W : Nat → Int32) (Kp : Nat → Int32) (sg : Nat → Int32) (le2 : Nat → Int32) (tl : Nat → Int32) (rk : Nat → Int32) (rd : Nat → Int32) (nw : Nat → Int32) (rw : Nat → Int32) (h0 : LI s kd le le2 nl lw sz cs W lw2 sz2 cs2 Kp ns th sa sg) : K (xJ [wInk G o x w d h g q e, wTx G x le nl nu nc, wCq G w s, wCq G d sd, wSh8 G h ad lw sz, wSh2 G g ad2 lw2 sz2, wSg G q th sa ns, wIA G e 41 f, wMo G a s.1 s.2.1 sz sz2 ns nl pa rp rq kd (en s) W Kp sg le2 tl rk rd nw rw, wCs G ad cs 8, wCs G ad2 cs2 2]) 84 2407 217 [(3, .int (nI i)), (2, .ref (a 0)), (1, .ref o), (0, .ref b)] [] := by
  have hall := h0
  obtain ⟨⟨hg, hs1, hkd⟩, ⟨hnl, hle⟩, ⟨hlw, hsz, hW, hcs⟩, ⟨hlw2, hsz2, hKp, hcs2⟩, ⟨hns, hsg, hth⟩⟩ := h0
  obtain ⟨hs6, ⟨hq1, hq5⟩, hmi, hbv, hbl⟩ := hg
  have hg : GS s := hall.st.gs
  refine x_aloadn X dL_law_217 2 rfl ?_
  refine x_callVJ (As := []) (rest := []) (segs := [wInk G o x w d h g q e, wTx G x le nl nu nc, wCq G w s, wCq G d sd, wSh8 G h ad lw sz, wSh2 G g ad2 lw2 sz2, wSg G q th sa ns, wIA G e 41 f, wMo G a s.1 s.2.1 sz sz2 ns nl pa rp rq kd (en s) W Kp sg le2 tl rk rd nw rw, wCs G ad cs 8, wCs G ad2 cs2 2]) [0, 1, 2, 3, 6, 4, 5] [7, 8, 9, 10] (show ([0, 1, 2, 3, 6, 4, 5] ++ [7, 8, 9, 10] : List Nat).Perm (List.range 11) from by decide) X (c_X4_lay l G o x w d h g q e le nl nu nc s sd th sa ns ad lw sz ad2 lw2 sz2 (by omega) (by omega) (by omega) (by assumption) (by omega)) rfl xE0_ok (fun _ _ _ => trivial) 0 rfl rfl rfl wco_X4_lay wi_X4 xd_X4_lay wl_L_27 win_X4_lay wse_X4_lay (by decide) (Nat.le_of_ble_eq_true rfl) dL_law_218 (fun w2 h => by obtain ⟨nu_1, nc_2, rfl⟩ := h; exact (Eq.trans (b := [o, x 0, x 1, x 2, w 0, w 1, w 2, w 3, w 4, d 0, d 1, d 2, d 3, d 4, q 0, q 1, q 2, h 0, h 1, g 0, g 1]) rfl rfl)) (fun w_3 hw_3 => ?_)
  obtain ⟨nu_1, nc_2, rfl⟩ := hw_3
  refine x_backV (segs := [wInk G o x w d h g q e, wTx G x le nl nu nc, wCq G w s, wCq G d sd, wSh8 G h ad lw sz, wSh2 G g ad2 lw2 sz2, wSg G q th sa ns, wIA G e 41 f, wMo G a s.1 s.2.1 sz sz2 ns nl pa rp rq kd (en s) W Kp sg le2 tl rk rd nw rw, wCs G ad cs 8, wCs G ad2 cs2 2]) (segs' := [wInk G o x w d h g q e, wTx G x le nl nu_1 nc_2, wCq G w (if F_layOk (prsT le nl) = true then (prsT le nl).2 else s), wCq G d ((prsT le nl).2), wSh8 G h ad lw (l0 (F_layOk (prsT le nl)) sz), wSh2 G g ad2 lw2 (l0 (F_layOk (prsT le nl)) sz2), wSg G q th sa (l0 (F_layOk (prsT le nl)) ns), wIA G e 41 f, wMo G a s.1 s.2.1 sz sz2 ns nl pa rp rq kd (en s) W Kp sg le2 tl rk rd nw rw, wCs G ad cs 8, wCs G ad2 cs2 2]) (mid := [wIA G e 41 f, wMo G a s.1 s.2.1 sz sz2 ns nl pa rp rq kd (en s) W Kp sg le2 tl rk rd nw rw, wCs G ad cs 8, wCs G ad2 cs2 2]) [0, 1, 2, 3, 6, 4, 5] [7, 8, 9, 10] (show ([0, 1, 2, 3, 6, 4, 5] ++ [7, 8, 9, 10] : List Nat).Perm (List.range 11) from by decide) X rfl rfl rfl ?_
  refine x_wst (ws' := xJ [wInk G o x w d h g q e, wTx G x le nl nu_1 nc_2, wCq G w (if F_layOk (prsT le nl) = true then (prsT le nl).2 else s), wCq G d ((prsT le nl).2), wSh8 G h ad lw (l0 (F_layOk (prsT le nl)) sz), wSh2 G g ad2 lw2 (l0 (F_layOk (prsT le nl)) sz2), wSg G q th sa (l0 (F_layOk (prsT le nl)) ns), wIA G e 41 f, wMo G a s.1 s.2.1 sz sz2 ns nl pa rp rq kd (en s) W Kp sg le2 tl rk rd nw rw, wCs G ad cs 8, wCs G ad2 cs2 2]) (st' := [.int (F_lay (prsT le nl))]) rfl rfl ?_
  refine x_aloadn X dL_law_221 1 rfl ?_
  refine x_callVJ (As := []) (rest := [.int (F_lay (prsT le nl))]) (segs := [wInk G o x w d h g q e, wTx G x le nl nu_1 nc_2, wCq G w (if F_layOk (prsT le nl) = true then (prsT le nl).2 else s), wCq G d ((prsT le nl).2), wSh8 G h ad lw (l0 (F_layOk (prsT le nl)) sz), wSh2 G g ad2 lw2 (l0 (F_layOk (prsT le nl)) sz2), wSg G q th sa (l0 (F_layOk (prsT le nl)) ns), wIA G e 41 f, wMo G a s.1 s.2.1 sz sz2 ns nl pa rp rq kd (en s) W Kp sg le2 tl rk rd nw rw, wCs G ad cs 8, wCs G ad2 cs2 2]) [8] [0, 1, 2, 3, 4, 5, 6, 7, 9, 10] (show ([8] ++ [0, 1, 2, 3, 4, 5, 6, 7, 9, 10] : List Nat).Perm (List.range 11) from by decide) X (c_X5_lay l G a sz sz2 ns nl pa rp rq kd W Kp sg le2 tl rk rd nw rw s (by omega) (by assumption)) rfl xE0_ok (fun _ _ _ => trivial) 0 rfl rfl rfl wco_X5_lay wi_X5 xd_X5_lay wl_L_30 win_X5_lay wse_X5_lay (by decide) (Nat.le_of_ble_eq_true rfl) dL_law_222 (fun w2 h => by obtain ⟨pa_4, tl_5, rp_6, rq_7, rk_8, rd_9, kd_10, rfl, -⟩ := h; exact (Eq.trans (b := [a 0, a 1, a 2, a 3, a 4, a 5, a 6, a 7, a 8, a 9, a 10, a 11]) rfl rfl)) (fun w_11 hw_11 => ?_)
  obtain ⟨pa_4, tl_5, rp_6, rq_7, rk_8, rd_9, kd_10, rfl, f_12⟩ := hw_11
  refine x_backV (segs := [wInk G o x w d h g q e, wTx G x le nl nu_1 nc_2, wCq G w (if F_layOk (prsT le nl) = true then (prsT le nl).2 else s), wCq G d ((prsT le nl).2), wSh8 G h ad lw (l0 (F_layOk (prsT le nl)) sz), wSh2 G g ad2 lw2 (l0 (F_layOk (prsT le nl)) sz2), wSg G q th sa (l0 (F_layOk (prsT le nl)) ns), wIA G e 41 f, wMo G a s.1 s.2.1 sz sz2 ns nl pa rp rq kd (en s) W Kp sg le2 tl rk rd nw rw, wCs G ad cs 8, wCs G ad2 cs2 2]) (segs' := [wInk G o x w d h g q e, wTx G x le nl nu_1 nc_2, wCq G w (if F_layOk (prsT le nl) = true then (prsT le nl).2 else s), wCq G d ((prsT le nl).2), wSh8 G h ad lw (l0 (F_layOk (prsT le nl)) sz), wSh2 G g ad2 lw2 (l0 (F_layOk (prsT le nl)) sz2), wSg G q th sa (l0 (F_layOk (prsT le nl)) ns), wIA G e 41 f, wMo G a ((lyS le2 nl s).1) ((lyS le2 nl s).2.1) (l0 (F_layOk (prsT le2 nl)) sz) (l0 (F_layOk (prsT le2 nl)) sz2) (l0 (F_layOk (prsT le2 nl)) ns) nl pa_4 rp_6 rq_7 kd_10 (en (lyS le2 nl s)) W Kp sg le2 tl_5 rk_8 rd_9 nw rw, wCs G ad cs 8, wCs G ad2 cs2 2]) (mid := [wInk G o x w d h g q e, wTx G x le nl nu_1 nc_2, wCq G w (if F_layOk (prsT le nl) = true then (prsT le nl).2 else s), wCq G d ((prsT le nl).2), wSh8 G h ad lw (l0 (F_layOk (prsT le nl)) sz), wSh2 G g ad2 lw2 (l0 (F_layOk (prsT le nl)) sz2), wSg G q th sa (l0 (F_layOk (prsT le nl)) ns), wIA G e 41 f, wCs G ad cs 8, wCs G ad2 cs2 2]) [8] [0, 1, 2, 3, 4, 5, 6, 7, 9, 10] (show ([8] ++ [0, 1, 2, 3, 4, 5, 6, 7, 9, 10] : List Nat).Perm (List.range 11) from by decide) X rfl rfl rfl ?_
  refine x_wst (ws' := xJ [wInk G o x w d h g q e, wTx G x le nl nu_1 nc_2, wCq G w (if F_layOk (prsT le nl) = true then (prsT le nl).2 else s), wCq G d ((prsT le nl).2), wSh8 G h ad lw (l0 (F_layOk (prsT le nl)) sz), wSh2 G g ad2 lw2 (l0 (F_layOk (prsT le nl)) sz2), wSg G q th sa (l0 (F_layOk (prsT le nl)) ns), wIA G e 41 f, wMo G a ((lyS le2 nl s).1) ((lyS le2 nl s).2.1) (l0 (F_layOk (prsT le2 nl)) sz) (l0 (F_layOk (prsT le2 nl)) sz2) (l0 (F_layOk (prsT le2 nl)) ns) nl pa_4 rp_6 rq_7 kd_10 (en (lyS le2 nl s)) W Kp sg le2 tl_5 rk_8 rd_9 nw rw, wCs G ad cs 8, wCs G ad2 cs2 2]) (st' := [.int (F_lay (prsT le2 nl)), .int (F_lay (prsT le nl))]) rfl rfl ?_
  have hly : lyS le2 nl s = lyS le nl s := by unfold lyS; rw [hall.tx.prs]
  rw [hly, hall.tx.prs]
  refine x_icmp_eq 1149 X dL_law_225 (by decide) (fun c_13 => ?_) (fun c_13 => ?_)
  · -- 225 t
    exact kk (lyS le nl s) ((prsT le nl).2) le nl nu_1 nc_2 lw (l0 (F_layOk (prsT le nl)) sz) cs lw2 (l0 (F_layOk (prsT le nl)) sz2) cs2 th sa (l0 (F_layOk (prsT le nl)) ns) f pa_4 rp_6 rq_7 kd_10 W Kp sg le2 tl_5 rk_8 rd_9 nw rw ⟨⟨(lay_ok le nl hg hs1).1, (lay_ok le nl hg hs1).2, by rw [← hly]; exact f_12⟩, hall.tx, hall.ps.lay le nl, hall.kp.lay le nl, hall.si.lay _⟩
  · -- 225 f
    exact absurd rfl c_13
set_option maxRecDepth 100000 in
set_option maxHeartbeats 4000000 in
/-- person -/
theorem lw_person {l : Launch} {G : xG} {nm : String} {tW sq sv : Nat} {sw : Value} {b L : Nat} {xs : Nat → Int32} {Z : Option Value → va_W → Nat → Nat → Prop} {K : xKt} (X : xR l G (xEL tW sq sv sw b L xs) RL nm cL_law 4 room_1 Z K) {o : Nat} {x : Nat → Nat} {w : Nat → Nat} {d : Nat → Nat} {h : Nat → Nat} {g : Nat → Nat} {q : Nat → Nat} {e : Nat} {ad : Nat → Nat → Nat} {ad2 : Nat → Nat → Nat} {a : Nat → Nat} (hL : L ≤ 384) {i : Nat} (hi : i + 6 ≤ L) (kk : ∀ (s : xS) (sd : xS) (le : Nat → Int32) (nl : Nat) (nu : Nat → Int32) (nc : Nat) (lw : Nat) (sz : Nat) (cs : Nat → xS) (lw2 : Nat) (sz2 : Nat) (cs2 : Nat → xS) (th : Nat → Int32) (sa : Nat → Int32) (ns : Nat) (f : Nat → Int32) (pa : Nat) (rp : Nat) (rq : Nat) (kd : Nat → Int32) (W : Nat → Int32) (Kp : Nat → Int32) (sg : Nat → Int32) (le2 : Nat → Int32) (tl : Nat → Int32) (rk : Nat → Int32) (rd : Nat → Int32) (nw : Nat → Int32) (rw : Nat → Int32), LI s kd le le2 nl lw sz cs W lw2 sz2 cs2 Kp ns th sa sg → K (xJ [wInk G o x w d h g q e, wTx G x le nl nu nc, wCq G w s, wCq G d sd, wSh8 G h ad lw sz, wSh2 G g ad2 lw2 sz2, wSg G q th sa ns, wIA G e 41 f, wMo G a s.1 s.2.1 sz sz2 ns nl pa rp rq kd (en s) W Kp sg le2 tl rk rd nw rw, wCs G ad cs 8, wCs G ad2 cs2 2]) 84 2407 1149 [(3, .int (nI i)), (2, .ref (a 0)), (1, .ref o), (0, .ref b)] []) (s : xS) (sd : xS) (le : Nat → Int32) (nl : Nat) (nu : Nat → Int32) (nc : Nat) (lw : Nat) (sz : Nat) (cs : Nat → xS) (lw2 : Nat) (sz2 : Nat) (cs2 : Nat → xS) (th : Nat → Int32) (sa : Nat → Int32) (ns : Nat) (f : Nat → Int32) (pa : Nat) (rp : Nat) (rq : Nat) (kd : Nat → Int32) (W : Nat → Int32) (Kp : Nat → Int32) (sg : Nat → Int32) (le2 : Nat → Int32) (tl : Nat → Int32) (rk : Nat → Int32) (rd : Nat → Int32) (nw : Nat → Int32) (rw : Nat → Int32) (h0 : LI s kd le le2 nl lw sz cs W lw2 sz2 cs2 Kp ns th sa sg) : K (xJ [wInk G o x w d h g q e, wTx G x le nl nu nc, wCq G w s, wCq G d sd, wSh8 G h ad lw sz, wSh2 G g ad2 lw2 sz2, wSg G q th sa ns, wIA G e 41 f, wMo G a s.1 s.2.1 sz sz2 ns nl pa rp rq kd (en s) W Kp sg le2 tl rk rd nw rw, wCs G ad cs 8, wCs G ad2 cs2 2]) 84 2407 230 [(3, .int (nI i)), (2, .ref (a 0)), (1, .ref o), (0, .ref b)] [] := by
  have hall := h0
  obtain ⟨⟨hg, hs1, hkd⟩, ⟨hnl, hle⟩, ⟨hlw, hsz, hW, hcs⟩, ⟨hlw2, hsz2, hKp, hcs2⟩, ⟨hns, hsg, hth⟩⟩ := h0
  obtain ⟨hs6, ⟨hq1, hq5⟩, hmi, hbv, hbl⟩ := hg
  have hg : GS s := hall.st.gs
  refine x_aloadn X dL_law_230 2 rfl ?_
  refine x_aloadn X dL_law_231 3 rfl ?_
  refine x_iloadn X dL_law_232 0 rfl ?_
  refine x_iconst (v := nI 1) X dL_law_233 (by decide) ?_
  refine x_iadd (v := nI (i + 1)) X dL_law_234 (nI_add _ _) ?_
  refine x_sld X (fun _ _ h => h.2.2) (by omega) (by omega) dL_law_235 ?_
  refine x_aloadn X dL_law_236 3 rfl ?_
  refine x_iloadn X dL_law_237 0 rfl ?_
  refine x_iconst (v := nI 2) X dL_law_238 (by decide) ?_
  refine x_iadd (v := nI (i + 2)) X dL_law_239 (nI_add _ _) ?_
  refine x_sld X (fun _ _ h => h.2.2) (by omega) (by omega) dL_law_240 ?_
  refine x_callVJrv (As := [.int (xs (i + 1)), .int (xs (i + 2))]) (rest := []) (segs := [wInk G o x w d h g q e, wTx G x le nl nu nc, wCq G w s, wCq G d sd, wSh8 G h ad lw sz, wSh2 G g ad2 lw2 sz2, wSg G q th sa ns, wIA G e 41 f, wMo G a s.1 s.2.1 sz sz2 ns nl pa rp rq kd (en s) W Kp sg le2 tl rk rd nw rw, wCs G ad cs 8, wCs G ad2 cs2 2]) [0, 2] [1, 3, 4, 5, 6, 7, 8, 9, 10] (show ([0, 2] ++ [1, 3, 4, 5, 6, 7, 8, 9, 10] : List Nat).Perm (List.range 11) from by decide) X (c_X4_person l G o x w d h g q e s (xs (i + 1)) (xs (i + 2)) (by omega) (by omega) (by omega) (by assumption)) rfl xE0_ok (fun _ _ _ => trivial) 0 rfl rfl rfl wco_X4_person wi_X4 xd_X4_person wl_L_31 win_X4_person wse_X4_person (by decide) (Nat.le_of_ble_eq_true rfl) dL_law_241 ?_
  refine x_aloadn X dL_law_244 1 rfl ?_
  refine x_aloadn X dL_law_245 3 rfl ?_
  refine x_iloadn X dL_law_246 0 rfl ?_
  refine x_iconst (v := nI 1) X dL_law_247 (by decide) ?_
  refine x_iadd (v := nI (i + 1)) X dL_law_248 (nI_add _ _) ?_
  refine x_sld X (fun _ _ h => h.2.2) (by omega) (by omega) dL_law_249 ?_
  refine x_aloadn X dL_law_250 3 rfl ?_
  refine x_iloadn X dL_law_251 0 rfl ?_
  refine x_iconst (v := nI 2) X dL_law_252 (by decide) ?_
  refine x_iadd (v := nI (i + 2)) X dL_law_253 (nI_add _ _) ?_
  refine x_sld X (fun _ _ h => h.2.2) (by omega) (by omega) dL_law_254 ?_
  refine x_callVJrv (As := [.int (xs (i + 1)), .int (xs (i + 2))]) (rest := [.int (F_person s (xs (i + 1)) (xs (i + 2)))]) (segs := [wInk G o x w d h g q e, wTx G x le nl nu nc, wCq G w s, wCq G d sd, wSh8 G h ad lw sz, wSh2 G g ad2 lw2 sz2, wSg G q th sa ns, wIA G e 41 f, wMo G a s.1 s.2.1 sz sz2 ns nl pa rp rq kd (en s) W Kp sg le2 tl rk rd nw rw, wCs G ad cs 8, wCs G ad2 cs2 2]) [8] [0, 1, 2, 3, 4, 5, 6, 7, 9, 10] (show ([8] ++ [0, 1, 2, 3, 4, 5, 6, 7, 9, 10] : List Nat).Perm (List.range 11) from by decide) X (c_X5_person l G a sz sz2 ns nl pa rp rq kd W Kp sg le2 tl rk rd nw rw s (xs (i + 1)) (xs (i + 2)) (by omega) (by omega) (by omega) (by omega) (by assumption) (by assumption) (by assumption) (by assumption)) rfl xE0_ok (fun _ _ _ => trivial) 0 rfl rfl rfl wco_X5_person wi_X5 xd_X5_person wl_L_35 win_X5_person wse_X5_person (by decide) (Nat.le_of_ble_eq_true rfl) dL_law_255 ?_
  refine x_icmp_eq 1149 X dL_law_258 (by decide) (fun c_1 => ?_) (fun c_1 => ?_)
  · -- 258 t
    exact kk s sd le nl nu nc lw sz cs lw2 sz2 cs2 th sa ns f pa rp rq kd W Kp sg le2 tl rk rd nw rw hall
  · -- 258 f
    exact absurd rfl c_1
set_option maxRecDepth 100000 in
set_option maxHeartbeats 4000000 in
/-- view -/
theorem lw_view {l : Launch} {G : xG} {nm : String} {tW sq sv : Nat} {sw : Value} {b L : Nat} {xs : Nat → Int32} {Z : Option Value → va_W → Nat → Nat → Prop} {K : xKt} (X : xR l G (xEL tW sq sv sw b L xs) RL nm cL_law 4 room_1 Z K) {o : Nat} {x : Nat → Nat} {w : Nat → Nat} {d : Nat → Nat} {h : Nat → Nat} {g : Nat → Nat} {q : Nat → Nat} {e : Nat} {ad : Nat → Nat → Nat} {ad2 : Nat → Nat → Nat} {a : Nat → Nat} (hL : L ≤ 384) {i : Nat} (hi : i + 6 ≤ L) (kk : ∀ (s : xS) (sd : xS) (le : Nat → Int32) (nl : Nat) (nu : Nat → Int32) (nc : Nat) (lw : Nat) (sz : Nat) (cs : Nat → xS) (lw2 : Nat) (sz2 : Nat) (cs2 : Nat → xS) (th : Nat → Int32) (sa : Nat → Int32) (ns : Nat) (f : Nat → Int32) (pa : Nat) (rp : Nat) (rq : Nat) (kd : Nat → Int32) (W : Nat → Int32) (Kp : Nat → Int32) (sg : Nat → Int32) (le2 : Nat → Int32) (tl : Nat → Int32) (rk : Nat → Int32) (rd : Nat → Int32) (nw : Nat → Int32) (rw : Nat → Int32), LI s kd le le2 nl lw sz cs W lw2 sz2 cs2 Kp ns th sa sg → K (xJ [wInk G o x w d h g q e, wTx G x le nl nu nc, wCq G w s, wCq G d sd, wSh8 G h ad lw sz, wSh2 G g ad2 lw2 sz2, wSg G q th sa ns, wIA G e 41 f, wMo G a s.1 s.2.1 sz sz2 ns nl pa rp rq kd (en s) W Kp sg le2 tl rk rd nw rw, wCs G ad cs 8, wCs G ad2 cs2 2]) 84 2407 1149 [(3, .int (nI i)), (2, .ref (a 0)), (1, .ref o), (0, .ref b)] []) (s : xS) (sd : xS) (le : Nat → Int32) (nl : Nat) (nu : Nat → Int32) (nc : Nat) (lw : Nat) (sz : Nat) (cs : Nat → xS) (lw2 : Nat) (sz2 : Nat) (cs2 : Nat → xS) (th : Nat → Int32) (sa : Nat → Int32) (ns : Nat) (f : Nat → Int32) (pa : Nat) (rp : Nat) (rq : Nat) (kd : Nat → Int32) (W : Nat → Int32) (Kp : Nat → Int32) (sg : Nat → Int32) (le2 : Nat → Int32) (tl : Nat → Int32) (rk : Nat → Int32) (rd : Nat → Int32) (nw : Nat → Int32) (rw : Nat → Int32) (h0 : LI s kd le le2 nl lw sz cs W lw2 sz2 cs2 Kp ns th sa sg) : K (xJ [wInk G o x w d h g q e, wTx G x le nl nu nc, wCq G w s, wCq G d sd, wSh8 G h ad lw sz, wSh2 G g ad2 lw2 sz2, wSg G q th sa ns, wIA G e 41 f, wMo G a s.1 s.2.1 sz sz2 ns nl pa rp rq kd (en s) W Kp sg le2 tl rk rd nw rw, wCs G ad cs 8, wCs G ad2 cs2 2]) 84 2407 263 [(3, .int (nI i)), (2, .ref (a 0)), (1, .ref o), (0, .ref b)] [] := by
  have hall := h0
  obtain ⟨⟨hg, hs1, hkd⟩, ⟨hnl, hle⟩, ⟨hlw, hsz, hW, hcs⟩, ⟨hlw2, hsz2, hKp, hcs2⟩, ⟨hns, hsg, hth⟩⟩ := h0
  obtain ⟨hs6, ⟨hq1, hq5⟩, hmi, hbv, hbl⟩ := hg
  have hg : GS s := hall.st.gs
  refine x_aloadn X dL_law_263 2 rfl ?_
  refine x_aloadn X dL_law_264 3 rfl ?_
  refine x_iloadn X dL_law_265 0 rfl ?_
  refine x_iconst (v := nI 1) X dL_law_266 (by decide) ?_
  refine x_iadd (v := nI (i + 1)) X dL_law_267 (nI_add _ _) ?_
  refine x_sld X (fun _ _ h => h.2.2) (by omega) (by omega) dL_law_268 ?_
  refine x_aloadn X dL_law_269 3 rfl ?_
  refine x_iloadn X dL_law_270 0 rfl ?_
  refine x_iconst (v := nI 2) X dL_law_271 (by decide) ?_
  refine x_iadd (v := nI (i + 2)) X dL_law_272 (nI_add _ _) ?_
  refine x_sld X (fun _ _ h => h.2.2) (by omega) (by omega) dL_law_273 ?_
  refine x_callVJrv (As := [.int (xs (i + 1)), .int (xs (i + 2))]) (rest := []) (segs := [wInk G o x w d h g q e, wTx G x le nl nu nc, wCq G w s, wCq G d sd, wSh8 G h ad lw sz, wSh2 G g ad2 lw2 sz2, wSg G q th sa ns, wIA G e 41 f, wMo G a s.1 s.2.1 sz sz2 ns nl pa rp rq kd (en s) W Kp sg le2 tl rk rd nw rw, wCs G ad cs 8, wCs G ad2 cs2 2]) [0, 2] [1, 3, 4, 5, 6, 7, 8, 9, 10] (show ([0, 2] ++ [1, 3, 4, 5, 6, 7, 8, 9, 10] : List Nat).Perm (List.range 11) from by decide) X (c_X4_view l G o x w d h g q e s (xs (i + 1)) (xs (i + 2)) (by omega) (by omega) (by omega) (by assumption)) rfl xE0_ok (fun _ _ _ => trivial) 0 rfl rfl rfl wco_X4_view wi_X4 xd_X4_view wl_L_36 win_X4_view wse_X4_view (by decide) (Nat.le_of_ble_eq_true rfl) dL_law_274 ?_
  refine x_aloadn X dL_law_277 1 rfl ?_
  refine x_aloadn X dL_law_278 3 rfl ?_
  refine x_iloadn X dL_law_279 0 rfl ?_
  refine x_iconst (v := nI 1) X dL_law_280 (by decide) ?_
  refine x_iadd (v := nI (i + 1)) X dL_law_281 (nI_add _ _) ?_
  refine x_sld X (fun _ _ h => h.2.2) (by omega) (by omega) dL_law_282 ?_
  refine x_aloadn X dL_law_283 3 rfl ?_
  refine x_iloadn X dL_law_284 0 rfl ?_
  refine x_iconst (v := nI 2) X dL_law_285 (by decide) ?_
  refine x_iadd (v := nI (i + 2)) X dL_law_286 (nI_add _ _) ?_
  refine x_sld X (fun _ _ h => h.2.2) (by omega) (by omega) dL_law_287 ?_
  refine x_callVJrv (As := [.int (xs (i + 1)), .int (xs (i + 2))]) (rest := [.int (F_view s (xs (i + 1)) (xs (i + 2)))]) (segs := [wInk G o x w d h g q e, wTx G x le nl nu nc, wCq G w s, wCq G d sd, wSh8 G h ad lw sz, wSh2 G g ad2 lw2 sz2, wSg G q th sa ns, wIA G e 41 f, wMo G a s.1 s.2.1 sz sz2 ns nl pa rp rq kd (en s) W Kp sg le2 tl rk rd nw rw, wCs G ad cs 8, wCs G ad2 cs2 2]) [8] [0, 1, 2, 3, 4, 5, 6, 7, 9, 10] (show ([8] ++ [0, 1, 2, 3, 4, 5, 6, 7, 9, 10] : List Nat).Perm (List.range 11) from by decide) X (c_X5_view l G a sz sz2 ns nl pa rp rq kd W Kp sg le2 tl rk rd nw rw s (xs (i + 1)) (xs (i + 2)) (by omega) (by omega) (by omega) (by omega) (by assumption) (by assumption) (by assumption) (by assumption)) rfl xE0_ok (fun _ _ _ => trivial) 0 rfl rfl rfl wco_X5_view wi_X5 xd_X5_view wl_L_39 win_X5_view wse_X5_view (by decide) (Nat.le_of_ble_eq_true rfl) dL_law_288 ?_
  refine x_icmp_eq 1149 X dL_law_291 (by decide) (fun c_1 => ?_) (fun c_1 => ?_)
  · -- 291 t
    exact kk s sd le nl nu nc lw sz cs lw2 sz2 cs2 th sa ns f pa rp rq kd W Kp sg le2 tl rk rd nw rw hall
  · -- 291 f
    exact absurd rfl c_1
set_option maxRecDepth 100000 in
set_option maxHeartbeats 4000000 in
/-- line -/
theorem lw_line {l : Launch} {G : xG} {nm : String} {tW sq sv : Nat} {sw : Value} {b L : Nat} {xs : Nat → Int32} {Z : Option Value → va_W → Nat → Nat → Prop} {K : xKt} (X : xR l G (xEL tW sq sv sw b L xs) RL nm cL_law 4 room_1 Z K) {o : Nat} {x : Nat → Nat} {w : Nat → Nat} {d : Nat → Nat} {h : Nat → Nat} {g : Nat → Nat} {q : Nat → Nat} {e : Nat} {ad : Nat → Nat → Nat} {ad2 : Nat → Nat → Nat} {a : Nat → Nat} (hL : L ≤ 384) {i : Nat} (hi : i + 6 ≤ L) (kk : ∀ (s : xS) (sd : xS) (le : Nat → Int32) (nl : Nat) (nu : Nat → Int32) (nc : Nat) (lw : Nat) (sz : Nat) (cs : Nat → xS) (lw2 : Nat) (sz2 : Nat) (cs2 : Nat → xS) (th : Nat → Int32) (sa : Nat → Int32) (ns : Nat) (f : Nat → Int32) (pa : Nat) (rp : Nat) (rq : Nat) (kd : Nat → Int32) (W : Nat → Int32) (Kp : Nat → Int32) (sg : Nat → Int32) (le2 : Nat → Int32) (tl : Nat → Int32) (rk : Nat → Int32) (rd : Nat → Int32) (nw : Nat → Int32) (rw : Nat → Int32), LI s kd le le2 nl lw sz cs W lw2 sz2 cs2 Kp ns th sa sg → K (xJ [wInk G o x w d h g q e, wTx G x le nl nu nc, wCq G w s, wCq G d sd, wSh8 G h ad lw sz, wSh2 G g ad2 lw2 sz2, wSg G q th sa ns, wIA G e 41 f, wMo G a s.1 s.2.1 sz sz2 ns nl pa rp rq kd (en s) W Kp sg le2 tl rk rd nw rw, wCs G ad cs 8, wCs G ad2 cs2 2]) 84 2407 1149 [(3, .int (nI i)), (2, .ref (a 0)), (1, .ref o), (0, .ref b)] []) (s : xS) (sd : xS) (le : Nat → Int32) (nl : Nat) (nu : Nat → Int32) (nc : Nat) (lw : Nat) (sz : Nat) (cs : Nat → xS) (lw2 : Nat) (sz2 : Nat) (cs2 : Nat → xS) (th : Nat → Int32) (sa : Nat → Int32) (ns : Nat) (f : Nat → Int32) (pa : Nat) (rp : Nat) (rq : Nat) (kd : Nat → Int32) (W : Nat → Int32) (Kp : Nat → Int32) (sg : Nat → Int32) (le2 : Nat → Int32) (tl : Nat → Int32) (rk : Nat → Int32) (rd : Nat → Int32) (nw : Nat → Int32) (rw : Nat → Int32) (h0 : LI s kd le le2 nl lw sz cs W lw2 sz2 cs2 Kp ns th sa sg) : K (xJ [wInk G o x w d h g q e, wTx G x le nl nu nc, wCq G w s, wCq G d sd, wSh8 G h ad lw sz, wSh2 G g ad2 lw2 sz2, wSg G q th sa ns, wIA G e 41 f, wMo G a s.1 s.2.1 sz sz2 ns nl pa rp rq kd (en s) W Kp sg le2 tl rk rd nw rw, wCs G ad cs 8, wCs G ad2 cs2 2]) 84 2407 296 [(3, .int (nI i)), (2, .ref (a 0)), (1, .ref o), (0, .ref b)] [] := by
  have hall := h0
  obtain ⟨⟨hg, hs1, hkd⟩, ⟨hnl, hle⟩, ⟨hlw, hsz, hW, hcs⟩, ⟨hlw2, hsz2, hKp, hcs2⟩, ⟨hns, hsg, hth⟩⟩ := h0
  obtain ⟨hs6, ⟨hq1, hq5⟩, hmi, hbv, hbl⟩ := hg
  have hg : GS s := hall.st.gs
  refine x_aloadn X dL_law_296 2 rfl ?_
  refine x_aloadn X dL_law_297 3 rfl ?_
  refine x_iloadn X dL_law_298 0 rfl ?_
  refine x_iconst (v := nI 1) X dL_law_299 (by decide) ?_
  refine x_iadd (v := nI (i + 1)) X dL_law_300 (nI_add _ _) ?_
  refine x_sld X (fun _ _ h => h.2.2) (by omega) (by omega) dL_law_301 ?_
  refine x_aloadn X dL_law_302 3 rfl ?_
  refine x_iloadn X dL_law_303 0 rfl ?_
  refine x_iconst (v := nI 2) X dL_law_304 (by decide) ?_
  refine x_iadd (v := nI (i + 2)) X dL_law_305 (nI_add _ _) ?_
  refine x_sld X (fun _ _ h => h.2.2) (by omega) (by omega) dL_law_306 ?_
  refine x_callVJrv (As := [.int (xs (i + 1)), .int (xs (i + 2))]) (rest := []) (segs := [wInk G o x w d h g q e, wTx G x le nl nu nc, wCq G w s, wCq G d sd, wSh8 G h ad lw sz, wSh2 G g ad2 lw2 sz2, wSg G q th sa ns, wIA G e 41 f, wMo G a s.1 s.2.1 sz sz2 ns nl pa rp rq kd (en s) W Kp sg le2 tl rk rd nw rw, wCs G ad cs 8, wCs G ad2 cs2 2]) [0, 2] [1, 3, 4, 5, 6, 7, 8, 9, 10] (show ([0, 2] ++ [1, 3, 4, 5, 6, 7, 8, 9, 10] : List Nat).Perm (List.range 11) from by decide) X (c_X4_line l G o x w d h g q e s (xs (i + 1)) (xs (i + 2)) (by omega) (by omega) (by omega) (by assumption)) rfl xE0_ok (fun _ _ _ => trivial) 0 rfl rfl rfl wco_X4_line wi_X4 xd_X4_line wl_L_40 win_X4_line wse_X4_line (by decide) (Nat.le_of_ble_eq_true rfl) dL_law_307 ?_
  refine x_aloadn X dL_law_310 1 rfl ?_
  refine x_aloadn X dL_law_311 3 rfl ?_
  refine x_iloadn X dL_law_312 0 rfl ?_
  refine x_iconst (v := nI 1) X dL_law_313 (by decide) ?_
  refine x_iadd (v := nI (i + 1)) X dL_law_314 (nI_add _ _) ?_
  refine x_sld X (fun _ _ h => h.2.2) (by omega) (by omega) dL_law_315 ?_
  refine x_aloadn X dL_law_316 3 rfl ?_
  refine x_iloadn X dL_law_317 0 rfl ?_
  refine x_iconst (v := nI 2) X dL_law_318 (by decide) ?_
  refine x_iadd (v := nI (i + 2)) X dL_law_319 (nI_add _ _) ?_
  refine x_sld X (fun _ _ h => h.2.2) (by omega) (by omega) dL_law_320 ?_
  refine x_callVJrv (As := [.int (xs (i + 1)), .int (xs (i + 2))]) (rest := [.int (F_line s (xs (i + 1)) (xs (i + 2)))]) (segs := [wInk G o x w d h g q e, wTx G x le nl nu nc, wCq G w s, wCq G d sd, wSh8 G h ad lw sz, wSh2 G g ad2 lw2 sz2, wSg G q th sa ns, wIA G e 41 f, wMo G a s.1 s.2.1 sz sz2 ns nl pa rp rq kd (en s) W Kp sg le2 tl rk rd nw rw, wCs G ad cs 8, wCs G ad2 cs2 2]) [8] [0, 1, 2, 3, 4, 5, 6, 7, 9, 10] (show ([8] ++ [0, 1, 2, 3, 4, 5, 6, 7, 9, 10] : List Nat).Perm (List.range 11) from by decide) X (c_X5_line l G a sz sz2 ns nl pa rp rq kd W Kp sg le2 tl rk rd nw rw s (xs (i + 1)) (xs (i + 2)) (by omega) (by omega) (by omega) (by omega) (by assumption) (by assumption) (by assumption) (by assumption)) rfl xE0_ok (fun _ _ _ => trivial) 0 rfl rfl rfl wco_X5_line wi_X5 xd_X5_line wl_L_43 win_X5_line wse_X5_line (by decide) (Nat.le_of_ble_eq_true rfl) dL_law_321 ?_
  refine x_icmp_eq 1149 X dL_law_324 (by decide) (fun c_1 => ?_) (fun c_1 => ?_)
  · -- 324 t
    exact kk s sd le nl nu nc lw sz cs lw2 sz2 cs2 th sa ns f pa rp rq kd W Kp sg le2 tl rk rd nw rw hall
  · -- 324 f
    exact absurd rfl c_1
set_option maxRecDepth 100000 in
set_option maxHeartbeats 4000000 in
/-- would -/
theorem lw_would {l : Launch} {G : xG} {nm : String} {tW sq sv : Nat} {sw : Value} {b L : Nat} {xs : Nat → Int32} {Z : Option Value → va_W → Nat → Nat → Prop} {K : xKt} (X : xR l G (xEL tW sq sv sw b L xs) RL nm cL_law 4 room_1 Z K) {o : Nat} {x : Nat → Nat} {w : Nat → Nat} {d : Nat → Nat} {h : Nat → Nat} {g : Nat → Nat} {q : Nat → Nat} {e : Nat} {ad : Nat → Nat → Nat} {ad2 : Nat → Nat → Nat} {a : Nat → Nat} (hL : L ≤ 384) {i : Nat} (hi : i + 6 ≤ L) (kk : ∀ (s : xS) (sd : xS) (le : Nat → Int32) (nl : Nat) (nu : Nat → Int32) (nc : Nat) (lw : Nat) (sz : Nat) (cs : Nat → xS) (lw2 : Nat) (sz2 : Nat) (cs2 : Nat → xS) (th : Nat → Int32) (sa : Nat → Int32) (ns : Nat) (f : Nat → Int32) (pa : Nat) (rp : Nat) (rq : Nat) (kd : Nat → Int32) (W : Nat → Int32) (Kp : Nat → Int32) (sg : Nat → Int32) (le2 : Nat → Int32) (tl : Nat → Int32) (rk : Nat → Int32) (rd : Nat → Int32) (nw : Nat → Int32) (rw : Nat → Int32), LI s kd le le2 nl lw sz cs W lw2 sz2 cs2 Kp ns th sa sg → K (xJ [wInk G o x w d h g q e, wTx G x le nl nu nc, wCq G w s, wCq G d sd, wSh8 G h ad lw sz, wSh2 G g ad2 lw2 sz2, wSg G q th sa ns, wIA G e 41 f, wMo G a s.1 s.2.1 sz sz2 ns nl pa rp rq kd (en s) W Kp sg le2 tl rk rd nw rw, wCs G ad cs 8, wCs G ad2 cs2 2]) 84 2407 1149 [(3, .int (nI i)), (2, .ref (a 0)), (1, .ref o), (0, .ref b)] []) (s : xS) (sd : xS) (le : Nat → Int32) (nl : Nat) (nu : Nat → Int32) (nc : Nat) (lw : Nat) (sz : Nat) (cs : Nat → xS) (lw2 : Nat) (sz2 : Nat) (cs2 : Nat → xS) (th : Nat → Int32) (sa : Nat → Int32) (ns : Nat) (f : Nat → Int32) (pa : Nat) (rp : Nat) (rq : Nat) (kd : Nat → Int32) (W : Nat → Int32) (Kp : Nat → Int32) (sg : Nat → Int32) (le2 : Nat → Int32) (tl : Nat → Int32) (rk : Nat → Int32) (rd : Nat → Int32) (nw : Nat → Int32) (rw : Nat → Int32) (h0 : LI s kd le le2 nl lw sz cs W lw2 sz2 cs2 Kp ns th sa sg) : K (xJ [wInk G o x w d h g q e, wTx G x le nl nu nc, wCq G w s, wCq G d sd, wSh8 G h ad lw sz, wSh2 G g ad2 lw2 sz2, wSg G q th sa ns, wIA G e 41 f, wMo G a s.1 s.2.1 sz sz2 ns nl pa rp rq kd (en s) W Kp sg le2 tl rk rd nw rw, wCs G ad cs 8, wCs G ad2 cs2 2]) 84 2407 329 [(3, .int (nI i)), (2, .ref (a 0)), (1, .ref o), (0, .ref b)] [] := by
  have hall := h0
  obtain ⟨⟨hg, hs1, hkd⟩, ⟨hnl, hle⟩, ⟨hlw, hsz, hW, hcs⟩, ⟨hlw2, hsz2, hKp, hcs2⟩, ⟨hns, hsg, hth⟩⟩ := h0
  obtain ⟨hs6, ⟨hq1, hq5⟩, hmi, hbv, hbl⟩ := hg
  have hg : GS s := hall.st.gs
  refine x_aloadn X dL_law_329 2 rfl ?_
  refine x_aloadn X dL_law_330 3 rfl ?_
  refine x_iloadn X dL_law_331 0 rfl ?_
  refine x_iconst (v := nI 1) X dL_law_332 (by decide) ?_
  refine x_iadd (v := nI (i + 1)) X dL_law_333 (nI_add _ _) ?_
  refine x_sld X (fun _ _ h => h.2.2) (by omega) (by omega) dL_law_334 ?_
  refine x_aloadn X dL_law_335 3 rfl ?_
  refine x_iloadn X dL_law_336 0 rfl ?_
  refine x_iconst (v := nI 2) X dL_law_337 (by decide) ?_
  refine x_iadd (v := nI (i + 2)) X dL_law_338 (nI_add _ _) ?_
  refine x_sld X (fun _ _ h => h.2.2) (by omega) (by omega) dL_law_339 ?_
  refine x_aloadn X dL_law_340 3 rfl ?_
  refine x_iloadn X dL_law_341 0 rfl ?_
  refine x_iconst (v := nI 3) X dL_law_342 (by decide) ?_
  refine x_iadd (v := nI (i + 3)) X dL_law_343 (nI_add _ _) ?_
  refine x_sld X (fun _ _ h => h.2.2) (by omega) (by omega) dL_law_344 ?_
  refine x_callVJrv (As := [.int (xs (i + 1)), .int (xs (i + 2)), .int (xs (i + 3))]) (rest := []) (segs := [wInk G o x w d h g q e, wTx G x le nl nu nc, wCq G w s, wCq G d sd, wSh8 G h ad lw sz, wSh2 G g ad2 lw2 sz2, wSg G q th sa ns, wIA G e 41 f, wMo G a s.1 s.2.1 sz sz2 ns nl pa rp rq kd (en s) W Kp sg le2 tl rk rd nw rw, wCs G ad cs 8, wCs G ad2 cs2 2]) [0, 2] [1, 3, 4, 5, 6, 7, 8, 9, 10] (show ([0, 2] ++ [1, 3, 4, 5, 6, 7, 8, 9, 10] : List Nat).Perm (List.range 11) from by decide) X (c_X4_would l G o x w d h g q e s (xs (i + 1)) (xs (i + 2)) (xs (i + 3)) (by omega) (by omega) (by omega) (by assumption)) rfl xE0_ok (fun _ _ _ => trivial) 0 rfl rfl rfl wco_X4_would wi_X4 xd_X4_would wl_L_44 win_X4_would wse_X4_would (by decide) (Nat.le_of_ble_eq_true rfl) dL_law_345 ?_
  refine x_aloadn X dL_law_348 1 rfl ?_
  refine x_aloadn X dL_law_349 3 rfl ?_
  refine x_iloadn X dL_law_350 0 rfl ?_
  refine x_iconst (v := nI 1) X dL_law_351 (by decide) ?_
  refine x_iadd (v := nI (i + 1)) X dL_law_352 (nI_add _ _) ?_
  refine x_sld X (fun _ _ h => h.2.2) (by omega) (by omega) dL_law_353 ?_
  refine x_aloadn X dL_law_354 3 rfl ?_
  refine x_iloadn X dL_law_355 0 rfl ?_
  refine x_iconst (v := nI 2) X dL_law_356 (by decide) ?_
  refine x_iadd (v := nI (i + 2)) X dL_law_357 (nI_add _ _) ?_
  refine x_sld X (fun _ _ h => h.2.2) (by omega) (by omega) dL_law_358 ?_
  refine x_aloadn X dL_law_359 3 rfl ?_
  refine x_iloadn X dL_law_360 0 rfl ?_
  refine x_iconst (v := nI 3) X dL_law_361 (by decide) ?_
  refine x_iadd (v := nI (i + 3)) X dL_law_362 (nI_add _ _) ?_
  refine x_sld X (fun _ _ h => h.2.2) (by omega) (by omega) dL_law_363 ?_
  refine x_callVJ (As := [.int (xs (i + 1)), .int (xs (i + 2)), .int (xs (i + 3))]) (rest := [.int (F_would s (xs (i + 1)) (xs (i + 2)) (xs (i + 3)))]) (segs := [wInk G o x w d h g q e, wTx G x le nl nu nc, wCq G w s, wCq G d sd, wSh8 G h ad lw sz, wSh2 G g ad2 lw2 sz2, wSg G q th sa ns, wIA G e 41 f, wMo G a s.1 s.2.1 sz sz2 ns nl pa rp rq kd (en s) W Kp sg le2 tl rk rd nw rw, wCs G ad cs 8, wCs G ad2 cs2 2]) [8] [0, 1, 2, 3, 4, 5, 6, 7, 9, 10] (show ([8] ++ [0, 1, 2, 3, 4, 5, 6, 7, 9, 10] : List Nat).Perm (List.range 11) from by decide) X (c_X5_would l G a sz sz2 ns nl pa rp rq kd W Kp sg le2 tl rk rd nw rw s (xs (i + 1)) (xs (i + 2)) (xs (i + 3)) (by omega) (by omega) (by omega) (by omega) (by assumption) (by assumption) (by assumption) (by assumption)) rfl xE0_ok (fun _ _ _ => trivial) 0 rfl rfl rfl wco_X5_would wi_X5 xd_X5_would wl_L_48 win_X5_would wse_X5_would (by decide) (Nat.le_of_ble_eq_true rfl) dL_law_364 (fun w2 h => by obtain ⟨nw_1, rfl⟩ := h; exact (Eq.trans (b := [a 0, a 1, a 2, a 3, a 4, a 5, a 6, a 7, a 8, a 9, a 10, a 11]) rfl rfl)) (fun w_2 hw_2 => ?_)
  obtain ⟨nw_1, rfl⟩ := hw_2
  refine x_backV (segs := [wInk G o x w d h g q e, wTx G x le nl nu nc, wCq G w s, wCq G d sd, wSh8 G h ad lw sz, wSh2 G g ad2 lw2 sz2, wSg G q th sa ns, wIA G e 41 f, wMo G a s.1 s.2.1 sz sz2 ns nl pa rp rq kd (en s) W Kp sg le2 tl rk rd nw rw, wCs G ad cs 8, wCs G ad2 cs2 2]) (segs' := [wInk G o x w d h g q e, wTx G x le nl nu nc, wCq G w s, wCq G d sd, wSh8 G h ad lw sz, wSh2 G g ad2 lw2 sz2, wSg G q th sa ns, wIA G e 41 f, wMo G a s.1 s.2.1 sz sz2 ns nl pa rp rq kd (en s) W Kp sg le2 tl rk rd nw_1 rw, wCs G ad cs 8, wCs G ad2 cs2 2]) (mid := [wInk G o x w d h g q e, wTx G x le nl nu nc, wCq G w s, wCq G d sd, wSh8 G h ad lw sz, wSh2 G g ad2 lw2 sz2, wSg G q th sa ns, wIA G e 41 f, wCs G ad cs 8, wCs G ad2 cs2 2]) [8] [0, 1, 2, 3, 4, 5, 6, 7, 9, 10] (show ([8] ++ [0, 1, 2, 3, 4, 5, 6, 7, 9, 10] : List Nat).Perm (List.range 11) from by decide) X rfl rfl rfl ?_
  refine x_wst (ws' := xJ [wInk G o x w d h g q e, wTx G x le nl nu nc, wCq G w s, wCq G d sd, wSh8 G h ad lw sz, wSh2 G g ad2 lw2 sz2, wSg G q th sa ns, wIA G e 41 f, wMo G a s.1 s.2.1 sz sz2 ns nl pa rp rq kd (en s) W Kp sg le2 tl rk rd nw_1 rw, wCs G ad cs 8, wCs G ad2 cs2 2]) (st' := [.int (F_would s (xs (i + 1)) (xs (i + 2)) (xs (i + 3))), .int (F_would s (xs (i + 1)) (xs (i + 2)) (xs (i + 3)))]) rfl rfl ?_
  refine x_icmp_eq 1149 X dL_law_367 (by decide) (fun c_3 => ?_) (fun c_3 => ?_)
  · -- 367 t
    exact kk s sd le nl nu nc lw sz cs lw2 sz2 cs2 th sa ns f pa rp rq kd W Kp sg le2 tl rk rd nw_1 rw hall
  · -- 367 f
    exact absurd rfl c_3
set_option maxRecDepth 100000 in
set_option maxHeartbeats 4000000 in
/-- set -/
theorem lw_set {l : Launch} {G : xG} {nm : String} {tW sq sv : Nat} {sw : Value} {b L : Nat} {xs : Nat → Int32} {Z : Option Value → va_W → Nat → Nat → Prop} {K : xKt} (X : xR l G (xEL tW sq sv sw b L xs) RL nm cL_law 4 room_1 Z K) {o : Nat} {x : Nat → Nat} {w : Nat → Nat} {d : Nat → Nat} {h : Nat → Nat} {g : Nat → Nat} {q : Nat → Nat} {e : Nat} {ad : Nat → Nat → Nat} {ad2 : Nat → Nat → Nat} {a : Nat → Nat} (hL : L ≤ 384) {i : Nat} (hi : i + 6 ≤ L) (kk : ∀ (s : xS) (sd : xS) (le : Nat → Int32) (nl : Nat) (nu : Nat → Int32) (nc : Nat) (lw : Nat) (sz : Nat) (cs : Nat → xS) (lw2 : Nat) (sz2 : Nat) (cs2 : Nat → xS) (th : Nat → Int32) (sa : Nat → Int32) (ns : Nat) (f : Nat → Int32) (pa : Nat) (rp : Nat) (rq : Nat) (kd : Nat → Int32) (W : Nat → Int32) (Kp : Nat → Int32) (sg : Nat → Int32) (le2 : Nat → Int32) (tl : Nat → Int32) (rk : Nat → Int32) (rd : Nat → Int32) (nw : Nat → Int32) (rw : Nat → Int32), LI s kd le le2 nl lw sz cs W lw2 sz2 cs2 Kp ns th sa sg → K (xJ [wInk G o x w d h g q e, wTx G x le nl nu nc, wCq G w s, wCq G d sd, wSh8 G h ad lw sz, wSh2 G g ad2 lw2 sz2, wSg G q th sa ns, wIA G e 41 f, wMo G a s.1 s.2.1 sz sz2 ns nl pa rp rq kd (en s) W Kp sg le2 tl rk rd nw rw, wCs G ad cs 8, wCs G ad2 cs2 2]) 84 2407 1149 [(3, .int (nI i)), (2, .ref (a 0)), (1, .ref o), (0, .ref b)] []) (s : xS) (sd : xS) (le : Nat → Int32) (nl : Nat) (nu : Nat → Int32) (nc : Nat) (lw : Nat) (sz : Nat) (cs : Nat → xS) (lw2 : Nat) (sz2 : Nat) (cs2 : Nat → xS) (th : Nat → Int32) (sa : Nat → Int32) (ns : Nat) (f : Nat → Int32) (pa : Nat) (rp : Nat) (rq : Nat) (kd : Nat → Int32) (W : Nat → Int32) (Kp : Nat → Int32) (sg : Nat → Int32) (le2 : Nat → Int32) (tl : Nat → Int32) (rk : Nat → Int32) (rd : Nat → Int32) (nw : Nat → Int32) (rw : Nat → Int32) (h0 : LI s kd le le2 nl lw sz cs W lw2 sz2 cs2 Kp ns th sa sg) : K (xJ [wInk G o x w d h g q e, wTx G x le nl nu nc, wCq G w s, wCq G d sd, wSh8 G h ad lw sz, wSh2 G g ad2 lw2 sz2, wSg G q th sa ns, wIA G e 41 f, wMo G a s.1 s.2.1 sz sz2 ns nl pa rp rq kd (en s) W Kp sg le2 tl rk rd nw rw, wCs G ad cs 8, wCs G ad2 cs2 2]) 84 2407 372 [(3, .int (nI i)), (2, .ref (a 0)), (1, .ref o), (0, .ref b)] [] := by
  have hall := h0
  obtain ⟨⟨hg, hs1, hkd⟩, ⟨hnl, hle⟩, ⟨hlw, hsz, hW, hcs⟩, ⟨hlw2, hsz2, hKp, hcs2⟩, ⟨hns, hsg, hth⟩⟩ := h0
  obtain ⟨hs6, ⟨hq1, hq5⟩, hmi, hbv, hbl⟩ := hg
  have hg : GS s := hall.st.gs
  refine x_aloadn X dL_law_372 2 rfl ?_
  refine x_aloadn X dL_law_373 3 rfl ?_
  refine x_iloadn X dL_law_374 0 rfl ?_
  refine x_iconst (v := nI 1) X dL_law_375 (by decide) ?_
  refine x_iadd (v := nI (i + 1)) X dL_law_376 (nI_add _ _) ?_
  refine x_sld X (fun _ _ h => h.2.2) (by omega) (by omega) dL_law_377 ?_
  refine x_aloadn X dL_law_378 3 rfl ?_
  refine x_iloadn X dL_law_379 0 rfl ?_
  refine x_iconst (v := nI 2) X dL_law_380 (by decide) ?_
  refine x_iadd (v := nI (i + 2)) X dL_law_381 (nI_add _ _) ?_
  refine x_sld X (fun _ _ h => h.2.2) (by omega) (by omega) dL_law_382 ?_
  refine x_aloadn X dL_law_383 3 rfl ?_
  refine x_iloadn X dL_law_384 0 rfl ?_
  refine x_iconst (v := nI 3) X dL_law_385 (by decide) ?_
  refine x_iadd (v := nI (i + 3)) X dL_law_386 (nI_add _ _) ?_
  refine x_sld X (fun _ _ h => h.2.2) (by omega) (by omega) dL_law_387 ?_
  refine x_aloadn X dL_law_388 3 rfl ?_
  refine x_iloadn X dL_law_389 0 rfl ?_
  refine x_iconst (v := nI 4) X dL_law_390 (by decide) ?_
  refine x_iadd (v := nI (i + 4)) X dL_law_391 (nI_add _ _) ?_
  refine x_sld X (fun _ _ h => h.2.2) (by omega) (by omega) dL_law_392 ?_
  refine x_callVJfv (As := [.int (xs (i + 1)), .int (xs (i + 2)), .int (xs (i + 3)), .int (xs (i + 4))]) (rest := []) (segs := [wInk G o x w d h g q e, wTx G x le nl nu nc, wCq G w s, wCq G d sd, wSh8 G h ad lw sz, wSh2 G g ad2 lw2 sz2, wSg G q th sa ns, wIA G e 41 f, wMo G a s.1 s.2.1 sz sz2 ns nl pa rp rq kd (en s) W Kp sg le2 tl rk rd nw rw, wCs G ad cs 8, wCs G ad2 cs2 2]) (segs' := [wInk G o x w d h g q e, wTx G x le nl nu nc, wCq G w (F_setS s (xs (i + 1)) (xs (i + 2)) (xs (i + 3)) (xs (i + 4))), wCq G d sd, wSh8 G h ad (pLw (F_setOk s (xs (i + 1)) (xs (i + 2)) (xs (i + 3)) (xs (i + 4))) lw sz) (pSz (F_setOk s (xs (i + 1)) (xs (i + 2)) (xs (i + 3)) (xs (i + 4))) sz), wSh2 G g ad2 lw2 sz2, wSg G q th sa ns, wIA G e 41 f, wMo G a s.1 s.2.1 sz sz2 ns nl pa rp rq kd (en s) W Kp sg le2 tl rk rd nw rw, wCs G ad (pCs (F_setOk s (xs (i + 1)) (xs (i + 2)) (xs (i + 3)) (xs (i + 4))) cs lw sz s) 8, wCs G ad2 cs2 2]) (mid := [wTx G x le nl nu nc, wCq G d sd, wSh2 G g ad2 lw2 sz2, wSg G q th sa ns, wIA G e 41 f, wMo G a s.1 s.2.1 sz sz2 ns nl pa rp rq kd (en s) W Kp sg le2 tl rk rd nw rw, wCs G ad2 cs2 2]) (w1 := xJ [wInk G o x w d h g q e, wSh8 G h ad (pLw (F_setOk s (xs (i + 1)) (xs (i + 2)) (xs (i + 3)) (xs (i + 4))) lw sz) (pSz (F_setOk s (xs (i + 1)) (xs (i + 2)) (xs (i + 3)) (xs (i + 4))) sz), wCq G w (F_setS s (xs (i + 1)) (xs (i + 2)) (xs (i + 3)) (xs (i + 4))), wCs G ad (pCs (F_setOk s (xs (i + 1)) (xs (i + 2)) (xs (i + 3)) (xs (i + 4))) cs lw sz s) 8]) [0, 4, 2, 9] [1, 3, 5, 6, 7, 8, 10] (show ([0, 4, 2, 9] ++ [1, 3, 5, 6, 7, 8, 10] : List Nat).Perm (List.range 11) from by decide) rfl X (c_X4_set l G o x w d h g q e ad lw sz s cs (xs (i + 1)) (xs (i + 2)) (xs (i + 3)) (xs (i + 4)) (by omega) (by omega) (by omega) (by assumption) (by omega) (by omega)) rfl rfl rfl rfl xE0_ok (fun _ _ _ => trivial) 0 rfl rfl rfl wco_X4_set wi_X4 xd_X4_set wl_L_49 win_X4_set wse_X4_set (by decide) (Nat.le_of_ble_eq_true rfl) dL_law_393 (by simp only [xJ, List.map_append, skCs, wCh, wIA, wTx, wSg, wSh8, wSh2, wInk, List.map_cons, List.map_nil]) ?_
  refine x_aloadn X dL_law_396 1 rfl ?_
  refine x_aloadn X dL_law_397 3 rfl ?_
  refine x_iloadn X dL_law_398 0 rfl ?_
  refine x_iconst (v := nI 1) X dL_law_399 (by decide) ?_
  refine x_iadd (v := nI (i + 1)) X dL_law_400 (nI_add _ _) ?_
  refine x_sld X (fun _ _ h => h.2.2) (by omega) (by omega) dL_law_401 ?_
  refine x_aloadn X dL_law_402 3 rfl ?_
  refine x_iloadn X dL_law_403 0 rfl ?_
  refine x_iconst (v := nI 2) X dL_law_404 (by decide) ?_
  refine x_iadd (v := nI (i + 2)) X dL_law_405 (nI_add _ _) ?_
  refine x_sld X (fun _ _ h => h.2.2) (by omega) (by omega) dL_law_406 ?_
  refine x_aloadn X dL_law_407 3 rfl ?_
  refine x_iloadn X dL_law_408 0 rfl ?_
  refine x_iconst (v := nI 3) X dL_law_409 (by decide) ?_
  refine x_iadd (v := nI (i + 3)) X dL_law_410 (nI_add _ _) ?_
  refine x_sld X (fun _ _ h => h.2.2) (by omega) (by omega) dL_law_411 ?_
  refine x_aloadn X dL_law_412 3 rfl ?_
  refine x_iloadn X dL_law_413 0 rfl ?_
  refine x_iconst (v := nI 4) X dL_law_414 (by decide) ?_
  refine x_iadd (v := nI (i + 4)) X dL_law_415 (nI_add _ _) ?_
  refine x_sld X (fun _ _ h => h.2.2) (by omega) (by omega) dL_law_416 ?_
  refine x_callVJ (As := [.int (xs (i + 1)), .int (xs (i + 2)), .int (xs (i + 3)), .int (xs (i + 4))]) (rest := [.int (F_set s (xs (i + 1)) (xs (i + 2)) (xs (i + 3)) (xs (i + 4)))]) (segs := [wInk G o x w d h g q e, wTx G x le nl nu nc, wCq G w (F_setS s (xs (i + 1)) (xs (i + 2)) (xs (i + 3)) (xs (i + 4))), wCq G d sd, wSh8 G h ad (pLw (F_setOk s (xs (i + 1)) (xs (i + 2)) (xs (i + 3)) (xs (i + 4))) lw sz) (pSz (F_setOk s (xs (i + 1)) (xs (i + 2)) (xs (i + 3)) (xs (i + 4))) sz), wSh2 G g ad2 lw2 sz2, wSg G q th sa ns, wIA G e 41 f, wMo G a s.1 s.2.1 sz sz2 ns nl pa rp rq kd (en s) W Kp sg le2 tl rk rd nw rw, wCs G ad (pCs (F_setOk s (xs (i + 1)) (xs (i + 2)) (xs (i + 3)) (xs (i + 4))) cs lw sz s) 8, wCs G ad2 cs2 2]) [8] [0, 1, 2, 3, 4, 5, 6, 7, 9, 10] (show ([8] ++ [0, 1, 2, 3, 4, 5, 6, 7, 9, 10] : List Nat).Perm (List.range 11) from by decide) X (c_X5_set l G a sz sz2 ns nl pa rp rq kd W Kp sg le2 tl rk rd nw rw s (xs (i + 1)) (xs (i + 2)) (xs (i + 3)) (xs (i + 4)) (by omega) (by omega) (by omega) (by omega) (by assumption) (by assumption) (by assumption) (by assumption) (by omega)) rfl xE0_ok (fun _ _ _ => trivial) 0 rfl rfl rfl wco_X5_set wi_X5 xd_X5_set wl_L_53 win_X5_set wse_X5_set (by decide) (Nat.le_of_ble_eq_true rfl) dL_law_417 (fun w2 h => by obtain ⟨nw_1, rfl⟩ := h; exact (Eq.trans (b := [a 0, a 1, a 2, a 3, a 4, a 5, a 6, a 7, a 8, a 9, a 10, a 11]) rfl rfl)) (fun w_2 hw_2 => ?_)
  obtain ⟨nw_1, rfl⟩ := hw_2
  refine x_backV (segs := [wInk G o x w d h g q e, wTx G x le nl nu nc, wCq G w (F_setS s (xs (i + 1)) (xs (i + 2)) (xs (i + 3)) (xs (i + 4))), wCq G d sd, wSh8 G h ad (pLw (F_setOk s (xs (i + 1)) (xs (i + 2)) (xs (i + 3)) (xs (i + 4))) lw sz) (pSz (F_setOk s (xs (i + 1)) (xs (i + 2)) (xs (i + 3)) (xs (i + 4))) sz), wSh2 G g ad2 lw2 sz2, wSg G q th sa ns, wIA G e 41 f, wMo G a s.1 s.2.1 sz sz2 ns nl pa rp rq kd (en s) W Kp sg le2 tl rk rd nw rw, wCs G ad (pCs (F_setOk s (xs (i + 1)) (xs (i + 2)) (xs (i + 3)) (xs (i + 4))) cs lw sz s) 8, wCs G ad2 cs2 2]) (segs' := [wInk G o x w d h g q e, wTx G x le nl nu nc, wCq G w (F_setS s (xs (i + 1)) (xs (i + 2)) (xs (i + 3)) (xs (i + 4))), wCq G d sd, wSh8 G h ad (pLw (F_setOk s (xs (i + 1)) (xs (i + 2)) (xs (i + 3)) (xs (i + 4))) lw sz) (pSz (F_setOk s (xs (i + 1)) (xs (i + 2)) (xs (i + 3)) (xs (i + 4))) sz), wSh2 G g ad2 lw2 sz2, wSg G q th sa ns, wIA G e 41 f, wMo G a s.1 s.2.1 (mN (F_setOk s (xs (i + 1)) (xs (i + 2)) (xs (i + 3)) (xs (i + 4))) sz) sz2 ns nl pa rp rq kd (en (F_setS s (xs (i + 1)) (xs (i + 2)) (xs (i + 3)) (xs (i + 4)))) (mWb (F_setOk s (xs (i + 1)) (xs (i + 2)) (xs (i + 3)) (xs (i + 4))) W (en s) sz) Kp sg le2 tl rk rd nw_1 rw, wCs G ad (pCs (F_setOk s (xs (i + 1)) (xs (i + 2)) (xs (i + 3)) (xs (i + 4))) cs lw sz s) 8, wCs G ad2 cs2 2]) (mid := [wInk G o x w d h g q e, wTx G x le nl nu nc, wCq G w (F_setS s (xs (i + 1)) (xs (i + 2)) (xs (i + 3)) (xs (i + 4))), wCq G d sd, wSh8 G h ad (pLw (F_setOk s (xs (i + 1)) (xs (i + 2)) (xs (i + 3)) (xs (i + 4))) lw sz) (pSz (F_setOk s (xs (i + 1)) (xs (i + 2)) (xs (i + 3)) (xs (i + 4))) sz), wSh2 G g ad2 lw2 sz2, wSg G q th sa ns, wIA G e 41 f, wCs G ad (pCs (F_setOk s (xs (i + 1)) (xs (i + 2)) (xs (i + 3)) (xs (i + 4))) cs lw sz s) 8, wCs G ad2 cs2 2]) [8] [0, 1, 2, 3, 4, 5, 6, 7, 9, 10] (show ([8] ++ [0, 1, 2, 3, 4, 5, 6, 7, 9, 10] : List Nat).Perm (List.range 11) from by decide) X rfl rfl rfl ?_
  refine x_wst (ws' := xJ [wInk G o x w d h g q e, wTx G x le nl nu nc, wCq G w (F_setS s (xs (i + 1)) (xs (i + 2)) (xs (i + 3)) (xs (i + 4))), wCq G d sd, wSh8 G h ad (pLw (F_setOk s (xs (i + 1)) (xs (i + 2)) (xs (i + 3)) (xs (i + 4))) lw sz) (pSz (F_setOk s (xs (i + 1)) (xs (i + 2)) (xs (i + 3)) (xs (i + 4))) sz), wSh2 G g ad2 lw2 sz2, wSg G q th sa ns, wIA G e 41 f, wMo G a s.1 s.2.1 (mN (F_setOk s (xs (i + 1)) (xs (i + 2)) (xs (i + 3)) (xs (i + 4))) sz) sz2 ns nl pa rp rq kd (en (F_setS s (xs (i + 1)) (xs (i + 2)) (xs (i + 3)) (xs (i + 4)))) (mWb (F_setOk s (xs (i + 1)) (xs (i + 2)) (xs (i + 3)) (xs (i + 4))) W (en s) sz) Kp sg le2 tl rk rd nw_1 rw, wCs G ad (pCs (F_setOk s (xs (i + 1)) (xs (i + 2)) (xs (i + 3)) (xs (i + 4))) cs lw sz s) 8, wCs G ad2 cs2 2]) (st' := [.int (F_set s (xs (i + 1)) (xs (i + 2)) (xs (i + 3)) (xs (i + 4))), .int (F_set s (xs (i + 1)) (xs (i + 2)) (xs (i + 3)) (xs (i + 4)))]) rfl rfl ?_
  refine x_icmp_eq 1149 X dL_law_420 (by decide) (fun c_3 => ?_) (fun c_3 => ?_)
  · -- 420 t
    have hS : GS (F_setS s (xs (i + 1)) (xs (i + 2)) (xs (i + 3)) (xs (i + 4))) ∧ SE (F_setS s (xs (i + 1)) (xs (i + 2)) (xs (i + 3)) (xs (i + 4))) s := set_ok hg
    have hk := kk (F_setS s (xs (i + 1)) (xs (i + 2)) (xs (i + 3)) (xs (i + 4))) sd le nl nu nc (pLw (F_setOk s (xs (i + 1)) (xs (i + 2)) (xs (i + 3)) (xs (i + 4))) lw sz) (pSz (F_setOk s (xs (i + 1)) (xs (i + 2)) (xs (i + 3)) (xs (i + 4))) sz) (pCs (F_setOk s (xs (i + 1)) (xs (i + 2)) (xs (i + 3)) (xs (i + 4))) cs lw sz s) lw2 sz2 cs2 th sa ns f pa rp rq kd (mWb (F_setOk s (xs (i + 1)) (xs (i + 2)) (xs (i + 3)) (xs (i + 4))) W (en s) sz) Kp sg le2 tl rk rd nw_1 rw (⟨hall.st.to hS.1 hS.2, hall.tx, hall.ps.push _ hg hS.2, hall.kp.to hS.2, hall.si⟩)
    rw [hS.2.1, hS.2.2.1] at hk
    rw [mN_pSz hsz]
    exact hk
  · -- 420 f
    exact absurd rfl c_3
set_option maxRecDepth 100000 in
set_option maxHeartbeats 4000000 in
/-- erase -/
theorem lw_erase {l : Launch} {G : xG} {nm : String} {tW sq sv : Nat} {sw : Value} {b L : Nat} {xs : Nat → Int32} {Z : Option Value → va_W → Nat → Nat → Prop} {K : xKt} (X : xR l G (xEL tW sq sv sw b L xs) RL nm cL_law 4 room_1 Z K) {o : Nat} {x : Nat → Nat} {w : Nat → Nat} {d : Nat → Nat} {h : Nat → Nat} {g : Nat → Nat} {q : Nat → Nat} {e : Nat} {ad : Nat → Nat → Nat} {ad2 : Nat → Nat → Nat} {a : Nat → Nat} (hL : L ≤ 384) {i : Nat} (hi : i + 6 ≤ L) (kk : ∀ (s : xS) (sd : xS) (le : Nat → Int32) (nl : Nat) (nu : Nat → Int32) (nc : Nat) (lw : Nat) (sz : Nat) (cs : Nat → xS) (lw2 : Nat) (sz2 : Nat) (cs2 : Nat → xS) (th : Nat → Int32) (sa : Nat → Int32) (ns : Nat) (f : Nat → Int32) (pa : Nat) (rp : Nat) (rq : Nat) (kd : Nat → Int32) (W : Nat → Int32) (Kp : Nat → Int32) (sg : Nat → Int32) (le2 : Nat → Int32) (tl : Nat → Int32) (rk : Nat → Int32) (rd : Nat → Int32) (nw : Nat → Int32) (rw : Nat → Int32), LI s kd le le2 nl lw sz cs W lw2 sz2 cs2 Kp ns th sa sg → K (xJ [wInk G o x w d h g q e, wTx G x le nl nu nc, wCq G w s, wCq G d sd, wSh8 G h ad lw sz, wSh2 G g ad2 lw2 sz2, wSg G q th sa ns, wIA G e 41 f, wMo G a s.1 s.2.1 sz sz2 ns nl pa rp rq kd (en s) W Kp sg le2 tl rk rd nw rw, wCs G ad cs 8, wCs G ad2 cs2 2]) 84 2407 1149 [(3, .int (nI i)), (2, .ref (a 0)), (1, .ref o), (0, .ref b)] []) (s : xS) (sd : xS) (le : Nat → Int32) (nl : Nat) (nu : Nat → Int32) (nc : Nat) (lw : Nat) (sz : Nat) (cs : Nat → xS) (lw2 : Nat) (sz2 : Nat) (cs2 : Nat → xS) (th : Nat → Int32) (sa : Nat → Int32) (ns : Nat) (f : Nat → Int32) (pa : Nat) (rp : Nat) (rq : Nat) (kd : Nat → Int32) (W : Nat → Int32) (Kp : Nat → Int32) (sg : Nat → Int32) (le2 : Nat → Int32) (tl : Nat → Int32) (rk : Nat → Int32) (rd : Nat → Int32) (nw : Nat → Int32) (rw : Nat → Int32) (h0 : LI s kd le le2 nl lw sz cs W lw2 sz2 cs2 Kp ns th sa sg) : K (xJ [wInk G o x w d h g q e, wTx G x le nl nu nc, wCq G w s, wCq G d sd, wSh8 G h ad lw sz, wSh2 G g ad2 lw2 sz2, wSg G q th sa ns, wIA G e 41 f, wMo G a s.1 s.2.1 sz sz2 ns nl pa rp rq kd (en s) W Kp sg le2 tl rk rd nw rw, wCs G ad cs 8, wCs G ad2 cs2 2]) 84 2407 425 [(3, .int (nI i)), (2, .ref (a 0)), (1, .ref o), (0, .ref b)] [] := by
  have hall := h0
  obtain ⟨⟨hg, hs1, hkd⟩, ⟨hnl, hle⟩, ⟨hlw, hsz, hW, hcs⟩, ⟨hlw2, hsz2, hKp, hcs2⟩, ⟨hns, hsg, hth⟩⟩ := h0
  obtain ⟨hs6, ⟨hq1, hq5⟩, hmi, hbv, hbl⟩ := hg
  have hg : GS s := hall.st.gs
  refine x_aloadn X dL_law_425 2 rfl ?_
  refine x_aloadn X dL_law_426 3 rfl ?_
  refine x_iloadn X dL_law_427 0 rfl ?_
  refine x_iconst (v := nI 1) X dL_law_428 (by decide) ?_
  refine x_iadd (v := nI (i + 1)) X dL_law_429 (nI_add _ _) ?_
  refine x_sld X (fun _ _ h => h.2.2) (by omega) (by omega) dL_law_430 ?_
  refine x_aloadn X dL_law_431 3 rfl ?_
  refine x_iloadn X dL_law_432 0 rfl ?_
  refine x_iconst (v := nI 2) X dL_law_433 (by decide) ?_
  refine x_iadd (v := nI (i + 2)) X dL_law_434 (nI_add _ _) ?_
  refine x_sld X (fun _ _ h => h.2.2) (by omega) (by omega) dL_law_435 ?_
  refine x_aloadn X dL_law_436 3 rfl ?_
  refine x_iloadn X dL_law_437 0 rfl ?_
  refine x_iconst (v := nI 3) X dL_law_438 (by decide) ?_
  refine x_iadd (v := nI (i + 3)) X dL_law_439 (nI_add _ _) ?_
  refine x_sld X (fun _ _ h => h.2.2) (by omega) (by omega) dL_law_440 ?_
  refine x_callVJfv (As := [.int (xs (i + 1)), .int (xs (i + 2)), .int (xs (i + 3))]) (rest := []) (segs := [wInk G o x w d h g q e, wTx G x le nl nu nc, wCq G w s, wCq G d sd, wSh8 G h ad lw sz, wSh2 G g ad2 lw2 sz2, wSg G q th sa ns, wIA G e 41 f, wMo G a s.1 s.2.1 sz sz2 ns nl pa rp rq kd (en s) W Kp sg le2 tl rk rd nw rw, wCs G ad cs 8, wCs G ad2 cs2 2]) (segs' := [wInk G o x w d h g q e, wTx G x le nl nu nc, wCq G w (F_eraseS s (xs (i + 1)) (xs (i + 2)) (xs (i + 3))), wCq G d sd, wSh8 G h ad (pLw (F_eraseOk s (xs (i + 1)) (xs (i + 2)) (xs (i + 3))) lw sz) (pSz (F_eraseOk s (xs (i + 1)) (xs (i + 2)) (xs (i + 3))) sz), wSh2 G g ad2 lw2 sz2, wSg G q th sa ns, wIA G e 41 f, wMo G a s.1 s.2.1 sz sz2 ns nl pa rp rq kd (en s) W Kp sg le2 tl rk rd nw rw, wCs G ad (pCs (F_eraseOk s (xs (i + 1)) (xs (i + 2)) (xs (i + 3))) cs lw sz s) 8, wCs G ad2 cs2 2]) (mid := [wTx G x le nl nu nc, wCq G d sd, wSh2 G g ad2 lw2 sz2, wSg G q th sa ns, wIA G e 41 f, wMo G a s.1 s.2.1 sz sz2 ns nl pa rp rq kd (en s) W Kp sg le2 tl rk rd nw rw, wCs G ad2 cs2 2]) (w1 := xJ [wInk G o x w d h g q e, wSh8 G h ad (pLw (F_eraseOk s (xs (i + 1)) (xs (i + 2)) (xs (i + 3))) lw sz) (pSz (F_eraseOk s (xs (i + 1)) (xs (i + 2)) (xs (i + 3))) sz), wCq G w (F_eraseS s (xs (i + 1)) (xs (i + 2)) (xs (i + 3))), wCs G ad (pCs (F_eraseOk s (xs (i + 1)) (xs (i + 2)) (xs (i + 3))) cs lw sz s) 8]) [0, 4, 2, 9] [1, 3, 5, 6, 7, 8, 10] (show ([0, 4, 2, 9] ++ [1, 3, 5, 6, 7, 8, 10] : List Nat).Perm (List.range 11) from by decide) rfl X (c_X4_erase l G o x w d h g q e ad lw sz s cs (xs (i + 1)) (xs (i + 2)) (xs (i + 3)) (by omega) (by omega) (by omega) (by assumption) (by omega) (by omega)) rfl rfl rfl rfl xE0_ok (fun _ _ _ => trivial) 0 rfl rfl rfl wco_X4_erase wi_X4 xd_X4_erase wl_L_54 win_X4_erase wse_X4_erase (by decide) (Nat.le_of_ble_eq_true rfl) dL_law_441 (by simp only [xJ, List.map_append, skCs, wCh, wIA, wTx, wSg, wSh8, wSh2, wInk, List.map_cons, List.map_nil]) ?_
  refine x_aloadn X dL_law_444 1 rfl ?_
  refine x_aloadn X dL_law_445 3 rfl ?_
  refine x_iloadn X dL_law_446 0 rfl ?_
  refine x_iconst (v := nI 1) X dL_law_447 (by decide) ?_
  refine x_iadd (v := nI (i + 1)) X dL_law_448 (nI_add _ _) ?_
  refine x_sld X (fun _ _ h => h.2.2) (by omega) (by omega) dL_law_449 ?_
  refine x_aloadn X dL_law_450 3 rfl ?_
  refine x_iloadn X dL_law_451 0 rfl ?_
  refine x_iconst (v := nI 2) X dL_law_452 (by decide) ?_
  refine x_iadd (v := nI (i + 2)) X dL_law_453 (nI_add _ _) ?_
  refine x_sld X (fun _ _ h => h.2.2) (by omega) (by omega) dL_law_454 ?_
  refine x_aloadn X dL_law_455 3 rfl ?_
  refine x_iloadn X dL_law_456 0 rfl ?_
  refine x_iconst (v := nI 3) X dL_law_457 (by decide) ?_
  refine x_iadd (v := nI (i + 3)) X dL_law_458 (nI_add _ _) ?_
  refine x_sld X (fun _ _ h => h.2.2) (by omega) (by omega) dL_law_459 ?_
  refine x_callVJ (As := [.int (xs (i + 1)), .int (xs (i + 2)), .int (xs (i + 3))]) (rest := [.int (F_erase s (xs (i + 1)) (xs (i + 2)) (xs (i + 3)))]) (segs := [wInk G o x w d h g q e, wTx G x le nl nu nc, wCq G w (F_eraseS s (xs (i + 1)) (xs (i + 2)) (xs (i + 3))), wCq G d sd, wSh8 G h ad (pLw (F_eraseOk s (xs (i + 1)) (xs (i + 2)) (xs (i + 3))) lw sz) (pSz (F_eraseOk s (xs (i + 1)) (xs (i + 2)) (xs (i + 3))) sz), wSh2 G g ad2 lw2 sz2, wSg G q th sa ns, wIA G e 41 f, wMo G a s.1 s.2.1 sz sz2 ns nl pa rp rq kd (en s) W Kp sg le2 tl rk rd nw rw, wCs G ad (pCs (F_eraseOk s (xs (i + 1)) (xs (i + 2)) (xs (i + 3))) cs lw sz s) 8, wCs G ad2 cs2 2]) [8] [0, 1, 2, 3, 4, 5, 6, 7, 9, 10] (show ([8] ++ [0, 1, 2, 3, 4, 5, 6, 7, 9, 10] : List Nat).Perm (List.range 11) from by decide) X (c_X5_erase l G a sz sz2 ns nl pa rp rq kd W Kp sg le2 tl rk rd nw rw s (xs (i + 1)) (xs (i + 2)) (xs (i + 3)) (by omega) (by omega) (by omega) (by omega) (by assumption) (by assumption) (by assumption) (by assumption) (by omega)) rfl xE0_ok (fun _ _ _ => trivial) 0 rfl rfl rfl wco_X5_erase wi_X5 xd_X5_erase wl_L_57 win_X5_erase wse_X5_erase (by decide) (Nat.le_of_ble_eq_true rfl) dL_law_460 (fun w2 h => by obtain ⟨nw_1, rfl⟩ := h; exact (Eq.trans (b := [a 0, a 1, a 2, a 3, a 4, a 5, a 6, a 7, a 8, a 9, a 10, a 11]) rfl rfl)) (fun w_2 hw_2 => ?_)
  obtain ⟨nw_1, rfl⟩ := hw_2
  refine x_backV (segs := [wInk G o x w d h g q e, wTx G x le nl nu nc, wCq G w (F_eraseS s (xs (i + 1)) (xs (i + 2)) (xs (i + 3))), wCq G d sd, wSh8 G h ad (pLw (F_eraseOk s (xs (i + 1)) (xs (i + 2)) (xs (i + 3))) lw sz) (pSz (F_eraseOk s (xs (i + 1)) (xs (i + 2)) (xs (i + 3))) sz), wSh2 G g ad2 lw2 sz2, wSg G q th sa ns, wIA G e 41 f, wMo G a s.1 s.2.1 sz sz2 ns nl pa rp rq kd (en s) W Kp sg le2 tl rk rd nw rw, wCs G ad (pCs (F_eraseOk s (xs (i + 1)) (xs (i + 2)) (xs (i + 3))) cs lw sz s) 8, wCs G ad2 cs2 2]) (segs' := [wInk G o x w d h g q e, wTx G x le nl nu nc, wCq G w (F_eraseS s (xs (i + 1)) (xs (i + 2)) (xs (i + 3))), wCq G d sd, wSh8 G h ad (pLw (F_eraseOk s (xs (i + 1)) (xs (i + 2)) (xs (i + 3))) lw sz) (pSz (F_eraseOk s (xs (i + 1)) (xs (i + 2)) (xs (i + 3))) sz), wSh2 G g ad2 lw2 sz2, wSg G q th sa ns, wIA G e 41 f, wMo G a s.1 s.2.1 (mN (F_eraseOk s (xs (i + 1)) (xs (i + 2)) (xs (i + 3))) sz) sz2 ns nl pa rp rq kd (en (F_eraseS s (xs (i + 1)) (xs (i + 2)) (xs (i + 3)))) (mWb (F_eraseOk s (xs (i + 1)) (xs (i + 2)) (xs (i + 3))) W (en s) sz) Kp sg le2 tl rk rd nw_1 rw, wCs G ad (pCs (F_eraseOk s (xs (i + 1)) (xs (i + 2)) (xs (i + 3))) cs lw sz s) 8, wCs G ad2 cs2 2]) (mid := [wInk G o x w d h g q e, wTx G x le nl nu nc, wCq G w (F_eraseS s (xs (i + 1)) (xs (i + 2)) (xs (i + 3))), wCq G d sd, wSh8 G h ad (pLw (F_eraseOk s (xs (i + 1)) (xs (i + 2)) (xs (i + 3))) lw sz) (pSz (F_eraseOk s (xs (i + 1)) (xs (i + 2)) (xs (i + 3))) sz), wSh2 G g ad2 lw2 sz2, wSg G q th sa ns, wIA G e 41 f, wCs G ad (pCs (F_eraseOk s (xs (i + 1)) (xs (i + 2)) (xs (i + 3))) cs lw sz s) 8, wCs G ad2 cs2 2]) [8] [0, 1, 2, 3, 4, 5, 6, 7, 9, 10] (show ([8] ++ [0, 1, 2, 3, 4, 5, 6, 7, 9, 10] : List Nat).Perm (List.range 11) from by decide) X rfl rfl rfl ?_
  refine x_wst (ws' := xJ [wInk G o x w d h g q e, wTx G x le nl nu nc, wCq G w (F_eraseS s (xs (i + 1)) (xs (i + 2)) (xs (i + 3))), wCq G d sd, wSh8 G h ad (pLw (F_eraseOk s (xs (i + 1)) (xs (i + 2)) (xs (i + 3))) lw sz) (pSz (F_eraseOk s (xs (i + 1)) (xs (i + 2)) (xs (i + 3))) sz), wSh2 G g ad2 lw2 sz2, wSg G q th sa ns, wIA G e 41 f, wMo G a s.1 s.2.1 (mN (F_eraseOk s (xs (i + 1)) (xs (i + 2)) (xs (i + 3))) sz) sz2 ns nl pa rp rq kd (en (F_eraseS s (xs (i + 1)) (xs (i + 2)) (xs (i + 3)))) (mWb (F_eraseOk s (xs (i + 1)) (xs (i + 2)) (xs (i + 3))) W (en s) sz) Kp sg le2 tl rk rd nw_1 rw, wCs G ad (pCs (F_eraseOk s (xs (i + 1)) (xs (i + 2)) (xs (i + 3))) cs lw sz s) 8, wCs G ad2 cs2 2]) (st' := [.int (F_erase s (xs (i + 1)) (xs (i + 2)) (xs (i + 3))), .int (F_erase s (xs (i + 1)) (xs (i + 2)) (xs (i + 3)))]) rfl rfl ?_
  refine x_icmp_eq 1149 X dL_law_463 (by decide) (fun c_3 => ?_) (fun c_3 => ?_)
  · -- 463 t
    have hS : GS (F_eraseS s (xs (i + 1)) (xs (i + 2)) (xs (i + 3))) ∧ SE (F_eraseS s (xs (i + 1)) (xs (i + 2)) (xs (i + 3))) s := erase_ok hg
    have hk := kk (F_eraseS s (xs (i + 1)) (xs (i + 2)) (xs (i + 3))) sd le nl nu nc (pLw (F_eraseOk s (xs (i + 1)) (xs (i + 2)) (xs (i + 3))) lw sz) (pSz (F_eraseOk s (xs (i + 1)) (xs (i + 2)) (xs (i + 3))) sz) (pCs (F_eraseOk s (xs (i + 1)) (xs (i + 2)) (xs (i + 3))) cs lw sz s) lw2 sz2 cs2 th sa ns f pa rp rq kd (mWb (F_eraseOk s (xs (i + 1)) (xs (i + 2)) (xs (i + 3))) W (en s) sz) Kp sg le2 tl rk rd nw_1 rw (⟨hall.st.to hS.1 hS.2, hall.tx, hall.ps.push _ hg hS.2, hall.kp.to hS.2, hall.si⟩)
    rw [hS.2.1, hS.2.2.1] at hk
    rw [mN_pSz hsz]
    exact hk
  · -- 463 f
    exact absurd rfl c_3
set_option maxRecDepth 100000 in
set_option maxHeartbeats 4000000 in
/-- copy -/
theorem lw_copy {l : Launch} {G : xG} {nm : String} {tW sq sv : Nat} {sw : Value} {b L : Nat} {xs : Nat → Int32} {Z : Option Value → va_W → Nat → Nat → Prop} {K : xKt} (X : xR l G (xEL tW sq sv sw b L xs) RL nm cL_law 4 room_1 Z K) {o : Nat} {x : Nat → Nat} {w : Nat → Nat} {d : Nat → Nat} {h : Nat → Nat} {g : Nat → Nat} {q : Nat → Nat} {e : Nat} {ad : Nat → Nat → Nat} {ad2 : Nat → Nat → Nat} {a : Nat → Nat} (hL : L ≤ 384) {i : Nat} (hi : i + 6 ≤ L) (kk : ∀ (s : xS) (sd : xS) (le : Nat → Int32) (nl : Nat) (nu : Nat → Int32) (nc : Nat) (lw : Nat) (sz : Nat) (cs : Nat → xS) (lw2 : Nat) (sz2 : Nat) (cs2 : Nat → xS) (th : Nat → Int32) (sa : Nat → Int32) (ns : Nat) (f : Nat → Int32) (pa : Nat) (rp : Nat) (rq : Nat) (kd : Nat → Int32) (W : Nat → Int32) (Kp : Nat → Int32) (sg : Nat → Int32) (le2 : Nat → Int32) (tl : Nat → Int32) (rk : Nat → Int32) (rd : Nat → Int32) (nw : Nat → Int32) (rw : Nat → Int32), LI s kd le le2 nl lw sz cs W lw2 sz2 cs2 Kp ns th sa sg → K (xJ [wInk G o x w d h g q e, wTx G x le nl nu nc, wCq G w s, wCq G d sd, wSh8 G h ad lw sz, wSh2 G g ad2 lw2 sz2, wSg G q th sa ns, wIA G e 41 f, wMo G a s.1 s.2.1 sz sz2 ns nl pa rp rq kd (en s) W Kp sg le2 tl rk rd nw rw, wCs G ad cs 8, wCs G ad2 cs2 2]) 84 2407 1149 [(3, .int (nI i)), (2, .ref (a 0)), (1, .ref o), (0, .ref b)] []) (s : xS) (sd : xS) (le : Nat → Int32) (nl : Nat) (nu : Nat → Int32) (nc : Nat) (lw : Nat) (sz : Nat) (cs : Nat → xS) (lw2 : Nat) (sz2 : Nat) (cs2 : Nat → xS) (th : Nat → Int32) (sa : Nat → Int32) (ns : Nat) (f : Nat → Int32) (pa : Nat) (rp : Nat) (rq : Nat) (kd : Nat → Int32) (W : Nat → Int32) (Kp : Nat → Int32) (sg : Nat → Int32) (le2 : Nat → Int32) (tl : Nat → Int32) (rk : Nat → Int32) (rd : Nat → Int32) (nw : Nat → Int32) (rw : Nat → Int32) (h0 : LI s kd le le2 nl lw sz cs W lw2 sz2 cs2 Kp ns th sa sg) : K (xJ [wInk G o x w d h g q e, wTx G x le nl nu nc, wCq G w s, wCq G d sd, wSh8 G h ad lw sz, wSh2 G g ad2 lw2 sz2, wSg G q th sa ns, wIA G e 41 f, wMo G a s.1 s.2.1 sz sz2 ns nl pa rp rq kd (en s) W Kp sg le2 tl rk rd nw rw, wCs G ad cs 8, wCs G ad2 cs2 2]) 84 2407 468 [(3, .int (nI i)), (2, .ref (a 0)), (1, .ref o), (0, .ref b)] [] := by
  have hall := h0
  obtain ⟨⟨hg, hs1, hkd⟩, ⟨hnl, hle⟩, ⟨hlw, hsz, hW, hcs⟩, ⟨hlw2, hsz2, hKp, hcs2⟩, ⟨hns, hsg, hth⟩⟩ := h0
  obtain ⟨hs6, ⟨hq1, hq5⟩, hmi, hbv, hbl⟩ := hg
  have hg : GS s := hall.st.gs
  refine x_aloadn X dL_law_468 2 rfl ?_
  refine x_aloadn X dL_law_469 3 rfl ?_
  refine x_iloadn X dL_law_470 0 rfl ?_
  refine x_iconst (v := nI 1) X dL_law_471 (by decide) ?_
  refine x_iadd (v := nI (i + 1)) X dL_law_472 (nI_add _ _) ?_
  refine x_sld X (fun _ _ h => h.2.2) (by omega) (by omega) dL_law_473 ?_
  refine x_aloadn X dL_law_474 3 rfl ?_
  refine x_iloadn X dL_law_475 0 rfl ?_
  refine x_iconst (v := nI 2) X dL_law_476 (by decide) ?_
  refine x_iadd (v := nI (i + 2)) X dL_law_477 (nI_add _ _) ?_
  refine x_sld X (fun _ _ h => h.2.2) (by omega) (by omega) dL_law_478 ?_
  refine x_aloadn X dL_law_479 3 rfl ?_
  refine x_iloadn X dL_law_480 0 rfl ?_
  refine x_iconst (v := nI 3) X dL_law_481 (by decide) ?_
  refine x_iadd (v := nI (i + 3)) X dL_law_482 (nI_add _ _) ?_
  refine x_sld X (fun _ _ h => h.2.2) (by omega) (by omega) dL_law_483 ?_
  refine x_callVJfv (As := [.int (xs (i + 1)), .int (xs (i + 2)), .int (xs (i + 3))]) (rest := []) (segs := [wInk G o x w d h g q e, wTx G x le nl nu nc, wCq G w s, wCq G d sd, wSh8 G h ad lw sz, wSh2 G g ad2 lw2 sz2, wSg G q th sa ns, wIA G e 41 f, wMo G a s.1 s.2.1 sz sz2 ns nl pa rp rq kd (en s) W Kp sg le2 tl rk rd nw rw, wCs G ad cs 8, wCs G ad2 cs2 2]) (segs' := [wInk G o x w d h g q e, wTx G x le nl nu nc, wCq G w (F_copyS s (xs (i + 1)) (xs (i + 2)) (xs (i + 3))), wCq G d sd, wSh8 G h ad (pLw (F_copyOk s (xs (i + 1)) (xs (i + 2)) (xs (i + 3))) lw sz) (pSz (F_copyOk s (xs (i + 1)) (xs (i + 2)) (xs (i + 3))) sz), wSh2 G g ad2 lw2 sz2, wSg G q th sa ns, wIA G e 41 f, wMo G a s.1 s.2.1 sz sz2 ns nl pa rp rq kd (en s) W Kp sg le2 tl rk rd nw rw, wCs G ad (pCs (F_copyOk s (xs (i + 1)) (xs (i + 2)) (xs (i + 3))) cs lw sz s) 8, wCs G ad2 cs2 2]) (mid := [wTx G x le nl nu nc, wCq G d sd, wSh2 G g ad2 lw2 sz2, wSg G q th sa ns, wIA G e 41 f, wMo G a s.1 s.2.1 sz sz2 ns nl pa rp rq kd (en s) W Kp sg le2 tl rk rd nw rw, wCs G ad2 cs2 2]) (w1 := xJ [wInk G o x w d h g q e, wSh8 G h ad (pLw (F_copyOk s (xs (i + 1)) (xs (i + 2)) (xs (i + 3))) lw sz) (pSz (F_copyOk s (xs (i + 1)) (xs (i + 2)) (xs (i + 3))) sz), wCq G w (F_copyS s (xs (i + 1)) (xs (i + 2)) (xs (i + 3))), wCs G ad (pCs (F_copyOk s (xs (i + 1)) (xs (i + 2)) (xs (i + 3))) cs lw sz s) 8]) [0, 4, 2, 9] [1, 3, 5, 6, 7, 8, 10] (show ([0, 4, 2, 9] ++ [1, 3, 5, 6, 7, 8, 10] : List Nat).Perm (List.range 11) from by decide) rfl X (c_X4_copy l G o x w d h g q e ad lw sz s cs (xs (i + 1)) (xs (i + 2)) (xs (i + 3)) (by omega) (by omega) (by omega) (by assumption) (by omega) (by omega)) rfl rfl rfl rfl xE0_ok (fun _ _ _ => trivial) 0 rfl rfl rfl wco_X4_copy wi_X4 xd_X4_copy wl_L_58 win_X4_copy wse_X4_copy (by decide) (Nat.le_of_ble_eq_true rfl) dL_law_484 (by simp only [xJ, List.map_append, skCs, wCh, wIA, wTx, wSg, wSh8, wSh2, wInk, List.map_cons, List.map_nil]) ?_
  refine x_aloadn X dL_law_487 1 rfl ?_
  refine x_aloadn X dL_law_488 3 rfl ?_
  refine x_iloadn X dL_law_489 0 rfl ?_
  refine x_iconst (v := nI 1) X dL_law_490 (by decide) ?_
  refine x_iadd (v := nI (i + 1)) X dL_law_491 (nI_add _ _) ?_
  refine x_sld X (fun _ _ h => h.2.2) (by omega) (by omega) dL_law_492 ?_
  refine x_aloadn X dL_law_493 3 rfl ?_
  refine x_iloadn X dL_law_494 0 rfl ?_
  refine x_iconst (v := nI 2) X dL_law_495 (by decide) ?_
  refine x_iadd (v := nI (i + 2)) X dL_law_496 (nI_add _ _) ?_
  refine x_sld X (fun _ _ h => h.2.2) (by omega) (by omega) dL_law_497 ?_
  refine x_aloadn X dL_law_498 3 rfl ?_
  refine x_iloadn X dL_law_499 0 rfl ?_
  refine x_iconst (v := nI 3) X dL_law_500 (by decide) ?_
  refine x_iadd (v := nI (i + 3)) X dL_law_501 (nI_add _ _) ?_
  refine x_sld X (fun _ _ h => h.2.2) (by omega) (by omega) dL_law_502 ?_
  refine x_callVJ (As := [.int (xs (i + 1)), .int (xs (i + 2)), .int (xs (i + 3))]) (rest := [.int (F_copy s (xs (i + 1)) (xs (i + 2)) (xs (i + 3)))]) (segs := [wInk G o x w d h g q e, wTx G x le nl nu nc, wCq G w (F_copyS s (xs (i + 1)) (xs (i + 2)) (xs (i + 3))), wCq G d sd, wSh8 G h ad (pLw (F_copyOk s (xs (i + 1)) (xs (i + 2)) (xs (i + 3))) lw sz) (pSz (F_copyOk s (xs (i + 1)) (xs (i + 2)) (xs (i + 3))) sz), wSh2 G g ad2 lw2 sz2, wSg G q th sa ns, wIA G e 41 f, wMo G a s.1 s.2.1 sz sz2 ns nl pa rp rq kd (en s) W Kp sg le2 tl rk rd nw rw, wCs G ad (pCs (F_copyOk s (xs (i + 1)) (xs (i + 2)) (xs (i + 3))) cs lw sz s) 8, wCs G ad2 cs2 2]) [8] [0, 1, 2, 3, 4, 5, 6, 7, 9, 10] (show ([8] ++ [0, 1, 2, 3, 4, 5, 6, 7, 9, 10] : List Nat).Perm (List.range 11) from by decide) X (c_X5_copy l G a sz sz2 ns nl pa rp rq kd W Kp sg le2 tl rk rd nw rw s (xs (i + 1)) (xs (i + 2)) (xs (i + 3)) (by omega) (by omega) (by omega) (by omega) (by assumption) (by assumption) (by assumption) (by assumption) (by omega)) rfl xE0_ok (fun _ _ _ => trivial) 0 rfl rfl rfl wco_X5_copy wi_X5 xd_X5_copy wl_L_61 win_X5_copy wse_X5_copy (by decide) (Nat.le_of_ble_eq_true rfl) dL_law_503 (fun w2 h => by obtain ⟨nw_1, rfl⟩ := h; exact (Eq.trans (b := [a 0, a 1, a 2, a 3, a 4, a 5, a 6, a 7, a 8, a 9, a 10, a 11]) rfl rfl)) (fun w_2 hw_2 => ?_)
  obtain ⟨nw_1, rfl⟩ := hw_2
  refine x_backV (segs := [wInk G o x w d h g q e, wTx G x le nl nu nc, wCq G w (F_copyS s (xs (i + 1)) (xs (i + 2)) (xs (i + 3))), wCq G d sd, wSh8 G h ad (pLw (F_copyOk s (xs (i + 1)) (xs (i + 2)) (xs (i + 3))) lw sz) (pSz (F_copyOk s (xs (i + 1)) (xs (i + 2)) (xs (i + 3))) sz), wSh2 G g ad2 lw2 sz2, wSg G q th sa ns, wIA G e 41 f, wMo G a s.1 s.2.1 sz sz2 ns nl pa rp rq kd (en s) W Kp sg le2 tl rk rd nw rw, wCs G ad (pCs (F_copyOk s (xs (i + 1)) (xs (i + 2)) (xs (i + 3))) cs lw sz s) 8, wCs G ad2 cs2 2]) (segs' := [wInk G o x w d h g q e, wTx G x le nl nu nc, wCq G w (F_copyS s (xs (i + 1)) (xs (i + 2)) (xs (i + 3))), wCq G d sd, wSh8 G h ad (pLw (F_copyOk s (xs (i + 1)) (xs (i + 2)) (xs (i + 3))) lw sz) (pSz (F_copyOk s (xs (i + 1)) (xs (i + 2)) (xs (i + 3))) sz), wSh2 G g ad2 lw2 sz2, wSg G q th sa ns, wIA G e 41 f, wMo G a s.1 s.2.1 (mN (F_copyOk s (xs (i + 1)) (xs (i + 2)) (xs (i + 3))) sz) sz2 ns nl pa rp rq kd (en (F_copyS s (xs (i + 1)) (xs (i + 2)) (xs (i + 3)))) (mWb (F_copyOk s (xs (i + 1)) (xs (i + 2)) (xs (i + 3))) W (en s) sz) Kp sg le2 tl rk rd nw_1 rw, wCs G ad (pCs (F_copyOk s (xs (i + 1)) (xs (i + 2)) (xs (i + 3))) cs lw sz s) 8, wCs G ad2 cs2 2]) (mid := [wInk G o x w d h g q e, wTx G x le nl nu nc, wCq G w (F_copyS s (xs (i + 1)) (xs (i + 2)) (xs (i + 3))), wCq G d sd, wSh8 G h ad (pLw (F_copyOk s (xs (i + 1)) (xs (i + 2)) (xs (i + 3))) lw sz) (pSz (F_copyOk s (xs (i + 1)) (xs (i + 2)) (xs (i + 3))) sz), wSh2 G g ad2 lw2 sz2, wSg G q th sa ns, wIA G e 41 f, wCs G ad (pCs (F_copyOk s (xs (i + 1)) (xs (i + 2)) (xs (i + 3))) cs lw sz s) 8, wCs G ad2 cs2 2]) [8] [0, 1, 2, 3, 4, 5, 6, 7, 9, 10] (show ([8] ++ [0, 1, 2, 3, 4, 5, 6, 7, 9, 10] : List Nat).Perm (List.range 11) from by decide) X rfl rfl rfl ?_
  refine x_wst (ws' := xJ [wInk G o x w d h g q e, wTx G x le nl nu nc, wCq G w (F_copyS s (xs (i + 1)) (xs (i + 2)) (xs (i + 3))), wCq G d sd, wSh8 G h ad (pLw (F_copyOk s (xs (i + 1)) (xs (i + 2)) (xs (i + 3))) lw sz) (pSz (F_copyOk s (xs (i + 1)) (xs (i + 2)) (xs (i + 3))) sz), wSh2 G g ad2 lw2 sz2, wSg G q th sa ns, wIA G e 41 f, wMo G a s.1 s.2.1 (mN (F_copyOk s (xs (i + 1)) (xs (i + 2)) (xs (i + 3))) sz) sz2 ns nl pa rp rq kd (en (F_copyS s (xs (i + 1)) (xs (i + 2)) (xs (i + 3)))) (mWb (F_copyOk s (xs (i + 1)) (xs (i + 2)) (xs (i + 3))) W (en s) sz) Kp sg le2 tl rk rd nw_1 rw, wCs G ad (pCs (F_copyOk s (xs (i + 1)) (xs (i + 2)) (xs (i + 3))) cs lw sz s) 8, wCs G ad2 cs2 2]) (st' := [.int (F_copy s (xs (i + 1)) (xs (i + 2)) (xs (i + 3))), .int (F_copy s (xs (i + 1)) (xs (i + 2)) (xs (i + 3)))]) rfl rfl ?_
  refine x_icmp_eq 1149 X dL_law_506 (by decide) (fun c_3 => ?_) (fun c_3 => ?_)
  · -- 506 t
    have hS : GS (F_copyS s (xs (i + 1)) (xs (i + 2)) (xs (i + 3))) ∧ SE (F_copyS s (xs (i + 1)) (xs (i + 2)) (xs (i + 3))) s := copy_ok hg
    have hk := kk (F_copyS s (xs (i + 1)) (xs (i + 2)) (xs (i + 3))) sd le nl nu nc (pLw (F_copyOk s (xs (i + 1)) (xs (i + 2)) (xs (i + 3))) lw sz) (pSz (F_copyOk s (xs (i + 1)) (xs (i + 2)) (xs (i + 3))) sz) (pCs (F_copyOk s (xs (i + 1)) (xs (i + 2)) (xs (i + 3))) cs lw sz s) lw2 sz2 cs2 th sa ns f pa rp rq kd (mWb (F_copyOk s (xs (i + 1)) (xs (i + 2)) (xs (i + 3))) W (en s) sz) Kp sg le2 tl rk rd nw_1 rw (⟨hall.st.to hS.1 hS.2, hall.tx, hall.ps.push _ hg hS.2, hall.kp.to hS.2, hall.si⟩)
    rw [hS.2.1, hS.2.2.1] at hk
    rw [mN_pSz hsz]
    exact hk
  · -- 506 f
    exact absurd rfl c_3
set_option maxRecDepth 100000 in
set_option maxHeartbeats 4000000 in
/-- think -/
theorem lw_think {l : Launch} {G : xG} {nm : String} {tW sq sv : Nat} {sw : Value} {b L : Nat} {xs : Nat → Int32} {Z : Option Value → va_W → Nat → Nat → Prop} {K : xKt} (X : xR l G (xEL tW sq sv sw b L xs) RL nm cL_law 4 room_1 Z K) {o : Nat} {x : Nat → Nat} {w : Nat → Nat} {d : Nat → Nat} {h : Nat → Nat} {g : Nat → Nat} {q : Nat → Nat} {e : Nat} {ad : Nat → Nat → Nat} {ad2 : Nat → Nat → Nat} {a : Nat → Nat} (hL : L ≤ 384) {i : Nat} (hi : i + 6 ≤ L) (kk : ∀ (s : xS) (sd : xS) (le : Nat → Int32) (nl : Nat) (nu : Nat → Int32) (nc : Nat) (lw : Nat) (sz : Nat) (cs : Nat → xS) (lw2 : Nat) (sz2 : Nat) (cs2 : Nat → xS) (th : Nat → Int32) (sa : Nat → Int32) (ns : Nat) (f : Nat → Int32) (pa : Nat) (rp : Nat) (rq : Nat) (kd : Nat → Int32) (W : Nat → Int32) (Kp : Nat → Int32) (sg : Nat → Int32) (le2 : Nat → Int32) (tl : Nat → Int32) (rk : Nat → Int32) (rd : Nat → Int32) (nw : Nat → Int32) (rw : Nat → Int32), LI s kd le le2 nl lw sz cs W lw2 sz2 cs2 Kp ns th sa sg → K (xJ [wInk G o x w d h g q e, wTx G x le nl nu nc, wCq G w s, wCq G d sd, wSh8 G h ad lw sz, wSh2 G g ad2 lw2 sz2, wSg G q th sa ns, wIA G e 41 f, wMo G a s.1 s.2.1 sz sz2 ns nl pa rp rq kd (en s) W Kp sg le2 tl rk rd nw rw, wCs G ad cs 8, wCs G ad2 cs2 2]) 84 2407 1149 [(3, .int (nI i)), (2, .ref (a 0)), (1, .ref o), (0, .ref b)] []) (s : xS) (sd : xS) (le : Nat → Int32) (nl : Nat) (nu : Nat → Int32) (nc : Nat) (lw : Nat) (sz : Nat) (cs : Nat → xS) (lw2 : Nat) (sz2 : Nat) (cs2 : Nat → xS) (th : Nat → Int32) (sa : Nat → Int32) (ns : Nat) (f : Nat → Int32) (pa : Nat) (rp : Nat) (rq : Nat) (kd : Nat → Int32) (W : Nat → Int32) (Kp : Nat → Int32) (sg : Nat → Int32) (le2 : Nat → Int32) (tl : Nat → Int32) (rk : Nat → Int32) (rd : Nat → Int32) (nw : Nat → Int32) (rw : Nat → Int32) (h0 : LI s kd le le2 nl lw sz cs W lw2 sz2 cs2 Kp ns th sa sg) : K (xJ [wInk G o x w d h g q e, wTx G x le nl nu nc, wCq G w s, wCq G d sd, wSh8 G h ad lw sz, wSh2 G g ad2 lw2 sz2, wSg G q th sa ns, wIA G e 41 f, wMo G a s.1 s.2.1 sz sz2 ns nl pa rp rq kd (en s) W Kp sg le2 tl rk rd nw rw, wCs G ad cs 8, wCs G ad2 cs2 2]) 84 2407 511 [(3, .int (nI i)), (2, .ref (a 0)), (1, .ref o), (0, .ref b)] [] := by
  have hall := h0
  obtain ⟨⟨hg, hs1, hkd⟩, ⟨hnl, hle⟩, ⟨hlw, hsz, hW, hcs⟩, ⟨hlw2, hsz2, hKp, hcs2⟩, ⟨hns, hsg, hth⟩⟩ := h0
  obtain ⟨hs6, ⟨hq1, hq5⟩, hmi, hbv, hbl⟩ := hg
  have hg : GS s := hall.st.gs
  refine x_aloadn X dL_law_511 2 rfl ?_
  refine x_aloadn X dL_law_512 3 rfl ?_
  refine x_iloadn X dL_law_513 0 rfl ?_
  refine x_iconst (v := nI 1) X dL_law_514 (by decide) ?_
  refine x_iadd (v := nI (i + 1)) X dL_law_515 (nI_add _ _) ?_
  refine x_sld X (fun _ _ h => h.2.2) (by omega) (by omega) dL_law_516 ?_
  refine x_aloadn X dL_law_517 3 rfl ?_
  refine x_iloadn X dL_law_518 0 rfl ?_
  refine x_iconst (v := nI 2) X dL_law_519 (by decide) ?_
  refine x_iadd (v := nI (i + 2)) X dL_law_520 (nI_add _ _) ?_
  refine x_sld X (fun _ _ h => h.2.2) (by omega) (by omega) dL_law_521 ?_
  refine x_aloadn X dL_law_522 3 rfl ?_
  refine x_iloadn X dL_law_523 0 rfl ?_
  refine x_iconst (v := nI 3) X dL_law_524 (by decide) ?_
  refine x_iadd (v := nI (i + 3)) X dL_law_525 (nI_add _ _) ?_
  refine x_sld X (fun _ _ h => h.2.2) (by omega) (by omega) dL_law_526 ?_
  refine x_callVJfv (As := [.int (xs (i + 1)), .int (xs (i + 2)), .int (xs (i + 3))]) (rest := []) (segs := [wInk G o x w d h g q e, wTx G x le nl nu nc, wCq G w s, wCq G d sd, wSh8 G h ad lw sz, wSh2 G g ad2 lw2 sz2, wSg G q th sa ns, wIA G e 41 f, wMo G a s.1 s.2.1 sz sz2 ns nl pa rp rq kd (en s) W Kp sg le2 tl rk rd nw rw, wCs G ad cs 8, wCs G ad2 cs2 2]) (segs' := [wInk G o x w d h g q e, wTx G x le nl nu nc, wCq G w (F_thinkS s (xs (i + 1)) (xs (i + 2)) (xs (i + 3))), wCq G d sd, wSh8 G h ad (pLw (F_thinkOk s (xs (i + 1)) (xs (i + 2)) (xs (i + 3))) lw sz) (pSz (F_thinkOk s (xs (i + 1)) (xs (i + 2)) (xs (i + 3))) sz), wSh2 G g ad2 lw2 sz2, wSg G q th sa ns, wIA G e 41 f, wMo G a s.1 s.2.1 sz sz2 ns nl pa rp rq kd (en s) W Kp sg le2 tl rk rd nw rw, wCs G ad (pCs (F_thinkOk s (xs (i + 1)) (xs (i + 2)) (xs (i + 3))) cs lw sz s) 8, wCs G ad2 cs2 2]) (mid := [wTx G x le nl nu nc, wCq G d sd, wSh2 G g ad2 lw2 sz2, wSg G q th sa ns, wIA G e 41 f, wMo G a s.1 s.2.1 sz sz2 ns nl pa rp rq kd (en s) W Kp sg le2 tl rk rd nw rw, wCs G ad2 cs2 2]) (w1 := xJ [wInk G o x w d h g q e, wSh8 G h ad (pLw (F_thinkOk s (xs (i + 1)) (xs (i + 2)) (xs (i + 3))) lw sz) (pSz (F_thinkOk s (xs (i + 1)) (xs (i + 2)) (xs (i + 3))) sz), wCq G w (F_thinkS s (xs (i + 1)) (xs (i + 2)) (xs (i + 3))), wCs G ad (pCs (F_thinkOk s (xs (i + 1)) (xs (i + 2)) (xs (i + 3))) cs lw sz s) 8]) [0, 4, 2, 9] [1, 3, 5, 6, 7, 8, 10] (show ([0, 4, 2, 9] ++ [1, 3, 5, 6, 7, 8, 10] : List Nat).Perm (List.range 11) from by decide) rfl X (c_X4_think l G o x w d h g q e ad lw sz s cs (xs (i + 1)) (xs (i + 2)) (xs (i + 3)) (by omega) (by omega) (by omega) (by assumption) (by omega) (by omega)) rfl rfl rfl rfl xE0_ok (fun _ _ _ => trivial) 0 rfl rfl rfl wco_X4_think wi_X4 xd_X4_think wl_L_62 win_X4_think wse_X4_think (by decide) (Nat.le_of_ble_eq_true rfl) dL_law_527 (by simp only [xJ, List.map_append, skCs, wCh, wIA, wTx, wSg, wSh8, wSh2, wInk, List.map_cons, List.map_nil]) ?_
  refine x_aloadn X dL_law_530 1 rfl ?_
  refine x_aloadn X dL_law_531 3 rfl ?_
  refine x_iloadn X dL_law_532 0 rfl ?_
  refine x_iconst (v := nI 1) X dL_law_533 (by decide) ?_
  refine x_iadd (v := nI (i + 1)) X dL_law_534 (nI_add _ _) ?_
  refine x_sld X (fun _ _ h => h.2.2) (by omega) (by omega) dL_law_535 ?_
  refine x_aloadn X dL_law_536 3 rfl ?_
  refine x_iloadn X dL_law_537 0 rfl ?_
  refine x_iconst (v := nI 2) X dL_law_538 (by decide) ?_
  refine x_iadd (v := nI (i + 2)) X dL_law_539 (nI_add _ _) ?_
  refine x_sld X (fun _ _ h => h.2.2) (by omega) (by omega) dL_law_540 ?_
  refine x_aloadn X dL_law_541 3 rfl ?_
  refine x_iloadn X dL_law_542 0 rfl ?_
  refine x_iconst (v := nI 3) X dL_law_543 (by decide) ?_
  refine x_iadd (v := nI (i + 3)) X dL_law_544 (nI_add _ _) ?_
  refine x_sld X (fun _ _ h => h.2.2) (by omega) (by omega) dL_law_545 ?_
  refine x_callVJ (As := [.int (xs (i + 1)), .int (xs (i + 2)), .int (xs (i + 3))]) (rest := [.int (F_think s (xs (i + 1)) (xs (i + 2)) (xs (i + 3)))]) (segs := [wInk G o x w d h g q e, wTx G x le nl nu nc, wCq G w (F_thinkS s (xs (i + 1)) (xs (i + 2)) (xs (i + 3))), wCq G d sd, wSh8 G h ad (pLw (F_thinkOk s (xs (i + 1)) (xs (i + 2)) (xs (i + 3))) lw sz) (pSz (F_thinkOk s (xs (i + 1)) (xs (i + 2)) (xs (i + 3))) sz), wSh2 G g ad2 lw2 sz2, wSg G q th sa ns, wIA G e 41 f, wMo G a s.1 s.2.1 sz sz2 ns nl pa rp rq kd (en s) W Kp sg le2 tl rk rd nw rw, wCs G ad (pCs (F_thinkOk s (xs (i + 1)) (xs (i + 2)) (xs (i + 3))) cs lw sz s) 8, wCs G ad2 cs2 2]) [8] [0, 1, 2, 3, 4, 5, 6, 7, 9, 10] (show ([8] ++ [0, 1, 2, 3, 4, 5, 6, 7, 9, 10] : List Nat).Perm (List.range 11) from by decide) X (c_X5_think l G a sz sz2 ns nl pa rp rq kd W Kp sg le2 tl rk rd nw rw s (xs (i + 1)) (xs (i + 2)) (xs (i + 3)) (by omega) (by omega) (by omega) (by omega) (by assumption) (by assumption) (by assumption) (by assumption) (by omega)) rfl xE0_ok (fun _ _ _ => trivial) 0 rfl rfl rfl wco_X5_think wi_X5 xd_X5_think wl_L_65 win_X5_think wse_X5_think (by decide) (Nat.le_of_ble_eq_true rfl) dL_law_546 (fun w2 h => by obtain ⟨nw_1, rfl⟩ := h; exact (Eq.trans (b := [a 0, a 1, a 2, a 3, a 4, a 5, a 6, a 7, a 8, a 9, a 10, a 11]) rfl rfl)) (fun w_2 hw_2 => ?_)
  obtain ⟨nw_1, rfl⟩ := hw_2
  refine x_backV (segs := [wInk G o x w d h g q e, wTx G x le nl nu nc, wCq G w (F_thinkS s (xs (i + 1)) (xs (i + 2)) (xs (i + 3))), wCq G d sd, wSh8 G h ad (pLw (F_thinkOk s (xs (i + 1)) (xs (i + 2)) (xs (i + 3))) lw sz) (pSz (F_thinkOk s (xs (i + 1)) (xs (i + 2)) (xs (i + 3))) sz), wSh2 G g ad2 lw2 sz2, wSg G q th sa ns, wIA G e 41 f, wMo G a s.1 s.2.1 sz sz2 ns nl pa rp rq kd (en s) W Kp sg le2 tl rk rd nw rw, wCs G ad (pCs (F_thinkOk s (xs (i + 1)) (xs (i + 2)) (xs (i + 3))) cs lw sz s) 8, wCs G ad2 cs2 2]) (segs' := [wInk G o x w d h g q e, wTx G x le nl nu nc, wCq G w (F_thinkS s (xs (i + 1)) (xs (i + 2)) (xs (i + 3))), wCq G d sd, wSh8 G h ad (pLw (F_thinkOk s (xs (i + 1)) (xs (i + 2)) (xs (i + 3))) lw sz) (pSz (F_thinkOk s (xs (i + 1)) (xs (i + 2)) (xs (i + 3))) sz), wSh2 G g ad2 lw2 sz2, wSg G q th sa ns, wIA G e 41 f, wMo G a s.1 s.2.1 (mN (F_thinkOk s (xs (i + 1)) (xs (i + 2)) (xs (i + 3))) sz) sz2 ns nl pa rp rq kd (en (F_thinkS s (xs (i + 1)) (xs (i + 2)) (xs (i + 3)))) (mWb (F_thinkOk s (xs (i + 1)) (xs (i + 2)) (xs (i + 3))) W (en s) sz) Kp sg le2 tl rk rd nw_1 rw, wCs G ad (pCs (F_thinkOk s (xs (i + 1)) (xs (i + 2)) (xs (i + 3))) cs lw sz s) 8, wCs G ad2 cs2 2]) (mid := [wInk G o x w d h g q e, wTx G x le nl nu nc, wCq G w (F_thinkS s (xs (i + 1)) (xs (i + 2)) (xs (i + 3))), wCq G d sd, wSh8 G h ad (pLw (F_thinkOk s (xs (i + 1)) (xs (i + 2)) (xs (i + 3))) lw sz) (pSz (F_thinkOk s (xs (i + 1)) (xs (i + 2)) (xs (i + 3))) sz), wSh2 G g ad2 lw2 sz2, wSg G q th sa ns, wIA G e 41 f, wCs G ad (pCs (F_thinkOk s (xs (i + 1)) (xs (i + 2)) (xs (i + 3))) cs lw sz s) 8, wCs G ad2 cs2 2]) [8] [0, 1, 2, 3, 4, 5, 6, 7, 9, 10] (show ([8] ++ [0, 1, 2, 3, 4, 5, 6, 7, 9, 10] : List Nat).Perm (List.range 11) from by decide) X rfl rfl rfl ?_
  refine x_wst (ws' := xJ [wInk G o x w d h g q e, wTx G x le nl nu nc, wCq G w (F_thinkS s (xs (i + 1)) (xs (i + 2)) (xs (i + 3))), wCq G d sd, wSh8 G h ad (pLw (F_thinkOk s (xs (i + 1)) (xs (i + 2)) (xs (i + 3))) lw sz) (pSz (F_thinkOk s (xs (i + 1)) (xs (i + 2)) (xs (i + 3))) sz), wSh2 G g ad2 lw2 sz2, wSg G q th sa ns, wIA G e 41 f, wMo G a s.1 s.2.1 (mN (F_thinkOk s (xs (i + 1)) (xs (i + 2)) (xs (i + 3))) sz) sz2 ns nl pa rp rq kd (en (F_thinkS s (xs (i + 1)) (xs (i + 2)) (xs (i + 3)))) (mWb (F_thinkOk s (xs (i + 1)) (xs (i + 2)) (xs (i + 3))) W (en s) sz) Kp sg le2 tl rk rd nw_1 rw, wCs G ad (pCs (F_thinkOk s (xs (i + 1)) (xs (i + 2)) (xs (i + 3))) cs lw sz s) 8, wCs G ad2 cs2 2]) (st' := [.int (F_think s (xs (i + 1)) (xs (i + 2)) (xs (i + 3))), .int (F_think s (xs (i + 1)) (xs (i + 2)) (xs (i + 3)))]) rfl rfl ?_
  refine x_icmp_eq 1149 X dL_law_549 (by decide) (fun c_3 => ?_) (fun c_3 => ?_)
  · -- 549 t
    have hS : GS (F_thinkS s (xs (i + 1)) (xs (i + 2)) (xs (i + 3))) ∧ SE (F_thinkS s (xs (i + 1)) (xs (i + 2)) (xs (i + 3))) s := think_ok hg
    have hk := kk (F_thinkS s (xs (i + 1)) (xs (i + 2)) (xs (i + 3))) sd le nl nu nc (pLw (F_thinkOk s (xs (i + 1)) (xs (i + 2)) (xs (i + 3))) lw sz) (pSz (F_thinkOk s (xs (i + 1)) (xs (i + 2)) (xs (i + 3))) sz) (pCs (F_thinkOk s (xs (i + 1)) (xs (i + 2)) (xs (i + 3))) cs lw sz s) lw2 sz2 cs2 th sa ns f pa rp rq kd (mWb (F_thinkOk s (xs (i + 1)) (xs (i + 2)) (xs (i + 3))) W (en s) sz) Kp sg le2 tl rk rd nw_1 rw (⟨hall.st.to hS.1 hS.2, hall.tx, hall.ps.push _ hg hS.2, hall.kp.to hS.2, hall.si⟩)
    rw [hS.2.1, hS.2.2.1] at hk
    rw [mN_pSz hsz]
    exact hk
  · -- 549 f
    exact absurd rfl c_3
set_option maxRecDepth 100000 in
set_option maxHeartbeats 4000000 in
/-- mind -/
theorem lw_mind {l : Launch} {G : xG} {nm : String} {tW sq sv : Nat} {sw : Value} {b L : Nat} {xs : Nat → Int32} {Z : Option Value → va_W → Nat → Nat → Prop} {K : xKt} (X : xR l G (xEL tW sq sv sw b L xs) RL nm cL_law 4 room_1 Z K) {o : Nat} {x : Nat → Nat} {w : Nat → Nat} {d : Nat → Nat} {h : Nat → Nat} {g : Nat → Nat} {q : Nat → Nat} {e : Nat} {ad : Nat → Nat → Nat} {ad2 : Nat → Nat → Nat} {a : Nat → Nat} (hL : L ≤ 384) {i : Nat} (hi : i + 6 ≤ L) (kk : ∀ (s : xS) (sd : xS) (le : Nat → Int32) (nl : Nat) (nu : Nat → Int32) (nc : Nat) (lw : Nat) (sz : Nat) (cs : Nat → xS) (lw2 : Nat) (sz2 : Nat) (cs2 : Nat → xS) (th : Nat → Int32) (sa : Nat → Int32) (ns : Nat) (f : Nat → Int32) (pa : Nat) (rp : Nat) (rq : Nat) (kd : Nat → Int32) (W : Nat → Int32) (Kp : Nat → Int32) (sg : Nat → Int32) (le2 : Nat → Int32) (tl : Nat → Int32) (rk : Nat → Int32) (rd : Nat → Int32) (nw : Nat → Int32) (rw : Nat → Int32), LI s kd le le2 nl lw sz cs W lw2 sz2 cs2 Kp ns th sa sg → K (xJ [wInk G o x w d h g q e, wTx G x le nl nu nc, wCq G w s, wCq G d sd, wSh8 G h ad lw sz, wSh2 G g ad2 lw2 sz2, wSg G q th sa ns, wIA G e 41 f, wMo G a s.1 s.2.1 sz sz2 ns nl pa rp rq kd (en s) W Kp sg le2 tl rk rd nw rw, wCs G ad cs 8, wCs G ad2 cs2 2]) 84 2407 1149 [(3, .int (nI i)), (2, .ref (a 0)), (1, .ref o), (0, .ref b)] []) (s : xS) (sd : xS) (le : Nat → Int32) (nl : Nat) (nu : Nat → Int32) (nc : Nat) (lw : Nat) (sz : Nat) (cs : Nat → xS) (lw2 : Nat) (sz2 : Nat) (cs2 : Nat → xS) (th : Nat → Int32) (sa : Nat → Int32) (ns : Nat) (f : Nat → Int32) (pa : Nat) (rp : Nat) (rq : Nat) (kd : Nat → Int32) (W : Nat → Int32) (Kp : Nat → Int32) (sg : Nat → Int32) (le2 : Nat → Int32) (tl : Nat → Int32) (rk : Nat → Int32) (rd : Nat → Int32) (nw : Nat → Int32) (rw : Nat → Int32) (h0 : LI s kd le le2 nl lw sz cs W lw2 sz2 cs2 Kp ns th sa sg) : K (xJ [wInk G o x w d h g q e, wTx G x le nl nu nc, wCq G w s, wCq G d sd, wSh8 G h ad lw sz, wSh2 G g ad2 lw2 sz2, wSg G q th sa ns, wIA G e 41 f, wMo G a s.1 s.2.1 sz sz2 ns nl pa rp rq kd (en s) W Kp sg le2 tl rk rd nw rw, wCs G ad cs 8, wCs G ad2 cs2 2]) 84 2407 554 [(3, .int (nI i)), (2, .ref (a 0)), (1, .ref o), (0, .ref b)] [] := by
  have hall := h0
  obtain ⟨⟨hg, hs1, hkd⟩, ⟨hnl, hle⟩, ⟨hlw, hsz, hW, hcs⟩, ⟨hlw2, hsz2, hKp, hcs2⟩, ⟨hns, hsg, hth⟩⟩ := h0
  obtain ⟨hs6, ⟨hq1, hq5⟩, hmi, hbv, hbl⟩ := hg
  have hg : GS s := hall.st.gs
  refine x_aloadn X dL_law_554 2 rfl ?_
  refine x_aloadn X dL_law_555 3 rfl ?_
  refine x_iloadn X dL_law_556 0 rfl ?_
  refine x_iconst (v := nI 1) X dL_law_557 (by decide) ?_
  refine x_iadd (v := nI (i + 1)) X dL_law_558 (nI_add _ _) ?_
  refine x_sld X (fun _ _ h => h.2.2) (by omega) (by omega) dL_law_559 ?_
  refine x_aloadn X dL_law_560 3 rfl ?_
  refine x_iloadn X dL_law_561 0 rfl ?_
  refine x_iconst (v := nI 2) X dL_law_562 (by decide) ?_
  refine x_iadd (v := nI (i + 2)) X dL_law_563 (nI_add _ _) ?_
  refine x_sld X (fun _ _ h => h.2.2) (by omega) (by omega) dL_law_564 ?_
  refine x_callVJfv (As := [.int (xs (i + 1)), .int (xs (i + 2))]) (rest := []) (segs := [wInk G o x w d h g q e, wTx G x le nl nu nc, wCq G w s, wCq G d sd, wSh8 G h ad lw sz, wSh2 G g ad2 lw2 sz2, wSg G q th sa ns, wIA G e 41 f, wMo G a s.1 s.2.1 sz sz2 ns nl pa rp rq kd (en s) W Kp sg le2 tl rk rd nw rw, wCs G ad cs 8, wCs G ad2 cs2 2]) (segs' := [wInk G o x w d h g q e, wTx G x le nl nu nc, wCq G w (F_mindS s (xs (i + 1)) (xs (i + 2))), wCq G d sd, wSh8 G h ad (pLw (F_mindOk s (xs (i + 1)) (xs (i + 2))) lw sz) (pSz (F_mindOk s (xs (i + 1)) (xs (i + 2))) sz), wSh2 G g ad2 lw2 sz2, wSg G q th sa ns, wIA G e 41 f, wMo G a s.1 s.2.1 sz sz2 ns nl pa rp rq kd (en s) W Kp sg le2 tl rk rd nw rw, wCs G ad (pCs (F_mindOk s (xs (i + 1)) (xs (i + 2))) cs lw sz s) 8, wCs G ad2 cs2 2]) (mid := [wTx G x le nl nu nc, wCq G d sd, wSh2 G g ad2 lw2 sz2, wSg G q th sa ns, wIA G e 41 f, wMo G a s.1 s.2.1 sz sz2 ns nl pa rp rq kd (en s) W Kp sg le2 tl rk rd nw rw, wCs G ad2 cs2 2]) (w1 := xJ [wInk G o x w d h g q e, wSh8 G h ad (pLw (F_mindOk s (xs (i + 1)) (xs (i + 2))) lw sz) (pSz (F_mindOk s (xs (i + 1)) (xs (i + 2))) sz), wCq G w (F_mindS s (xs (i + 1)) (xs (i + 2))), wCs G ad (pCs (F_mindOk s (xs (i + 1)) (xs (i + 2))) cs lw sz s) 8]) [0, 4, 2, 9] [1, 3, 5, 6, 7, 8, 10] (show ([0, 4, 2, 9] ++ [1, 3, 5, 6, 7, 8, 10] : List Nat).Perm (List.range 11) from by decide) rfl X (c_X4_mind l G o x w d h g q e ad lw sz s cs (xs (i + 1)) (xs (i + 2)) (by omega) (by omega) (by omega) (by assumption) (by omega) (by omega)) rfl rfl rfl rfl xE0_ok (fun _ _ _ => trivial) 0 rfl rfl rfl wco_X4_mind wi_X4 xd_X4_mind wl_L_66 win_X4_mind wse_X4_mind (by decide) (Nat.le_of_ble_eq_true rfl) dL_law_565 (by simp only [xJ, List.map_append, skCs, wCh, wIA, wTx, wSg, wSh8, wSh2, wInk, List.map_cons, List.map_nil]) ?_
  refine x_aloadn X dL_law_568 1 rfl ?_
  refine x_aloadn X dL_law_569 3 rfl ?_
  refine x_iloadn X dL_law_570 0 rfl ?_
  refine x_iconst (v := nI 1) X dL_law_571 (by decide) ?_
  refine x_iadd (v := nI (i + 1)) X dL_law_572 (nI_add _ _) ?_
  refine x_sld X (fun _ _ h => h.2.2) (by omega) (by omega) dL_law_573 ?_
  refine x_aloadn X dL_law_574 3 rfl ?_
  refine x_iloadn X dL_law_575 0 rfl ?_
  refine x_iconst (v := nI 2) X dL_law_576 (by decide) ?_
  refine x_iadd (v := nI (i + 2)) X dL_law_577 (nI_add _ _) ?_
  refine x_sld X (fun _ _ h => h.2.2) (by omega) (by omega) dL_law_578 ?_
  refine x_callVJ (As := [.int (xs (i + 1)), .int (xs (i + 2))]) (rest := [.int (F_mind s (xs (i + 1)) (xs (i + 2)))]) (segs := [wInk G o x w d h g q e, wTx G x le nl nu nc, wCq G w (F_mindS s (xs (i + 1)) (xs (i + 2))), wCq G d sd, wSh8 G h ad (pLw (F_mindOk s (xs (i + 1)) (xs (i + 2))) lw sz) (pSz (F_mindOk s (xs (i + 1)) (xs (i + 2))) sz), wSh2 G g ad2 lw2 sz2, wSg G q th sa ns, wIA G e 41 f, wMo G a s.1 s.2.1 sz sz2 ns nl pa rp rq kd (en s) W Kp sg le2 tl rk rd nw rw, wCs G ad (pCs (F_mindOk s (xs (i + 1)) (xs (i + 2))) cs lw sz s) 8, wCs G ad2 cs2 2]) [8] [0, 1, 2, 3, 4, 5, 6, 7, 9, 10] (show ([8] ++ [0, 1, 2, 3, 4, 5, 6, 7, 9, 10] : List Nat).Perm (List.range 11) from by decide) X (c_X5_mind l G a sz sz2 ns nl pa rp rq kd W Kp sg le2 tl rk rd nw rw s (xs (i + 1)) (xs (i + 2)) (by omega) (by omega) (by omega) (by omega) (by assumption) (by assumption) (by assumption) (by assumption) (by omega)) rfl xE0_ok (fun _ _ _ => trivial) 0 rfl rfl rfl wco_X5_mind wi_X5 xd_X5_mind wl_L_69 win_X5_mind wse_X5_mind (by decide) (Nat.le_of_ble_eq_true rfl) dL_law_579 (fun w2 h => by obtain ⟨nw_1, rfl⟩ := h; exact (Eq.trans (b := [a 0, a 1, a 2, a 3, a 4, a 5, a 6, a 7, a 8, a 9, a 10, a 11]) rfl rfl)) (fun w_2 hw_2 => ?_)
  obtain ⟨nw_1, rfl⟩ := hw_2
  refine x_backV (segs := [wInk G o x w d h g q e, wTx G x le nl nu nc, wCq G w (F_mindS s (xs (i + 1)) (xs (i + 2))), wCq G d sd, wSh8 G h ad (pLw (F_mindOk s (xs (i + 1)) (xs (i + 2))) lw sz) (pSz (F_mindOk s (xs (i + 1)) (xs (i + 2))) sz), wSh2 G g ad2 lw2 sz2, wSg G q th sa ns, wIA G e 41 f, wMo G a s.1 s.2.1 sz sz2 ns nl pa rp rq kd (en s) W Kp sg le2 tl rk rd nw rw, wCs G ad (pCs (F_mindOk s (xs (i + 1)) (xs (i + 2))) cs lw sz s) 8, wCs G ad2 cs2 2]) (segs' := [wInk G o x w d h g q e, wTx G x le nl nu nc, wCq G w (F_mindS s (xs (i + 1)) (xs (i + 2))), wCq G d sd, wSh8 G h ad (pLw (F_mindOk s (xs (i + 1)) (xs (i + 2))) lw sz) (pSz (F_mindOk s (xs (i + 1)) (xs (i + 2))) sz), wSh2 G g ad2 lw2 sz2, wSg G q th sa ns, wIA G e 41 f, wMo G a s.1 s.2.1 (mN (F_mindOk s (xs (i + 1)) (xs (i + 2))) sz) sz2 ns nl pa rp rq kd (en (F_mindS s (xs (i + 1)) (xs (i + 2)))) (mWb (F_mindOk s (xs (i + 1)) (xs (i + 2))) W (en s) sz) Kp sg le2 tl rk rd nw_1 rw, wCs G ad (pCs (F_mindOk s (xs (i + 1)) (xs (i + 2))) cs lw sz s) 8, wCs G ad2 cs2 2]) (mid := [wInk G o x w d h g q e, wTx G x le nl nu nc, wCq G w (F_mindS s (xs (i + 1)) (xs (i + 2))), wCq G d sd, wSh8 G h ad (pLw (F_mindOk s (xs (i + 1)) (xs (i + 2))) lw sz) (pSz (F_mindOk s (xs (i + 1)) (xs (i + 2))) sz), wSh2 G g ad2 lw2 sz2, wSg G q th sa ns, wIA G e 41 f, wCs G ad (pCs (F_mindOk s (xs (i + 1)) (xs (i + 2))) cs lw sz s) 8, wCs G ad2 cs2 2]) [8] [0, 1, 2, 3, 4, 5, 6, 7, 9, 10] (show ([8] ++ [0, 1, 2, 3, 4, 5, 6, 7, 9, 10] : List Nat).Perm (List.range 11) from by decide) X rfl rfl rfl ?_
  refine x_wst (ws' := xJ [wInk G o x w d h g q e, wTx G x le nl nu nc, wCq G w (F_mindS s (xs (i + 1)) (xs (i + 2))), wCq G d sd, wSh8 G h ad (pLw (F_mindOk s (xs (i + 1)) (xs (i + 2))) lw sz) (pSz (F_mindOk s (xs (i + 1)) (xs (i + 2))) sz), wSh2 G g ad2 lw2 sz2, wSg G q th sa ns, wIA G e 41 f, wMo G a s.1 s.2.1 (mN (F_mindOk s (xs (i + 1)) (xs (i + 2))) sz) sz2 ns nl pa rp rq kd (en (F_mindS s (xs (i + 1)) (xs (i + 2)))) (mWb (F_mindOk s (xs (i + 1)) (xs (i + 2))) W (en s) sz) Kp sg le2 tl rk rd nw_1 rw, wCs G ad (pCs (F_mindOk s (xs (i + 1)) (xs (i + 2))) cs lw sz s) 8, wCs G ad2 cs2 2]) (st' := [.int (F_mind s (xs (i + 1)) (xs (i + 2))), .int (F_mind s (xs (i + 1)) (xs (i + 2)))]) rfl rfl ?_
  refine x_icmp_eq 1149 X dL_law_582 (by decide) (fun c_3 => ?_) (fun c_3 => ?_)
  · -- 582 t
    have hS : GS (F_mindS s (xs (i + 1)) (xs (i + 2))) ∧ SE (F_mindS s (xs (i + 1)) (xs (i + 2))) s := mind_ok hg
    have hk := kk (F_mindS s (xs (i + 1)) (xs (i + 2))) sd le nl nu nc (pLw (F_mindOk s (xs (i + 1)) (xs (i + 2))) lw sz) (pSz (F_mindOk s (xs (i + 1)) (xs (i + 2))) sz) (pCs (F_mindOk s (xs (i + 1)) (xs (i + 2))) cs lw sz s) lw2 sz2 cs2 th sa ns f pa rp rq kd (mWb (F_mindOk s (xs (i + 1)) (xs (i + 2))) W (en s) sz) Kp sg le2 tl rk rd nw_1 rw (⟨hall.st.to hS.1 hS.2, hall.tx, hall.ps.push _ hg hS.2, hall.kp.to hS.2, hall.si⟩)
    rw [hS.2.1, hS.2.2.1] at hk
    rw [mN_pSz hsz]
    exact hk
  · -- 582 f
    exact absurd rfl c_3
set_option maxRecDepth 100000 in
set_option maxHeartbeats 4000000 in
/-- undo -/
theorem lw_undo {l : Launch} {G : xG} {nm : String} {tW sq sv : Nat} {sw : Value} {b L : Nat} {xs : Nat → Int32} {Z : Option Value → va_W → Nat → Nat → Prop} {K : xKt} (X : xR l G (xEL tW sq sv sw b L xs) RL nm cL_law 4 room_1 Z K) {o : Nat} {x : Nat → Nat} {w : Nat → Nat} {d : Nat → Nat} {h : Nat → Nat} {g : Nat → Nat} {q : Nat → Nat} {e : Nat} {ad : Nat → Nat → Nat} {ad2 : Nat → Nat → Nat} {a : Nat → Nat} (hL : L ≤ 384) {i : Nat} (hi : i + 6 ≤ L) (kk : ∀ (s : xS) (sd : xS) (le : Nat → Int32) (nl : Nat) (nu : Nat → Int32) (nc : Nat) (lw : Nat) (sz : Nat) (cs : Nat → xS) (lw2 : Nat) (sz2 : Nat) (cs2 : Nat → xS) (th : Nat → Int32) (sa : Nat → Int32) (ns : Nat) (f : Nat → Int32) (pa : Nat) (rp : Nat) (rq : Nat) (kd : Nat → Int32) (W : Nat → Int32) (Kp : Nat → Int32) (sg : Nat → Int32) (le2 : Nat → Int32) (tl : Nat → Int32) (rk : Nat → Int32) (rd : Nat → Int32) (nw : Nat → Int32) (rw : Nat → Int32), LI s kd le le2 nl lw sz cs W lw2 sz2 cs2 Kp ns th sa sg → K (xJ [wInk G o x w d h g q e, wTx G x le nl nu nc, wCq G w s, wCq G d sd, wSh8 G h ad lw sz, wSh2 G g ad2 lw2 sz2, wSg G q th sa ns, wIA G e 41 f, wMo G a s.1 s.2.1 sz sz2 ns nl pa rp rq kd (en s) W Kp sg le2 tl rk rd nw rw, wCs G ad cs 8, wCs G ad2 cs2 2]) 84 2407 1149 [(3, .int (nI i)), (2, .ref (a 0)), (1, .ref o), (0, .ref b)] []) (s : xS) (sd : xS) (le : Nat → Int32) (nl : Nat) (nu : Nat → Int32) (nc : Nat) (lw : Nat) (sz : Nat) (cs : Nat → xS) (lw2 : Nat) (sz2 : Nat) (cs2 : Nat → xS) (th : Nat → Int32) (sa : Nat → Int32) (ns : Nat) (f : Nat → Int32) (pa : Nat) (rp : Nat) (rq : Nat) (kd : Nat → Int32) (W : Nat → Int32) (Kp : Nat → Int32) (sg : Nat → Int32) (le2 : Nat → Int32) (tl : Nat → Int32) (rk : Nat → Int32) (rd : Nat → Int32) (nw : Nat → Int32) (rw : Nat → Int32) (h0 : LI s kd le le2 nl lw sz cs W lw2 sz2 cs2 Kp ns th sa sg) : K (xJ [wInk G o x w d h g q e, wTx G x le nl nu nc, wCq G w s, wCq G d sd, wSh8 G h ad lw sz, wSh2 G g ad2 lw2 sz2, wSg G q th sa ns, wIA G e 41 f, wMo G a s.1 s.2.1 sz sz2 ns nl pa rp rq kd (en s) W Kp sg le2 tl rk rd nw rw, wCs G ad cs 8, wCs G ad2 cs2 2]) 84 2407 587 [(3, .int (nI i)), (2, .ref (a 0)), (1, .ref o), (0, .ref b)] [] := by
  have hall := h0
  obtain ⟨⟨hg, hs1, hkd⟩, ⟨hnl, hle⟩, ⟨hlw, hsz, hW, hcs⟩, ⟨hlw2, hsz2, hKp, hcs2⟩, ⟨hns, hsg, hth⟩⟩ := h0
  obtain ⟨hs6, ⟨hq1, hq5⟩, hmi, hbv, hbl⟩ := hg
  have hg : GS s := hall.st.gs
  refine x_aloadn X dL_law_587 2 rfl ?_
  refine x_callVJfv (As := []) (rest := []) (segs := [wInk G o x w d h g q e, wTx G x le nl nu nc, wCq G w s, wCq G d sd, wSh8 G h ad lw sz, wSh2 G g ad2 lw2 sz2, wSg G q th sa ns, wIA G e 41 f, wMo G a s.1 s.2.1 sz sz2 ns nl pa rp rq kd (en s) W Kp sg le2 tl rk rd nw rw, wCs G ad cs 8, wCs G ad2 cs2 2]) (segs' := [wInk G o x w d h g q e, wTx G x le nl nu nc, wCq G w (F_undoS s cs lw sz), wCq G d sd, wSh8 G h ad lw (sz - 1), wSh2 G g ad2 lw2 sz2, wSg G q th sa ns, wIA G e 41 f, wMo G a s.1 s.2.1 sz sz2 ns nl pa rp rq kd (en s) W Kp sg le2 tl rk rd nw rw, wCs G ad cs 8, wCs G ad2 cs2 2]) (mid := [wTx G x le nl nu nc, wCq G d sd, wSh2 G g ad2 lw2 sz2, wSg G q th sa ns, wIA G e 41 f, wMo G a s.1 s.2.1 sz sz2 ns nl pa rp rq kd (en s) W Kp sg le2 tl rk rd nw rw, wCs G ad2 cs2 2]) (w1 := xJ [wInk G o x w d h g q e, wSh8 G h ad lw (sz - 1), wCq G w (F_undoS s cs lw sz), wCs G ad cs 8]) [0, 4, 2, 9] [1, 3, 5, 6, 7, 8, 10] (show ([0, 4, 2, 9] ++ [1, 3, 5, 6, 7, 8, 10] : List Nat).Perm (List.range 11) from by decide) rfl X (c_X4_undo l G o x w d h g q e ad lw sz s cs (by omega) (by omega) (by omega) (by assumption) (by omega) (by omega)) rfl rfl rfl rfl xE0_ok (fun _ _ _ => trivial) 0 rfl rfl rfl wco_X4_undo wi_X4 xd_X4_undo wl_L_70 win_X4_undo wse_X4_undo (by decide) (Nat.le_of_ble_eq_true rfl) dL_law_588 (by simp only [xJ, List.map_append, skCs, wCh, wIA, wTx, wSg, wSh8, wSh2, wInk, List.map_cons, List.map_nil]) ?_
  refine x_aloadn X dL_law_591 1 rfl ?_
  refine x_callVJfv (As := []) (rest := [.int (F_undo sz)]) (segs := [wInk G o x w d h g q e, wTx G x le nl nu nc, wCq G w (F_undoS s cs lw sz), wCq G d sd, wSh8 G h ad lw (sz - 1), wSh2 G g ad2 lw2 sz2, wSg G q th sa ns, wIA G e 41 f, wMo G a s.1 s.2.1 sz sz2 ns nl pa rp rq kd (en s) W Kp sg le2 tl rk rd nw rw, wCs G ad cs 8, wCs G ad2 cs2 2]) (segs' := [wInk G o x w d h g q e, wTx G x le nl nu nc, wCq G w (F_undoS s cs lw sz), wCq G d sd, wSh8 G h ad lw (sz - 1), wSh2 G g ad2 lw2 sz2, wSg G q th sa ns, wIA G e 41 f, wMo G a s.1 s.2.1 (sz - 1) sz2 ns nl pa rp rq kd (en (mUn s (fun j => cs ((lw + j) % 8)) sz)) W Kp sg le2 tl rk rd nw rw, wCs G ad cs 8, wCs G ad2 cs2 2]) (mid := [wInk G o x w d h g q e, wTx G x le nl nu nc, wCq G w (F_undoS s cs lw sz), wCq G d sd, wSh8 G h ad lw (sz - 1), wSh2 G g ad2 lw2 sz2, wSg G q th sa ns, wIA G e 41 f, wCs G ad cs 8, wCs G ad2 cs2 2]) (w1 := wMo G a s.1 s.2.1 (sz - 1) sz2 ns nl pa rp rq kd (en (mUn s (fun j => cs ((lw + j) % 8)) sz)) W Kp sg le2 tl rk rd nw rw) [8] [0, 1, 2, 3, 4, 5, 6, 7, 9, 10] (show ([8] ++ [0, 1, 2, 3, 4, 5, 6, 7, 9, 10] : List Nat).Perm (List.range 11) from by decide) rfl X (c_X5_undo l G a sz sz2 ns nl pa rp rq kd W Kp sg le2 tl rk rd nw rw s (fun j => cs ((lw + j) % 8)) hW (by omega)) rfl rfl rfl rfl xE0_ok (fun _ _ _ => trivial) 0 rfl rfl rfl wco_X5_undo wi_X5 xd_X5_undo wl_L_73 win_X5_undo wse_X5_undo (by decide) (Nat.le_of_ble_eq_true rfl) dL_law_592 (Eq.trans (b := [a 0, a 1, a 2, a 3, a 4, a 5, a 6, a 7, a 8, a 9, a 10, a 11]) rfl rfl) ?_
  refine x_icmp_eq 1149 X dL_law_595 (by decide) (fun c_1 => ?_) (fun c_1 => ?_)
  · -- 595 t
    have hS : GS (F_undoS s cs lw sz) ∧ SE (F_undoS s cs lw sz) s := undo_ok hall.ps hg
    rw [show mUn s (fun j => cs ((lw + j) % 8)) sz = F_undoS s cs lw sz from rfl]
    have hk := kk (F_undoS s cs lw sz) sd le nl nu nc lw (sz - 1) cs lw2 sz2 cs2 th sa ns f pa rp rq kd W Kp sg le2 tl rk rd nw rw (⟨hall.st.to hS.1 hS.2, hall.tx, (hall.ps.le (Nat.sub_le _ _)).to hS.2, hall.kp.to hS.2, hall.si⟩)
    rw [hS.2.1, hS.2.2.1] at hk
    exact hk
  · -- 595 f
    exact absurd rfl c_1
set_option maxRecDepth 100000 in
set_option maxHeartbeats 4000000 in
/-- own -/
theorem lw_own {l : Launch} {G : xG} {nm : String} {tW sq sv : Nat} {sw : Value} {b L : Nat} {xs : Nat → Int32} {Z : Option Value → va_W → Nat → Nat → Prop} {K : xKt} (X : xR l G (xEL tW sq sv sw b L xs) RL nm cL_law 4 room_1 Z K) {o : Nat} {x : Nat → Nat} {w : Nat → Nat} {d : Nat → Nat} {h : Nat → Nat} {g : Nat → Nat} {q : Nat → Nat} {e : Nat} {ad : Nat → Nat → Nat} {ad2 : Nat → Nat → Nat} {a : Nat → Nat} (hL : L ≤ 384) {i : Nat} (hi : i + 6 ≤ L) (kk : ∀ (s : xS) (sd : xS) (le : Nat → Int32) (nl : Nat) (nu : Nat → Int32) (nc : Nat) (lw : Nat) (sz : Nat) (cs : Nat → xS) (lw2 : Nat) (sz2 : Nat) (cs2 : Nat → xS) (th : Nat → Int32) (sa : Nat → Int32) (ns : Nat) (f : Nat → Int32) (pa : Nat) (rp : Nat) (rq : Nat) (kd : Nat → Int32) (W : Nat → Int32) (Kp : Nat → Int32) (sg : Nat → Int32) (le2 : Nat → Int32) (tl : Nat → Int32) (rk : Nat → Int32) (rd : Nat → Int32) (nw : Nat → Int32) (rw : Nat → Int32), LI s kd le le2 nl lw sz cs W lw2 sz2 cs2 Kp ns th sa sg → K (xJ [wInk G o x w d h g q e, wTx G x le nl nu nc, wCq G w s, wCq G d sd, wSh8 G h ad lw sz, wSh2 G g ad2 lw2 sz2, wSg G q th sa ns, wIA G e 41 f, wMo G a s.1 s.2.1 sz sz2 ns nl pa rp rq kd (en s) W Kp sg le2 tl rk rd nw rw, wCs G ad cs 8, wCs G ad2 cs2 2]) 84 2407 1149 [(3, .int (nI i)), (2, .ref (a 0)), (1, .ref o), (0, .ref b)] []) (s : xS) (sd : xS) (le : Nat → Int32) (nl : Nat) (nu : Nat → Int32) (nc : Nat) (lw : Nat) (sz : Nat) (cs : Nat → xS) (lw2 : Nat) (sz2 : Nat) (cs2 : Nat → xS) (th : Nat → Int32) (sa : Nat → Int32) (ns : Nat) (f : Nat → Int32) (pa : Nat) (rp : Nat) (rq : Nat) (kd : Nat → Int32) (W : Nat → Int32) (Kp : Nat → Int32) (sg : Nat → Int32) (le2 : Nat → Int32) (tl : Nat → Int32) (rk : Nat → Int32) (rd : Nat → Int32) (nw : Nat → Int32) (rw : Nat → Int32) (h0 : LI s kd le le2 nl lw sz cs W lw2 sz2 cs2 Kp ns th sa sg) : K (xJ [wInk G o x w d h g q e, wTx G x le nl nu nc, wCq G w s, wCq G d sd, wSh8 G h ad lw sz, wSh2 G g ad2 lw2 sz2, wSg G q th sa ns, wIA G e 41 f, wMo G a s.1 s.2.1 sz sz2 ns nl pa rp rq kd (en s) W Kp sg le2 tl rk rd nw rw, wCs G ad cs 8, wCs G ad2 cs2 2]) 84 2407 600 [(3, .int (nI i)), (2, .ref (a 0)), (1, .ref o), (0, .ref b)] [] := by
  have hall := h0
  obtain ⟨⟨hg, hs1, hkd⟩, ⟨hnl, hle⟩, ⟨hlw, hsz, hW, hcs⟩, ⟨hlw2, hsz2, hKp, hcs2⟩, ⟨hns, hsg, hth⟩⟩ := h0
  obtain ⟨hs6, ⟨hq1, hq5⟩, hmi, hbv, hbl⟩ := hg
  have hg : GS s := hall.st.gs
  refine x_aloadn X dL_law_600 2 rfl ?_
  refine x_aloadn X dL_law_601 3 rfl ?_
  refine x_iloadn X dL_law_602 0 rfl ?_
  refine x_iconst (v := nI 1) X dL_law_603 (by decide) ?_
  refine x_iadd (v := nI (i + 1)) X dL_law_604 (nI_add _ _) ?_
  refine x_sld X (fun _ _ h => h.2.2) (by omega) (by omega) dL_law_605 ?_
  refine x_aloadn X dL_law_606 3 rfl ?_
  refine x_iloadn X dL_law_607 0 rfl ?_
  refine x_iconst (v := nI 2) X dL_law_608 (by decide) ?_
  refine x_iadd (v := nI (i + 2)) X dL_law_609 (nI_add _ _) ?_
  refine x_sld X (fun _ _ h => h.2.2) (by omega) (by omega) dL_law_610 ?_
  refine x_callVJrv (As := [.int (xs (i + 1)), .int (xs (i + 2))]) (rest := []) (segs := [wInk G o x w d h g q e, wTx G x le nl nu nc, wCq G w s, wCq G d sd, wSh8 G h ad lw sz, wSh2 G g ad2 lw2 sz2, wSg G q th sa ns, wIA G e 41 f, wMo G a s.1 s.2.1 sz sz2 ns nl pa rp rq kd (en s) W Kp sg le2 tl rk rd nw rw, wCs G ad cs 8, wCs G ad2 cs2 2]) [0, 2] [1, 3, 4, 5, 6, 7, 8, 9, 10] (show ([0, 2] ++ [1, 3, 4, 5, 6, 7, 8, 9, 10] : List Nat).Perm (List.range 11) from by decide) X (c_X4_own l G o x w d h g q e s (xs (i + 1)) (xs (i + 2)) (by omega) (by omega) (by omega) (by assumption)) rfl xE0_ok (fun _ _ _ => trivial) 0 rfl rfl rfl wco_X4_own wi_X4 xd_X4_own wl_L_74 win_X4_own wse_X4_own (by decide) (Nat.le_of_ble_eq_true rfl) dL_law_611 ?_
  refine x_aloadn X dL_law_614 1 rfl ?_
  refine x_aloadn X dL_law_615 3 rfl ?_
  refine x_iloadn X dL_law_616 0 rfl ?_
  refine x_iconst (v := nI 1) X dL_law_617 (by decide) ?_
  refine x_iadd (v := nI (i + 1)) X dL_law_618 (nI_add _ _) ?_
  refine x_sld X (fun _ _ h => h.2.2) (by omega) (by omega) dL_law_619 ?_
  refine x_aloadn X dL_law_620 3 rfl ?_
  refine x_iloadn X dL_law_621 0 rfl ?_
  refine x_iconst (v := nI 2) X dL_law_622 (by decide) ?_
  refine x_iadd (v := nI (i + 2)) X dL_law_623 (nI_add _ _) ?_
  refine x_sld X (fun _ _ h => h.2.2) (by omega) (by omega) dL_law_624 ?_
  refine x_callVJrv (As := [.int (xs (i + 1)), .int (xs (i + 2))]) (rest := [.int (F_own s (xs (i + 1)) (xs (i + 2)))]) (segs := [wInk G o x w d h g q e, wTx G x le nl nu nc, wCq G w s, wCq G d sd, wSh8 G h ad lw sz, wSh2 G g ad2 lw2 sz2, wSg G q th sa ns, wIA G e 41 f, wMo G a s.1 s.2.1 sz sz2 ns nl pa rp rq kd (en s) W Kp sg le2 tl rk rd nw rw, wCs G ad cs 8, wCs G ad2 cs2 2]) [8] [0, 1, 2, 3, 4, 5, 6, 7, 9, 10] (show ([8] ++ [0, 1, 2, 3, 4, 5, 6, 7, 9, 10] : List Nat).Perm (List.range 11) from by decide) X (c_X5_own l G a sz sz2 ns nl pa rp rq kd W Kp sg le2 tl rk rd nw rw s (xs (i + 1)) (xs (i + 2)) (by omega) (by omega) (by omega) (by omega) (by assumption) (by assumption) (by assumption) (by assumption)) rfl xE0_ok (fun _ _ _ => trivial) 0 rfl rfl rfl wco_X5_own wi_X5 xd_X5_own wl_L_77 win_X5_own wse_X5_own (by decide) (Nat.le_of_ble_eq_true rfl) dL_law_625 ?_
  refine x_icmp_eq 1149 X dL_law_628 (by decide) (fun c_1 => ?_) (fun c_1 => ?_)
  · -- 628 t
    exact kk s sd le nl nu nc lw sz cs lw2 sz2 cs2 th sa ns f pa rp rq kd W Kp sg le2 tl rk rd nw rw hall
  · -- 628 f
    exact absurd rfl c_1
set_option maxRecDepth 100000 in
set_option maxHeartbeats 4000000 in
/-- tears -/
theorem lw_tears {l : Launch} {G : xG} {nm : String} {tW sq sv : Nat} {sw : Value} {b L : Nat} {xs : Nat → Int32} {Z : Option Value → va_W → Nat → Nat → Prop} {K : xKt} (X : xR l G (xEL tW sq sv sw b L xs) RL nm cL_law 4 room_1 Z K) {o : Nat} {x : Nat → Nat} {w : Nat → Nat} {d : Nat → Nat} {h : Nat → Nat} {g : Nat → Nat} {q : Nat → Nat} {e : Nat} {ad : Nat → Nat → Nat} {ad2 : Nat → Nat → Nat} {a : Nat → Nat} (hL : L ≤ 384) {i : Nat} (hi : i + 6 ≤ L) (kk : ∀ (s : xS) (sd : xS) (le : Nat → Int32) (nl : Nat) (nu : Nat → Int32) (nc : Nat) (lw : Nat) (sz : Nat) (cs : Nat → xS) (lw2 : Nat) (sz2 : Nat) (cs2 : Nat → xS) (th : Nat → Int32) (sa : Nat → Int32) (ns : Nat) (f : Nat → Int32) (pa : Nat) (rp : Nat) (rq : Nat) (kd : Nat → Int32) (W : Nat → Int32) (Kp : Nat → Int32) (sg : Nat → Int32) (le2 : Nat → Int32) (tl : Nat → Int32) (rk : Nat → Int32) (rd : Nat → Int32) (nw : Nat → Int32) (rw : Nat → Int32), LI s kd le le2 nl lw sz cs W lw2 sz2 cs2 Kp ns th sa sg → K (xJ [wInk G o x w d h g q e, wTx G x le nl nu nc, wCq G w s, wCq G d sd, wSh8 G h ad lw sz, wSh2 G g ad2 lw2 sz2, wSg G q th sa ns, wIA G e 41 f, wMo G a s.1 s.2.1 sz sz2 ns nl pa rp rq kd (en s) W Kp sg le2 tl rk rd nw rw, wCs G ad cs 8, wCs G ad2 cs2 2]) 84 2407 1149 [(3, .int (nI i)), (2, .ref (a 0)), (1, .ref o), (0, .ref b)] []) (s : xS) (sd : xS) (le : Nat → Int32) (nl : Nat) (nu : Nat → Int32) (nc : Nat) (lw : Nat) (sz : Nat) (cs : Nat → xS) (lw2 : Nat) (sz2 : Nat) (cs2 : Nat → xS) (th : Nat → Int32) (sa : Nat → Int32) (ns : Nat) (f : Nat → Int32) (pa : Nat) (rp : Nat) (rq : Nat) (kd : Nat → Int32) (W : Nat → Int32) (Kp : Nat → Int32) (sg : Nat → Int32) (le2 : Nat → Int32) (tl : Nat → Int32) (rk : Nat → Int32) (rd : Nat → Int32) (nw : Nat → Int32) (rw : Nat → Int32) (h0 : LI s kd le le2 nl lw sz cs W lw2 sz2 cs2 Kp ns th sa sg) : K (xJ [wInk G o x w d h g q e, wTx G x le nl nu nc, wCq G w s, wCq G d sd, wSh8 G h ad lw sz, wSh2 G g ad2 lw2 sz2, wSg G q th sa ns, wIA G e 41 f, wMo G a s.1 s.2.1 sz sz2 ns nl pa rp rq kd (en s) W Kp sg le2 tl rk rd nw rw, wCs G ad cs 8, wCs G ad2 cs2 2]) 84 2407 633 [(3, .int (nI i)), (2, .ref (a 0)), (1, .ref o), (0, .ref b)] [] := by
  have hall := h0
  obtain ⟨⟨hg, hs1, hkd⟩, ⟨hnl, hle⟩, ⟨hlw, hsz, hW, hcs⟩, ⟨hlw2, hsz2, hKp, hcs2⟩, ⟨hns, hsg, hth⟩⟩ := h0
  obtain ⟨hs6, ⟨hq1, hq5⟩, hmi, hbv, hbl⟩ := hg
  have hg : GS s := hall.st.gs
  refine x_aloadn X dL_law_633 2 rfl ?_
  refine x_aloadn X dL_law_634 3 rfl ?_
  refine x_iloadn X dL_law_635 0 rfl ?_
  refine x_iconst (v := nI 1) X dL_law_636 (by decide) ?_
  refine x_iadd (v := nI (i + 1)) X dL_law_637 (nI_add _ _) ?_
  refine x_sld X (fun _ _ h => h.2.2) (by omega) (by omega) dL_law_638 ?_
  refine x_aloadn X dL_law_639 3 rfl ?_
  refine x_iloadn X dL_law_640 0 rfl ?_
  refine x_iconst (v := nI 2) X dL_law_641 (by decide) ?_
  refine x_iadd (v := nI (i + 2)) X dL_law_642 (nI_add _ _) ?_
  refine x_sld X (fun _ _ h => h.2.2) (by omega) (by omega) dL_law_643 ?_
  refine x_aloadn X dL_law_644 3 rfl ?_
  refine x_iloadn X dL_law_645 0 rfl ?_
  refine x_iconst (v := nI 3) X dL_law_646 (by decide) ?_
  refine x_iadd (v := nI (i + 3)) X dL_law_647 (nI_add _ _) ?_
  refine x_sld X (fun _ _ h => h.2.2) (by omega) (by omega) dL_law_648 ?_
  refine x_callVJrv (As := [.int (xs (i + 1)), .int (xs (i + 2)), .int (xs (i + 3))]) (rest := []) (segs := [wInk G o x w d h g q e, wTx G x le nl nu nc, wCq G w s, wCq G d sd, wSh8 G h ad lw sz, wSh2 G g ad2 lw2 sz2, wSg G q th sa ns, wIA G e 41 f, wMo G a s.1 s.2.1 sz sz2 ns nl pa rp rq kd (en s) W Kp sg le2 tl rk rd nw rw, wCs G ad cs 8, wCs G ad2 cs2 2]) [0, 2] [1, 3, 4, 5, 6, 7, 8, 9, 10] (show ([0, 2] ++ [1, 3, 4, 5, 6, 7, 8, 9, 10] : List Nat).Perm (List.range 11) from by decide) X (c_X4_tears l G o x w d h g q e s (xs (i + 1)) (xs (i + 2)) (xs (i + 3)) (by omega) (by omega) (by omega) (by assumption)) rfl xE0_ok (fun _ _ _ => trivial) 0 rfl rfl rfl wco_X4_tears wi_X4 xd_X4_tears wl_L_78 win_X4_tears wse_X4_tears (by decide) (Nat.le_of_ble_eq_true rfl) dL_law_649 ?_
  refine x_aloadn X dL_law_652 1 rfl ?_
  refine x_aloadn X dL_law_653 3 rfl ?_
  refine x_iloadn X dL_law_654 0 rfl ?_
  refine x_iconst (v := nI 1) X dL_law_655 (by decide) ?_
  refine x_iadd (v := nI (i + 1)) X dL_law_656 (nI_add _ _) ?_
  refine x_sld X (fun _ _ h => h.2.2) (by omega) (by omega) dL_law_657 ?_
  refine x_aloadn X dL_law_658 3 rfl ?_
  refine x_iloadn X dL_law_659 0 rfl ?_
  refine x_iconst (v := nI 2) X dL_law_660 (by decide) ?_
  refine x_iadd (v := nI (i + 2)) X dL_law_661 (nI_add _ _) ?_
  refine x_sld X (fun _ _ h => h.2.2) (by omega) (by omega) dL_law_662 ?_
  refine x_aloadn X dL_law_663 3 rfl ?_
  refine x_iloadn X dL_law_664 0 rfl ?_
  refine x_iconst (v := nI 3) X dL_law_665 (by decide) ?_
  refine x_iadd (v := nI (i + 3)) X dL_law_666 (nI_add _ _) ?_
  refine x_sld X (fun _ _ h => h.2.2) (by omega) (by omega) dL_law_667 ?_
  refine x_callVJ (As := [.int (xs (i + 1)), .int (xs (i + 2)), .int (xs (i + 3))]) (rest := [.int (F_tears s (xs (i + 1)) (xs (i + 2)) (xs (i + 3)))]) (segs := [wInk G o x w d h g q e, wTx G x le nl nu nc, wCq G w s, wCq G d sd, wSh8 G h ad lw sz, wSh2 G g ad2 lw2 sz2, wSg G q th sa ns, wIA G e 41 f, wMo G a s.1 s.2.1 sz sz2 ns nl pa rp rq kd (en s) W Kp sg le2 tl rk rd nw rw, wCs G ad cs 8, wCs G ad2 cs2 2]) [8] [0, 1, 2, 3, 4, 5, 6, 7, 9, 10] (show ([8] ++ [0, 1, 2, 3, 4, 5, 6, 7, 9, 10] : List Nat).Perm (List.range 11) from by decide) X (c_X5_tears l G a sz sz2 ns nl pa rp rq kd W Kp sg le2 tl rk rd nw rw s (xs (i + 1)) (xs (i + 2)) (xs (i + 3)) (by omega) (by omega) (by omega) (by omega) (by assumption) (by assumption) (by assumption) (by assumption)) rfl xE0_ok (fun _ _ _ => trivial) 0 rfl rfl rfl wco_X5_tears wi_X5 xd_X5_tears wl_L_81 win_X5_tears wse_X5_tears (by decide) (Nat.le_of_ble_eq_true rfl) dL_law_668 (fun w2 h => by obtain ⟨nw_1, rfl⟩ := h; exact (Eq.trans (b := [a 0, a 1, a 2, a 3, a 4, a 5, a 6, a 7, a 8, a 9, a 10, a 11]) rfl rfl)) (fun w_2 hw_2 => ?_)
  obtain ⟨nw_1, rfl⟩ := hw_2
  refine x_backV (segs := [wInk G o x w d h g q e, wTx G x le nl nu nc, wCq G w s, wCq G d sd, wSh8 G h ad lw sz, wSh2 G g ad2 lw2 sz2, wSg G q th sa ns, wIA G e 41 f, wMo G a s.1 s.2.1 sz sz2 ns nl pa rp rq kd (en s) W Kp sg le2 tl rk rd nw rw, wCs G ad cs 8, wCs G ad2 cs2 2]) (segs' := [wInk G o x w d h g q e, wTx G x le nl nu nc, wCq G w s, wCq G d sd, wSh8 G h ad lw sz, wSh2 G g ad2 lw2 sz2, wSg G q th sa ns, wIA G e 41 f, wMo G a s.1 s.2.1 sz sz2 ns nl pa rp rq kd (en s) W Kp sg le2 tl rk rd nw_1 rw, wCs G ad cs 8, wCs G ad2 cs2 2]) (mid := [wInk G o x w d h g q e, wTx G x le nl nu nc, wCq G w s, wCq G d sd, wSh8 G h ad lw sz, wSh2 G g ad2 lw2 sz2, wSg G q th sa ns, wIA G e 41 f, wCs G ad cs 8, wCs G ad2 cs2 2]) [8] [0, 1, 2, 3, 4, 5, 6, 7, 9, 10] (show ([8] ++ [0, 1, 2, 3, 4, 5, 6, 7, 9, 10] : List Nat).Perm (List.range 11) from by decide) X rfl rfl rfl ?_
  refine x_wst (ws' := xJ [wInk G o x w d h g q e, wTx G x le nl nu nc, wCq G w s, wCq G d sd, wSh8 G h ad lw sz, wSh2 G g ad2 lw2 sz2, wSg G q th sa ns, wIA G e 41 f, wMo G a s.1 s.2.1 sz sz2 ns nl pa rp rq kd (en s) W Kp sg le2 tl rk rd nw_1 rw, wCs G ad cs 8, wCs G ad2 cs2 2]) (st' := [.int (F_tears s (xs (i + 1)) (xs (i + 2)) (xs (i + 3))), .int (F_tears s (xs (i + 1)) (xs (i + 2)) (xs (i + 3)))]) rfl rfl ?_
  refine x_icmp_eq 1149 X dL_law_671 (by decide) (fun c_3 => ?_) (fun c_3 => ?_)
  · -- 671 t
    exact kk s sd le nl nu nc lw sz cs lw2 sz2 cs2 th sa ns f pa rp rq kd W Kp sg le2 tl rk rd nw_1 rw hall
  · -- 671 f
    exact absurd rfl c_3
set_option maxRecDepth 100000 in
set_option maxHeartbeats 4000000 in
/-- whom -/
theorem lw_whom {l : Launch} {G : xG} {nm : String} {tW sq sv : Nat} {sw : Value} {b L : Nat} {xs : Nat → Int32} {Z : Option Value → va_W → Nat → Nat → Prop} {K : xKt} (X : xR l G (xEL tW sq sv sw b L xs) RL nm cL_law 4 room_1 Z K) {o : Nat} {x : Nat → Nat} {w : Nat → Nat} {d : Nat → Nat} {h : Nat → Nat} {g : Nat → Nat} {q : Nat → Nat} {e : Nat} {ad : Nat → Nat → Nat} {ad2 : Nat → Nat → Nat} {a : Nat → Nat} (hL : L ≤ 384) {i : Nat} (hi : i + 6 ≤ L) (kk : ∀ (s : xS) (sd : xS) (le : Nat → Int32) (nl : Nat) (nu : Nat → Int32) (nc : Nat) (lw : Nat) (sz : Nat) (cs : Nat → xS) (lw2 : Nat) (sz2 : Nat) (cs2 : Nat → xS) (th : Nat → Int32) (sa : Nat → Int32) (ns : Nat) (f : Nat → Int32) (pa : Nat) (rp : Nat) (rq : Nat) (kd : Nat → Int32) (W : Nat → Int32) (Kp : Nat → Int32) (sg : Nat → Int32) (le2 : Nat → Int32) (tl : Nat → Int32) (rk : Nat → Int32) (rd : Nat → Int32) (nw : Nat → Int32) (rw : Nat → Int32), LI s kd le le2 nl lw sz cs W lw2 sz2 cs2 Kp ns th sa sg → K (xJ [wInk G o x w d h g q e, wTx G x le nl nu nc, wCq G w s, wCq G d sd, wSh8 G h ad lw sz, wSh2 G g ad2 lw2 sz2, wSg G q th sa ns, wIA G e 41 f, wMo G a s.1 s.2.1 sz sz2 ns nl pa rp rq kd (en s) W Kp sg le2 tl rk rd nw rw, wCs G ad cs 8, wCs G ad2 cs2 2]) 84 2407 1149 [(3, .int (nI i)), (2, .ref (a 0)), (1, .ref o), (0, .ref b)] []) (s : xS) (sd : xS) (le : Nat → Int32) (nl : Nat) (nu : Nat → Int32) (nc : Nat) (lw : Nat) (sz : Nat) (cs : Nat → xS) (lw2 : Nat) (sz2 : Nat) (cs2 : Nat → xS) (th : Nat → Int32) (sa : Nat → Int32) (ns : Nat) (f : Nat → Int32) (pa : Nat) (rp : Nat) (rq : Nat) (kd : Nat → Int32) (W : Nat → Int32) (Kp : Nat → Int32) (sg : Nat → Int32) (le2 : Nat → Int32) (tl : Nat → Int32) (rk : Nat → Int32) (rd : Nat → Int32) (nw : Nat → Int32) (rw : Nat → Int32) (h0 : LI s kd le le2 nl lw sz cs W lw2 sz2 cs2 Kp ns th sa sg) : K (xJ [wInk G o x w d h g q e, wTx G x le nl nu nc, wCq G w s, wCq G d sd, wSh8 G h ad lw sz, wSh2 G g ad2 lw2 sz2, wSg G q th sa ns, wIA G e 41 f, wMo G a s.1 s.2.1 sz sz2 ns nl pa rp rq kd (en s) W Kp sg le2 tl rk rd nw rw, wCs G ad cs 8, wCs G ad2 cs2 2]) 84 2407 676 [(3, .int (nI i)), (2, .ref (a 0)), (1, .ref o), (0, .ref b)] [] := by
  have hall := h0
  obtain ⟨⟨hg, hs1, hkd⟩, ⟨hnl, hle⟩, ⟨hlw, hsz, hW, hcs⟩, ⟨hlw2, hsz2, hKp, hcs2⟩, ⟨hns, hsg, hth⟩⟩ := h0
  obtain ⟨hs6, ⟨hq1, hq5⟩, hmi, hbv, hbl⟩ := hg
  have hg : GS s := hall.st.gs
  refine x_aloadn X dL_law_676 2 rfl ?_
  refine x_aloadn X dL_law_677 3 rfl ?_
  refine x_iloadn X dL_law_678 0 rfl ?_
  refine x_iconst (v := nI 1) X dL_law_679 (by decide) ?_
  refine x_iadd (v := nI (i + 1)) X dL_law_680 (nI_add _ _) ?_
  refine x_sld X (fun _ _ h => h.2.2) (by omega) (by omega) dL_law_681 ?_
  refine x_aloadn X dL_law_682 3 rfl ?_
  refine x_iloadn X dL_law_683 0 rfl ?_
  refine x_iconst (v := nI 2) X dL_law_684 (by decide) ?_
  refine x_iadd (v := nI (i + 2)) X dL_law_685 (nI_add _ _) ?_
  refine x_sld X (fun _ _ h => h.2.2) (by omega) (by omega) dL_law_686 ?_
  refine x_aloadn X dL_law_687 3 rfl ?_
  refine x_iloadn X dL_law_688 0 rfl ?_
  refine x_iconst (v := nI 3) X dL_law_689 (by decide) ?_
  refine x_iadd (v := nI (i + 3)) X dL_law_690 (nI_add _ _) ?_
  refine x_sld X (fun _ _ h => h.2.2) (by omega) (by omega) dL_law_691 ?_
  refine x_callVJrv (As := [.int (xs (i + 1)), .int (xs (i + 2)), .int (xs (i + 3))]) (rest := []) (segs := [wInk G o x w d h g q e, wTx G x le nl nu nc, wCq G w s, wCq G d sd, wSh8 G h ad lw sz, wSh2 G g ad2 lw2 sz2, wSg G q th sa ns, wIA G e 41 f, wMo G a s.1 s.2.1 sz sz2 ns nl pa rp rq kd (en s) W Kp sg le2 tl rk rd nw rw, wCs G ad cs 8, wCs G ad2 cs2 2]) [0, 2] [1, 3, 4, 5, 6, 7, 8, 9, 10] (show ([0, 2] ++ [1, 3, 4, 5, 6, 7, 8, 9, 10] : List Nat).Perm (List.range 11) from by decide) X (c_X4_whom l G o x w d h g q e s (xs (i + 1)) (xs (i + 2)) (xs (i + 3)) (by omega) (by omega) (by omega) (by assumption)) rfl xE0_ok (fun _ _ _ => trivial) 0 rfl rfl rfl wco_X4_whom wi_X4 xd_X4_whom wl_L_82 win_X4_whom wse_X4_whom (by decide) (Nat.le_of_ble_eq_true rfl) dL_law_692 ?_
  refine x_aloadn X dL_law_695 1 rfl ?_
  refine x_aloadn X dL_law_696 3 rfl ?_
  refine x_iloadn X dL_law_697 0 rfl ?_
  refine x_iconst (v := nI 1) X dL_law_698 (by decide) ?_
  refine x_iadd (v := nI (i + 1)) X dL_law_699 (nI_add _ _) ?_
  refine x_sld X (fun _ _ h => h.2.2) (by omega) (by omega) dL_law_700 ?_
  refine x_aloadn X dL_law_701 3 rfl ?_
  refine x_iloadn X dL_law_702 0 rfl ?_
  refine x_iconst (v := nI 2) X dL_law_703 (by decide) ?_
  refine x_iadd (v := nI (i + 2)) X dL_law_704 (nI_add _ _) ?_
  refine x_sld X (fun _ _ h => h.2.2) (by omega) (by omega) dL_law_705 ?_
  refine x_aloadn X dL_law_706 3 rfl ?_
  refine x_iloadn X dL_law_707 0 rfl ?_
  refine x_iconst (v := nI 3) X dL_law_708 (by decide) ?_
  refine x_iadd (v := nI (i + 3)) X dL_law_709 (nI_add _ _) ?_
  refine x_sld X (fun _ _ h => h.2.2) (by omega) (by omega) dL_law_710 ?_
  refine x_callVJ (As := [.int (xs (i + 1)), .int (xs (i + 2)), .int (xs (i + 3))]) (rest := [.int (F_whom s (xs (i + 1)) (xs (i + 2)) (xs (i + 3)))]) (segs := [wInk G o x w d h g q e, wTx G x le nl nu nc, wCq G w s, wCq G d sd, wSh8 G h ad lw sz, wSh2 G g ad2 lw2 sz2, wSg G q th sa ns, wIA G e 41 f, wMo G a s.1 s.2.1 sz sz2 ns nl pa rp rq kd (en s) W Kp sg le2 tl rk rd nw rw, wCs G ad cs 8, wCs G ad2 cs2 2]) [8] [0, 1, 2, 3, 4, 5, 6, 7, 9, 10] (show ([8] ++ [0, 1, 2, 3, 4, 5, 6, 7, 9, 10] : List Nat).Perm (List.range 11) from by decide) X (c_X5_whom l G a sz sz2 ns nl pa rp rq kd W Kp sg le2 tl rk rd nw rw s (xs (i + 1)) (xs (i + 2)) (xs (i + 3)) (by omega) (by omega) (by omega) (by omega) (by assumption) (by assumption) (by assumption) (by assumption)) rfl xE0_ok (fun _ _ _ => trivial) 0 rfl rfl rfl wco_X5_whom wi_X5 xd_X5_whom wl_L_85 win_X5_whom wse_X5_whom (by decide) (Nat.le_of_ble_eq_true rfl) dL_law_711 (fun w2 h => by obtain ⟨nw_1, rfl⟩ := h; exact (Eq.trans (b := [a 0, a 1, a 2, a 3, a 4, a 5, a 6, a 7, a 8, a 9, a 10, a 11]) rfl rfl)) (fun w_2 hw_2 => ?_)
  obtain ⟨nw_1, rfl⟩ := hw_2
  refine x_backV (segs := [wInk G o x w d h g q e, wTx G x le nl nu nc, wCq G w s, wCq G d sd, wSh8 G h ad lw sz, wSh2 G g ad2 lw2 sz2, wSg G q th sa ns, wIA G e 41 f, wMo G a s.1 s.2.1 sz sz2 ns nl pa rp rq kd (en s) W Kp sg le2 tl rk rd nw rw, wCs G ad cs 8, wCs G ad2 cs2 2]) (segs' := [wInk G o x w d h g q e, wTx G x le nl nu nc, wCq G w s, wCq G d sd, wSh8 G h ad lw sz, wSh2 G g ad2 lw2 sz2, wSg G q th sa ns, wIA G e 41 f, wMo G a s.1 s.2.1 sz sz2 ns nl pa rp rq kd (en s) W Kp sg le2 tl rk rd nw_1 rw, wCs G ad cs 8, wCs G ad2 cs2 2]) (mid := [wInk G o x w d h g q e, wTx G x le nl nu nc, wCq G w s, wCq G d sd, wSh8 G h ad lw sz, wSh2 G g ad2 lw2 sz2, wSg G q th sa ns, wIA G e 41 f, wCs G ad cs 8, wCs G ad2 cs2 2]) [8] [0, 1, 2, 3, 4, 5, 6, 7, 9, 10] (show ([8] ++ [0, 1, 2, 3, 4, 5, 6, 7, 9, 10] : List Nat).Perm (List.range 11) from by decide) X rfl rfl rfl ?_
  refine x_wst (ws' := xJ [wInk G o x w d h g q e, wTx G x le nl nu nc, wCq G w s, wCq G d sd, wSh8 G h ad lw sz, wSh2 G g ad2 lw2 sz2, wSg G q th sa ns, wIA G e 41 f, wMo G a s.1 s.2.1 sz sz2 ns nl pa rp rq kd (en s) W Kp sg le2 tl rk rd nw_1 rw, wCs G ad cs 8, wCs G ad2 cs2 2]) (st' := [.int (F_whom s (xs (i + 1)) (xs (i + 2)) (xs (i + 3))), .int (F_whom s (xs (i + 1)) (xs (i + 2)) (xs (i + 3)))]) rfl rfl ?_
  refine x_icmp_eq 1149 X dL_law_714 (by decide) (fun c_3 => ?_) (fun c_3 => ?_)
  · -- 714 t
    exact kk s sd le nl nu nc lw sz cs lw2 sz2 cs2 th sa ns f pa rp rq kd W Kp sg le2 tl rk rd nw_1 rw hall
  · -- 714 f
    exact absurd rfl c_3
set_option maxRecDepth 100000 in
set_option maxHeartbeats 4000000 in
/-- treaty -/
theorem lw_treaty {l : Launch} {G : xG} {nm : String} {tW sq sv : Nat} {sw : Value} {b L : Nat} {xs : Nat → Int32} {Z : Option Value → va_W → Nat → Nat → Prop} {K : xKt} (X : xR l G (xEL tW sq sv sw b L xs) RL nm cL_law 4 room_1 Z K) {o : Nat} {x : Nat → Nat} {w : Nat → Nat} {d : Nat → Nat} {h : Nat → Nat} {g : Nat → Nat} {q : Nat → Nat} {e : Nat} {ad : Nat → Nat → Nat} {ad2 : Nat → Nat → Nat} {a : Nat → Nat} (hL : L ≤ 384) {i : Nat} (hi : i + 6 ≤ L) (kk : ∀ (s : xS) (sd : xS) (le : Nat → Int32) (nl : Nat) (nu : Nat → Int32) (nc : Nat) (lw : Nat) (sz : Nat) (cs : Nat → xS) (lw2 : Nat) (sz2 : Nat) (cs2 : Nat → xS) (th : Nat → Int32) (sa : Nat → Int32) (ns : Nat) (f : Nat → Int32) (pa : Nat) (rp : Nat) (rq : Nat) (kd : Nat → Int32) (W : Nat → Int32) (Kp : Nat → Int32) (sg : Nat → Int32) (le2 : Nat → Int32) (tl : Nat → Int32) (rk : Nat → Int32) (rd : Nat → Int32) (nw : Nat → Int32) (rw : Nat → Int32), LI s kd le le2 nl lw sz cs W lw2 sz2 cs2 Kp ns th sa sg → K (xJ [wInk G o x w d h g q e, wTx G x le nl nu nc, wCq G w s, wCq G d sd, wSh8 G h ad lw sz, wSh2 G g ad2 lw2 sz2, wSg G q th sa ns, wIA G e 41 f, wMo G a s.1 s.2.1 sz sz2 ns nl pa rp rq kd (en s) W Kp sg le2 tl rk rd nw rw, wCs G ad cs 8, wCs G ad2 cs2 2]) 84 2407 1149 [(3, .int (nI i)), (2, .ref (a 0)), (1, .ref o), (0, .ref b)] []) (s : xS) (sd : xS) (le : Nat → Int32) (nl : Nat) (nu : Nat → Int32) (nc : Nat) (lw : Nat) (sz : Nat) (cs : Nat → xS) (lw2 : Nat) (sz2 : Nat) (cs2 : Nat → xS) (th : Nat → Int32) (sa : Nat → Int32) (ns : Nat) (f : Nat → Int32) (pa : Nat) (rp : Nat) (rq : Nat) (kd : Nat → Int32) (W : Nat → Int32) (Kp : Nat → Int32) (sg : Nat → Int32) (le2 : Nat → Int32) (tl : Nat → Int32) (rk : Nat → Int32) (rd : Nat → Int32) (nw : Nat → Int32) (rw : Nat → Int32) (h0 : LI s kd le le2 nl lw sz cs W lw2 sz2 cs2 Kp ns th sa sg) : K (xJ [wInk G o x w d h g q e, wTx G x le nl nu nc, wCq G w s, wCq G d sd, wSh8 G h ad lw sz, wSh2 G g ad2 lw2 sz2, wSg G q th sa ns, wIA G e 41 f, wMo G a s.1 s.2.1 sz sz2 ns nl pa rp rq kd (en s) W Kp sg le2 tl rk rd nw rw, wCs G ad cs 8, wCs G ad2 cs2 2]) 84 2407 719 [(3, .int (nI i)), (2, .ref (a 0)), (1, .ref o), (0, .ref b)] [] := by
  have hall := h0
  obtain ⟨⟨hg, hs1, hkd⟩, ⟨hnl, hle⟩, ⟨hlw, hsz, hW, hcs⟩, ⟨hlw2, hsz2, hKp, hcs2⟩, ⟨hns, hsg, hth⟩⟩ := h0
  obtain ⟨hs6, ⟨hq1, hq5⟩, hmi, hbv, hbl⟩ := hg
  have hg : GS s := hall.st.gs
  refine x_aloadn X dL_law_719 2 rfl ?_
  refine x_aloadn X dL_law_720 3 rfl ?_
  refine x_iloadn X dL_law_721 0 rfl ?_
  refine x_iconst (v := nI 1) X dL_law_722 (by decide) ?_
  refine x_iadd (v := nI (i + 1)) X dL_law_723 (nI_add _ _) ?_
  refine x_sld X (fun _ _ h => h.2.2) (by omega) (by omega) dL_law_724 ?_
  refine x_aloadn X dL_law_725 3 rfl ?_
  refine x_iloadn X dL_law_726 0 rfl ?_
  refine x_iconst (v := nI 2) X dL_law_727 (by decide) ?_
  refine x_iadd (v := nI (i + 2)) X dL_law_728 (nI_add _ _) ?_
  refine x_sld X (fun _ _ h => h.2.2) (by omega) (by omega) dL_law_729 ?_
  refine x_aloadn X dL_law_730 3 rfl ?_
  refine x_iloadn X dL_law_731 0 rfl ?_
  refine x_iconst (v := nI 3) X dL_law_732 (by decide) ?_
  refine x_iadd (v := nI (i + 3)) X dL_law_733 (nI_add _ _) ?_
  refine x_sld X (fun _ _ h => h.2.2) (by omega) (by omega) dL_law_734 ?_
  refine x_callVJrv (As := [.int (xs (i + 1)), .int (xs (i + 2)), .int (xs (i + 3))]) (rest := []) (segs := [wInk G o x w d h g q e, wTx G x le nl nu nc, wCq G w s, wCq G d sd, wSh8 G h ad lw sz, wSh2 G g ad2 lw2 sz2, wSg G q th sa ns, wIA G e 41 f, wMo G a s.1 s.2.1 sz sz2 ns nl pa rp rq kd (en s) W Kp sg le2 tl rk rd nw rw, wCs G ad cs 8, wCs G ad2 cs2 2]) [0, 2] [1, 3, 4, 5, 6, 7, 8, 9, 10] (show ([0, 2] ++ [1, 3, 4, 5, 6, 7, 8, 9, 10] : List Nat).Perm (List.range 11) from by decide) X (c_X4_treaty l G o x w d h g q e s (xs (i + 1)) (xs (i + 2)) (xs (i + 3)) (by omega) (by omega) (by omega) (by assumption)) rfl xE0_ok (fun _ _ _ => trivial) 0 rfl rfl rfl wco_X4_treaty wi_X4 xd_X4_treaty wl_L_86 win_X4_treaty wse_X4_treaty (by decide) (Nat.le_of_ble_eq_true rfl) dL_law_735 ?_
  refine x_aloadn X dL_law_738 1 rfl ?_
  refine x_aloadn X dL_law_739 3 rfl ?_
  refine x_iloadn X dL_law_740 0 rfl ?_
  refine x_iconst (v := nI 1) X dL_law_741 (by decide) ?_
  refine x_iadd (v := nI (i + 1)) X dL_law_742 (nI_add _ _) ?_
  refine x_sld X (fun _ _ h => h.2.2) (by omega) (by omega) dL_law_743 ?_
  refine x_aloadn X dL_law_744 3 rfl ?_
  refine x_iloadn X dL_law_745 0 rfl ?_
  refine x_iconst (v := nI 2) X dL_law_746 (by decide) ?_
  refine x_iadd (v := nI (i + 2)) X dL_law_747 (nI_add _ _) ?_
  refine x_sld X (fun _ _ h => h.2.2) (by omega) (by omega) dL_law_748 ?_
  refine x_aloadn X dL_law_749 3 rfl ?_
  refine x_iloadn X dL_law_750 0 rfl ?_
  refine x_iconst (v := nI 3) X dL_law_751 (by decide) ?_
  refine x_iadd (v := nI (i + 3)) X dL_law_752 (nI_add _ _) ?_
  refine x_sld X (fun _ _ h => h.2.2) (by omega) (by omega) dL_law_753 ?_
  refine x_callVJ (As := [.int (xs (i + 1)), .int (xs (i + 2)), .int (xs (i + 3))]) (rest := [.int (F_treaty s (xs (i + 1)) (xs (i + 2)) (xs (i + 3)))]) (segs := [wInk G o x w d h g q e, wTx G x le nl nu nc, wCq G w s, wCq G d sd, wSh8 G h ad lw sz, wSh2 G g ad2 lw2 sz2, wSg G q th sa ns, wIA G e 41 f, wMo G a s.1 s.2.1 sz sz2 ns nl pa rp rq kd (en s) W Kp sg le2 tl rk rd nw rw, wCs G ad cs 8, wCs G ad2 cs2 2]) [8] [0, 1, 2, 3, 4, 5, 6, 7, 9, 10] (show ([8] ++ [0, 1, 2, 3, 4, 5, 6, 7, 9, 10] : List Nat).Perm (List.range 11) from by decide) X (c_X5_treaty l G a sz sz2 ns nl pa rp rq kd W Kp sg le2 tl rk rd nw rw s (xs (i + 1)) (xs (i + 2)) (xs (i + 3)) (by omega) (by omega) (by omega) (by omega) (by assumption) (by assumption) (by assumption) (by assumption)) rfl xE0_ok (fun _ _ _ => trivial) 0 rfl rfl rfl wco_X5_treaty wi_X5 xd_X5_treaty wl_L_89 win_X5_treaty wse_X5_treaty (by decide) (Nat.le_of_ble_eq_true rfl) dL_law_754 (fun w2 h => by obtain ⟨nw_1, rfl⟩ := h; exact (Eq.trans (b := [a 0, a 1, a 2, a 3, a 4, a 5, a 6, a 7, a 8, a 9, a 10, a 11]) rfl rfl)) (fun w_2 hw_2 => ?_)
  obtain ⟨nw_1, rfl⟩ := hw_2
  refine x_backV (segs := [wInk G o x w d h g q e, wTx G x le nl nu nc, wCq G w s, wCq G d sd, wSh8 G h ad lw sz, wSh2 G g ad2 lw2 sz2, wSg G q th sa ns, wIA G e 41 f, wMo G a s.1 s.2.1 sz sz2 ns nl pa rp rq kd (en s) W Kp sg le2 tl rk rd nw rw, wCs G ad cs 8, wCs G ad2 cs2 2]) (segs' := [wInk G o x w d h g q e, wTx G x le nl nu nc, wCq G w s, wCq G d sd, wSh8 G h ad lw sz, wSh2 G g ad2 lw2 sz2, wSg G q th sa ns, wIA G e 41 f, wMo G a s.1 s.2.1 sz sz2 ns nl pa rp rq kd (en s) W Kp sg le2 tl rk rd nw_1 rw, wCs G ad cs 8, wCs G ad2 cs2 2]) (mid := [wInk G o x w d h g q e, wTx G x le nl nu nc, wCq G w s, wCq G d sd, wSh8 G h ad lw sz, wSh2 G g ad2 lw2 sz2, wSg G q th sa ns, wIA G e 41 f, wCs G ad cs 8, wCs G ad2 cs2 2]) [8] [0, 1, 2, 3, 4, 5, 6, 7, 9, 10] (show ([8] ++ [0, 1, 2, 3, 4, 5, 6, 7, 9, 10] : List Nat).Perm (List.range 11) from by decide) X rfl rfl rfl ?_
  refine x_wst (ws' := xJ [wInk G o x w d h g q e, wTx G x le nl nu nc, wCq G w s, wCq G d sd, wSh8 G h ad lw sz, wSh2 G g ad2 lw2 sz2, wSg G q th sa ns, wIA G e 41 f, wMo G a s.1 s.2.1 sz sz2 ns nl pa rp rq kd (en s) W Kp sg le2 tl rk rd nw_1 rw, wCs G ad cs 8, wCs G ad2 cs2 2]) (st' := [.int (F_treaty s (xs (i + 1)) (xs (i + 2)) (xs (i + 3))), .int (F_treaty s (xs (i + 1)) (xs (i + 2)) (xs (i + 3)))]) rfl rfl ?_
  refine x_icmp_eq 1149 X dL_law_757 (by decide) (fun c_3 => ?_) (fun c_3 => ?_)
  · -- 757 t
    exact kk s sd le nl nu nc lw sz cs lw2 sz2 cs2 th sa ns f pa rp rq kd W Kp sg le2 tl rk rd nw_1 rw hall
  · -- 757 f
    exact absurd rfl c_3
set_option maxRecDepth 100000 in
set_option maxHeartbeats 4000000 in
/-- round -/
theorem lw_round {l : Launch} {G : xG} {nm : String} {tW sq sv : Nat} {sw : Value} {b L : Nat} {xs : Nat → Int32} {Z : Option Value → va_W → Nat → Nat → Prop} {K : xKt} (X : xR l G (xEL tW sq sv sw b L xs) RL nm cL_law 4 room_1 Z K) {o : Nat} {x : Nat → Nat} {w : Nat → Nat} {d : Nat → Nat} {h : Nat → Nat} {g : Nat → Nat} {q : Nat → Nat} {e : Nat} {ad : Nat → Nat → Nat} {ad2 : Nat → Nat → Nat} {a : Nat → Nat} (hL : L ≤ 384) {i : Nat} (hi : i + 6 ≤ L) (kk : ∀ (s : xS) (sd : xS) (le : Nat → Int32) (nl : Nat) (nu : Nat → Int32) (nc : Nat) (lw : Nat) (sz : Nat) (cs : Nat → xS) (lw2 : Nat) (sz2 : Nat) (cs2 : Nat → xS) (th : Nat → Int32) (sa : Nat → Int32) (ns : Nat) (f : Nat → Int32) (pa : Nat) (rp : Nat) (rq : Nat) (kd : Nat → Int32) (W : Nat → Int32) (Kp : Nat → Int32) (sg : Nat → Int32) (le2 : Nat → Int32) (tl : Nat → Int32) (rk : Nat → Int32) (rd : Nat → Int32) (nw : Nat → Int32) (rw : Nat → Int32), LI s kd le le2 nl lw sz cs W lw2 sz2 cs2 Kp ns th sa sg → K (xJ [wInk G o x w d h g q e, wTx G x le nl nu nc, wCq G w s, wCq G d sd, wSh8 G h ad lw sz, wSh2 G g ad2 lw2 sz2, wSg G q th sa ns, wIA G e 41 f, wMo G a s.1 s.2.1 sz sz2 ns nl pa rp rq kd (en s) W Kp sg le2 tl rk rd nw rw, wCs G ad cs 8, wCs G ad2 cs2 2]) 84 2407 1149 [(3, .int (nI i)), (2, .ref (a 0)), (1, .ref o), (0, .ref b)] []) (s : xS) (sd : xS) (le : Nat → Int32) (nl : Nat) (nu : Nat → Int32) (nc : Nat) (lw : Nat) (sz : Nat) (cs : Nat → xS) (lw2 : Nat) (sz2 : Nat) (cs2 : Nat → xS) (th : Nat → Int32) (sa : Nat → Int32) (ns : Nat) (f : Nat → Int32) (pa : Nat) (rp : Nat) (rq : Nat) (kd : Nat → Int32) (W : Nat → Int32) (Kp : Nat → Int32) (sg : Nat → Int32) (le2 : Nat → Int32) (tl : Nat → Int32) (rk : Nat → Int32) (rd : Nat → Int32) (nw : Nat → Int32) (rw : Nat → Int32) (h0 : LI s kd le le2 nl lw sz cs W lw2 sz2 cs2 Kp ns th sa sg) : K (xJ [wInk G o x w d h g q e, wTx G x le nl nu nc, wCq G w s, wCq G d sd, wSh8 G h ad lw sz, wSh2 G g ad2 lw2 sz2, wSg G q th sa ns, wIA G e 41 f, wMo G a s.1 s.2.1 sz sz2 ns nl pa rp rq kd (en s) W Kp sg le2 tl rk rd nw rw, wCs G ad cs 8, wCs G ad2 cs2 2]) 84 2407 762 [(3, .int (nI i)), (2, .ref (a 0)), (1, .ref o), (0, .ref b)] [] := by
  have hall := h0
  obtain ⟨⟨hg, hs1, hkd⟩, ⟨hnl, hle⟩, ⟨hlw, hsz, hW, hcs⟩, ⟨hlw2, hsz2, hKp, hcs2⟩, ⟨hns, hsg, hth⟩⟩ := h0
  obtain ⟨hs6, ⟨hq1, hq5⟩, hmi, hbv, hbl⟩ := hg
  have hg : GS s := hall.st.gs
  refine x_aloadn X dL_law_762 2 rfl ?_
  refine x_aloadn X dL_law_763 3 rfl ?_
  refine x_iloadn X dL_law_764 0 rfl ?_
  refine x_iconst (v := nI 1) X dL_law_765 (by decide) ?_
  refine x_iadd (v := nI (i + 1)) X dL_law_766 (nI_add _ _) ?_
  refine x_sld X (fun _ _ h => h.2.2) (by omega) (by omega) dL_law_767 ?_
  refine x_aloadn X dL_law_768 3 rfl ?_
  refine x_iloadn X dL_law_769 0 rfl ?_
  refine x_iconst (v := nI 2) X dL_law_770 (by decide) ?_
  refine x_iadd (v := nI (i + 2)) X dL_law_771 (nI_add _ _) ?_
  refine x_sld X (fun _ _ h => h.2.2) (by omega) (by omega) dL_law_772 ?_
  refine x_aloadn X dL_law_773 3 rfl ?_
  refine x_iloadn X dL_law_774 0 rfl ?_
  refine x_iconst (v := nI 3) X dL_law_775 (by decide) ?_
  refine x_iadd (v := nI (i + 3)) X dL_law_776 (nI_add _ _) ?_
  refine x_sld X (fun _ _ h => h.2.2) (by omega) (by omega) dL_law_777 ?_
  refine x_callVJrv (As := [.int (xs (i + 1)), .int (xs (i + 2)), .int (xs (i + 3))]) (rest := []) (segs := [wInk G o x w d h g q e, wTx G x le nl nu nc, wCq G w s, wCq G d sd, wSh8 G h ad lw sz, wSh2 G g ad2 lw2 sz2, wSg G q th sa ns, wIA G e 41 f, wMo G a s.1 s.2.1 sz sz2 ns nl pa rp rq kd (en s) W Kp sg le2 tl rk rd nw rw, wCs G ad cs 8, wCs G ad2 cs2 2]) [0, 2] [1, 3, 4, 5, 6, 7, 8, 9, 10] (show ([0, 2] ++ [1, 3, 4, 5, 6, 7, 8, 9, 10] : List Nat).Perm (List.range 11) from by decide) X (c_X4_round l G o x w d h g q e s (xs (i + 1)) (xs (i + 2)) (xs (i + 3)) (by omega) (by omega) (by omega) (by assumption)) rfl xE0_ok (fun _ _ _ => trivial) 0 rfl rfl rfl wco_X4_round wi_X4 xd_X4_round wl_L_90 win_X4_round wse_X4_round (by decide) (Nat.le_of_ble_eq_true rfl) dL_law_778 ?_
  refine x_aloadn X dL_law_781 1 rfl ?_
  refine x_aloadn X dL_law_782 3 rfl ?_
  refine x_iloadn X dL_law_783 0 rfl ?_
  refine x_iconst (v := nI 1) X dL_law_784 (by decide) ?_
  refine x_iadd (v := nI (i + 1)) X dL_law_785 (nI_add _ _) ?_
  refine x_sld X (fun _ _ h => h.2.2) (by omega) (by omega) dL_law_786 ?_
  refine x_aloadn X dL_law_787 3 rfl ?_
  refine x_iloadn X dL_law_788 0 rfl ?_
  refine x_iconst (v := nI 2) X dL_law_789 (by decide) ?_
  refine x_iadd (v := nI (i + 2)) X dL_law_790 (nI_add _ _) ?_
  refine x_sld X (fun _ _ h => h.2.2) (by omega) (by omega) dL_law_791 ?_
  refine x_aloadn X dL_law_792 3 rfl ?_
  refine x_iloadn X dL_law_793 0 rfl ?_
  refine x_iconst (v := nI 3) X dL_law_794 (by decide) ?_
  refine x_iadd (v := nI (i + 3)) X dL_law_795 (nI_add _ _) ?_
  refine x_sld X (fun _ _ h => h.2.2) (by omega) (by omega) dL_law_796 ?_
  refine x_callVJ (As := [.int (xs (i + 1)), .int (xs (i + 2)), .int (xs (i + 3))]) (rest := [.int (F_round s (xs (i + 1)) (xs (i + 2)) (xs (i + 3)))]) (segs := [wInk G o x w d h g q e, wTx G x le nl nu nc, wCq G w s, wCq G d sd, wSh8 G h ad lw sz, wSh2 G g ad2 lw2 sz2, wSg G q th sa ns, wIA G e 41 f, wMo G a s.1 s.2.1 sz sz2 ns nl pa rp rq kd (en s) W Kp sg le2 tl rk rd nw rw, wCs G ad cs 8, wCs G ad2 cs2 2]) [8] [0, 1, 2, 3, 4, 5, 6, 7, 9, 10] (show ([8] ++ [0, 1, 2, 3, 4, 5, 6, 7, 9, 10] : List Nat).Perm (List.range 11) from by decide) X (c_X5_round l G a sz sz2 ns nl pa rp rq kd W Kp sg le2 tl rk rd nw rw s (xs (i + 1)) (xs (i + 2)) (xs (i + 3)) (by omega) (by omega) (by omega) (by omega) (by assumption) (by assumption) (by assumption) (by assumption)) rfl xE0_ok (fun _ _ _ => trivial) 0 rfl rfl rfl wco_X5_round wi_X5 xd_X5_round wl_L_93 win_X5_round wse_X5_round (by decide) (Nat.le_of_ble_eq_true rfl) dL_law_797 (fun w2 h => by obtain ⟨nw_1, rfl⟩ := h; exact (Eq.trans (b := [a 0, a 1, a 2, a 3, a 4, a 5, a 6, a 7, a 8, a 9, a 10, a 11]) rfl rfl)) (fun w_2 hw_2 => ?_)
  obtain ⟨nw_1, rfl⟩ := hw_2
  refine x_backV (segs := [wInk G o x w d h g q e, wTx G x le nl nu nc, wCq G w s, wCq G d sd, wSh8 G h ad lw sz, wSh2 G g ad2 lw2 sz2, wSg G q th sa ns, wIA G e 41 f, wMo G a s.1 s.2.1 sz sz2 ns nl pa rp rq kd (en s) W Kp sg le2 tl rk rd nw rw, wCs G ad cs 8, wCs G ad2 cs2 2]) (segs' := [wInk G o x w d h g q e, wTx G x le nl nu nc, wCq G w s, wCq G d sd, wSh8 G h ad lw sz, wSh2 G g ad2 lw2 sz2, wSg G q th sa ns, wIA G e 41 f, wMo G a s.1 s.2.1 sz sz2 ns nl pa rp rq kd (en s) W Kp sg le2 tl rk rd nw_1 rw, wCs G ad cs 8, wCs G ad2 cs2 2]) (mid := [wInk G o x w d h g q e, wTx G x le nl nu nc, wCq G w s, wCq G d sd, wSh8 G h ad lw sz, wSh2 G g ad2 lw2 sz2, wSg G q th sa ns, wIA G e 41 f, wCs G ad cs 8, wCs G ad2 cs2 2]) [8] [0, 1, 2, 3, 4, 5, 6, 7, 9, 10] (show ([8] ++ [0, 1, 2, 3, 4, 5, 6, 7, 9, 10] : List Nat).Perm (List.range 11) from by decide) X rfl rfl rfl ?_
  refine x_wst (ws' := xJ [wInk G o x w d h g q e, wTx G x le nl nu nc, wCq G w s, wCq G d sd, wSh8 G h ad lw sz, wSh2 G g ad2 lw2 sz2, wSg G q th sa ns, wIA G e 41 f, wMo G a s.1 s.2.1 sz sz2 ns nl pa rp rq kd (en s) W Kp sg le2 tl rk rd nw_1 rw, wCs G ad cs 8, wCs G ad2 cs2 2]) (st' := [.int (F_round s (xs (i + 1)) (xs (i + 2)) (xs (i + 3))), .int (F_round s (xs (i + 1)) (xs (i + 2)) (xs (i + 3)))]) rfl rfl ?_
  refine x_icmp_eq 1149 X dL_law_800 (by decide) (fun c_3 => ?_) (fun c_3 => ?_)
  · -- 800 t
    exact kk s sd le nl nu nc lw sz cs lw2 sz2 cs2 th sa ns f pa rp rq kd W Kp sg le2 tl rk rd nw_1 rw hall
  · -- 800 f
    exact absurd rfl c_3
set_option maxRecDepth 100000 in
set_option maxHeartbeats 4000000 in
/-- again -/
theorem lw_again {l : Launch} {G : xG} {nm : String} {tW sq sv : Nat} {sw : Value} {b L : Nat} {xs : Nat → Int32} {Z : Option Value → va_W → Nat → Nat → Prop} {K : xKt} (X : xR l G (xEL tW sq sv sw b L xs) RL nm cL_law 4 room_1 Z K) {o : Nat} {x : Nat → Nat} {w : Nat → Nat} {d : Nat → Nat} {h : Nat → Nat} {g : Nat → Nat} {q : Nat → Nat} {e : Nat} {ad : Nat → Nat → Nat} {ad2 : Nat → Nat → Nat} {a : Nat → Nat} (hL : L ≤ 384) {i : Nat} (hi : i + 6 ≤ L) (kk : ∀ (s : xS) (sd : xS) (le : Nat → Int32) (nl : Nat) (nu : Nat → Int32) (nc : Nat) (lw : Nat) (sz : Nat) (cs : Nat → xS) (lw2 : Nat) (sz2 : Nat) (cs2 : Nat → xS) (th : Nat → Int32) (sa : Nat → Int32) (ns : Nat) (f : Nat → Int32) (pa : Nat) (rp : Nat) (rq : Nat) (kd : Nat → Int32) (W : Nat → Int32) (Kp : Nat → Int32) (sg : Nat → Int32) (le2 : Nat → Int32) (tl : Nat → Int32) (rk : Nat → Int32) (rd : Nat → Int32) (nw : Nat → Int32) (rw : Nat → Int32), LI s kd le le2 nl lw sz cs W lw2 sz2 cs2 Kp ns th sa sg → K (xJ [wInk G o x w d h g q e, wTx G x le nl nu nc, wCq G w s, wCq G d sd, wSh8 G h ad lw sz, wSh2 G g ad2 lw2 sz2, wSg G q th sa ns, wIA G e 41 f, wMo G a s.1 s.2.1 sz sz2 ns nl pa rp rq kd (en s) W Kp sg le2 tl rk rd nw rw, wCs G ad cs 8, wCs G ad2 cs2 2]) 84 2407 1149 [(3, .int (nI i)), (2, .ref (a 0)), (1, .ref o), (0, .ref b)] []) (s : xS) (sd : xS) (le : Nat → Int32) (nl : Nat) (nu : Nat → Int32) (nc : Nat) (lw : Nat) (sz : Nat) (cs : Nat → xS) (lw2 : Nat) (sz2 : Nat) (cs2 : Nat → xS) (th : Nat → Int32) (sa : Nat → Int32) (ns : Nat) (f : Nat → Int32) (pa : Nat) (rp : Nat) (rq : Nat) (kd : Nat → Int32) (W : Nat → Int32) (Kp : Nat → Int32) (sg : Nat → Int32) (le2 : Nat → Int32) (tl : Nat → Int32) (rk : Nat → Int32) (rd : Nat → Int32) (nw : Nat → Int32) (rw : Nat → Int32) (h0 : LI s kd le le2 nl lw sz cs W lw2 sz2 cs2 Kp ns th sa sg) : K (xJ [wInk G o x w d h g q e, wTx G x le nl nu nc, wCq G w s, wCq G d sd, wSh8 G h ad lw sz, wSh2 G g ad2 lw2 sz2, wSg G q th sa ns, wIA G e 41 f, wMo G a s.1 s.2.1 sz sz2 ns nl pa rp rq kd (en s) W Kp sg le2 tl rk rd nw rw, wCs G ad cs 8, wCs G ad2 cs2 2]) 84 2407 805 [(3, .int (nI i)), (2, .ref (a 0)), (1, .ref o), (0, .ref b)] [] := by
  have hall := h0
  obtain ⟨⟨hg, hs1, hkd⟩, ⟨hnl, hle⟩, ⟨hlw, hsz, hW, hcs⟩, ⟨hlw2, hsz2, hKp, hcs2⟩, ⟨hns, hsg, hth⟩⟩ := h0
  obtain ⟨hs6, ⟨hq1, hq5⟩, hmi, hbv, hbl⟩ := hg
  have hg : GS s := hall.st.gs
  refine x_aloadn X dL_law_805 2 rfl ?_
  refine x_aloadn X dL_law_806 3 rfl ?_
  refine x_iloadn X dL_law_807 0 rfl ?_
  refine x_iconst (v := nI 1) X dL_law_808 (by decide) ?_
  refine x_iadd (v := nI (i + 1)) X dL_law_809 (nI_add _ _) ?_
  refine x_sld X (fun _ _ h => h.2.2) (by omega) (by omega) dL_law_810 ?_
  refine x_aloadn X dL_law_811 3 rfl ?_
  refine x_iloadn X dL_law_812 0 rfl ?_
  refine x_iconst (v := nI 2) X dL_law_813 (by decide) ?_
  refine x_iadd (v := nI (i + 2)) X dL_law_814 (nI_add _ _) ?_
  refine x_sld X (fun _ _ h => h.2.2) (by omega) (by omega) dL_law_815 ?_
  refine x_callVJ (As := [.int (xs (i + 1)), .int (xs (i + 2))]) (rest := []) (segs := [wInk G o x w d h g q e, wTx G x le nl nu nc, wCq G w s, wCq G d sd, wSh8 G h ad lw sz, wSh2 G g ad2 lw2 sz2, wSg G q th sa ns, wIA G e 41 f, wMo G a s.1 s.2.1 sz sz2 ns nl pa rp rq kd (en s) W Kp sg le2 tl rk rd nw rw, wCs G ad cs 8, wCs G ad2 cs2 2]) [0, 2, 3, 7] [1, 4, 5, 6, 8, 9, 10] (show ([0, 2, 3, 7] ++ [1, 4, 5, 6, 8, 9, 10] : List Nat).Perm (List.range 11) from by decide) X (c_X4_again l G o x w d h g q e s sd f (xs (i + 1)) (xs (i + 2)) (by omega) (by omega) (by omega) (by assumption)) rfl xE0_ok (fun _ _ _ => trivial) 0 rfl rfl rfl wco_X4_again wi_X4 xd_X4_again wl_L_94 win_X4_again wse_X4_again (by decide) (Nat.le_of_ble_eq_true rfl) dL_law_816 (fun w2 h => by obtain ⟨sd_1, f_2, rfl⟩ := h; exact (Eq.trans (b := [o, w 0, w 1, w 2, w 3, w 4, d 0, d 1, d 2, d 3, d 4, e]) rfl rfl)) (fun w_3 hw_3 => ?_)
  obtain ⟨sd_1, f_2, rfl⟩ := hw_3
  refine x_backV (segs := [wInk G o x w d h g q e, wTx G x le nl nu nc, wCq G w s, wCq G d sd, wSh8 G h ad lw sz, wSh2 G g ad2 lw2 sz2, wSg G q th sa ns, wIA G e 41 f, wMo G a s.1 s.2.1 sz sz2 ns nl pa rp rq kd (en s) W Kp sg le2 tl rk rd nw rw, wCs G ad cs 8, wCs G ad2 cs2 2]) (segs' := [wInk G o x w d h g q e, wTx G x le nl nu nc, wCq G w s, wCq G d sd_1, wSh8 G h ad lw sz, wSh2 G g ad2 lw2 sz2, wSg G q th sa ns, wIA G e 41 f_2, wMo G a s.1 s.2.1 sz sz2 ns nl pa rp rq kd (en s) W Kp sg le2 tl rk rd nw rw, wCs G ad cs 8, wCs G ad2 cs2 2]) (mid := [wTx G x le nl nu nc, wSh8 G h ad lw sz, wSh2 G g ad2 lw2 sz2, wSg G q th sa ns, wMo G a s.1 s.2.1 sz sz2 ns nl pa rp rq kd (en s) W Kp sg le2 tl rk rd nw rw, wCs G ad cs 8, wCs G ad2 cs2 2]) [0, 2, 3, 7] [1, 4, 5, 6, 8, 9, 10] (show ([0, 2, 3, 7] ++ [1, 4, 5, 6, 8, 9, 10] : List Nat).Perm (List.range 11) from by decide) X rfl rfl rfl ?_
  refine x_wst (ws' := xJ [wInk G o x w d h g q e, wTx G x le nl nu nc, wCq G w s, wCq G d sd_1, wSh8 G h ad lw sz, wSh2 G g ad2 lw2 sz2, wSg G q th sa ns, wIA G e 41 f_2, wMo G a s.1 s.2.1 sz sz2 ns nl pa rp rq kd (en s) W Kp sg le2 tl rk rd nw rw, wCs G ad cs 8, wCs G ad2 cs2 2]) (st' := [.int (F_again s (xs (i + 1)) (xs (i + 2)))]) rfl rfl ?_
  refine x_aloadn X dL_law_819 1 rfl ?_
  refine x_aloadn X dL_law_820 3 rfl ?_
  refine x_iloadn X dL_law_821 0 rfl ?_
  refine x_iconst (v := nI 1) X dL_law_822 (by decide) ?_
  refine x_iadd (v := nI (i + 1)) X dL_law_823 (nI_add _ _) ?_
  refine x_sld X (fun _ _ h => h.2.2) (by omega) (by omega) dL_law_824 ?_
  refine x_aloadn X dL_law_825 3 rfl ?_
  refine x_iloadn X dL_law_826 0 rfl ?_
  refine x_iconst (v := nI 2) X dL_law_827 (by decide) ?_
  refine x_iadd (v := nI (i + 2)) X dL_law_828 (nI_add _ _) ?_
  refine x_sld X (fun _ _ h => h.2.2) (by omega) (by omega) dL_law_829 ?_
  refine x_callVJ (As := [.int (xs (i + 1)), .int (xs (i + 2))]) (rest := [.int (F_again s (xs (i + 1)) (xs (i + 2)))]) (segs := [wInk G o x w d h g q e, wTx G x le nl nu nc, wCq G w s, wCq G d sd_1, wSh8 G h ad lw sz, wSh2 G g ad2 lw2 sz2, wSg G q th sa ns, wIA G e 41 f_2, wMo G a s.1 s.2.1 sz sz2 ns nl pa rp rq kd (en s) W Kp sg le2 tl rk rd nw rw, wCs G ad cs 8, wCs G ad2 cs2 2]) [8] [0, 1, 2, 3, 4, 5, 6, 7, 9, 10] (show ([8] ++ [0, 1, 2, 3, 4, 5, 6, 7, 9, 10] : List Nat).Perm (List.range 11) from by decide) X (c_X5_again l G a sz sz2 ns nl pa rp rq kd W Kp sg le2 tl rk rd nw rw s (xs (i + 1)) (xs (i + 2)) (by omega) (by omega) (by omega) (by omega) (by assumption) (by assumption) (by assumption) (by assumption)) rfl xE0_ok (fun _ _ _ => trivial) 0 rfl rfl rfl wco_X5_again wi_X5 xd_X5_again wl_L_97 win_X5_again wse_X5_again (by decide) (Nat.le_of_ble_eq_true rfl) dL_law_830 (fun w2 h => by obtain ⟨nw_4, rw_5, rfl⟩ := h; exact (Eq.trans (b := [a 0, a 1, a 2, a 3, a 4, a 5, a 6, a 7, a 8, a 9, a 10, a 11]) rfl rfl)) (fun w_6 hw_6 => ?_)
  obtain ⟨nw_4, rw_5, rfl⟩ := hw_6
  refine x_backV (segs := [wInk G o x w d h g q e, wTx G x le nl nu nc, wCq G w s, wCq G d sd_1, wSh8 G h ad lw sz, wSh2 G g ad2 lw2 sz2, wSg G q th sa ns, wIA G e 41 f_2, wMo G a s.1 s.2.1 sz sz2 ns nl pa rp rq kd (en s) W Kp sg le2 tl rk rd nw rw, wCs G ad cs 8, wCs G ad2 cs2 2]) (segs' := [wInk G o x w d h g q e, wTx G x le nl nu nc, wCq G w s, wCq G d sd_1, wSh8 G h ad lw sz, wSh2 G g ad2 lw2 sz2, wSg G q th sa ns, wIA G e 41 f_2, wMo G a s.1 s.2.1 sz sz2 ns nl pa rp rq kd (en s) W Kp sg le2 tl rk rd nw_4 rw_5, wCs G ad cs 8, wCs G ad2 cs2 2]) (mid := [wInk G o x w d h g q e, wTx G x le nl nu nc, wCq G w s, wCq G d sd_1, wSh8 G h ad lw sz, wSh2 G g ad2 lw2 sz2, wSg G q th sa ns, wIA G e 41 f_2, wCs G ad cs 8, wCs G ad2 cs2 2]) [8] [0, 1, 2, 3, 4, 5, 6, 7, 9, 10] (show ([8] ++ [0, 1, 2, 3, 4, 5, 6, 7, 9, 10] : List Nat).Perm (List.range 11) from by decide) X rfl rfl rfl ?_
  refine x_wst (ws' := xJ [wInk G o x w d h g q e, wTx G x le nl nu nc, wCq G w s, wCq G d sd_1, wSh8 G h ad lw sz, wSh2 G g ad2 lw2 sz2, wSg G q th sa ns, wIA G e 41 f_2, wMo G a s.1 s.2.1 sz sz2 ns nl pa rp rq kd (en s) W Kp sg le2 tl rk rd nw_4 rw_5, wCs G ad cs 8, wCs G ad2 cs2 2]) (st' := [.int (F_again s (xs (i + 1)) (xs (i + 2))), .int (F_again s (xs (i + 1)) (xs (i + 2)))]) rfl rfl ?_
  refine x_icmp_eq 1149 X dL_law_833 (by decide) (fun c_7 => ?_) (fun c_7 => ?_)
  · -- 833 t
    exact kk s sd_1 le nl nu nc lw sz cs lw2 sz2 cs2 th sa ns f_2 pa rp rq kd W Kp sg le2 tl rk rd nw_4 rw_5 hall
  · -- 833 f
    exact absurd rfl c_7
set_option maxRecDepth 100000 in
set_option maxHeartbeats 4000000 in
/-- least -/
theorem lw_least {l : Launch} {G : xG} {nm : String} {tW sq sv : Nat} {sw : Value} {b L : Nat} {xs : Nat → Int32} {Z : Option Value → va_W → Nat → Nat → Prop} {K : xKt} (X : xR l G (xEL tW sq sv sw b L xs) RL nm cL_law 4 room_1 Z K) {o : Nat} {x : Nat → Nat} {w : Nat → Nat} {d : Nat → Nat} {h : Nat → Nat} {g : Nat → Nat} {q : Nat → Nat} {e : Nat} {ad : Nat → Nat → Nat} {ad2 : Nat → Nat → Nat} {a : Nat → Nat} (hL : L ≤ 384) {i : Nat} (hi : i + 6 ≤ L) (kk : ∀ (s : xS) (sd : xS) (le : Nat → Int32) (nl : Nat) (nu : Nat → Int32) (nc : Nat) (lw : Nat) (sz : Nat) (cs : Nat → xS) (lw2 : Nat) (sz2 : Nat) (cs2 : Nat → xS) (th : Nat → Int32) (sa : Nat → Int32) (ns : Nat) (f : Nat → Int32) (pa : Nat) (rp : Nat) (rq : Nat) (kd : Nat → Int32) (W : Nat → Int32) (Kp : Nat → Int32) (sg : Nat → Int32) (le2 : Nat → Int32) (tl : Nat → Int32) (rk : Nat → Int32) (rd : Nat → Int32) (nw : Nat → Int32) (rw : Nat → Int32), LI s kd le le2 nl lw sz cs W lw2 sz2 cs2 Kp ns th sa sg → K (xJ [wInk G o x w d h g q e, wTx G x le nl nu nc, wCq G w s, wCq G d sd, wSh8 G h ad lw sz, wSh2 G g ad2 lw2 sz2, wSg G q th sa ns, wIA G e 41 f, wMo G a s.1 s.2.1 sz sz2 ns nl pa rp rq kd (en s) W Kp sg le2 tl rk rd nw rw, wCs G ad cs 8, wCs G ad2 cs2 2]) 84 2407 1149 [(3, .int (nI i)), (2, .ref (a 0)), (1, .ref o), (0, .ref b)] []) (s : xS) (sd : xS) (le : Nat → Int32) (nl : Nat) (nu : Nat → Int32) (nc : Nat) (lw : Nat) (sz : Nat) (cs : Nat → xS) (lw2 : Nat) (sz2 : Nat) (cs2 : Nat → xS) (th : Nat → Int32) (sa : Nat → Int32) (ns : Nat) (f : Nat → Int32) (pa : Nat) (rp : Nat) (rq : Nat) (kd : Nat → Int32) (W : Nat → Int32) (Kp : Nat → Int32) (sg : Nat → Int32) (le2 : Nat → Int32) (tl : Nat → Int32) (rk : Nat → Int32) (rd : Nat → Int32) (nw : Nat → Int32) (rw : Nat → Int32) (h0 : LI s kd le le2 nl lw sz cs W lw2 sz2 cs2 Kp ns th sa sg) : K (xJ [wInk G o x w d h g q e, wTx G x le nl nu nc, wCq G w s, wCq G d sd, wSh8 G h ad lw sz, wSh2 G g ad2 lw2 sz2, wSg G q th sa ns, wIA G e 41 f, wMo G a s.1 s.2.1 sz sz2 ns nl pa rp rq kd (en s) W Kp sg le2 tl rk rd nw rw, wCs G ad cs 8, wCs G ad2 cs2 2]) 84 2407 838 [(3, .int (nI i)), (2, .ref (a 0)), (1, .ref o), (0, .ref b)] [] := by
  have hall := h0
  obtain ⟨⟨hg, hs1, hkd⟩, ⟨hnl, hle⟩, ⟨hlw, hsz, hW, hcs⟩, ⟨hlw2, hsz2, hKp, hcs2⟩, ⟨hns, hsg, hth⟩⟩ := h0
  obtain ⟨hs6, ⟨hq1, hq5⟩, hmi, hbv, hbl⟩ := hg
  have hg : GS s := hall.st.gs
  refine x_aloadn X dL_law_838 2 rfl ?_
  refine x_aloadn X dL_law_839 3 rfl ?_
  refine x_iloadn X dL_law_840 0 rfl ?_
  refine x_iconst (v := nI 1) X dL_law_841 (by decide) ?_
  refine x_iadd (v := nI (i + 1)) X dL_law_842 (nI_add _ _) ?_
  refine x_sld X (fun _ _ h => h.2.2) (by omega) (by omega) dL_law_843 ?_
  refine x_aloadn X dL_law_844 3 rfl ?_
  refine x_iloadn X dL_law_845 0 rfl ?_
  refine x_iconst (v := nI 2) X dL_law_846 (by decide) ?_
  refine x_iadd (v := nI (i + 2)) X dL_law_847 (nI_add _ _) ?_
  refine x_sld X (fun _ _ h => h.2.2) (by omega) (by omega) dL_law_848 ?_
  refine x_aloadn X dL_law_849 3 rfl ?_
  refine x_iloadn X dL_law_850 0 rfl ?_
  refine x_iconst (v := nI 3) X dL_law_851 (by decide) ?_
  refine x_iadd (v := nI (i + 3)) X dL_law_852 (nI_add _ _) ?_
  refine x_sld X (fun _ _ h => h.2.2) (by omega) (by omega) dL_law_853 ?_
  refine x_callVJrv (As := [.int (xs (i + 1)), .int (xs (i + 2)), .int (xs (i + 3))]) (rest := []) (segs := [wInk G o x w d h g q e, wTx G x le nl nu nc, wCq G w s, wCq G d sd, wSh8 G h ad lw sz, wSh2 G g ad2 lw2 sz2, wSg G q th sa ns, wIA G e 41 f, wMo G a s.1 s.2.1 sz sz2 ns nl pa rp rq kd (en s) W Kp sg le2 tl rk rd nw rw, wCs G ad cs 8, wCs G ad2 cs2 2]) [0, 2] [1, 3, 4, 5, 6, 7, 8, 9, 10] (show ([0, 2] ++ [1, 3, 4, 5, 6, 7, 8, 9, 10] : List Nat).Perm (List.range 11) from by decide) X (c_X4_least l G o x w d h g q e s (xs (i + 1)) (xs (i + 2)) (xs (i + 3)) (by omega) (by omega) (by omega) (by assumption)) rfl xE0_ok (fun _ _ _ => trivial) 0 rfl rfl rfl wco_X4_least wi_X4 xd_X4_least wl_L_98 win_X4_least wse_X4_least (by decide) (Nat.le_of_ble_eq_true rfl) dL_law_854 ?_
  refine x_aloadn X dL_law_857 1 rfl ?_
  refine x_aloadn X dL_law_858 3 rfl ?_
  refine x_iloadn X dL_law_859 0 rfl ?_
  refine x_iconst (v := nI 1) X dL_law_860 (by decide) ?_
  refine x_iadd (v := nI (i + 1)) X dL_law_861 (nI_add _ _) ?_
  refine x_sld X (fun _ _ h => h.2.2) (by omega) (by omega) dL_law_862 ?_
  refine x_aloadn X dL_law_863 3 rfl ?_
  refine x_iloadn X dL_law_864 0 rfl ?_
  refine x_iconst (v := nI 2) X dL_law_865 (by decide) ?_
  refine x_iadd (v := nI (i + 2)) X dL_law_866 (nI_add _ _) ?_
  refine x_sld X (fun _ _ h => h.2.2) (by omega) (by omega) dL_law_867 ?_
  refine x_aloadn X dL_law_868 3 rfl ?_
  refine x_iloadn X dL_law_869 0 rfl ?_
  refine x_iconst (v := nI 3) X dL_law_870 (by decide) ?_
  refine x_iadd (v := nI (i + 3)) X dL_law_871 (nI_add _ _) ?_
  refine x_sld X (fun _ _ h => h.2.2) (by omega) (by omega) dL_law_872 ?_
  refine x_callVJ (As := [.int (xs (i + 1)), .int (xs (i + 2)), .int (xs (i + 3))]) (rest := [.int (F_least s (xs (i + 1)) (xs (i + 2)) (xs (i + 3)))]) (segs := [wInk G o x w d h g q e, wTx G x le nl nu nc, wCq G w s, wCq G d sd, wSh8 G h ad lw sz, wSh2 G g ad2 lw2 sz2, wSg G q th sa ns, wIA G e 41 f, wMo G a s.1 s.2.1 sz sz2 ns nl pa rp rq kd (en s) W Kp sg le2 tl rk rd nw rw, wCs G ad cs 8, wCs G ad2 cs2 2]) [8] [0, 1, 2, 3, 4, 5, 6, 7, 9, 10] (show ([8] ++ [0, 1, 2, 3, 4, 5, 6, 7, 9, 10] : List Nat).Perm (List.range 11) from by decide) X (c_X5_least l G a sz sz2 ns nl pa rp rq kd W Kp sg le2 tl rk rd nw rw s (xs (i + 1)) (xs (i + 2)) (xs (i + 3)) (by omega) (by omega) (by omega) (by omega) (by assumption) (by assumption) (by assumption) (by assumption)) rfl xE0_ok (fun _ _ _ => trivial) 0 rfl rfl rfl wco_X5_least wi_X5 xd_X5_least wl_L_101 win_X5_least wse_X5_least (by decide) (Nat.le_of_ble_eq_true rfl) dL_law_873 (fun w2 h => by obtain ⟨nw_1, rfl⟩ := h; exact (Eq.trans (b := [a 0, a 1, a 2, a 3, a 4, a 5, a 6, a 7, a 8, a 9, a 10, a 11]) rfl rfl)) (fun w_2 hw_2 => ?_)
  obtain ⟨nw_1, rfl⟩ := hw_2
  refine x_backV (segs := [wInk G o x w d h g q e, wTx G x le nl nu nc, wCq G w s, wCq G d sd, wSh8 G h ad lw sz, wSh2 G g ad2 lw2 sz2, wSg G q th sa ns, wIA G e 41 f, wMo G a s.1 s.2.1 sz sz2 ns nl pa rp rq kd (en s) W Kp sg le2 tl rk rd nw rw, wCs G ad cs 8, wCs G ad2 cs2 2]) (segs' := [wInk G o x w d h g q e, wTx G x le nl nu nc, wCq G w s, wCq G d sd, wSh8 G h ad lw sz, wSh2 G g ad2 lw2 sz2, wSg G q th sa ns, wIA G e 41 f, wMo G a s.1 s.2.1 sz sz2 ns nl pa rp rq kd (en s) W Kp sg le2 tl rk rd nw_1 rw, wCs G ad cs 8, wCs G ad2 cs2 2]) (mid := [wInk G o x w d h g q e, wTx G x le nl nu nc, wCq G w s, wCq G d sd, wSh8 G h ad lw sz, wSh2 G g ad2 lw2 sz2, wSg G q th sa ns, wIA G e 41 f, wCs G ad cs 8, wCs G ad2 cs2 2]) [8] [0, 1, 2, 3, 4, 5, 6, 7, 9, 10] (show ([8] ++ [0, 1, 2, 3, 4, 5, 6, 7, 9, 10] : List Nat).Perm (List.range 11) from by decide) X rfl rfl rfl ?_
  refine x_wst (ws' := xJ [wInk G o x w d h g q e, wTx G x le nl nu nc, wCq G w s, wCq G d sd, wSh8 G h ad lw sz, wSh2 G g ad2 lw2 sz2, wSg G q th sa ns, wIA G e 41 f, wMo G a s.1 s.2.1 sz sz2 ns nl pa rp rq kd (en s) W Kp sg le2 tl rk rd nw_1 rw, wCs G ad cs 8, wCs G ad2 cs2 2]) (st' := [.int (F_least s (xs (i + 1)) (xs (i + 2)) (xs (i + 3))), .int (F_least s (xs (i + 1)) (xs (i + 2)) (xs (i + 3)))]) rfl rfl ?_
  refine x_icmp_eq 1149 X dL_law_876 (by decide) (fun c_3 => ?_) (fun c_3 => ?_)
  · -- 876 t
    exact kk s sd le nl nu nc lw sz cs lw2 sz2 cs2 th sa ns f pa rp rq kd W Kp sg le2 tl rk rd nw_1 rw hall
  · -- 876 f
    exact absurd rfl c_3
set_option maxRecDepth 100000 in
set_option maxHeartbeats 4000000 in
/-- sign -/
theorem lw_sign {l : Launch} {G : xG} {nm : String} {tW sq sv : Nat} {sw : Value} {b L : Nat} {xs : Nat → Int32} {Z : Option Value → va_W → Nat → Nat → Prop} {K : xKt} (X : xR l G (xEL tW sq sv sw b L xs) RL nm cL_law 4 room_1 Z K) {o : Nat} {x : Nat → Nat} {w : Nat → Nat} {d : Nat → Nat} {h : Nat → Nat} {g : Nat → Nat} {q : Nat → Nat} {e : Nat} {ad : Nat → Nat → Nat} {ad2 : Nat → Nat → Nat} {a : Nat → Nat} (hL : L ≤ 384) {i : Nat} (hi : i + 6 ≤ L) (kk : ∀ (s : xS) (sd : xS) (le : Nat → Int32) (nl : Nat) (nu : Nat → Int32) (nc : Nat) (lw : Nat) (sz : Nat) (cs : Nat → xS) (lw2 : Nat) (sz2 : Nat) (cs2 : Nat → xS) (th : Nat → Int32) (sa : Nat → Int32) (ns : Nat) (f : Nat → Int32) (pa : Nat) (rp : Nat) (rq : Nat) (kd : Nat → Int32) (W : Nat → Int32) (Kp : Nat → Int32) (sg : Nat → Int32) (le2 : Nat → Int32) (tl : Nat → Int32) (rk : Nat → Int32) (rd : Nat → Int32) (nw : Nat → Int32) (rw : Nat → Int32), LI s kd le le2 nl lw sz cs W lw2 sz2 cs2 Kp ns th sa sg → K (xJ [wInk G o x w d h g q e, wTx G x le nl nu nc, wCq G w s, wCq G d sd, wSh8 G h ad lw sz, wSh2 G g ad2 lw2 sz2, wSg G q th sa ns, wIA G e 41 f, wMo G a s.1 s.2.1 sz sz2 ns nl pa rp rq kd (en s) W Kp sg le2 tl rk rd nw rw, wCs G ad cs 8, wCs G ad2 cs2 2]) 84 2407 1149 [(3, .int (nI i)), (2, .ref (a 0)), (1, .ref o), (0, .ref b)] []) (s : xS) (sd : xS) (le : Nat → Int32) (nl : Nat) (nu : Nat → Int32) (nc : Nat) (lw : Nat) (sz : Nat) (cs : Nat → xS) (lw2 : Nat) (sz2 : Nat) (cs2 : Nat → xS) (th : Nat → Int32) (sa : Nat → Int32) (ns : Nat) (f : Nat → Int32) (pa : Nat) (rp : Nat) (rq : Nat) (kd : Nat → Int32) (W : Nat → Int32) (Kp : Nat → Int32) (sg : Nat → Int32) (le2 : Nat → Int32) (tl : Nat → Int32) (rk : Nat → Int32) (rd : Nat → Int32) (nw : Nat → Int32) (rw : Nat → Int32) (h0 : LI s kd le le2 nl lw sz cs W lw2 sz2 cs2 Kp ns th sa sg) : K (xJ [wInk G o x w d h g q e, wTx G x le nl nu nc, wCq G w s, wCq G d sd, wSh8 G h ad lw sz, wSh2 G g ad2 lw2 sz2, wSg G q th sa ns, wIA G e 41 f, wMo G a s.1 s.2.1 sz sz2 ns nl pa rp rq kd (en s) W Kp sg le2 tl rk rd nw rw, wCs G ad cs 8, wCs G ad2 cs2 2]) 84 2407 881 [(3, .int (nI i)), (2, .ref (a 0)), (1, .ref o), (0, .ref b)] [] := by
  have hall := h0
  obtain ⟨⟨hg, hs1, hkd⟩, ⟨hnl, hle⟩, ⟨hlw, hsz, hW, hcs⟩, ⟨hlw2, hsz2, hKp, hcs2⟩, ⟨hns, hsg, hth⟩⟩ := h0
  obtain ⟨hs6, ⟨hq1, hq5⟩, hmi, hbv, hbl⟩ := hg
  have hg : GS s := hall.st.gs
  refine x_aloadn X dL_law_881 2 rfl ?_
  refine x_aloadn X dL_law_882 3 rfl ?_
  refine x_iloadn X dL_law_883 0 rfl ?_
  refine x_iconst (v := nI 1) X dL_law_884 (by decide) ?_
  refine x_iadd (v := nI (i + 1)) X dL_law_885 (nI_add _ _) ?_
  refine x_sld X (fun _ _ h => h.2.2) (by omega) (by omega) dL_law_886 ?_
  refine x_aloadn X dL_law_887 3 rfl ?_
  refine x_iloadn X dL_law_888 0 rfl ?_
  refine x_iconst (v := nI 2) X dL_law_889 (by decide) ?_
  refine x_iadd (v := nI (i + 2)) X dL_law_890 (nI_add _ _) ?_
  refine x_sld X (fun _ _ h => h.2.2) (by omega) (by omega) dL_law_891 ?_
  refine x_callVJfv (As := [.int (xs (i + 1)), .int (xs (i + 2))]) (rest := []) (segs := [wInk G o x w d h g q e, wTx G x le nl nu nc, wCq G w s, wCq G d sd, wSh8 G h ad lw sz, wSh2 G g ad2 lw2 sz2, wSg G q th sa ns, wIA G e 41 f, wMo G a s.1 s.2.1 sz sz2 ns nl pa rp rq kd (en s) W Kp sg le2 tl rk rd nw rw, wCs G ad cs 8, wCs G ad2 cs2 2]) (segs' := [wInk G o x w d h g q e, wTx G x le nl nu nc, wCq G w s, wCq G d sd, wSh8 G h ad lw sz, wSh2 G g ad2 lw2 sz2, wSg G q (F_sTh (xs (i + 1)) (xs (i + 2)) th ns) (F_sSa (xs (i + 1)) (xs (i + 2)) sa ns) (F_sNs (xs (i + 1)) (xs (i + 2)) ns), wIA G e 41 f, wMo G a s.1 s.2.1 sz sz2 ns nl pa rp rq kd (en s) W Kp sg le2 tl rk rd nw rw, wCs G ad cs 8, wCs G ad2 cs2 2]) (mid := [wTx G x le nl nu nc, wCq G w s, wCq G d sd, wSh8 G h ad lw sz, wSh2 G g ad2 lw2 sz2, wIA G e 41 f, wMo G a s.1 s.2.1 sz sz2 ns nl pa rp rq kd (en s) W Kp sg le2 tl rk rd nw rw, wCs G ad cs 8, wCs G ad2 cs2 2]) (w1 := xJ [wInk G o x w d h g q e, wSg G q (F_sTh (xs (i + 1)) (xs (i + 2)) th ns) (F_sSa (xs (i + 1)) (xs (i + 2)) sa ns) (F_sNs (xs (i + 1)) (xs (i + 2)) ns)]) [0, 6] [1, 2, 3, 4, 5, 7, 8, 9, 10] (show ([0, 6] ++ [1, 2, 3, 4, 5, 7, 8, 9, 10] : List Nat).Perm (List.range 11) from by decide) rfl X (c_X4_sign l G o x w d h g q e th sa ns (xs (i + 1)) (xs (i + 2)) (by omega)) rfl rfl rfl rfl xE0_ok (fun _ _ _ => trivial) 0 rfl rfl rfl wco_X4_sign wi_X4 xd_X4_sign wl_L_102 win_X4_sign wse_X4_sign (by decide) (Nat.le_of_ble_eq_true rfl) dL_law_892 (Eq.trans (b := [o, q 0, q 1, q 2]) rfl rfl) ?_
  refine x_aloadn X dL_law_895 1 rfl ?_
  refine x_aloadn X dL_law_896 3 rfl ?_
  refine x_iloadn X dL_law_897 0 rfl ?_
  refine x_iconst (v := nI 1) X dL_law_898 (by decide) ?_
  refine x_iadd (v := nI (i + 1)) X dL_law_899 (nI_add _ _) ?_
  refine x_sld X (fun _ _ h => h.2.2) (by omega) (by omega) dL_law_900 ?_
  refine x_aloadn X dL_law_901 3 rfl ?_
  refine x_iloadn X dL_law_902 0 rfl ?_
  refine x_iconst (v := nI 2) X dL_law_903 (by decide) ?_
  refine x_iadd (v := nI (i + 2)) X dL_law_904 (nI_add _ _) ?_
  refine x_sld X (fun _ _ h => h.2.2) (by omega) (by omega) dL_law_905 ?_
  refine x_callVJfv (As := [.int (xs (i + 1)), .int (xs (i + 2))]) (rest := [.int (F_sign (xs (i + 1)) (xs (i + 2)) ns)]) (segs := [wInk G o x w d h g q e, wTx G x le nl nu nc, wCq G w s, wCq G d sd, wSh8 G h ad lw sz, wSh2 G g ad2 lw2 sz2, wSg G q (F_sTh (xs (i + 1)) (xs (i + 2)) th ns) (F_sSa (xs (i + 1)) (xs (i + 2)) sa ns) (F_sNs (xs (i + 1)) (xs (i + 2)) ns), wIA G e 41 f, wMo G a s.1 s.2.1 sz sz2 ns nl pa rp rq kd (en s) W Kp sg le2 tl rk rd nw rw, wCs G ad cs 8, wCs G ad2 cs2 2]) (segs' := [wInk G o x w d h g q e, wTx G x le nl nu nc, wCq G w s, wCq G d sd, wSh8 G h ad lw sz, wSh2 G g ad2 lw2 sz2, wSg G q (F_sTh (xs (i + 1)) (xs (i + 2)) th ns) (F_sSa (xs (i + 1)) (xs (i + 2)) sa ns) (F_sNs (xs (i + 1)) (xs (i + 2)) ns), wIA G e 41 f, wMo G a s.1 s.2.1 sz sz2 (F_sNs (xs (i + 1)) (xs (i + 2)) ns) nl pa rp rq kd (en s) W Kp (mSg (F_sOk (xs (i + 1)) (xs (i + 2))) (xs (i + 1)) (xs (i + 2)) sg ns) le2 tl rk rd nw rw, wCs G ad cs 8, wCs G ad2 cs2 2]) (mid := [wInk G o x w d h g q e, wTx G x le nl nu nc, wCq G w s, wCq G d sd, wSh8 G h ad lw sz, wSh2 G g ad2 lw2 sz2, wSg G q (F_sTh (xs (i + 1)) (xs (i + 2)) th ns) (F_sSa (xs (i + 1)) (xs (i + 2)) sa ns) (F_sNs (xs (i + 1)) (xs (i + 2)) ns), wIA G e 41 f, wCs G ad cs 8, wCs G ad2 cs2 2]) (w1 := wMo G a s.1 s.2.1 sz sz2 (F_sNs (xs (i + 1)) (xs (i + 2)) ns) nl pa rp rq kd (en s) W Kp (mSg (F_sOk (xs (i + 1)) (xs (i + 2))) (xs (i + 1)) (xs (i + 2)) sg ns) le2 tl rk rd nw rw) [8] [0, 1, 2, 3, 4, 5, 6, 7, 9, 10] (show ([8] ++ [0, 1, 2, 3, 4, 5, 6, 7, 9, 10] : List Nat).Perm (List.range 11) from by decide) rfl X (c_X5_sign l G a s.1 s.2.1 sz sz2 ns nl pa rp rq kd (en s) W Kp sg le2 tl rk rd nw rw (xs (i + 1)) (xs (i + 2)) (by omega)) rfl rfl rfl rfl xE0_ok (fun _ _ _ => trivial) 0 rfl rfl rfl wco_X5_sign wi_X5 xd_X5_sign wl_L_105 win_X5_sign wse_X5_sign (by decide) (Nat.le_of_ble_eq_true rfl) dL_law_906 (Eq.trans (b := [a 0, a 1, a 2, a 3, a 4, a 5, a 6, a 7, a 8, a 9, a 10, a 11]) rfl rfl) ?_
  refine x_icmp_eq 1149 X dL_law_909 (by decide) (fun c_1 => ?_) (fun c_1 => ?_)
  · -- 909 t
    exact kk s sd le nl nu nc lw sz cs lw2 sz2 cs2 (F_sTh (xs (i + 1)) (xs (i + 2)) th ns) (F_sSa (xs (i + 1)) (xs (i + 2)) sa ns) (F_sNs (xs (i + 1)) (xs (i + 2)) ns) f pa rp rq kd W Kp (mSg (F_sOk (xs (i + 1)) (xs (i + 2))) (xs (i + 1)) (xs (i + 2)) sg ns) le2 tl rk rd nw rw (⟨hall.st, hall.tx, hall.ps, hall.kp, hall.si.sign _ _⟩)
  · -- 909 f
    exact absurd rfl c_1
set_option maxRecDepth 100000 in
set_option maxHeartbeats 4000000 in
/-- forget -/
theorem lw_forget {l : Launch} {G : xG} {nm : String} {tW sq sv : Nat} {sw : Value} {b L : Nat} {xs : Nat → Int32} {Z : Option Value → va_W → Nat → Nat → Prop} {K : xKt} (X : xR l G (xEL tW sq sv sw b L xs) RL nm cL_law 4 room_1 Z K) {o : Nat} {x : Nat → Nat} {w : Nat → Nat} {d : Nat → Nat} {h : Nat → Nat} {g : Nat → Nat} {q : Nat → Nat} {e : Nat} {ad : Nat → Nat → Nat} {ad2 : Nat → Nat → Nat} {a : Nat → Nat} (hL : L ≤ 384) {i : Nat} (hi : i + 6 ≤ L) (kk : ∀ (s : xS) (sd : xS) (le : Nat → Int32) (nl : Nat) (nu : Nat → Int32) (nc : Nat) (lw : Nat) (sz : Nat) (cs : Nat → xS) (lw2 : Nat) (sz2 : Nat) (cs2 : Nat → xS) (th : Nat → Int32) (sa : Nat → Int32) (ns : Nat) (f : Nat → Int32) (pa : Nat) (rp : Nat) (rq : Nat) (kd : Nat → Int32) (W : Nat → Int32) (Kp : Nat → Int32) (sg : Nat → Int32) (le2 : Nat → Int32) (tl : Nat → Int32) (rk : Nat → Int32) (rd : Nat → Int32) (nw : Nat → Int32) (rw : Nat → Int32), LI s kd le le2 nl lw sz cs W lw2 sz2 cs2 Kp ns th sa sg → K (xJ [wInk G o x w d h g q e, wTx G x le nl nu nc, wCq G w s, wCq G d sd, wSh8 G h ad lw sz, wSh2 G g ad2 lw2 sz2, wSg G q th sa ns, wIA G e 41 f, wMo G a s.1 s.2.1 sz sz2 ns nl pa rp rq kd (en s) W Kp sg le2 tl rk rd nw rw, wCs G ad cs 8, wCs G ad2 cs2 2]) 84 2407 1149 [(3, .int (nI i)), (2, .ref (a 0)), (1, .ref o), (0, .ref b)] []) (s : xS) (sd : xS) (le : Nat → Int32) (nl : Nat) (nu : Nat → Int32) (nc : Nat) (lw : Nat) (sz : Nat) (cs : Nat → xS) (lw2 : Nat) (sz2 : Nat) (cs2 : Nat → xS) (th : Nat → Int32) (sa : Nat → Int32) (ns : Nat) (f : Nat → Int32) (pa : Nat) (rp : Nat) (rq : Nat) (kd : Nat → Int32) (W : Nat → Int32) (Kp : Nat → Int32) (sg : Nat → Int32) (le2 : Nat → Int32) (tl : Nat → Int32) (rk : Nat → Int32) (rd : Nat → Int32) (nw : Nat → Int32) (rw : Nat → Int32) (h0 : LI s kd le le2 nl lw sz cs W lw2 sz2 cs2 Kp ns th sa sg) : K (xJ [wInk G o x w d h g q e, wTx G x le nl nu nc, wCq G w s, wCq G d sd, wSh8 G h ad lw sz, wSh2 G g ad2 lw2 sz2, wSg G q th sa ns, wIA G e 41 f, wMo G a s.1 s.2.1 sz sz2 ns nl pa rp rq kd (en s) W Kp sg le2 tl rk rd nw rw, wCs G ad cs 8, wCs G ad2 cs2 2]) 84 2407 914 [(3, .int (nI i)), (2, .ref (a 0)), (1, .ref o), (0, .ref b)] [] := by
  have hall := h0
  obtain ⟨⟨hg, hs1, hkd⟩, ⟨hnl, hle⟩, ⟨hlw, hsz, hW, hcs⟩, ⟨hlw2, hsz2, hKp, hcs2⟩, ⟨hns, hsg, hth⟩⟩ := h0
  obtain ⟨hs6, ⟨hq1, hq5⟩, hmi, hbv, hbl⟩ := hg
  have hg : GS s := hall.st.gs
  refine x_aloadn X dL_law_914 2 rfl ?_
  refine x_callVJfv (As := []) (rest := []) (segs := [wInk G o x w d h g q e, wTx G x le nl nu nc, wCq G w s, wCq G d sd, wSh8 G h ad lw sz, wSh2 G g ad2 lw2 sz2, wSg G q th sa ns, wIA G e 41 f, wMo G a s.1 s.2.1 sz sz2 ns nl pa rp rq kd (en s) W Kp sg le2 tl rk rd nw rw, wCs G ad cs 8, wCs G ad2 cs2 2]) (segs' := [wInk G o x w d h g q e, wTx G x le nl nu nc, wCq G w s, wCq G d sd, wSh8 G h ad lw sz, wSh2 G g ad2 lw2 sz2, wSg G q th sa 0, wIA G e 41 f, wMo G a s.1 s.2.1 sz sz2 ns nl pa rp rq kd (en s) W Kp sg le2 tl rk rd nw rw, wCs G ad cs 8, wCs G ad2 cs2 2]) (mid := [wTx G x le nl nu nc, wCq G w s, wCq G d sd, wSh8 G h ad lw sz, wSh2 G g ad2 lw2 sz2, wIA G e 41 f, wMo G a s.1 s.2.1 sz sz2 ns nl pa rp rq kd (en s) W Kp sg le2 tl rk rd nw rw, wCs G ad cs 8, wCs G ad2 cs2 2]) (w1 := xJ [wInk G o x w d h g q e, wSg G q th sa 0]) [0, 6] [1, 2, 3, 4, 5, 7, 8, 9, 10] (show ([0, 6] ++ [1, 2, 3, 4, 5, 7, 8, 9, 10] : List Nat).Perm (List.range 11) from by decide) rfl X (c_X4_forget l G o x w d h g q e th sa ns) rfl rfl rfl rfl xE0_ok (fun _ _ _ => trivial) 0 rfl rfl rfl wco_X4_forget wi_X4 xd_X4_forget wl_L_106 win_X4_forget wse_X4_forget (by decide) (Nat.le_of_ble_eq_true rfl) dL_law_915 (Eq.trans (b := [o, q 0, q 1, q 2]) rfl rfl) ?_
  refine x_aloadn X dL_law_918 1 rfl ?_
  refine x_callVJfv (As := []) (rest := [.int (nI ns)]) (segs := [wInk G o x w d h g q e, wTx G x le nl nu nc, wCq G w s, wCq G d sd, wSh8 G h ad lw sz, wSh2 G g ad2 lw2 sz2, wSg G q th sa 0, wIA G e 41 f, wMo G a s.1 s.2.1 sz sz2 ns nl pa rp rq kd (en s) W Kp sg le2 tl rk rd nw rw, wCs G ad cs 8, wCs G ad2 cs2 2]) (segs' := [wInk G o x w d h g q e, wTx G x le nl nu nc, wCq G w s, wCq G d sd, wSh8 G h ad lw sz, wSh2 G g ad2 lw2 sz2, wSg G q th sa 0, wIA G e 41 f, wMo G a s.1 s.2.1 sz sz2 0 nl pa rp rq kd (en s) W Kp sg le2 tl rk rd nw rw, wCs G ad cs 8, wCs G ad2 cs2 2]) (mid := [wInk G o x w d h g q e, wTx G x le nl nu nc, wCq G w s, wCq G d sd, wSh8 G h ad lw sz, wSh2 G g ad2 lw2 sz2, wSg G q th sa 0, wIA G e 41 f, wCs G ad cs 8, wCs G ad2 cs2 2]) (w1 := wMo G a s.1 s.2.1 sz sz2 0 nl pa rp rq kd (en s) W Kp sg le2 tl rk rd nw rw) [8] [0, 1, 2, 3, 4, 5, 6, 7, 9, 10] (show ([8] ++ [0, 1, 2, 3, 4, 5, 6, 7, 9, 10] : List Nat).Perm (List.range 11) from by decide) rfl X (c_X5_forget l G a s.1 s.2.1 sz sz2 ns nl pa rp rq kd (en s) W Kp sg le2 tl rk rd nw rw) rfl rfl rfl rfl xE0_ok (fun _ _ _ => trivial) 0 rfl rfl rfl wco_X5_forget wi_X5 xd_X5_forget wl_L_109 win_X5_forget wse_X5_forget (by decide) (Nat.le_of_ble_eq_true rfl) dL_law_919 (Eq.trans (b := [a 0, a 1, a 2, a 3, a 4, a 5, a 6, a 7, a 8, a 9, a 10, a 11]) rfl rfl) ?_
  refine x_icmp_eq_n 1149 X dL_law_922 (by decide) (by omega) (by omega) (fun c_1 => ?_) (fun c_1 => ?_)
  · -- 922 t
    exact kk s sd le nl nu nc lw sz cs lw2 sz2 cs2 th sa 0 f pa rp rq kd W Kp sg le2 tl rk rd nw rw (⟨hall.st, hall.tx, hall.ps, hall.kp, ⟨Nat.zero_le _, fun j hj => absurd hj (Nat.not_lt_zero _), fun j hj => absurd hj (Nat.not_lt_zero _)⟩⟩)
  · -- 922 f
    exact absurd rfl c_1
set_option maxRecDepth 100000 in
set_option maxHeartbeats 4000000 in
/-- who -/
theorem lw_who {l : Launch} {G : xG} {nm : String} {tW sq sv : Nat} {sw : Value} {b L : Nat} {xs : Nat → Int32} {Z : Option Value → va_W → Nat → Nat → Prop} {K : xKt} (X : xR l G (xEL tW sq sv sw b L xs) RL nm cL_law 4 room_1 Z K) {o : Nat} {x : Nat → Nat} {w : Nat → Nat} {d : Nat → Nat} {h : Nat → Nat} {g : Nat → Nat} {q : Nat → Nat} {e : Nat} {ad : Nat → Nat → Nat} {ad2 : Nat → Nat → Nat} {a : Nat → Nat} (hL : L ≤ 384) {i : Nat} (hi : i + 6 ≤ L) (kk : ∀ (s : xS) (sd : xS) (le : Nat → Int32) (nl : Nat) (nu : Nat → Int32) (nc : Nat) (lw : Nat) (sz : Nat) (cs : Nat → xS) (lw2 : Nat) (sz2 : Nat) (cs2 : Nat → xS) (th : Nat → Int32) (sa : Nat → Int32) (ns : Nat) (f : Nat → Int32) (pa : Nat) (rp : Nat) (rq : Nat) (kd : Nat → Int32) (W : Nat → Int32) (Kp : Nat → Int32) (sg : Nat → Int32) (le2 : Nat → Int32) (tl : Nat → Int32) (rk : Nat → Int32) (rd : Nat → Int32) (nw : Nat → Int32) (rw : Nat → Int32), LI s kd le le2 nl lw sz cs W lw2 sz2 cs2 Kp ns th sa sg → K (xJ [wInk G o x w d h g q e, wTx G x le nl nu nc, wCq G w s, wCq G d sd, wSh8 G h ad lw sz, wSh2 G g ad2 lw2 sz2, wSg G q th sa ns, wIA G e 41 f, wMo G a s.1 s.2.1 sz sz2 ns nl pa rp rq kd (en s) W Kp sg le2 tl rk rd nw rw, wCs G ad cs 8, wCs G ad2 cs2 2]) 84 2407 1149 [(3, .int (nI i)), (2, .ref (a 0)), (1, .ref o), (0, .ref b)] []) (s : xS) (sd : xS) (le : Nat → Int32) (nl : Nat) (nu : Nat → Int32) (nc : Nat) (lw : Nat) (sz : Nat) (cs : Nat → xS) (lw2 : Nat) (sz2 : Nat) (cs2 : Nat → xS) (th : Nat → Int32) (sa : Nat → Int32) (ns : Nat) (f : Nat → Int32) (pa : Nat) (rp : Nat) (rq : Nat) (kd : Nat → Int32) (W : Nat → Int32) (Kp : Nat → Int32) (sg : Nat → Int32) (le2 : Nat → Int32) (tl : Nat → Int32) (rk : Nat → Int32) (rd : Nat → Int32) (nw : Nat → Int32) (rw : Nat → Int32) (h0 : LI s kd le le2 nl lw sz cs W lw2 sz2 cs2 Kp ns th sa sg) : K (xJ [wInk G o x w d h g q e, wTx G x le nl nu nc, wCq G w s, wCq G d sd, wSh8 G h ad lw sz, wSh2 G g ad2 lw2 sz2, wSg G q th sa ns, wIA G e 41 f, wMo G a s.1 s.2.1 sz sz2 ns nl pa rp rq kd (en s) W Kp sg le2 tl rk rd nw rw, wCs G ad cs 8, wCs G ad2 cs2 2]) 84 2407 927 [(3, .int (nI i)), (2, .ref (a 0)), (1, .ref o), (0, .ref b)] [] := by
  have hall := h0
  obtain ⟨⟨hg, hs1, hkd⟩, ⟨hnl, hle⟩, ⟨hlw, hsz, hW, hcs⟩, ⟨hlw2, hsz2, hKp, hcs2⟩, ⟨hns, hsg, hth⟩⟩ := h0
  obtain ⟨hs6, ⟨hq1, hq5⟩, hmi, hbv, hbl⟩ := hg
  have hg : GS s := hall.st.gs
  refine x_aloadn X dL_law_927 2 rfl ?_
  refine x_aloadn X dL_law_928 3 rfl ?_
  refine x_iloadn X dL_law_929 0 rfl ?_
  refine x_iconst (v := nI 1) X dL_law_930 (by decide) ?_
  refine x_iadd (v := nI (i + 1)) X dL_law_931 (nI_add _ _) ?_
  refine x_sld X (fun _ _ h => h.2.2) (by omega) (by omega) dL_law_932 ?_
  refine x_callVJrv (As := [.int (xs (i + 1))]) (rest := []) (segs := [wInk G o x w d h g q e, wTx G x le nl nu nc, wCq G w s, wCq G d sd, wSh8 G h ad lw sz, wSh2 G g ad2 lw2 sz2, wSg G q th sa ns, wIA G e 41 f, wMo G a s.1 s.2.1 sz sz2 ns nl pa rp rq kd (en s) W Kp sg le2 tl rk rd nw rw, wCs G ad cs 8, wCs G ad2 cs2 2]) [0, 6, 2] [1, 3, 4, 5, 7, 8, 9, 10] (show ([0, 6, 2] ++ [1, 3, 4, 5, 7, 8, 9, 10] : List Nat).Perm (List.range 11) from by decide) X (c_X4_who l G o x w d h g q e th sa ns s (xs (i + 1)) (by omega) (by omega) (by omega) (by assumption) (by omega) (by assumption)) rfl xE0_ok (fun _ _ _ => trivial) 0 rfl rfl rfl wco_X4_who wi_X4 xd_X4_who wl_L_110 win_X4_who wse_X4_who (by decide) (Nat.le_of_ble_eq_true rfl) dL_law_933 ?_
  refine x_aloadn X dL_law_936 1 rfl ?_
  refine x_aloadn X dL_law_937 3 rfl ?_
  refine x_iloadn X dL_law_938 0 rfl ?_
  refine x_iconst (v := nI 1) X dL_law_939 (by decide) ?_
  refine x_iadd (v := nI (i + 1)) X dL_law_940 (nI_add _ _) ?_
  refine x_sld X (fun _ _ h => h.2.2) (by omega) (by omega) dL_law_941 ?_
  refine x_callVJ (As := [.int (xs (i + 1))]) (rest := [.int (F_who s th sa ns (xs (i + 1)))]) (segs := [wInk G o x w d h g q e, wTx G x le nl nu nc, wCq G w s, wCq G d sd, wSh8 G h ad lw sz, wSh2 G g ad2 lw2 sz2, wSg G q th sa ns, wIA G e 41 f, wMo G a s.1 s.2.1 sz sz2 ns nl pa rp rq kd (en s) W Kp sg le2 tl rk rd nw rw, wCs G ad cs 8, wCs G ad2 cs2 2]) [8] [0, 1, 2, 3, 4, 5, 6, 7, 9, 10] (show ([8] ++ [0, 1, 2, 3, 4, 5, 6, 7, 9, 10] : List Nat).Perm (List.range 11) from by decide) X (c_X5_who l G a sz sz2 ns nl pa rp rq kd W Kp sg le2 tl rk rd nw rw s th sa (xs (i + 1)) (by omega) (by omega) (by omega) (by omega) (by assumption) (by assumption) (by assumption) (by assumption) (by omega) (by assumption) (by assumption)) rfl xE0_ok (fun _ _ _ => trivial) 0 rfl rfl rfl wco_X5_who wi_X5 xd_X5_who wl_L_113 win_X5_who wse_X5_who (by decide) (Nat.le_of_ble_eq_true rfl) dL_law_942 (fun w2 h => by obtain ⟨nw_1, rfl⟩ := h; exact (Eq.trans (b := [a 0, a 1, a 2, a 3, a 4, a 5, a 6, a 7, a 8, a 9, a 10, a 11]) rfl rfl)) (fun w_2 hw_2 => ?_)
  obtain ⟨nw_1, rfl⟩ := hw_2
  refine x_backV (segs := [wInk G o x w d h g q e, wTx G x le nl nu nc, wCq G w s, wCq G d sd, wSh8 G h ad lw sz, wSh2 G g ad2 lw2 sz2, wSg G q th sa ns, wIA G e 41 f, wMo G a s.1 s.2.1 sz sz2 ns nl pa rp rq kd (en s) W Kp sg le2 tl rk rd nw rw, wCs G ad cs 8, wCs G ad2 cs2 2]) (segs' := [wInk G o x w d h g q e, wTx G x le nl nu nc, wCq G w s, wCq G d sd, wSh8 G h ad lw sz, wSh2 G g ad2 lw2 sz2, wSg G q th sa ns, wIA G e 41 f, wMo G a s.1 s.2.1 sz sz2 ns nl pa rp rq kd (en s) W Kp sg le2 tl rk rd nw_1 rw, wCs G ad cs 8, wCs G ad2 cs2 2]) (mid := [wInk G o x w d h g q e, wTx G x le nl nu nc, wCq G w s, wCq G d sd, wSh8 G h ad lw sz, wSh2 G g ad2 lw2 sz2, wSg G q th sa ns, wIA G e 41 f, wCs G ad cs 8, wCs G ad2 cs2 2]) [8] [0, 1, 2, 3, 4, 5, 6, 7, 9, 10] (show ([8] ++ [0, 1, 2, 3, 4, 5, 6, 7, 9, 10] : List Nat).Perm (List.range 11) from by decide) X rfl rfl rfl ?_
  refine x_wst (ws' := xJ [wInk G o x w d h g q e, wTx G x le nl nu nc, wCq G w s, wCq G d sd, wSh8 G h ad lw sz, wSh2 G g ad2 lw2 sz2, wSg G q th sa ns, wIA G e 41 f, wMo G a s.1 s.2.1 sz sz2 ns nl pa rp rq kd (en s) W Kp sg le2 tl rk rd nw_1 rw, wCs G ad cs 8, wCs G ad2 cs2 2]) (st' := [.int (F_who s th sa ns (xs (i + 1))), .int (F_who s th sa ns (xs (i + 1)))]) rfl rfl ?_
  refine x_icmp_eq 1149 X dL_law_945 (by decide) (fun c_3 => ?_) (fun c_3 => ?_)
  · -- 945 t
    exact kk s sd le nl nu nc lw sz cs lw2 sz2 cs2 th sa ns f pa rp rq kd W Kp sg le2 tl rk rd nw_1 rw hall
  · -- 945 f
    exact absurd rfl c_3
set_option maxRecDepth 100000 in
set_option maxHeartbeats 4000000 in
/-- views -/
theorem lw_views {l : Launch} {G : xG} {nm : String} {tW sq sv : Nat} {sw : Value} {b L : Nat} {xs : Nat → Int32} {Z : Option Value → va_W → Nat → Nat → Prop} {K : xKt} (X : xR l G (xEL tW sq sv sw b L xs) RL nm cL_law 4 room_1 Z K) {o : Nat} {x : Nat → Nat} {w : Nat → Nat} {d : Nat → Nat} {h : Nat → Nat} {g : Nat → Nat} {q : Nat → Nat} {e : Nat} {ad : Nat → Nat → Nat} {ad2 : Nat → Nat → Nat} {a : Nat → Nat} (hL : L ≤ 384) {i : Nat} (hi : i + 6 ≤ L) (kk : ∀ (s : xS) (sd : xS) (le : Nat → Int32) (nl : Nat) (nu : Nat → Int32) (nc : Nat) (lw : Nat) (sz : Nat) (cs : Nat → xS) (lw2 : Nat) (sz2 : Nat) (cs2 : Nat → xS) (th : Nat → Int32) (sa : Nat → Int32) (ns : Nat) (f : Nat → Int32) (pa : Nat) (rp : Nat) (rq : Nat) (kd : Nat → Int32) (W : Nat → Int32) (Kp : Nat → Int32) (sg : Nat → Int32) (le2 : Nat → Int32) (tl : Nat → Int32) (rk : Nat → Int32) (rd : Nat → Int32) (nw : Nat → Int32) (rw : Nat → Int32), LI s kd le le2 nl lw sz cs W lw2 sz2 cs2 Kp ns th sa sg → K (xJ [wInk G o x w d h g q e, wTx G x le nl nu nc, wCq G w s, wCq G d sd, wSh8 G h ad lw sz, wSh2 G g ad2 lw2 sz2, wSg G q th sa ns, wIA G e 41 f, wMo G a s.1 s.2.1 sz sz2 ns nl pa rp rq kd (en s) W Kp sg le2 tl rk rd nw rw, wCs G ad cs 8, wCs G ad2 cs2 2]) 84 2407 1149 [(3, .int (nI i)), (2, .ref (a 0)), (1, .ref o), (0, .ref b)] []) (s : xS) (sd : xS) (le : Nat → Int32) (nl : Nat) (nu : Nat → Int32) (nc : Nat) (lw : Nat) (sz : Nat) (cs : Nat → xS) (lw2 : Nat) (sz2 : Nat) (cs2 : Nat → xS) (th : Nat → Int32) (sa : Nat → Int32) (ns : Nat) (f : Nat → Int32) (pa : Nat) (rp : Nat) (rq : Nat) (kd : Nat → Int32) (W : Nat → Int32) (Kp : Nat → Int32) (sg : Nat → Int32) (le2 : Nat → Int32) (tl : Nat → Int32) (rk : Nat → Int32) (rd : Nat → Int32) (nw : Nat → Int32) (rw : Nat → Int32) (h0 : LI s kd le le2 nl lw sz cs W lw2 sz2 cs2 Kp ns th sa sg) : K (xJ [wInk G o x w d h g q e, wTx G x le nl nu nc, wCq G w s, wCq G d sd, wSh8 G h ad lw sz, wSh2 G g ad2 lw2 sz2, wSg G q th sa ns, wIA G e 41 f, wMo G a s.1 s.2.1 sz sz2 ns nl pa rp rq kd (en s) W Kp sg le2 tl rk rd nw rw, wCs G ad cs 8, wCs G ad2 cs2 2]) 84 2407 950 [(3, .int (nI i)), (2, .ref (a 0)), (1, .ref o), (0, .ref b)] [] := by
  have hall := h0
  obtain ⟨⟨hg, hs1, hkd⟩, ⟨hnl, hle⟩, ⟨hlw, hsz, hW, hcs⟩, ⟨hlw2, hsz2, hKp, hcs2⟩, ⟨hns, hsg, hth⟩⟩ := h0
  obtain ⟨hs6, ⟨hq1, hq5⟩, hmi, hbv, hbl⟩ := hg
  have hg : GS s := hall.st.gs
  refine x_aloadn X dL_law_950 2 rfl ?_
  refine x_aloadn X dL_law_951 3 rfl ?_
  refine x_iloadn X dL_law_952 0 rfl ?_
  refine x_iconst (v := nI 1) X dL_law_953 (by decide) ?_
  refine x_iadd (v := nI (i + 1)) X dL_law_954 (nI_add _ _) ?_
  refine x_sld X (fun _ _ h => h.2.2) (by omega) (by omega) dL_law_955 ?_
  refine x_aloadn X dL_law_956 3 rfl ?_
  refine x_iloadn X dL_law_957 0 rfl ?_
  refine x_iconst (v := nI 2) X dL_law_958 (by decide) ?_
  refine x_iadd (v := nI (i + 2)) X dL_law_959 (nI_add _ _) ?_
  refine x_sld X (fun _ _ h => h.2.2) (by omega) (by omega) dL_law_960 ?_
  refine x_aloadn X dL_law_961 3 rfl ?_
  refine x_iloadn X dL_law_962 0 rfl ?_
  refine x_iconst (v := nI 3) X dL_law_963 (by decide) ?_
  refine x_iadd (v := nI (i + 3)) X dL_law_964 (nI_add _ _) ?_
  refine x_sld X (fun _ _ h => h.2.2) (by omega) (by omega) dL_law_965 ?_
  refine x_callVJ (As := [.int (xs (i + 1)), .int (xs (i + 2)), .int (xs (i + 3))]) (rest := []) (segs := [wInk G o x w d h g q e, wTx G x le nl nu nc, wCq G w s, wCq G d sd, wSh8 G h ad lw sz, wSh2 G g ad2 lw2 sz2, wSg G q th sa ns, wIA G e 41 f, wMo G a s.1 s.2.1 sz sz2 ns nl pa rp rq kd (en s) W Kp sg le2 tl rk rd nw rw, wCs G ad cs 8, wCs G ad2 cs2 2]) [0, 6, 2, 3] [1, 4, 5, 7, 8, 9, 10] (show ([0, 6, 2, 3] ++ [1, 4, 5, 7, 8, 9, 10] : List Nat).Perm (List.range 11) from by decide) X (c_X4_views l G o x w d h g q e th sa ns s sd (xs (i + 1)) (xs (i + 2)) (xs (i + 3)) (by omega) (by omega) (by omega) (by assumption) (by omega) (by assumption)) rfl xE0_ok (fun _ _ _ => trivial) 0 rfl rfl rfl wco_X4_views wi_X4 xd_X4_views wl_L_114 win_X4_views wse_X4_views (by decide) (Nat.le_of_ble_eq_true rfl) dL_law_966 (fun w2 h => by obtain ⟨sd_1, rfl⟩ := h; exact (Eq.trans (b := [o, q 0, q 1, q 2, w 0, w 1, w 2, w 3, w 4, d 0, d 1, d 2, d 3, d 4]) rfl rfl)) (fun w_2 hw_2 => ?_)
  obtain ⟨sd_1, rfl⟩ := hw_2
  refine x_backV (segs := [wInk G o x w d h g q e, wTx G x le nl nu nc, wCq G w s, wCq G d sd, wSh8 G h ad lw sz, wSh2 G g ad2 lw2 sz2, wSg G q th sa ns, wIA G e 41 f, wMo G a s.1 s.2.1 sz sz2 ns nl pa rp rq kd (en s) W Kp sg le2 tl rk rd nw rw, wCs G ad cs 8, wCs G ad2 cs2 2]) (segs' := [wInk G o x w d h g q e, wTx G x le nl nu nc, wCq G w s, wCq G d sd_1, wSh8 G h ad lw sz, wSh2 G g ad2 lw2 sz2, wSg G q th sa ns, wIA G e 41 f, wMo G a s.1 s.2.1 sz sz2 ns nl pa rp rq kd (en s) W Kp sg le2 tl rk rd nw rw, wCs G ad cs 8, wCs G ad2 cs2 2]) (mid := [wTx G x le nl nu nc, wSh8 G h ad lw sz, wSh2 G g ad2 lw2 sz2, wIA G e 41 f, wMo G a s.1 s.2.1 sz sz2 ns nl pa rp rq kd (en s) W Kp sg le2 tl rk rd nw rw, wCs G ad cs 8, wCs G ad2 cs2 2]) [0, 6, 2, 3] [1, 4, 5, 7, 8, 9, 10] (show ([0, 6, 2, 3] ++ [1, 4, 5, 7, 8, 9, 10] : List Nat).Perm (List.range 11) from by decide) X rfl rfl rfl ?_
  refine x_wst (ws' := xJ [wInk G o x w d h g q e, wTx G x le nl nu nc, wCq G w s, wCq G d sd_1, wSh8 G h ad lw sz, wSh2 G g ad2 lw2 sz2, wSg G q th sa ns, wIA G e 41 f, wMo G a s.1 s.2.1 sz sz2 ns nl pa rp rq kd (en s) W Kp sg le2 tl rk rd nw rw, wCs G ad cs 8, wCs G ad2 cs2 2]) (st' := [.int (F_views s th sa ns (xs (i + 1)) (xs (i + 2)) (xs (i + 3)))]) rfl rfl ?_
  refine x_aloadn X dL_law_969 1 rfl ?_
  refine x_aloadn X dL_law_970 3 rfl ?_
  refine x_iloadn X dL_law_971 0 rfl ?_
  refine x_iconst (v := nI 1) X dL_law_972 (by decide) ?_
  refine x_iadd (v := nI (i + 1)) X dL_law_973 (nI_add _ _) ?_
  refine x_sld X (fun _ _ h => h.2.2) (by omega) (by omega) dL_law_974 ?_
  refine x_aloadn X dL_law_975 3 rfl ?_
  refine x_iloadn X dL_law_976 0 rfl ?_
  refine x_iconst (v := nI 2) X dL_law_977 (by decide) ?_
  refine x_iadd (v := nI (i + 2)) X dL_law_978 (nI_add _ _) ?_
  refine x_sld X (fun _ _ h => h.2.2) (by omega) (by omega) dL_law_979 ?_
  refine x_aloadn X dL_law_980 3 rfl ?_
  refine x_iloadn X dL_law_981 0 rfl ?_
  refine x_iconst (v := nI 3) X dL_law_982 (by decide) ?_
  refine x_iadd (v := nI (i + 3)) X dL_law_983 (nI_add _ _) ?_
  refine x_sld X (fun _ _ h => h.2.2) (by omega) (by omega) dL_law_984 ?_
  refine x_callVJ (As := [.int (xs (i + 1)), .int (xs (i + 2)), .int (xs (i + 3))]) (rest := [.int (F_views s th sa ns (xs (i + 1)) (xs (i + 2)) (xs (i + 3)))]) (segs := [wInk G o x w d h g q e, wTx G x le nl nu nc, wCq G w s, wCq G d sd_1, wSh8 G h ad lw sz, wSh2 G g ad2 lw2 sz2, wSg G q th sa ns, wIA G e 41 f, wMo G a s.1 s.2.1 sz sz2 ns nl pa rp rq kd (en s) W Kp sg le2 tl rk rd nw rw, wCs G ad cs 8, wCs G ad2 cs2 2]) [8] [0, 1, 2, 3, 4, 5, 6, 7, 9, 10] (show ([8] ++ [0, 1, 2, 3, 4, 5, 6, 7, 9, 10] : List Nat).Perm (List.range 11) from by decide) X (c_X5_views l G a sz sz2 ns nl pa rp rq kd W Kp sg le2 tl rk rd nw rw s th sa (xs (i + 1)) (xs (i + 2)) (xs (i + 3)) (by omega) (by omega) (by omega) (by omega) (by assumption) (by assumption) (by assumption) (by assumption) (by omega) (by assumption) (by assumption)) rfl xE0_ok (fun _ _ _ => trivial) 0 rfl rfl rfl wco_X5_views wi_X5 xd_X5_views wl_L_117 win_X5_views wse_X5_views (by decide) (Nat.le_of_ble_eq_true rfl) dL_law_985 (fun w2 h => by obtain ⟨nw_3, rfl⟩ := h; exact (Eq.trans (b := [a 0, a 1, a 2, a 3, a 4, a 5, a 6, a 7, a 8, a 9, a 10, a 11]) rfl rfl)) (fun w_4 hw_4 => ?_)
  obtain ⟨nw_3, rfl⟩ := hw_4
  refine x_backV (segs := [wInk G o x w d h g q e, wTx G x le nl nu nc, wCq G w s, wCq G d sd_1, wSh8 G h ad lw sz, wSh2 G g ad2 lw2 sz2, wSg G q th sa ns, wIA G e 41 f, wMo G a s.1 s.2.1 sz sz2 ns nl pa rp rq kd (en s) W Kp sg le2 tl rk rd nw rw, wCs G ad cs 8, wCs G ad2 cs2 2]) (segs' := [wInk G o x w d h g q e, wTx G x le nl nu nc, wCq G w s, wCq G d sd_1, wSh8 G h ad lw sz, wSh2 G g ad2 lw2 sz2, wSg G q th sa ns, wIA G e 41 f, wMo G a s.1 s.2.1 sz sz2 ns nl pa rp rq kd (en s) W Kp sg le2 tl rk rd nw_3 rw, wCs G ad cs 8, wCs G ad2 cs2 2]) (mid := [wInk G o x w d h g q e, wTx G x le nl nu nc, wCq G w s, wCq G d sd_1, wSh8 G h ad lw sz, wSh2 G g ad2 lw2 sz2, wSg G q th sa ns, wIA G e 41 f, wCs G ad cs 8, wCs G ad2 cs2 2]) [8] [0, 1, 2, 3, 4, 5, 6, 7, 9, 10] (show ([8] ++ [0, 1, 2, 3, 4, 5, 6, 7, 9, 10] : List Nat).Perm (List.range 11) from by decide) X rfl rfl rfl ?_
  refine x_wst (ws' := xJ [wInk G o x w d h g q e, wTx G x le nl nu nc, wCq G w s, wCq G d sd_1, wSh8 G h ad lw sz, wSh2 G g ad2 lw2 sz2, wSg G q th sa ns, wIA G e 41 f, wMo G a s.1 s.2.1 sz sz2 ns nl pa rp rq kd (en s) W Kp sg le2 tl rk rd nw_3 rw, wCs G ad cs 8, wCs G ad2 cs2 2]) (st' := [.int (F_views s th sa ns (xs (i + 1)) (xs (i + 2)) (xs (i + 3))), .int (F_views s th sa ns (xs (i + 1)) (xs (i + 2)) (xs (i + 3)))]) rfl rfl ?_
  refine x_icmp_eq 1149 X dL_law_988 (by decide) (fun c_5 => ?_) (fun c_5 => ?_)
  · -- 988 t
    exact kk s sd_1 le nl nu nc lw sz cs lw2 sz2 cs2 th sa ns f pa rp rq kd W Kp sg le2 tl rk rd nw_3 rw hall
  · -- 988 f
    exact absurd rfl c_5
set_option maxRecDepth 100000 in
set_option maxHeartbeats 4000000 in
/-- drops -/
theorem lw_drops {l : Launch} {G : xG} {nm : String} {tW sq sv : Nat} {sw : Value} {b L : Nat} {xs : Nat → Int32} {Z : Option Value → va_W → Nat → Nat → Prop} {K : xKt} (X : xR l G (xEL tW sq sv sw b L xs) RL nm cL_law 4 room_1 Z K) {o : Nat} {x : Nat → Nat} {w : Nat → Nat} {d : Nat → Nat} {h : Nat → Nat} {g : Nat → Nat} {q : Nat → Nat} {e : Nat} {ad : Nat → Nat → Nat} {ad2 : Nat → Nat → Nat} {a : Nat → Nat} (hL : L ≤ 384) {i : Nat} (hi : i + 6 ≤ L) (kk : ∀ (s : xS) (sd : xS) (le : Nat → Int32) (nl : Nat) (nu : Nat → Int32) (nc : Nat) (lw : Nat) (sz : Nat) (cs : Nat → xS) (lw2 : Nat) (sz2 : Nat) (cs2 : Nat → xS) (th : Nat → Int32) (sa : Nat → Int32) (ns : Nat) (f : Nat → Int32) (pa : Nat) (rp : Nat) (rq : Nat) (kd : Nat → Int32) (W : Nat → Int32) (Kp : Nat → Int32) (sg : Nat → Int32) (le2 : Nat → Int32) (tl : Nat → Int32) (rk : Nat → Int32) (rd : Nat → Int32) (nw : Nat → Int32) (rw : Nat → Int32), LI s kd le le2 nl lw sz cs W lw2 sz2 cs2 Kp ns th sa sg → K (xJ [wInk G o x w d h g q e, wTx G x le nl nu nc, wCq G w s, wCq G d sd, wSh8 G h ad lw sz, wSh2 G g ad2 lw2 sz2, wSg G q th sa ns, wIA G e 41 f, wMo G a s.1 s.2.1 sz sz2 ns nl pa rp rq kd (en s) W Kp sg le2 tl rk rd nw rw, wCs G ad cs 8, wCs G ad2 cs2 2]) 84 2407 1149 [(3, .int (nI i)), (2, .ref (a 0)), (1, .ref o), (0, .ref b)] []) (s : xS) (sd : xS) (le : Nat → Int32) (nl : Nat) (nu : Nat → Int32) (nc : Nat) (lw : Nat) (sz : Nat) (cs : Nat → xS) (lw2 : Nat) (sz2 : Nat) (cs2 : Nat → xS) (th : Nat → Int32) (sa : Nat → Int32) (ns : Nat) (f : Nat → Int32) (pa : Nat) (rp : Nat) (rq : Nat) (kd : Nat → Int32) (W : Nat → Int32) (Kp : Nat → Int32) (sg : Nat → Int32) (le2 : Nat → Int32) (tl : Nat → Int32) (rk : Nat → Int32) (rd : Nat → Int32) (nw : Nat → Int32) (rw : Nat → Int32) (h0 : LI s kd le le2 nl lw sz cs W lw2 sz2 cs2 Kp ns th sa sg) : K (xJ [wInk G o x w d h g q e, wTx G x le nl nu nc, wCq G w s, wCq G d sd, wSh8 G h ad lw sz, wSh2 G g ad2 lw2 sz2, wSg G q th sa ns, wIA G e 41 f, wMo G a s.1 s.2.1 sz sz2 ns nl pa rp rq kd (en s) W Kp sg le2 tl rk rd nw rw, wCs G ad cs 8, wCs G ad2 cs2 2]) 84 2407 993 [(3, .int (nI i)), (2, .ref (a 0)), (1, .ref o), (0, .ref b)] [] := by
  have hall := h0
  obtain ⟨⟨hg, hs1, hkd⟩, ⟨hnl, hle⟩, ⟨hlw, hsz, hW, hcs⟩, ⟨hlw2, hsz2, hKp, hcs2⟩, ⟨hns, hsg, hth⟩⟩ := h0
  obtain ⟨hs6, ⟨hq1, hq5⟩, hmi, hbv, hbl⟩ := hg
  have hg : GS s := hall.st.gs
  refine x_aloadn X dL_law_993 2 rfl ?_
  refine x_aloadn X dL_law_994 3 rfl ?_
  refine x_iloadn X dL_law_995 0 rfl ?_
  refine x_iconst (v := nI 1) X dL_law_996 (by decide) ?_
  refine x_iadd (v := nI (i + 1)) X dL_law_997 (nI_add _ _) ?_
  refine x_sld X (fun _ _ h => h.2.2) (by omega) (by omega) dL_law_998 ?_
  refine x_aloadn X dL_law_999 3 rfl ?_
  refine x_iloadn X dL_law_1000 0 rfl ?_
  refine x_iconst (v := nI 2) X dL_law_1001 (by decide) ?_
  refine x_iadd (v := nI (i + 2)) X dL_law_1002 (nI_add _ _) ?_
  refine x_sld X (fun _ _ h => h.2.2) (by omega) (by omega) dL_law_1003 ?_
  refine x_aloadn X dL_law_1004 3 rfl ?_
  refine x_iloadn X dL_law_1005 0 rfl ?_
  refine x_iconst (v := nI 3) X dL_law_1006 (by decide) ?_
  refine x_iadd (v := nI (i + 3)) X dL_law_1007 (nI_add _ _) ?_
  refine x_sld X (fun _ _ h => h.2.2) (by omega) (by omega) dL_law_1008 ?_
  refine x_aloadn X dL_law_1009 3 rfl ?_
  refine x_iloadn X dL_law_1010 0 rfl ?_
  refine x_iconst (v := nI 4) X dL_law_1011 (by decide) ?_
  refine x_iadd (v := nI (i + 4)) X dL_law_1012 (nI_add _ _) ?_
  refine x_sld X (fun _ _ h => h.2.2) (by omega) (by omega) dL_law_1013 ?_
  refine x_aloadn X dL_law_1014 3 rfl ?_
  refine x_iloadn X dL_law_1015 0 rfl ?_
  refine x_iconst (v := nI 5) X dL_law_1016 (by decide) ?_
  refine x_iadd (v := nI (i + 5)) X dL_law_1017 (nI_add _ _) ?_
  refine x_sld X (fun _ _ h => h.2.2) (by omega) (by omega) dL_law_1018 ?_
  refine x_callVJrv (As := [.int (xs (i + 1)), .int (xs (i + 2)), .int (xs (i + 3)), .int (xs (i + 4)), .int (xs (i + 5))]) (rest := []) (segs := [wInk G o x w d h g q e, wTx G x le nl nu nc, wCq G w s, wCq G d sd, wSh8 G h ad lw sz, wSh2 G g ad2 lw2 sz2, wSg G q th sa ns, wIA G e 41 f, wMo G a s.1 s.2.1 sz sz2 ns nl pa rp rq kd (en s) W Kp sg le2 tl rk rd nw rw, wCs G ad cs 8, wCs G ad2 cs2 2]) [0, 2] [1, 3, 4, 5, 6, 7, 8, 9, 10] (show ([0, 2] ++ [1, 3, 4, 5, 6, 7, 8, 9, 10] : List Nat).Perm (List.range 11) from by decide) X (c_X4_drops l G o x w d h g q e s tW (xs (i + 1)) (xs (i + 2)) (xs (i + 3)) (xs (i + 4)) (xs (i + 5)) (by omega) (by omega) (by omega) (by assumption)) rfl (xEW_ok tW) (fun _ _ h => h.1) 0 rfl rfl rfl wco_X4_drops wi_X4 xd_X4_drops wl_L_118 win_X4_drops wse_X4_drops (by decide) (Nat.le_of_ble_eq_true rfl) dL_law_1019 ?_
  refine x_aloadn X dL_law_1022 1 rfl ?_
  refine x_aloadn X dL_law_1023 3 rfl ?_
  refine x_iloadn X dL_law_1024 0 rfl ?_
  refine x_iconst (v := nI 1) X dL_law_1025 (by decide) ?_
  refine x_iadd (v := nI (i + 1)) X dL_law_1026 (nI_add _ _) ?_
  refine x_sld X (fun _ _ h => h.2.2) (by omega) (by omega) dL_law_1027 ?_
  refine x_aloadn X dL_law_1028 3 rfl ?_
  refine x_iloadn X dL_law_1029 0 rfl ?_
  refine x_iconst (v := nI 2) X dL_law_1030 (by decide) ?_
  refine x_iadd (v := nI (i + 2)) X dL_law_1031 (nI_add _ _) ?_
  refine x_sld X (fun _ _ h => h.2.2) (by omega) (by omega) dL_law_1032 ?_
  refine x_aloadn X dL_law_1033 3 rfl ?_
  refine x_iloadn X dL_law_1034 0 rfl ?_
  refine x_iconst (v := nI 3) X dL_law_1035 (by decide) ?_
  refine x_iadd (v := nI (i + 3)) X dL_law_1036 (nI_add _ _) ?_
  refine x_sld X (fun _ _ h => h.2.2) (by omega) (by omega) dL_law_1037 ?_
  refine x_aloadn X dL_law_1038 3 rfl ?_
  refine x_iloadn X dL_law_1039 0 rfl ?_
  refine x_iconst (v := nI 4) X dL_law_1040 (by decide) ?_
  refine x_iadd (v := nI (i + 4)) X dL_law_1041 (nI_add _ _) ?_
  refine x_sld X (fun _ _ h => h.2.2) (by omega) (by omega) dL_law_1042 ?_
  refine x_aloadn X dL_law_1043 3 rfl ?_
  refine x_iloadn X dL_law_1044 0 rfl ?_
  refine x_iconst (v := nI 5) X dL_law_1045 (by decide) ?_
  refine x_iadd (v := nI (i + 5)) X dL_law_1046 (nI_add _ _) ?_
  refine x_sld X (fun _ _ h => h.2.2) (by omega) (by omega) dL_law_1047 ?_
  refine x_callVJ (As := [.int (xs (i + 1)), .int (xs (i + 2)), .int (xs (i + 3)), .int (xs (i + 4)), .int (xs (i + 5))]) (rest := [.long (F_drops s (xs (i + 1)) (xs (i + 2)) (xs (i + 3)) (xs (i + 4)) (xs (i + 5)))]) (segs := [wInk G o x w d h g q e, wTx G x le nl nu nc, wCq G w s, wCq G d sd, wSh8 G h ad lw sz, wSh2 G g ad2 lw2 sz2, wSg G q th sa ns, wIA G e 41 f, wMo G a s.1 s.2.1 sz sz2 ns nl pa rp rq kd (en s) W Kp sg le2 tl rk rd nw rw, wCs G ad cs 8, wCs G ad2 cs2 2]) [8] [0, 1, 2, 3, 4, 5, 6, 7, 9, 10] (show ([8] ++ [0, 1, 2, 3, 4, 5, 6, 7, 9, 10] : List Nat).Perm (List.range 11) from by decide) X (c_X5_drops l G a sz sz2 ns nl pa rp rq kd W Kp sg le2 tl rk rd nw rw s (xs (i + 1)) (xs (i + 2)) (xs (i + 3)) (xs (i + 4)) (xs (i + 5)) (by omega) (by omega) (by omega) (by omega) (by assumption) (by assumption) (by assumption) (by assumption)) rfl xE0_ok (fun _ _ _ => trivial) 0 rfl rfl rfl wco_X5_drops wi_X5 xd_X5_drops wl_L_122 win_X5_drops wse_X5_drops (by decide) (Nat.le_of_ble_eq_true rfl) dL_law_1048 (fun w2 h => by obtain ⟨nw_1, rfl⟩ := h; exact (Eq.trans (b := [a 0, a 1, a 2, a 3, a 4, a 5, a 6, a 7, a 8, a 9, a 10, a 11]) rfl rfl)) (fun w_2 hw_2 => ?_)
  obtain ⟨nw_1, rfl⟩ := hw_2
  refine x_backV (segs := [wInk G o x w d h g q e, wTx G x le nl nu nc, wCq G w s, wCq G d sd, wSh8 G h ad lw sz, wSh2 G g ad2 lw2 sz2, wSg G q th sa ns, wIA G e 41 f, wMo G a s.1 s.2.1 sz sz2 ns nl pa rp rq kd (en s) W Kp sg le2 tl rk rd nw rw, wCs G ad cs 8, wCs G ad2 cs2 2]) (segs' := [wInk G o x w d h g q e, wTx G x le nl nu nc, wCq G w s, wCq G d sd, wSh8 G h ad lw sz, wSh2 G g ad2 lw2 sz2, wSg G q th sa ns, wIA G e 41 f, wMo G a s.1 s.2.1 sz sz2 ns nl pa rp rq kd (en s) W Kp sg le2 tl rk rd nw_1 rw, wCs G ad cs 8, wCs G ad2 cs2 2]) (mid := [wInk G o x w d h g q e, wTx G x le nl nu nc, wCq G w s, wCq G d sd, wSh8 G h ad lw sz, wSh2 G g ad2 lw2 sz2, wSg G q th sa ns, wIA G e 41 f, wCs G ad cs 8, wCs G ad2 cs2 2]) [8] [0, 1, 2, 3, 4, 5, 6, 7, 9, 10] (show ([8] ++ [0, 1, 2, 3, 4, 5, 6, 7, 9, 10] : List Nat).Perm (List.range 11) from by decide) X rfl rfl rfl ?_
  refine x_wst (ws' := xJ [wInk G o x w d h g q e, wTx G x le nl nu nc, wCq G w s, wCq G d sd, wSh8 G h ad lw sz, wSh2 G g ad2 lw2 sz2, wSg G q th sa ns, wIA G e 41 f, wMo G a s.1 s.2.1 sz sz2 ns nl pa rp rq kd (en s) W Kp sg le2 tl rk rd nw_1 rw, wCs G ad cs 8, wCs G ad2 cs2 2]) (st' := [.long (F_drops s (xs (i + 1)) (xs (i + 2)) (xs (i + 3)) (xs (i + 4)) (xs (i + 5))), .long (F_drops s (xs (i + 1)) (xs (i + 2)) (xs (i + 3)) (xs (i + 4)) (xs (i + 5)))]) rfl rfl ?_
  refine x_lcmp X dL_law_1051 ?_
  refine x_if_eq 1149 X dL_law_1052 (by decide) (fun c_3 => ?_) (fun c_3 => ?_)
  · -- 1052 t
    exact kk s sd le nl nu nc lw sz cs lw2 sz2 cs2 th sa ns f pa rp rq kd W Kp sg le2 tl rk rd nw_1 rw hall
  · -- 1052 f
    exact absurd (lg_self _) c_3
set_option maxRecDepth 100000 in
set_option maxHeartbeats 4000000 in
/-- weeks -/
theorem lw_weeks {l : Launch} {G : xG} {nm : String} {tW sq sv : Nat} {sw : Value} {b L : Nat} {xs : Nat → Int32} {Z : Option Value → va_W → Nat → Nat → Prop} {K : xKt} (X : xR l G (xEL tW sq sv sw b L xs) RL nm cL_law 4 room_1 Z K) {o : Nat} {x : Nat → Nat} {w : Nat → Nat} {d : Nat → Nat} {h : Nat → Nat} {g : Nat → Nat} {q : Nat → Nat} {e : Nat} {ad : Nat → Nat → Nat} {ad2 : Nat → Nat → Nat} {a : Nat → Nat} (hL : L ≤ 384) {i : Nat} (hi : i + 6 ≤ L) (kk : ∀ (s : xS) (sd : xS) (le : Nat → Int32) (nl : Nat) (nu : Nat → Int32) (nc : Nat) (lw : Nat) (sz : Nat) (cs : Nat → xS) (lw2 : Nat) (sz2 : Nat) (cs2 : Nat → xS) (th : Nat → Int32) (sa : Nat → Int32) (ns : Nat) (f : Nat → Int32) (pa : Nat) (rp : Nat) (rq : Nat) (kd : Nat → Int32) (W : Nat → Int32) (Kp : Nat → Int32) (sg : Nat → Int32) (le2 : Nat → Int32) (tl : Nat → Int32) (rk : Nat → Int32) (rd : Nat → Int32) (nw : Nat → Int32) (rw : Nat → Int32), LI s kd le le2 nl lw sz cs W lw2 sz2 cs2 Kp ns th sa sg → K (xJ [wInk G o x w d h g q e, wTx G x le nl nu nc, wCq G w s, wCq G d sd, wSh8 G h ad lw sz, wSh2 G g ad2 lw2 sz2, wSg G q th sa ns, wIA G e 41 f, wMo G a s.1 s.2.1 sz sz2 ns nl pa rp rq kd (en s) W Kp sg le2 tl rk rd nw rw, wCs G ad cs 8, wCs G ad2 cs2 2]) 84 2407 1149 [(3, .int (nI i)), (2, .ref (a 0)), (1, .ref o), (0, .ref b)] []) (s : xS) (sd : xS) (le : Nat → Int32) (nl : Nat) (nu : Nat → Int32) (nc : Nat) (lw : Nat) (sz : Nat) (cs : Nat → xS) (lw2 : Nat) (sz2 : Nat) (cs2 : Nat → xS) (th : Nat → Int32) (sa : Nat → Int32) (ns : Nat) (f : Nat → Int32) (pa : Nat) (rp : Nat) (rq : Nat) (kd : Nat → Int32) (W : Nat → Int32) (Kp : Nat → Int32) (sg : Nat → Int32) (le2 : Nat → Int32) (tl : Nat → Int32) (rk : Nat → Int32) (rd : Nat → Int32) (nw : Nat → Int32) (rw : Nat → Int32) (h0 : LI s kd le le2 nl lw sz cs W lw2 sz2 cs2 Kp ns th sa sg) : K (xJ [wInk G o x w d h g q e, wTx G x le nl nu nc, wCq G w s, wCq G d sd, wSh8 G h ad lw sz, wSh2 G g ad2 lw2 sz2, wSg G q th sa ns, wIA G e 41 f, wMo G a s.1 s.2.1 sz sz2 ns nl pa rp rq kd (en s) W Kp sg le2 tl rk rd nw rw, wCs G ad cs 8, wCs G ad2 cs2 2]) 84 2407 1057 [(3, .int (nI i)), (2, .ref (a 0)), (1, .ref o), (0, .ref b)] [] := by
  have hall := h0
  obtain ⟨⟨hg, hs1, hkd⟩, ⟨hnl, hle⟩, ⟨hlw, hsz, hW, hcs⟩, ⟨hlw2, hsz2, hKp, hcs2⟩, ⟨hns, hsg, hth⟩⟩ := h0
  obtain ⟨hs6, ⟨hq1, hq5⟩, hmi, hbv, hbl⟩ := hg
  have hg : GS s := hall.st.gs
  refine x_aloadn X dL_law_1057 2 rfl ?_
  refine x_aloadn X dL_law_1058 3 rfl ?_
  refine x_iloadn X dL_law_1059 0 rfl ?_
  refine x_iconst (v := nI 1) X dL_law_1060 (by decide) ?_
  refine x_iadd (v := nI (i + 1)) X dL_law_1061 (nI_add _ _) ?_
  refine x_sld X (fun _ _ h => h.2.2) (by omega) (by omega) dL_law_1062 ?_
  refine x_aloadn X dL_law_1063 3 rfl ?_
  refine x_iloadn X dL_law_1064 0 rfl ?_
  refine x_iconst (v := nI 2) X dL_law_1065 (by decide) ?_
  refine x_iadd (v := nI (i + 2)) X dL_law_1066 (nI_add _ _) ?_
  refine x_sld X (fun _ _ h => h.2.2) (by omega) (by omega) dL_law_1067 ?_
  refine x_aloadn X dL_law_1068 3 rfl ?_
  refine x_iloadn X dL_law_1069 0 rfl ?_
  refine x_iconst (v := nI 3) X dL_law_1070 (by decide) ?_
  refine x_iadd (v := nI (i + 3)) X dL_law_1071 (nI_add _ _) ?_
  refine x_sld X (fun _ _ h => h.2.2) (by omega) (by omega) dL_law_1072 ?_
  refine x_callVJ (As := [.int (xs (i + 1)), .int (xs (i + 2)), .int (xs (i + 3))]) (rest := []) (segs := [wInk G o x w d h g q e, wTx G x le nl nu nc, wCq G w s, wCq G d sd, wSh8 G h ad lw sz, wSh2 G g ad2 lw2 sz2, wSg G q th sa ns, wIA G e 41 f, wMo G a s.1 s.2.1 sz sz2 ns nl pa rp rq kd (en s) W Kp sg le2 tl rk rd nw rw, wCs G ad cs 8, wCs G ad2 cs2 2]) [0, 2, 3] [1, 4, 5, 6, 7, 8, 9, 10] (show ([0, 2, 3] ++ [1, 4, 5, 6, 7, 8, 9, 10] : List Nat).Perm (List.range 11) from by decide) X (c_X4_weeks l G o x w d h g q e s sd (xs (i + 1)) (xs (i + 2)) (xs (i + 3)) (by omega) (by omega) (by omega) (by assumption) (by omega)) rfl xE0_ok (fun _ _ _ => trivial) 0 rfl rfl rfl wco_X4_weeks wi_X4 xd_X4_weeks wl_L_123 win_X4_weeks wse_X4_weeks (by decide) (Nat.le_of_ble_eq_true rfl) dL_law_1073 (fun w2 h => by obtain ⟨sd_1, rfl⟩ := h; exact (Eq.trans (b := [o, w 0, w 1, w 2, w 3, w 4, d 0, d 1, d 2, d 3, d 4]) rfl rfl)) (fun w_2 hw_2 => ?_)
  obtain ⟨sd_1, rfl⟩ := hw_2
  refine x_backV (segs := [wInk G o x w d h g q e, wTx G x le nl nu nc, wCq G w s, wCq G d sd, wSh8 G h ad lw sz, wSh2 G g ad2 lw2 sz2, wSg G q th sa ns, wIA G e 41 f, wMo G a s.1 s.2.1 sz sz2 ns nl pa rp rq kd (en s) W Kp sg le2 tl rk rd nw rw, wCs G ad cs 8, wCs G ad2 cs2 2]) (segs' := [wInk G o x w d h g q e, wTx G x le nl nu nc, wCq G w s, wCq G d sd_1, wSh8 G h ad lw sz, wSh2 G g ad2 lw2 sz2, wSg G q th sa ns, wIA G e 41 f, wMo G a s.1 s.2.1 sz sz2 ns nl pa rp rq kd (en s) W Kp sg le2 tl rk rd nw rw, wCs G ad cs 8, wCs G ad2 cs2 2]) (mid := [wTx G x le nl nu nc, wSh8 G h ad lw sz, wSh2 G g ad2 lw2 sz2, wSg G q th sa ns, wIA G e 41 f, wMo G a s.1 s.2.1 sz sz2 ns nl pa rp rq kd (en s) W Kp sg le2 tl rk rd nw rw, wCs G ad cs 8, wCs G ad2 cs2 2]) [0, 2, 3] [1, 4, 5, 6, 7, 8, 9, 10] (show ([0, 2, 3] ++ [1, 4, 5, 6, 7, 8, 9, 10] : List Nat).Perm (List.range 11) from by decide) X rfl rfl rfl ?_
  refine x_wst (ws' := xJ [wInk G o x w d h g q e, wTx G x le nl nu nc, wCq G w s, wCq G d sd_1, wSh8 G h ad lw sz, wSh2 G g ad2 lw2 sz2, wSg G q th sa ns, wIA G e 41 f, wMo G a s.1 s.2.1 sz sz2 ns nl pa rp rq kd (en s) W Kp sg le2 tl rk rd nw rw, wCs G ad cs 8, wCs G ad2 cs2 2]) (st' := [.int (F_weeks s (xs (i + 1)) (xs (i + 2)) (xs (i + 3)))]) rfl rfl ?_
  refine x_aloadn X dL_law_1076 1 rfl ?_
  refine x_aloadn X dL_law_1077 3 rfl ?_
  refine x_iloadn X dL_law_1078 0 rfl ?_
  refine x_iconst (v := nI 1) X dL_law_1079 (by decide) ?_
  refine x_iadd (v := nI (i + 1)) X dL_law_1080 (nI_add _ _) ?_
  refine x_sld X (fun _ _ h => h.2.2) (by omega) (by omega) dL_law_1081 ?_
  refine x_aloadn X dL_law_1082 3 rfl ?_
  refine x_iloadn X dL_law_1083 0 rfl ?_
  refine x_iconst (v := nI 2) X dL_law_1084 (by decide) ?_
  refine x_iadd (v := nI (i + 2)) X dL_law_1085 (nI_add _ _) ?_
  refine x_sld X (fun _ _ h => h.2.2) (by omega) (by omega) dL_law_1086 ?_
  refine x_aloadn X dL_law_1087 3 rfl ?_
  refine x_iloadn X dL_law_1088 0 rfl ?_
  refine x_iconst (v := nI 3) X dL_law_1089 (by decide) ?_
  refine x_iadd (v := nI (i + 3)) X dL_law_1090 (nI_add _ _) ?_
  refine x_sld X (fun _ _ h => h.2.2) (by omega) (by omega) dL_law_1091 ?_
  refine x_callVJ (As := [.int (xs (i + 1)), .int (xs (i + 2)), .int (xs (i + 3))]) (rest := [.int (F_weeks s (xs (i + 1)) (xs (i + 2)) (xs (i + 3)))]) (segs := [wInk G o x w d h g q e, wTx G x le nl nu nc, wCq G w s, wCq G d sd_1, wSh8 G h ad lw sz, wSh2 G g ad2 lw2 sz2, wSg G q th sa ns, wIA G e 41 f, wMo G a s.1 s.2.1 sz sz2 ns nl pa rp rq kd (en s) W Kp sg le2 tl rk rd nw rw, wCs G ad cs 8, wCs G ad2 cs2 2]) [8] [0, 1, 2, 3, 4, 5, 6, 7, 9, 10] (show ([8] ++ [0, 1, 2, 3, 4, 5, 6, 7, 9, 10] : List Nat).Perm (List.range 11) from by decide) X (c_X5_weeks l G a sz sz2 ns nl pa rp rq kd W Kp sg le2 tl rk rd nw rw s (xs (i + 1)) (xs (i + 2)) (xs (i + 3)) (by omega) (by omega) (by omega) (by omega) (by assumption) (by assumption) (by assumption) (by assumption)) rfl xE0_ok (fun _ _ _ => trivial) 0 rfl rfl rfl wco_X5_weeks wi_X5 xd_X5_weeks wl_L_126 win_X5_weeks wse_X5_weeks (by decide) (Nat.le_of_ble_eq_true rfl) dL_law_1092 (fun w2 h => by obtain ⟨nw_3, rfl⟩ := h; exact (Eq.trans (b := [a 0, a 1, a 2, a 3, a 4, a 5, a 6, a 7, a 8, a 9, a 10, a 11]) rfl rfl)) (fun w_4 hw_4 => ?_)
  obtain ⟨nw_3, rfl⟩ := hw_4
  refine x_backV (segs := [wInk G o x w d h g q e, wTx G x le nl nu nc, wCq G w s, wCq G d sd_1, wSh8 G h ad lw sz, wSh2 G g ad2 lw2 sz2, wSg G q th sa ns, wIA G e 41 f, wMo G a s.1 s.2.1 sz sz2 ns nl pa rp rq kd (en s) W Kp sg le2 tl rk rd nw rw, wCs G ad cs 8, wCs G ad2 cs2 2]) (segs' := [wInk G o x w d h g q e, wTx G x le nl nu nc, wCq G w s, wCq G d sd_1, wSh8 G h ad lw sz, wSh2 G g ad2 lw2 sz2, wSg G q th sa ns, wIA G e 41 f, wMo G a s.1 s.2.1 sz sz2 ns nl pa rp rq kd (en s) W Kp sg le2 tl rk rd nw_3 rw, wCs G ad cs 8, wCs G ad2 cs2 2]) (mid := [wInk G o x w d h g q e, wTx G x le nl nu nc, wCq G w s, wCq G d sd_1, wSh8 G h ad lw sz, wSh2 G g ad2 lw2 sz2, wSg G q th sa ns, wIA G e 41 f, wCs G ad cs 8, wCs G ad2 cs2 2]) [8] [0, 1, 2, 3, 4, 5, 6, 7, 9, 10] (show ([8] ++ [0, 1, 2, 3, 4, 5, 6, 7, 9, 10] : List Nat).Perm (List.range 11) from by decide) X rfl rfl rfl ?_
  refine x_wst (ws' := xJ [wInk G o x w d h g q e, wTx G x le nl nu nc, wCq G w s, wCq G d sd_1, wSh8 G h ad lw sz, wSh2 G g ad2 lw2 sz2, wSg G q th sa ns, wIA G e 41 f, wMo G a s.1 s.2.1 sz sz2 ns nl pa rp rq kd (en s) W Kp sg le2 tl rk rd nw_3 rw, wCs G ad cs 8, wCs G ad2 cs2 2]) (st' := [.int (F_weeks s (xs (i + 1)) (xs (i + 2)) (xs (i + 3))), .int (F_weeks s (xs (i + 1)) (xs (i + 2)) (xs (i + 3)))]) rfl rfl ?_
  refine x_icmp_eq 1149 X dL_law_1095 (by decide) (fun c_5 => ?_) (fun c_5 => ?_)
  · -- 1095 t
    exact kk s sd_1 le nl nu nc lw sz cs lw2 sz2 cs2 th sa ns f pa rp rq kd W Kp sg le2 tl rk rd nw_3 rw hall
  · -- 1095 f
    exact absurd rfl c_5
set_option maxRecDepth 100000 in
set_option maxHeartbeats 4000000 in
/-- keep -/
theorem lw_keep {l : Launch} {G : xG} {nm : String} {tW sq sv : Nat} {sw : Value} {b L : Nat} {xs : Nat → Int32} {Z : Option Value → va_W → Nat → Nat → Prop} {K : xKt} (X : xR l G (xEL tW sq sv sw b L xs) RL nm cL_law 4 room_1 Z K) {o : Nat} {x : Nat → Nat} {w : Nat → Nat} {d : Nat → Nat} {h : Nat → Nat} {g : Nat → Nat} {q : Nat → Nat} {e : Nat} {ad : Nat → Nat → Nat} {ad2 : Nat → Nat → Nat} {a : Nat → Nat} (hL : L ≤ 384) {i : Nat} (hi : i + 6 ≤ L) (kk : ∀ (s : xS) (sd : xS) (le : Nat → Int32) (nl : Nat) (nu : Nat → Int32) (nc : Nat) (lw : Nat) (sz : Nat) (cs : Nat → xS) (lw2 : Nat) (sz2 : Nat) (cs2 : Nat → xS) (th : Nat → Int32) (sa : Nat → Int32) (ns : Nat) (f : Nat → Int32) (pa : Nat) (rp : Nat) (rq : Nat) (kd : Nat → Int32) (W : Nat → Int32) (Kp : Nat → Int32) (sg : Nat → Int32) (le2 : Nat → Int32) (tl : Nat → Int32) (rk : Nat → Int32) (rd : Nat → Int32) (nw : Nat → Int32) (rw : Nat → Int32), LI s kd le le2 nl lw sz cs W lw2 sz2 cs2 Kp ns th sa sg → K (xJ [wInk G o x w d h g q e, wTx G x le nl nu nc, wCq G w s, wCq G d sd, wSh8 G h ad lw sz, wSh2 G g ad2 lw2 sz2, wSg G q th sa ns, wIA G e 41 f, wMo G a s.1 s.2.1 sz sz2 ns nl pa rp rq kd (en s) W Kp sg le2 tl rk rd nw rw, wCs G ad cs 8, wCs G ad2 cs2 2]) 84 2407 1149 [(3, .int (nI i)), (2, .ref (a 0)), (1, .ref o), (0, .ref b)] []) (s : xS) (sd : xS) (le : Nat → Int32) (nl : Nat) (nu : Nat → Int32) (nc : Nat) (lw : Nat) (sz : Nat) (cs : Nat → xS) (lw2 : Nat) (sz2 : Nat) (cs2 : Nat → xS) (th : Nat → Int32) (sa : Nat → Int32) (ns : Nat) (f : Nat → Int32) (pa : Nat) (rp : Nat) (rq : Nat) (kd : Nat → Int32) (W : Nat → Int32) (Kp : Nat → Int32) (sg : Nat → Int32) (le2 : Nat → Int32) (tl : Nat → Int32) (rk : Nat → Int32) (rd : Nat → Int32) (nw : Nat → Int32) (rw : Nat → Int32) (h0 : LI s kd le le2 nl lw sz cs W lw2 sz2 cs2 Kp ns th sa sg) : K (xJ [wInk G o x w d h g q e, wTx G x le nl nu nc, wCq G w s, wCq G d sd, wSh8 G h ad lw sz, wSh2 G g ad2 lw2 sz2, wSg G q th sa ns, wIA G e 41 f, wMo G a s.1 s.2.1 sz sz2 ns nl pa rp rq kd (en s) W Kp sg le2 tl rk rd nw rw, wCs G ad cs 8, wCs G ad2 cs2 2]) 84 2407 1100 [(3, .int (nI i)), (2, .ref (a 0)), (1, .ref o), (0, .ref b)] [] := by
  have hall := h0
  obtain ⟨⟨hg, hs1, hkd⟩, ⟨hnl, hle⟩, ⟨hlw, hsz, hW, hcs⟩, ⟨hlw2, hsz2, hKp, hcs2⟩, ⟨hns, hsg, hth⟩⟩ := h0
  obtain ⟨hs6, ⟨hq1, hq5⟩, hmi, hbv, hbl⟩ := hg
  have hg : GS s := hall.st.gs
  refine x_aloadn X dL_law_1100 2 rfl ?_
  refine x_callVJfv (As := []) (rest := []) (segs := [wInk G o x w d h g q e, wTx G x le nl nu nc, wCq G w s, wCq G d sd, wSh8 G h ad lw sz, wSh2 G g ad2 lw2 sz2, wSg G q th sa ns, wIA G e 41 f, wMo G a s.1 s.2.1 sz sz2 ns nl pa rp rq kd (en s) W Kp sg le2 tl rk rd nw rw, wCs G ad cs 8, wCs G ad2 cs2 2]) (segs' := [wInk G o x w d h g q e, wTx G x le nl nu nc, wCq G w s, wCq G d sd, wSh8 G h ad lw sz, wSh2 G g ad2 lw2 (kSz sz2), wSg G q th sa ns, wIA G e 41 f, wMo G a s.1 s.2.1 sz sz2 ns nl pa rp rq kd (en s) W Kp sg le2 tl rk rd nw rw, wCs G ad cs 8, wCs G ad2 (kCs cs2 lw2 sz2 s) 2]) (mid := [wTx G x le nl nu nc, wCq G d sd, wSh8 G h ad lw sz, wSg G q th sa ns, wIA G e 41 f, wMo G a s.1 s.2.1 sz sz2 ns nl pa rp rq kd (en s) W Kp sg le2 tl rk rd nw rw, wCs G ad cs 8]) (w1 := xJ [wInk G o x w d h g q e, wSh2 G g ad2 lw2 (kSz sz2), wCq G w s, wCs G ad2 (kCs cs2 lw2 sz2 s) 2]) [0, 5, 2, 10] [1, 3, 4, 6, 7, 8, 9] (show ([0, 5, 2, 10] ++ [1, 3, 4, 6, 7, 8, 9] : List Nat).Perm (List.range 11) from by decide) rfl X (c_X4_keep l G o x w d h g q e ad2 lw2 sz2 s cs2 (by omega) (by omega) (by omega) (by assumption) (by omega) (by omega)) rfl rfl rfl rfl xE0_ok (fun _ _ _ => trivial) 0 rfl rfl rfl wco_X4_keep wi_X4 xd_X4_keep wl_L_127 win_X4_keep wse_X4_keep (by decide) (Nat.le_of_ble_eq_true rfl) dL_law_1101 (by simp only [xJ, List.map_append, skCs, wCh, wIA, wTx, wSg, wSh8, wSh2, wInk, List.map_cons, List.map_nil]) ?_
  refine x_aloadn X dL_law_1104 1 rfl ?_
  refine x_callVJfv (As := []) (rest := [.int (F_keep sz2)]) (segs := [wInk G o x w d h g q e, wTx G x le nl nu nc, wCq G w s, wCq G d sd, wSh8 G h ad lw sz, wSh2 G g ad2 lw2 (kSz sz2), wSg G q th sa ns, wIA G e 41 f, wMo G a s.1 s.2.1 sz sz2 ns nl pa rp rq kd (en s) W Kp sg le2 tl rk rd nw rw, wCs G ad cs 8, wCs G ad2 (kCs cs2 lw2 sz2 s) 2]) (segs' := [wInk G o x w d h g q e, wTx G x le nl nu nc, wCq G w s, wCq G d sd, wSh8 G h ad lw sz, wSh2 G g ad2 lw2 (kSz sz2), wSg G q th sa ns, wIA G e 41 f, wMo G a s.1 s.2.1 sz (kSz sz2) ns nl pa rp rq kd (en s) W (mKp Kp (en s) sz2) sg le2 tl rk rd nw rw, wCs G ad cs 8, wCs G ad2 (kCs cs2 lw2 sz2 s) 2]) (mid := [wInk G o x w d h g q e, wTx G x le nl nu nc, wCq G w s, wCq G d sd, wSh8 G h ad lw sz, wSh2 G g ad2 lw2 (kSz sz2), wSg G q th sa ns, wIA G e 41 f, wCs G ad cs 8, wCs G ad2 (kCs cs2 lw2 sz2 s) 2]) (w1 := wMo G a s.1 s.2.1 sz (kSz sz2) ns nl pa rp rq kd (en s) W (mKp Kp (en s) sz2) sg le2 tl rk rd nw rw) [8] [0, 1, 2, 3, 4, 5, 6, 7, 9, 10] (show ([8] ++ [0, 1, 2, 3, 4, 5, 6, 7, 9, 10] : List Nat).Perm (List.range 11) from by decide) rfl X (c_X5_keep l G a sz sz2 ns nl pa rp rq kd W Kp sg le2 tl rk rd nw rw s (by omega)) rfl rfl rfl rfl xE0_ok (fun _ _ _ => trivial) 0 rfl rfl rfl wco_X5_keep wi_X5 xd_X5_keep wl_L_130 win_X5_keep wse_X5_keep (by decide) (Nat.le_of_ble_eq_true rfl) dL_law_1105 (Eq.trans (b := [a 0, a 1, a 2, a 3, a 4, a 5, a 6, a 7, a 8, a 9, a 10, a 11]) rfl rfl) ?_
  refine x_icmp_eq 1149 X dL_law_1108 (by decide) (fun c_1 => ?_) (fun c_1 => ?_)
  · -- 1108 t
    exact kk s sd le nl nu nc lw sz cs lw2 (kSz sz2) (kCs cs2 lw2 sz2 s) th sa ns f pa rp rq kd W (mKp Kp (en s) sz2) sg le2 tl rk rd nw rw (⟨hall.st, hall.tx, hall.ps, hall.kp.keep hg, hall.si⟩)
  · -- 1108 f
    exact absurd rfl c_1
set_option maxRecDepth 100000 in
set_option maxHeartbeats 4000000 in
/-- back -/
theorem lw_back {l : Launch} {G : xG} {nm : String} {tW sq sv : Nat} {sw : Value} {b L : Nat} {xs : Nat → Int32} {Z : Option Value → va_W → Nat → Nat → Prop} {K : xKt} (X : xR l G (xEL tW sq sv sw b L xs) RL nm cL_law 4 room_1 Z K) {o : Nat} {x : Nat → Nat} {w : Nat → Nat} {d : Nat → Nat} {h : Nat → Nat} {g : Nat → Nat} {q : Nat → Nat} {e : Nat} {ad : Nat → Nat → Nat} {ad2 : Nat → Nat → Nat} {a : Nat → Nat} (hL : L ≤ 384) {i : Nat} (hi : i + 6 ≤ L) (kk : ∀ (s : xS) (sd : xS) (le : Nat → Int32) (nl : Nat) (nu : Nat → Int32) (nc : Nat) (lw : Nat) (sz : Nat) (cs : Nat → xS) (lw2 : Nat) (sz2 : Nat) (cs2 : Nat → xS) (th : Nat → Int32) (sa : Nat → Int32) (ns : Nat) (f : Nat → Int32) (pa : Nat) (rp : Nat) (rq : Nat) (kd : Nat → Int32) (W : Nat → Int32) (Kp : Nat → Int32) (sg : Nat → Int32) (le2 : Nat → Int32) (tl : Nat → Int32) (rk : Nat → Int32) (rd : Nat → Int32) (nw : Nat → Int32) (rw : Nat → Int32), LI s kd le le2 nl lw sz cs W lw2 sz2 cs2 Kp ns th sa sg → K (xJ [wInk G o x w d h g q e, wTx G x le nl nu nc, wCq G w s, wCq G d sd, wSh8 G h ad lw sz, wSh2 G g ad2 lw2 sz2, wSg G q th sa ns, wIA G e 41 f, wMo G a s.1 s.2.1 sz sz2 ns nl pa rp rq kd (en s) W Kp sg le2 tl rk rd nw rw, wCs G ad cs 8, wCs G ad2 cs2 2]) 84 2407 1149 [(3, .int (nI i)), (2, .ref (a 0)), (1, .ref o), (0, .ref b)] []) (s : xS) (sd : xS) (le : Nat → Int32) (nl : Nat) (nu : Nat → Int32) (nc : Nat) (lw : Nat) (sz : Nat) (cs : Nat → xS) (lw2 : Nat) (sz2 : Nat) (cs2 : Nat → xS) (th : Nat → Int32) (sa : Nat → Int32) (ns : Nat) (f : Nat → Int32) (pa : Nat) (rp : Nat) (rq : Nat) (kd : Nat → Int32) (W : Nat → Int32) (Kp : Nat → Int32) (sg : Nat → Int32) (le2 : Nat → Int32) (tl : Nat → Int32) (rk : Nat → Int32) (rd : Nat → Int32) (nw : Nat → Int32) (rw : Nat → Int32) (h0 : LI s kd le le2 nl lw sz cs W lw2 sz2 cs2 Kp ns th sa sg) : K (xJ [wInk G o x w d h g q e, wTx G x le nl nu nc, wCq G w s, wCq G d sd, wSh8 G h ad lw sz, wSh2 G g ad2 lw2 sz2, wSg G q th sa ns, wIA G e 41 f, wMo G a s.1 s.2.1 sz sz2 ns nl pa rp rq kd (en s) W Kp sg le2 tl rk rd nw rw, wCs G ad cs 8, wCs G ad2 cs2 2]) 84 2407 1113 [(3, .int (nI i)), (2, .ref (a 0)), (1, .ref o), (0, .ref b)] [] := by
  have hall := h0
  obtain ⟨⟨hg, hs1, hkd⟩, ⟨hnl, hle⟩, ⟨hlw, hsz, hW, hcs⟩, ⟨hlw2, hsz2, hKp, hcs2⟩, ⟨hns, hsg, hth⟩⟩ := h0
  obtain ⟨hs6, ⟨hq1, hq5⟩, hmi, hbv, hbl⟩ := hg
  have hg : GS s := hall.st.gs
  refine x_aloadn X dL_law_1113 2 rfl ?_
  refine x_callVJfv (As := []) (rest := []) (segs := [wInk G o x w d h g q e, wTx G x le nl nu nc, wCq G w s, wCq G d sd, wSh8 G h ad lw sz, wSh2 G g ad2 lw2 sz2, wSg G q th sa ns, wIA G e 41 f, wMo G a s.1 s.2.1 sz sz2 ns nl pa rp rq kd (en s) W Kp sg le2 tl rk rd nw rw, wCs G ad cs 8, wCs G ad2 cs2 2]) (segs' := [wInk G o x w d h g q e, wTx G x le nl nu nc, wCq G w (F_backS s cs2 lw2 sz2), wCq G d sd, wSh8 G h ad lw (if sz2 = 0 then sz else 0), wSh2 G g ad2 lw2 (sz2 - 1), wSg G q th sa ns, wIA G e 41 f, wMo G a s.1 s.2.1 sz sz2 ns nl pa rp rq kd (en s) W Kp sg le2 tl rk rd nw rw, wCs G ad cs 8, wCs G ad2 cs2 2]) (mid := [wTx G x le nl nu nc, wCq G d sd, wSg G q th sa ns, wIA G e 41 f, wMo G a s.1 s.2.1 sz sz2 ns nl pa rp rq kd (en s) W Kp sg le2 tl rk rd nw rw, wCs G ad cs 8]) (w1 := xJ [wInk G o x w d h g q e, wSh8 G h ad lw (if sz2 = 0 then sz else 0), wSh2 G g ad2 lw2 (sz2 - 1), wCq G w (F_backS s cs2 lw2 sz2), wCs G ad2 cs2 2]) [0, 4, 5, 2, 10] [1, 3, 6, 7, 8, 9] (show ([0, 4, 5, 2, 10] ++ [1, 3, 6, 7, 8, 9] : List Nat).Perm (List.range 11) from by decide) rfl X (c_X4_back l G o x w d h g q e ad lw sz ad2 lw2 sz2 s cs2 (by omega) (by omega) (by omega) (by assumption) (by omega) (by omega)) rfl rfl rfl rfl xE0_ok (fun _ _ _ => trivial) 0 rfl rfl rfl wco_X4_back wi_X4 xd_X4_back wl_L_131 win_X4_back wse_X4_back (by decide) (Nat.le_of_ble_eq_true rfl) dL_law_1114 (by simp only [xJ, List.map_append, skCs, wCh, wIA, wTx, wSg, wSh8, wSh2, wInk, List.map_cons, List.map_nil]) ?_
  refine x_aloadn X dL_law_1117 1 rfl ?_
  refine x_callVJfv (As := []) (rest := [.int (F_undo sz2)]) (segs := [wInk G o x w d h g q e, wTx G x le nl nu nc, wCq G w (F_backS s cs2 lw2 sz2), wCq G d sd, wSh8 G h ad lw (if sz2 = 0 then sz else 0), wSh2 G g ad2 lw2 (sz2 - 1), wSg G q th sa ns, wIA G e 41 f, wMo G a s.1 s.2.1 sz sz2 ns nl pa rp rq kd (en s) W Kp sg le2 tl rk rd nw rw, wCs G ad cs 8, wCs G ad2 cs2 2]) (segs' := [wInk G o x w d h g q e, wTx G x le nl nu nc, wCq G w (F_backS s cs2 lw2 sz2), wCq G d sd, wSh8 G h ad lw (if sz2 = 0 then sz else 0), wSh2 G g ad2 lw2 (sz2 - 1), wSg G q th sa ns, wIA G e 41 f, wMo G a s.1 s.2.1 (if sz2 = 0 then sz else 0) (sz2 - 1) ns nl pa rp rq kd (en (mUn s (fun j => cs2 ((lw2 + j) % 2)) sz2)) W Kp sg le2 tl rk rd nw rw, wCs G ad cs 8, wCs G ad2 cs2 2]) (mid := [wInk G o x w d h g q e, wTx G x le nl nu nc, wCq G w (F_backS s cs2 lw2 sz2), wCq G d sd, wSh8 G h ad lw (if sz2 = 0 then sz else 0), wSh2 G g ad2 lw2 (sz2 - 1), wSg G q th sa ns, wIA G e 41 f, wCs G ad cs 8, wCs G ad2 cs2 2]) (w1 := wMo G a s.1 s.2.1 (if sz2 = 0 then sz else 0) (sz2 - 1) ns nl pa rp rq kd (en (mUn s (fun j => cs2 ((lw2 + j) % 2)) sz2)) W Kp sg le2 tl rk rd nw rw) [8] [0, 1, 2, 3, 4, 5, 6, 7, 9, 10] (show ([8] ++ [0, 1, 2, 3, 4, 5, 6, 7, 9, 10] : List Nat).Perm (List.range 11) from by decide) rfl X (c_X5_back l G a sz sz2 ns nl pa rp rq kd W Kp sg le2 tl rk rd nw rw s (fun j => cs2 ((lw2 + j) % 2)) hKp (by omega)) rfl rfl rfl rfl xE0_ok (fun _ _ _ => trivial) 0 rfl rfl rfl wco_X5_back wi_X5 xd_X5_back wl_L_134 win_X5_back wse_X5_back (by decide) (Nat.le_of_ble_eq_true rfl) dL_law_1118 (Eq.trans (b := [a 0, a 1, a 2, a 3, a 4, a 5, a 6, a 7, a 8, a 9, a 10, a 11]) rfl rfl) ?_
  refine x_icmp_eq 1149 X dL_law_1121 (by decide) (fun c_1 => ?_) (fun c_1 => ?_)
  · -- 1121 t
    have hS : GS (F_backS s cs2 lw2 sz2) ∧ SE (F_backS s cs2 lw2 sz2) s := undo_ok hall.kp hg
    rw [show mUn s (fun j => cs2 ((lw2 + j) % 2)) sz2 = F_backS s cs2 lw2 sz2 from rfl]
    have hk := kk (F_backS s cs2 lw2 sz2) sd le nl nu nc lw (if sz2 = 0 then sz else 0) cs lw2 (sz2 - 1) cs2 th sa ns f pa rp rq kd W Kp sg le2 tl rk rd nw rw (⟨hall.st.to hS.1 hS.2, hall.tx, hall.ps.back (fun e => if_pos e), (hall.kp.le (Nat.sub_le _ _)).to hS.2, hall.si⟩)
    rw [hS.2.1, hS.2.2.1] at hk
    exact hk
  · -- 1121 f
    exact absurd rfl c_1
set_option maxRecDepth 100000 in
set_option maxHeartbeats 4000000 in
/-- count -/
theorem lw_count {l : Launch} {G : xG} {nm : String} {tW sq sv : Nat} {sw : Value} {b L : Nat} {xs : Nat → Int32} {Z : Option Value → va_W → Nat → Nat → Prop} {K : xKt} (X : xR l G (xEL tW sq sv sw b L xs) RL nm cL_law 4 room_1 Z K) {o : Nat} {x : Nat → Nat} {w : Nat → Nat} {d : Nat → Nat} {h : Nat → Nat} {g : Nat → Nat} {q : Nat → Nat} {e : Nat} {ad : Nat → Nat → Nat} {ad2 : Nat → Nat → Nat} {a : Nat → Nat} (hL : L ≤ 384) {i : Nat} (hi : i + 6 ≤ L) (kk : ∀ (s : xS) (sd : xS) (le : Nat → Int32) (nl : Nat) (nu : Nat → Int32) (nc : Nat) (lw : Nat) (sz : Nat) (cs : Nat → xS) (lw2 : Nat) (sz2 : Nat) (cs2 : Nat → xS) (th : Nat → Int32) (sa : Nat → Int32) (ns : Nat) (f : Nat → Int32) (pa : Nat) (rp : Nat) (rq : Nat) (kd : Nat → Int32) (W : Nat → Int32) (Kp : Nat → Int32) (sg : Nat → Int32) (le2 : Nat → Int32) (tl : Nat → Int32) (rk : Nat → Int32) (rd : Nat → Int32) (nw : Nat → Int32) (rw : Nat → Int32), LI s kd le le2 nl lw sz cs W lw2 sz2 cs2 Kp ns th sa sg → K (xJ [wInk G o x w d h g q e, wTx G x le nl nu nc, wCq G w s, wCq G d sd, wSh8 G h ad lw sz, wSh2 G g ad2 lw2 sz2, wSg G q th sa ns, wIA G e 41 f, wMo G a s.1 s.2.1 sz sz2 ns nl pa rp rq kd (en s) W Kp sg le2 tl rk rd nw rw, wCs G ad cs 8, wCs G ad2 cs2 2]) 84 2407 1149 [(3, .int (nI i)), (2, .ref (a 0)), (1, .ref o), (0, .ref b)] []) (s : xS) (sd : xS) (le : Nat → Int32) (nl : Nat) (nu : Nat → Int32) (nc : Nat) (lw : Nat) (sz : Nat) (cs : Nat → xS) (lw2 : Nat) (sz2 : Nat) (cs2 : Nat → xS) (th : Nat → Int32) (sa : Nat → Int32) (ns : Nat) (f : Nat → Int32) (pa : Nat) (rp : Nat) (rq : Nat) (kd : Nat → Int32) (W : Nat → Int32) (Kp : Nat → Int32) (sg : Nat → Int32) (le2 : Nat → Int32) (tl : Nat → Int32) (rk : Nat → Int32) (rd : Nat → Int32) (nw : Nat → Int32) (rw : Nat → Int32) (h0 : LI s kd le le2 nl lw sz cs W lw2 sz2 cs2 Kp ns th sa sg) : K (xJ [wInk G o x w d h g q e, wTx G x le nl nu nc, wCq G w s, wCq G d sd, wSh8 G h ad lw sz, wSh2 G g ad2 lw2 sz2, wSg G q th sa ns, wIA G e 41 f, wMo G a s.1 s.2.1 sz sz2 ns nl pa rp rq kd (en s) W Kp sg le2 tl rk rd nw rw, wCs G ad cs 8, wCs G ad2 cs2 2]) 84 2407 1126 [(3, .int (nI i)), (2, .ref (a 0)), (1, .ref o), (0, .ref b)] [] := by
  have hall := h0
  obtain ⟨⟨hg, hs1, hkd⟩, ⟨hnl, hle⟩, ⟨hlw, hsz, hW, hcs⟩, ⟨hlw2, hsz2, hKp, hcs2⟩, ⟨hns, hsg, hth⟩⟩ := h0
  obtain ⟨hs6, ⟨hq1, hq5⟩, hmi, hbv, hbl⟩ := hg
  have hg : GS s := hall.st.gs
  refine x_aloadn X dL_law_1126 2 rfl ?_
  refine x_aloadn X dL_law_1127 3 rfl ?_
  refine x_iloadn X dL_law_1128 0 rfl ?_
  refine x_iconst (v := nI 1) X dL_law_1129 (by decide) ?_
  refine x_iadd (v := nI (i + 1)) X dL_law_1130 (nI_add _ _) ?_
  refine x_sld X (fun _ _ h => h.2.2) (by omega) (by omega) dL_law_1131 ?_
  refine x_callVJrv (As := [.int (xs (i + 1))]) (rest := []) (segs := [wInk G o x w d h g q e, wTx G x le nl nu nc, wCq G w s, wCq G d sd, wSh8 G h ad lw sz, wSh2 G g ad2 lw2 sz2, wSg G q th sa ns, wIA G e 41 f, wMo G a s.1 s.2.1 sz sz2 ns nl pa rp rq kd (en s) W Kp sg le2 tl rk rd nw rw, wCs G ad cs 8, wCs G ad2 cs2 2]) [0, 2, 6, 4, 5, 1] [3, 7, 8, 9, 10] (show ([0, 2, 6, 4, 5, 1] ++ [3, 7, 8, 9, 10] : List Nat).Perm (List.range 11) from by decide) X (c_X4_count l G o x w d h g q e s th sa ns ad lw sz ad2 lw2 sz2 le nl nu nc (xs (i + 1)) (by omega) (by omega) (by omega) (by assumption)) rfl xE0_ok (fun _ _ _ => trivial) 0 rfl rfl rfl wco_X4_count wi_X4 xd_X4_count wl_L_135 win_X4_count wse_X4_count (by decide) (Nat.le_of_ble_eq_true rfl) dL_law_1132 ?_
  refine x_aloadn X dL_law_1135 1 rfl ?_
  refine x_aloadn X dL_law_1136 3 rfl ?_
  refine x_iloadn X dL_law_1137 0 rfl ?_
  refine x_iconst (v := nI 1) X dL_law_1138 (by decide) ?_
  refine x_iadd (v := nI (i + 1)) X dL_law_1139 (nI_add _ _) ?_
  refine x_sld X (fun _ _ h => h.2.2) (by omega) (by omega) dL_law_1140 ?_
  refine x_callVJ (As := [.int (xs (i + 1))]) (rest := [.int (F_count s ns sz sz2 nl (xs (i + 1)))]) (segs := [wInk G o x w d h g q e, wTx G x le nl nu nc, wCq G w s, wCq G d sd, wSh8 G h ad lw sz, wSh2 G g ad2 lw2 sz2, wSg G q th sa ns, wIA G e 41 f, wMo G a s.1 s.2.1 sz sz2 ns nl pa rp rq kd (en s) W Kp sg le2 tl rk rd nw rw, wCs G ad cs 8, wCs G ad2 cs2 2]) [8] [0, 1, 2, 3, 4, 5, 6, 7, 9, 10] (show ([8] ++ [0, 1, 2, 3, 4, 5, 6, 7, 9, 10] : List Nat).Perm (List.range 11) from by decide) X (c_X5_count l G a sz sz2 ns nl pa rp rq kd W Kp sg le2 tl rk rd nw rw s (xs (i + 1)) (by omega) (by omega) (by omega) (by omega) (by assumption) (by assumption) (by assumption) (by assumption)) rfl xE0_ok (fun _ _ _ => trivial) 0 rfl rfl rfl wco_X5_count wi_X5 xd_X5_count wl_L_138 win_X5_count wse_X5_count (by decide) (Nat.le_of_ble_eq_true rfl) dL_law_1141 (fun w2 h => by obtain ⟨nw_1, rfl⟩ := h; exact (Eq.trans (b := [a 0, a 1, a 2, a 3, a 4, a 5, a 6, a 7, a 8, a 9, a 10, a 11]) rfl rfl)) (fun w_2 hw_2 => ?_)
  obtain ⟨nw_1, rfl⟩ := hw_2
  refine x_backV (segs := [wInk G o x w d h g q e, wTx G x le nl nu nc, wCq G w s, wCq G d sd, wSh8 G h ad lw sz, wSh2 G g ad2 lw2 sz2, wSg G q th sa ns, wIA G e 41 f, wMo G a s.1 s.2.1 sz sz2 ns nl pa rp rq kd (en s) W Kp sg le2 tl rk rd nw rw, wCs G ad cs 8, wCs G ad2 cs2 2]) (segs' := [wInk G o x w d h g q e, wTx G x le nl nu nc, wCq G w s, wCq G d sd, wSh8 G h ad lw sz, wSh2 G g ad2 lw2 sz2, wSg G q th sa ns, wIA G e 41 f, wMo G a s.1 s.2.1 sz sz2 ns nl pa rp rq kd (en s) W Kp sg le2 tl rk rd nw_1 rw, wCs G ad cs 8, wCs G ad2 cs2 2]) (mid := [wInk G o x w d h g q e, wTx G x le nl nu nc, wCq G w s, wCq G d sd, wSh8 G h ad lw sz, wSh2 G g ad2 lw2 sz2, wSg G q th sa ns, wIA G e 41 f, wCs G ad cs 8, wCs G ad2 cs2 2]) [8] [0, 1, 2, 3, 4, 5, 6, 7, 9, 10] (show ([8] ++ [0, 1, 2, 3, 4, 5, 6, 7, 9, 10] : List Nat).Perm (List.range 11) from by decide) X rfl rfl rfl ?_
  refine x_wst (ws' := xJ [wInk G o x w d h g q e, wTx G x le nl nu nc, wCq G w s, wCq G d sd, wSh8 G h ad lw sz, wSh2 G g ad2 lw2 sz2, wSg G q th sa ns, wIA G e 41 f, wMo G a s.1 s.2.1 sz sz2 ns nl pa rp rq kd (en s) W Kp sg le2 tl rk rd nw_1 rw, wCs G ad cs 8, wCs G ad2 cs2 2]) (st' := [.int (F_count s ns sz sz2 nl (xs (i + 1))), .int (F_count s ns sz sz2 nl (xs (i + 1)))]) rfl rfl ?_
  refine x_icmp_eq 1149 X dL_law_1144 (by decide) (fun c_3 => ?_) (fun c_3 => ?_)
  · -- 1144 t
    exact kk s sd le nl nu nc lw sz cs lw2 sz2 cs2 th sa ns f pa rp rq kd W Kp sg le2 tl rk rd nw_1 rw hall
  · -- 1144 f
    exact absurd rfl c_3

