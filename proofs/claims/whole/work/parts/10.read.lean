/-! ===== the whole reading of THE TEXT; the shelves ===== -/
abbrev wCs8 (G : xG) (ad : Nat → Nat → Nat) (cs : Nat → xS) : va_W := wCq G (ad 0) (cs 0) ++ wCq G (ad 1) (cs 1) ++ wCq G (ad 2) (cs 2) ++ wCq G (ad 3) (cs 3) ++ wCq G (ad 4) (cs 4) ++ wCq G (ad 5) (cs 5) ++ wCq G (ad 6) (cs 6) ++ wCq G (ad 7) (cs 7)
abbrev wCs2 (G : xG) (ad : Nat → Nat → Nat) (cs : Nat → xS) : va_W := wCq G (ad 0) (cs 0) ++ wCq G (ad 1) (cs 1)
abbrev wSh8 (G : xG) (a : Nat → Nat) (ad : Nat → Nat → Nat) (lw sz : Nat) : va_W := [(a 0, .inr (1, [.ref (a 1), .int (nI lw), .int (nI sz)])), (a 1, .inl (G.2.2, 8, .inr (.inr (.inr (.inr (fun i => some (ad i 0)))))))]
abbrev wSh2 (G : xG) (a : Nat → Nat) (ad : Nat → Nat → Nat) (lw sz : Nat) : va_W := [(a 0, .inr (1, [.ref (a 1), .int (nI lw), .int (nI sz)])), (a 1, .inl (G.2.2, 2, .inr (.inr (.inr (.inr (fun i => some (ad i 0)))))))]
def updS (cs : Nat → xS) (i : Nat) (s : xS) : Nat → xS := fun j => if j = i then s else cs j
section XR
variable {l : Launch} {G : xG} {E : xE} {own nm : String} {cc : ByteArray} {nL : Nat} {R : Room} {Z : Option Value → va_W → Nat → Nat → Prop} {K : xKt} {ws : va_W} {k z pc : Nat} {lv : xL} {st : List Value}
theorem x_ifnonnullN {off : Int} (X : xR l G E own nm cc nL R Z K) (hdg : decode cc pc = .ok (.ifnonnull off, 3)) (kk : K ws k z (pc + 3) lv st) : K ws k z pc lv (.null :: st) := by
  obtain ⟨p, e, s, m, args, below, meth, c, Q, A, hx, hb, hml, hown, hts, hK, hE, hA, hnm, rfl, hZ⟩ := X
  intro H locs ls hP hD hS hl
  exact lv_ifnonnullN hx hb hdg (kk H locs ls hP hD hS hl)
theorem x_aloadnN {k0 : Fin 4} (X : xR l G E own nm cc nL R Z K) (hdg : decode cc pc = .ok (.aload_n k0, 1)) (j : Nat) (hj : lv[j]? = some ((k0 : Nat), .null)) (kk : K ws k z (pc + 1) lv (.null :: st)) : K ws k z pc lv st := by
  obtain ⟨p, e, s, m, args, below, meth, c, Q, A, hx, hb, hml, hown, hts, hK, hE, hA, hnm, rfl, hZ⟩ := X
  intro H locs ls hP hD hS hl
  exact lv_aload_nN hx hb hdg rfl (lv_at hl j hj) (kk H locs ls hP hD hS hl)
theorem x_astorenN {k0 : Fin 4} {lv' : xL} (X : xR l G E own nm cc nL R Z K) (hdg : decode cc pc = .ok (.astore_n k0, 1)) (hn : (k0 : Nat) < nL) (hl' : ((k0 : Nat), Value.null) :: lv.filter (fun q => !(q.1 == (k0 : Nat)) && !(q.1 + 1 == (k0 : Nat) && q.2.category == 2)) = lv') (kk : K ws k z (pc + 1) lv' st) : K ws k z pc lv (.null :: st) := by
  obtain ⟨p, e, s, m, args, below, meth, c, Q, A, hx, hb, hml, hown, hts, hK, hE, hA, hnm, rfl, hZ⟩ := X
  intro H locs ls hP hD hS hl
  exact lv_astore_nN hx hb hdg rfl hl hn hl' (fun ls1 h1 => kk H locs ls1 hP hD hS h1)
end XR
/-- PERSONS stay 6 at most while a TEXT is read -/
theorem itS_le {x : Int32} {c : Nat} {v0 v1 v2 : Int32} {s : xS} (h : s.1 ≤ 6) : (itS x c v0 v1 v2 s).1 ≤ 6 := by
  simp only [itS, tellQ, tellP, tellV]
  split
  · split
    · split <;> exact h
    · exact h
  · split
    · split
      · split
        · rename_i h2
          simp [tellPok] at h2
          show s.1 + 1 ≤ 6
          omega
        · exact h
      · exact h
    · split
      · split
        · split <;> exact h
        · exact h
      · exact h
theorem rdN_c3 (le : Nat → Int32) (nl p : Nat) : (rdN le nl 3 p).1 ≤ 3 := by
  have h0 : ∀ k p, (rdN le nl k p).1 ≤ k := by
    intro k
    induction k with
    | zero => intro p; exact Nat.le_refl 0
    | succ k ih =>
      intro p
      simp only [rdN, bump]
      have := ih (p + figs le nl p + 1)
      split
      · exact Nat.zero_le _
      · split
        · show 1 ≤ k + 1; omega
        · split
          · split
            · exact Nat.zero_le _
            · show (rdN le nl k (p + figs le nl p + 1)).1 + 1 ≤ k + 1; omega
          · exact Nat.zero_le _
  exact h0 3 p
theorem rdB_no {r : Nat × Nat} (h : rdB r = (-4)) (hr : r.2 < 2 ^ 31) : r.1 = 0 := by
  unfold rdB at h
  split at h
  · assumption
  · exfalso
    have h2 := congrArg Int32.toInt h
    rw [nI_toInt hr] at h2
    have e : (-4 : Int32).toInt = -4 := by decide
    omega
theorem rdB_yes {r : Nat × Nat} (h : ¬ rdB r = (-4)) : r.1 ≠ 0 ∧ rdB r = nI r.2 := by
  unfold rdB at h ⊢
  split at h
  · exact absurd rfl h
  · rename_i h1
    exact ⟨h1, if_neg h1⟩
theorem rdN_le3 (le : Nat → Int32) (nl p : Nat) (hnl : nl ≤ 200) : (rdN le nl 3 p).2 < 2 ^ 31 := by
  by_cases h : (rdN le nl 3 p).1 = 0
  · have h0 : ∀ k p, (rdN le nl k p).1 = 0 → (rdN le nl k p).2 = 0 := by
      intro k
      induction k with
      | zero => intro p _; rfl
      | succ k ih =>
        intro p
        simp only [rdN, bump]
        split
        · intro _; rfl
        · split
          · intro h; simp at h
          · split
            · split
              · intro _; rfl
              · intro h; simp at h
            · intro _; rfl
    rw [h0 3 p h]; decide
  · have := (rdN_le le nl 3 p h).1
    omega
theorem prs_end {le : Nat → Int32} {nl k p : Nat} {s : xS} (h : nl ≤ p) : prs le nl k p s = ((-4), s) := by
  cases k with
  | zero => rfl
  | succ k => rw [prs, if_neg (by omega)]
theorem prs_no {le : Nat → Int32} {nl k p : Nat} {s : xS} (h : p < nl) (h1 : (rdN le nl 3 (p + 1)).1 = 0) : prs le nl (k + 1) p s = (nI p, s) := by rw [prs, if_pos h, if_pos h1]
theorem prs_bad {le : Nat → Int32} {nl k p : Nat} {s : xS} {v0 v1 v2 : Int32} (h : p < nl) (h1 : ¬ (rdN le nl 3 (p + 1)).1 = 0) (g0 : 1 ≤ (rdN le nl 3 (p + 1)).1 → v0 = valN le nl (p + 1)) (g1 : 2 ≤ (rdN le nl 3 (p + 1)).1 → v1 = valN le nl (nx le nl (p + 1))) (g2 : 3 ≤ (rdN le nl 3 (p + 1)).1 → v2 = valN le nl (nx le nl (nx le nl (p + 1)))) (hb : itB (ltA le nl p) (rdN le nl 3 (p + 1)).1 v0 v1 v2 s = false) :
    prs le nl (k + 1) p s = (nI p, itS (ltA le nl p) (rdN le nl 3 (p + 1)).1 v0 v1 v2 s) := by
  obtain ⟨e1, e2⟩ := it_cg (x := ltA le nl p) (s := s) g0 g1 g2
  rw [prs, if_pos h, if_neg h1, ← e1, ← e2, hb]
  rfl
theorem prs_ok {le : Nat → Int32} {nl k p : Nat} {s : xS} {v0 v1 v2 : Int32} (h : p < nl) (h1 : ¬ (rdN le nl 3 (p + 1)).1 = 0) (g0 : 1 ≤ (rdN le nl 3 (p + 1)).1 → v0 = valN le nl (p + 1)) (g1 : 2 ≤ (rdN le nl 3 (p + 1)).1 → v1 = valN le nl (nx le nl (p + 1))) (g2 : 3 ≤ (rdN le nl 3 (p + 1)).1 → v2 = valN le nl (nx le nl (nx le nl (p + 1)))) (hb : itB (ltA le nl p) (rdN le nl 3 (p + 1)).1 v0 v1 v2 s = true) :
    prs le nl (k + 1) p s = prs le nl k (rdN le nl 3 (p + 1)).2 (itS (ltA le nl p) (rdN le nl 3 (p + 1)).1 v0 v1 v2 s) := by
  obtain ⟨e1, e2⟩ := it_cg (x := ltA le nl p) (s := s) g0 g1 g2
  rw [prs, if_pos h, if_neg h1, ← e1, ← e2, hb]
  rfl

set_option maxRecDepth 100000 in
set_option maxHeartbeats 4000000 in
/-- X3_readInto -/
theorem c_X3_readInto (l : Launch) (G : xG) (a : Nat → Nat) (le : Nat → Int32) (nl : Nat) (nu : Nat → Int32) (nc : Nat) (b : Nat → Nat) (s : xS) (hl : nl ≤ 200) : xM l G xE0 yX3_readInto cX3_readInto 5 (some .int) 4 91 0 0 [.ref (a 0), .ref (b 0)] (xJ [wTx G a le nl nu nc, wCq G b s]) (some (.int ((prs le nl 200 0 blankS).1))) (fun w2 => ∃ nu' : Nat → Int32, ∃ nc' : Nat, w2 = xJ [wTx G a le nl nu' nc', wCq G b ((prs le nl 200 0 blankS).2)]) := by
  refine x_entry (by decide +kernel) (Nat.le_of_ble_eq_true rfl) rfl ⟨_, rfl, rfl⟩ (fun K X => ?_)
  refine x_aloadn X dX3_readInto_0 1 rfl ?_
  refine x_callVf0 (As := []) (rest := []) (w1 := wCh G b 0 3 (fun _ => nI 0) (fun _ => nI 0) (fun _ => nI 0) (fun _ => nI 100)) (ws' := xJ [wTx G a le nl nu nc, wCh G b 0 3 (fun _ => nI 0) (fun _ => nI 0) (fun _ => nI 0) (fun _ => nI 100)]) X (c_X0_becomeBlank l G b s.1 s.2.1 s.2.2.1 s.2.2.2.1 s.2.2.2.2.1 s.2.2.2.2.2) xE0_ok (fun _ _ _ => trivial) [3, 4, 5, 6, 7] rfl 0 rfl rfl rfl rfl wco_X0_becomeBlank wi_X0 xd_X0_becomeBlank wl_X3_26 win_X0_becomeBlank wse_X0_becomeBlank (by decide) (Nat.le_of_ble_eq_true rfl) dX3_readInto_1 rfl (Eq.trans (b := [b 0, b 1, b 2, b 3, b 4]) rfl rfl) rfl ?_
  refine x_iconst (v := nI 0) X dX3_readInto_4 (by decide) ?_
  refine x_istoren (lv' := [(2, .int (nI 0)), (0, .ref (a 0)), (1, .ref (b 0))]) X dX3_readInto_5 (by decide) rfl ?_
  refine x_iconst (v := nI 0) X dX3_readInto_6 (by decide) ?_
  refine x_istoren (lv' := [(3, .int (nI 0)), (2, .int (nI 0)), (0, .ref (a 0)), (1, .ref (b 0))]) X dX3_readInto_7 (by decide) rfl ?_
  have L8 : ∀ (fu : Nat) (i : Nat) (p : Nat) (u : Nat → Int32) (o : Nat) (s : xS), 200 - i < fu → (i ≤ 200) → (p ≤ nl) → (s.1 ≤ 6) → (prs le nl (200 - i) p s = prs le nl 200 0 blankS) → K (xJ [wTx G a le nl u o, wCq G b s]) 0 0 8 [(0, .ref (a 0)), (1, .ref (b 0)), (2, .int (nI p)), (3, .int (nI i))] [] := by
    intro fu
    induction fu with
    | zero => intro i p u o s hfu; exact absurd hfu (Nat.not_lt_zero _)
    | succ fu ih_L8 =>
      intro i p u o s hfu_L8 hi hp hs6 hR
      refine x_iloadn X dX3_readInto_8 3 rfl ?_
      refine x_sipush (v := nI 200) X dX3_readInto_9 (by decide) ?_
      refine x_icmp_ge_n 63 X dX3_readInto_12 (by decide) (by omega) (by omega) (fun c_1 => ?_) (fun c_1 => ?_)
      · -- 12 t
        have n_1 := Nat.not_lt.mpr c_1
        refine x_bipush (v := (-4)) X dX3_readInto_63 (by decide) ?_
        exact x_ret X dX3_readInto_65 ⟨ret_i (by rw [← hR]; first | rw [prs_end (by omega)] | (rw [show 200 - i = 0 by omega]; rfl)), ⟨u, o, (by rw [← hR]; first | rw [prs_end (by omega)] | (rw [show 200 - i = 0 by omega]; rfl))⟩, by decide, by decide⟩
      · -- 12 f
        refine x_iloadn X dX3_readInto_15 2 rfl ?_
        refine x_aloadn X dX3_readInto_16 0 rfl ?_
        refine x_get X wu_X3 0 rfl rfl 1 (by decide) wf_X3_18 rfl rfl dX3_readInto_17 ?_
        refine x_icmp_ge_n 63 X dX3_readInto_20 (by decide) (by omega) (by omega) (fun c_2 => ?_) (fun c_2 => ?_)
        · -- 20 t
          have n_2 := Nat.not_lt.mpr c_2
          refine x_bipush (v := (-4)) X dX3_readInto_63 (by decide) ?_
          exact x_ret X dX3_readInto_65 ⟨ret_i (by rw [← hR]; first | rw [prs_end (by omega)] | (rw [show 200 - i = 0 by omega]; rfl)), ⟨u, o, (by rw [← hR]; first | rw [prs_end (by omega)] | (rw [show 200 - i = 0 by omega]; rfl))⟩, by decide, by decide⟩
        · -- 20 f
          refine x_aloadn X dX3_readInto_23 0 rfl ?_
          refine x_iloadn X dX3_readInto_24 2 rfl ?_
          refine x_iconst (v := nI 1) X dX3_readInto_25 (by decide) ?_
          refine x_iadd (v := nI (p + 1)) X dX3_readInto_26 (nI_add _ _) ?_
          refine x_callV (As := [.int (nI (p + 1))]) (rest := []) X (c_X3_readNumbers l G a le nl u o (p + 1) (by omega) (by omega)) xE0_ok (fun _ _ _ => trivial) [0, 1, 2] rfl 0 rfl rfl rfl rfl wco_X3_readNumbers wi_X3 xd_X3_readNumbers wl_X3_31 win_X3_readNumbers wse_X3_readNumbers (by decide) (Nat.le_of_ble_eq_true rfl) dX3_readInto_27 (fun w2 h => by obtain ⟨_, _, rfl, -⟩ := h; exact ⟨rfl, Eq.trans (b := [a 0, a 1, a 2]) rfl rfl⟩) (fun w_5 hw_5 => ?_)
          obtain ⟨nu_3, nc_4, rfl, f_6, f_7, f_8, f_9⟩ := hw_5
          refine x_wst (ws' := xJ [wTx G a le nl nu_3 nc_4, wCq G b s]) (st' := [.int (rdB (rdN le nl 3 (p + 1)))]) rfl rfl ?_
          obtain ⟨cc, ecc⟩ : ∃ r, r = rdN le nl 3 (p + 1) := ⟨_, rfl⟩
          have hc3 := rdN_c3 le nl (p + 1)
          have hb31 := rdN_le3 le nl (p + 1) hl
          rw [← ecc] at f_6 f_7 f_8 f_9 hc3 hb31
          rw [← ecc]
          refine x_istore (lv' := [(4, .int (rdB cc)), (0, .ref (a 0)), (1, .ref (b 0)), (2, .int (nI p)), (3, .int (nI i))]) X dX3_readInto_30 (by decide) rfl ?_
          refine x_iload X dX3_readInto_32 0 rfl ?_
          refine x_bipush (v := (-4)) X dX3_readInto_34 (by decide) ?_
          refine x_icmp_eq 52 X dX3_readInto_36 (by decide) (fun c_10 => ?_) (fun c_10 => ?_)
          · -- 36 t
            refine x_iloadn X dX3_readInto_52 3 rfl ?_
            exact x_ret X dX3_readInto_53 ⟨ret_i (by rw [← hR, show 200 - i = (199 - i) + 1 by omega]; rw [prs_no (by assumption) (by rw [← ecc]; exact rdB_no c_10 hb31)]), ⟨nu_3, nc_4, (by rw [← hR, show 200 - i = (199 - i) + 1 by omega]; rw [prs_no (by assumption) (by rw [← ecc]; exact rdB_no c_10 hb31)])⟩, by decide, by decide⟩
          · -- 36 f
            obtain ⟨hcn, hcb⟩ := rdB_yes c_10
            have hle := rdN_le le nl 3 (p + 1) (by rw [← ecc]; exact hcn)
            rw [← ecc] at hle
            refine x_lv (lv' := [(4, .int (rdB cc)), (0, .ref (a 0)), (1, .ref (b 0)), (2, .int (nI p)), (3, .int (nI i))]) X [0, 1, 2, 3, 4] rfl ?_
            rw [hcb]
            refine x_aloadn X dX3_readInto_39 1 rfl ?_
            refine x_aloadn X dX3_readInto_40 1 rfl ?_
            refine x_iloadn X dX3_readInto_41 3 rfl ?_
            refine x_callVrv (As := [.int (nI p)]) (rest := [.ref (a 0)]) X (c_X3_letterAt l G a le nl nu_3 nc_4 p (by omega) (by omega)) xE0_ok (fun _ _ _ => trivial) [0, 1, 2] rfl 0 rfl rfl rfl rfl wco_X3_letterAt wi_X3 xd_X3_letterAt wl_X3_35 win_X3_letterAt wse_X3_letterAt (by decide) (Nat.le_of_ble_eq_true rfl) dX3_readInto_42 ?_
            refine x_aloadn X dX3_readInto_45 2 rfl ?_
            have enc : nc_4 = cc.1 := f_6 hcn
            subst enc
            refine x_callVfv (As := [.int (ltA le nl p), .ref (b 0)]) (rest := []) (w1 := xJ [wTx G a le nl nu_3 cc.1, wCq G b (itS (ltA le nl p) cc.1 (nu_3 0) (nu_3 1) (nu_3 2) s)]) (ws' := xJ [wTx G a le nl nu_3 cc.1, wCq G b (itS (ltA le nl p) cc.1 (nu_3 0) (nu_3 1) (nu_3 2) s)]) X (c_X3_tellItem l G a le nl nu_3 cc.1 b s (ltA le nl p) (by omega) (by omega)) xE0_ok (fun _ _ _ => trivial) [0, 1, 2, 3, 4, 5, 6, 7] rfl 0 rfl rfl rfl rfl wco_X3_tellItem wi_X3 xd_X3_tellItem wl_X3_38 win_X3_tellItem wse_X3_tellItem (by decide) (Nat.le_of_ble_eq_true rfl) dX3_readInto_46 rfl (Eq.trans (b := [a 0, a 1, a 2, b 0, b 1, b 2, b 3, b 4]) rfl rfl) rfl ?_
            refine x_ifne_b 54 X dX3_readInto_49 (by decide) (fun c_11 => ?_) (fun c_11 => ?_)
            · -- 49 t
              refine x_iload X dX3_readInto_54 0 rfl ?_
              refine x_istoren (lv' := [(2, .int (nI cc.2)), (4, .int (nI cc.2)), (0, .ref (a 0)), (1, .ref (b 0)), (3, .int (nI i))]) X dX3_readInto_56 (by decide) rfl ?_
              refine x_iinc (v := nI (i + 1)) (lv' := [(3, .int (nI (i + 1))), (2, .int (nI cc.2)), (4, .int (nI cc.2)), (0, .ref (a 0)), (1, .ref (b 0))]) X dX3_readInto_57 4 rfl (nI_1 _) (by decide) rfl ?_
              refine x_goto 8 X dX3_readInto_60 (by decide) ?_
              refine x_lv (lv' := [(0, .ref (a 0)), (1, .ref (b 0)), (2, .int (nI cc.2)), (3, .int (nI (i + 1)))]) X [3, 4, 1, 0] rfl ?_
              exact ih_L8 (i + 1) cc.2 nu_3 cc.1 (itS (ltA le nl p) cc.1 (nu_3 0) (nu_3 1) (nu_3 2) s) (by omega) (by omega) (by omega) (itS_le hs6) (by rw [← hR, show 200 - i = (200 - (i + 1)) + 1 by omega, prs_ok (by assumption) (by rw [← ecc]; exact hcn) (by rw [← ecc]; exact f_7) (by rw [← ecc]; exact f_8) (by rw [← ecc]; exact f_9) (by rw [← ecc]; exact c_11), ← ecc])
            · -- 49 f
              refine x_iloadn X dX3_readInto_52 3 rfl ?_
              exact x_ret X dX3_readInto_53 ⟨ret_i (by rw [← hR, show 200 - i = (199 - i) + 1 by omega]; rw [prs_bad (by assumption) (by rw [← ecc]; exact hcn) (by rw [← ecc]; exact f_7) (by rw [← ecc]; exact f_8) (by rw [← ecc]; exact f_9) (by rw [← ecc]; exact c_11), ← ecc]), ⟨nu_3, cc.1, (by rw [← hR, show 200 - i = (199 - i) + 1 by omega]; rw [prs_bad (by assumption) (by rw [← ecc]; exact hcn) (by rw [← ecc]; exact f_7) (by rw [← ecc]; exact f_8) (by rw [← ecc]; exact f_9) (by rw [← ecc]; exact c_11), ← ecc])⟩, by decide, by decide⟩
  refine x_lv (lv' := [(0, .ref (a 0)), (1, .ref (b 0)), (2, .int (nI 0)), (3, .int (nI 0))]) X [2, 3, 1, 0] rfl ?_
  exact L8 _ 0 0 nu nc (0, 3, fun _ => nI 0, fun _ => nI 0, fun _ => nI 0, fun _ => nI 100) (Nat.lt_succ_self _) (by omega) (by omega) (by decide) (rfl)
