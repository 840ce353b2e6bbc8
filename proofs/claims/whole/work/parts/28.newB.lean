/-! ===== new objects and arrays; the text constant ===== -/
def txT : String := "p0,1;p0,0;p1,0;p2,3;p3,1;p4,0;v0,0,14;v0,1,6;v0,2,18;v1,0,2;v1,1,9;v1,3,16;v2,0,11;v2,4,0;v3,0,18;v3,2,3;v4,0,7;v5,1,4;a4;"
/-- its letters -/
def txL : List Int32 := [112, 48, 44, 49, 59, 112, 48, 44, 48, 59, 112, 49, 44, 48, 59, 112, 50, 44, 51, 59, 112, 51, 44, 49, 59, 112, 52, 44, 48, 59, 118, 48, 44, 48, 44, 49, 52, 59, 118, 48, 44, 49, 44, 54, 59, 118, 48, 44, 50, 44, 49, 56, 59, 118, 49, 44, 48, 44, 50, 59, 118, 49, 44, 49, 44, 57, 59, 118, 49, 44, 51, 44, 49, 54, 59, 118, 50, 44, 48, 44, 49, 49, 59, 118, 50, 44, 52, 44, 48, 59, 118, 51, 44, 48, 44, 49, 56, 59, 118, 51, 44, 50, 44, 51, 59, 118, 52, 44, 48, 44, 55, 59, 118, 53, 44, 49, 44, 52, 59, 97, 52, 59]
def txF (j : Nat) : Int32 := txL.getD j 0
/-- what the constructor wants: the text constant, its letters, a static and the array class -/
def xES (q v : Nat) (w : Value) : xE := fun A U => vk_R RX4 49 txT q U ∧ va_AO RX0 U ∧ va_O RJ0 q A U U.heap ∧ va_OF RJ0 "coder" "B" (.int 0) q A U U.heap ∧ va_OF RJ0 "value" "[B" (.ref v) q A U U.heap ∧ va_T .byte v 122 (fun j => .int (txF j)) A U U.heap ∧ va_Z RJ0 "COMPACT_STRINGS" "Z" (.int 1) A U U.heap ∧ va_Z RJ3 "SIOOBE_FORMATTER" "Ljava/util/function/BiFunction;" w A U U.heap
theorem xES_ok (q v : Nat) (w : Value) : xEok (xES q v w) := by
  refine ⟨fun A U g mk a h => ?_, fun A A1 s U hW hk hA h => ?_⟩
  · obtain ⟨h1, h2, h3, h4, h5, h6, h7, h8⟩ := h
    have hv : U.vm.Alike (U.calling g mk a).vm := Vm.Alike.refl U.vm
    exact ⟨vk_R.same (u := U) (U := U.calling g mk a) rfl h1, va_AO.moved (u := U) (U := U.calling g mk a) hv h2, va_O.moved (u := U) (U := U.calling g mk a) hv h3, va_OF.moved (u := U) (U := U.calling g mk a) hv h4, va_OF.moved (u := U) (U := U.calling g mk a) hv h5, va_T.moved (u := U) (U := U.calling g mk a) hv h6, va_Z.moved (u := U) (U := U.calling g mk a) hv h7, va_Z.moved (u := U) (U := U.calling g mk a) hv h8⟩
  · obtain ⟨h1, h2, h3, h4, h5, h6, h7, h8⟩ := h
    exact ⟨vk_R.warm hW h1, va_AO.moved hW.alike h2, ((va_O.moved hW.alike h3).kept hk).narrow hA, ((va_OF.moved hW.alike h4).kept hk).narrow hA, ((va_OF.moved hW.alike h5).kept hk).narrow hA, ((h6.moved hW.alike).kept hk).narrow hA, ((h7.moved hW.alike).kept hk).narrow hA, ((h8.moved hW.alike).kept hk).narrow hA⟩
theorem xK_int {G : xG} {s : State} {cA : ClassId} (hK : va_K G.1 vwCl (xTY G ++ [(cA, .int)]) s) : cA = G.2.1 := by
  have h0 := (hK.2 0 (G.2.1, .int) rfl).2
  have h1 := (hK.2 2 (cA, .int) rfl).2
  exact Option.some.inj ((show s.vm.findClass _ = some cA from h1).symm.trans h0)
theorem xK_obj {G : xG} {s : State} {cA : ClassId} (hK : va_K G.1 vwCl (xTY G ++ [(cA, .object RX0)]) s) : cA = G.2.2 := by
  obtain ⟨_, _, _, _, _, h0⟩ := (hK.2 1 (G.2.2, .object RX0) rfl).2
  obtain ⟨_, _, _, _, _, h1⟩ := (hK.2 2 (cA, .object RX0) rfl).2
  exact Option.some.inj (h1.symm.trans h0)
section XN
variable {l : Launch} {G : xG} {E E' : xE} {own nm : String} {cc : ByteArray} {nL : Nat} {R : Room} {Z : Option Value → va_W → Nat → Nat → Prop} {K : xKt} {ws ws' wc w1 wr : va_W} {k z pc : Nat} {lv : xL} {st rest : List Value}
variable {y : MethodName} {cc' : ByteArray} {n' : Nat} {ret' : Option FieldType} {fr' lo' mc' ms' idx : Nat} {As : List Value} {r' : Option Value} {v : Value} {Fin' : va_W → Prop}
theorem x_newa {n : Nat} (X : xR l G E own nm cc nL R Z K) (hn : n < 100000) (hroom : k + 1 ≤ R.cells ∧ z + n ≤ R.slots) (hdg : decode cc pc = .ok (.newarray .int, 2)) (kk : ∀ q : Nat, K (ws ++ wIA G q n (fun _ => nI 0)) (k + 1) (z + n) (pc + 2) lv (.ref q :: st)) : K ws k z pc lv (.int (nI n) :: st) := by
  obtain ⟨p, e, s, m, args, below, meth, c, Q, A, hx, hb, hml, hown, hts, hK, hE, hA, hnm, rfl, hZ⟩ := X
  intro H locs ls hP hD hS hl
  refine va_newa (atype := .int) (a0 := (n, .inl (fun _ => nI 0))) hx hb (hts _ war_int) rfl hK.1 hP hD hS hA (fun cA => vp_cell_i _ _ _) (nI_pos (by omega)) (nI_clamp (by omega)) (by show n * 4 ≤ _; omega) hroom.1 hroom.2 hdg (fun q cA H1 hK1 hP1 hD1 hS1 => ?_)
  obtain rfl := xK_int hK1
  exact kk q H1 locs ls hP1 hD1 hS1 hl
theorem x_newq {n : Nat} (X : xR l G E own nm cc nL R Z K) (hn : n < 100000) (hAO : ∀ A U, E A U → va_AO RX0 U) (hcl : Cond.classLink own idx RX0 ∈ wU) (hroom : k + 1 ≤ R.cells ∧ z + n ≤ R.slots) (hdg : decode cc pc = .ok (.anewarray idx, 3)) (kk : ∀ q : Nat, K (ws ++ wQA G q n (fun _ => none)) (k + 1) (z + n) (pc + 3) lv (.ref q :: st)) : K ws k z pc lv (.int (nI n) :: st) := by
  obtain ⟨p, e, s, m, args, below, meth, c, Q, A, hx, hb, hml, hown, hts, hK, hE, hA, hnm, rfl, hZ⟩ := X
  intro H locs ls hP hD hS hl
  refine va_newq hx hb hown (hts _ hcl) (hAO _ _ hE) hK.1 hP hD hS hA (nI_pos (by omega)) (nI_clamp (by omega)) (by omega) hroom.1 hroom.2 hdg (fun q cA H1 hK1 hP1 hD1 hS1 => ?_)
  obtain rfl := xK_obj hK1
  exact kk q H1 locs ls hP1 hD1 hS1 hl
theorem x_new {C : String} {T : u_T} {N ci : Nat} {ty : Nat → FieldType} {fs : List Value} (X : xR l G E own nm cc nL R Z K) (hin : ∀ w ∈ u_ws C T N, w ∈ wU) (hty : ∀ k, k < N → parseFieldDescriptor (T k).2.2.1 = some (ty k)) (hcl : Cond.classLink own idx C ∈ wU) (hinst : Cond.instantiable C N ∈ wU) (hini : Cond.initialized C ∈ wU) (hc : vwCl[ci]? = some (C, T, N)) (hfs : ∀ j, j < N → defaultValue (ty j) = vp_V fs j) (hroom : k + 1 ≤ R.cells ∧ z + N ≤ R.slots) (hdg : decode cc pc = .ok (.new idx, 3)) (kk : ∀ q : Nat, K (ws ++ [(q, .inr (ci, fs))]) (k + 1) (z + N) (pc + 3) lv (.ref q :: st)) : K ws k z pc lv st := by
  obtain ⟨p, e, s, m, args, below, meth, c, Q, A, hx, hb, hml, hown, hts, hK, hE, hA, hnm, rfl, hZ⟩ := X
  intro H locs ls hP hD hS hl
  exact va_new hx hb hts hin ty hty hown (hts _ hcl) (hts _ hinst) (hts _ hini) hK.1 hP hD hS hA hc hfs hroom.1 hroom.2 hdg (fun q H1 hP1 hD1 hS1 => kk q H1 locs ls hP1 hD1 hS1 hl)
theorem x_aast {a n j b : Nat} {f : Nat → Option Nat} {vs : List Value} (X : xR l G E own nm cc nL R Z K) (q0 qk : Nat) (ha : ws[q0]? = some (a, .inl (G.2.2, n, .inr (.inr (.inr (.inr f)))))) (hv : ws[qk]? = some (b, .inr (0, vs))) (hj : j < n) (hn : n < 2 ^ 31) (hdg : decode cc pc = .ok (.aastore, 1)) (kk : K (ws.set q0 (a, .inl (G.2.2, n, .inr (.inr (.inr (.inr (va_up f j (some b)))))))) k z (pc + 1) lv st) : K ws k z pc lv (.ref b :: .int (nI j) :: .ref a :: st) := by
  obtain ⟨p, e, s, m, args, below, meth, c, Q, A, hx, hb, hml, hown, hts, hK, hE, hA, hnm, rfl, hZ⟩ := X
  intro H locs ls hP hD hS hl
  refine va_astq (r := (RX0, TX0, 6)) hx hb hK.1 hP hD hS q0 1 qk 0 ha rfl hv rfl (vp_in_nI hj hn) hdg ?_
  rw [nI_clamp (Nat.lt_trans hj hn)]
  exact fun H1 locs1 hP1 hD1 hS1 => kk H1 locs1 ls hP1 hD1 hS1 hl
/-- a constructor whose object is the last piece -/
theorem x_callIL {b : Nat} (X : xR l G E own nm cc nL R Z K) (hM : xM l G E' y cc' n' none fr' lo' mc' ms' (.ref b :: As) wc none Fin') (hE1 : xEok E') (hE2 : ∀ A U, E A U → E' A U) (hst : st = As.reverse ++ .ref b :: rest) (hco : Cond.code y cc' n' none ∈ wU) (hini : Cond.initialized y.cls ∈ wU) (hd : xCd y As.length) (hlk : Cond.methodLink own idx y ∈ wU) (hin : Cond.instanceMethod y ∈ wU) (hy1 : y.name = "<init>") (hroom : fr' + 1 ≤ R.frames ∧ 8 + (n' + 11) + lo' ≤ R.locals ∧ k + mc' ≤ R.cells ∧ z + ms' ≤ R.slots) (hrest : (rest.map fun v => v.category).sum ≤ 8) (hdg : decode cc pc = .ok (.invokespecial idx, 3)) (kk : ∀ w2, Fin' w2 → K (wr ++ w2) (k + mc') (z + ms') (pc + 3) lv rest) : K (wr ++ wc) k z pc lv st := by
  have e1 := xP_at wc wr []
  rw [List.append_nil] at e1
  have e2 := xP_at wr [] wc
  simp only [List.length_nil, List.nil_append] at e2
  refine x_callIa X hM hE1 hE2 (List.range' wr.length wc.length) e1 (xP_nd _ _) hst hco hini hd hlk hin hy1 hroom hrest hdg (List.range' 0 wr.length) e2 (xP_nd _ _) (fun i h1 h2 => ?_) kk
  rw [List.mem_range'] at h1 h2
  obtain ⟨a, ha, rfl⟩ := h1
  obtain ⟨b, hb, he⟩ := h2
  omega
theorem x_callVE {b : Nat} (X : xR l G E own nm cc nL R Z K) (hM : xM l G E' y cc' n' ret' fr' lo' mc' ms' (.ref b :: As) [] r' (fun w2 => w2 = [])) (hE1 : xEok E') (hE2 : ∀ A U, E A U → E' A U) (hrc : ∀ A U, E A U → va_O y.cls b A U U.heap) (hst : st = As.reverse ++ .ref b :: rest) (hco : Cond.code y cc' n' ret' ∈ wU) (hini : Cond.initialized y.cls ∈ wU) (hd : xCd y As.length) (hlk : Cond.methodLink own idx y ∈ wU) (hin : Cond.instanceMethod y ∈ wU) (hse : Cond.selects y.cls y y ∈ wU) (hroom : fr' + 1 ≤ R.frames ∧ 8 + (n' + 11) + lo' ≤ R.locals ∧ k + mc' ≤ R.cells ∧ z + ms' ≤ R.slots) (hrest : (rest.map fun v => v.category).sum ≤ 8) (hdg : decode cc pc = .ok (.invokevirtual idx, 3)) (kk : K ws (k + mc') (z + ms') (pc + 3) lv (r'.toList ++ rest)) : K ws k z pc lv st := by
  obtain ⟨p, e, s, m, args, below, meth, c, Q, A, hx, hb, hml, hown, hts, hK, hE, hA, hnm, rfl, hZ⟩ := X
  intro H locs ls hP hD hS hl
  have hC : ([] : List Nat).map (fun i => ws[i]?) = ([] : va_W).map some := rfl
  have hPc := hP.sub (ws' := []) [] (x_fm hC)
  have hDc := hD.sub (ws' := []) [] rfl hC
  have hFc := va_free (wc := []) hD hS hA [] hC
  obtain ⟨cell, g1, g2, g3, -⟩ := (hrc _ _ hE).kept hS.2.1
  have hW0 : ∀ w ∈ (wsV own idx y.cls y (.code y cc' n' ret' :: wU)), w ∈ wU := by
    intro w hw
    simp only [wsV, List.cons_append, List.nil_append, List.mem_cons] at hw; rcases hw with rfl | rfl | rfl | rfl | rfl | hw; exact hlk; exact hin; exact hse; exact hini; exact hco; exact hw
  refine x_go (va_runV (As := As) ⟨hx, hb, hml, hown, hts⟩ (hM H.size) (cwV (C := y.cls) As.length hts (good_wU hW0) rfl rfl rfl ⟨rfl, hd⟩ ⟨hroom.1, hroom.2.1⟩) ⟨fun a U g mk q => ⟨q.1, q.2.1, q.2.2.1, q.2.2.2.1.call, q.2.2.2.2.1, hE1.1 _ _ _ _ _ q.2.2.2.2.2⟩, ⟨cell, g1, g2, g3⟩, fun U hU hW => ⟨rfl, by rw [hU], by rw [hU]; exact hPc, hK.warm hW, hDc.weaken (fun _ _ _ _ => trivial), hE1.2 A _ s U hW (fun q h1 h2 => by rw [hU]; exact hS.2.1 q h1 h2) (fun q h => hFc q h) (hE2 _ _ hE)⟩⟩ rfl rfl hl.1 hst (lv_room hrest) hdg ⟨hroom.2.2.1, hroom.2.2.2⟩) hS (fun q _ h => hFc q h) hFc (fun t H1 locs1 ht hB hz1 hk1 hS1 => ?_)
  obtain ⟨w2, hF, hP1, hD1⟩ := hB
  subst hF
  rw [ht] at hP1
  obtain ⟨hP2, hD2⟩ := x_upd hP hD [] hC rfl rfl hk1 hP1
  exact kk H1 locs1 ls hP2 hD2 hS1 hl
theorem x_getsE {C n d : String} (X : xR l G E own nm cc nL R Z K) (hZ1 : ∀ A U, E A U → va_Z C n d v A U U.heap) (hlk : Cond.fieldLink own idx C n d ∈ wU) (hdg : decode cc pc = .ok (.getstatic idx, 3)) (kk : K ws k z (pc + 3) lv (v :: st)) : K ws k z pc lv st := by
  obtain ⟨p, e, s, m, args, below, meth, c, Q, A, hx, hb, hml, hown, hts, hK, hE, hA, hnm, rfl, hZ⟩ := X
  intro H locs ls hP hD hS hl
  exact va_gets hx hb (hZ1 _ _ hE) hS hown (hts _ hlk) (fun _ h9 => h9) hdg (kk H locs ls hP hD hS hl)
theorem x_getfE {C n d : String} {a : Nat} (X : xR l G E own nm cc nL R Z K) (hZ1 : ∀ A U, E A U → va_OF C n d v a A U U.heap) (hlk : Cond.fieldLink own idx C n d ∈ wU) (hdg : decode cc pc = .ok (.getfield idx, 3)) (kk : K ws k z (pc + 3) lv (v :: st)) : K ws k z pc lv (.ref a :: st) := by
  obtain ⟨p, e, s, m, args, below, meth, c, Q, A, hx, hb, hml, hown, hts, hK, hE, hA, hnm, rfl, hZ⟩ := X
  intro H locs ls hP hD hS hl
  exact vk_getf hx hb (hZ1 _ _ hE) hS hown (hts _ hlk) (fun _ h9 => h9) hdg (kk H locs ls hP hD hS hl)
theorem x_tlenE {ty : FieldType} {t N : Nat} {f : Nat → Value} (X : xR l G E own nm cc nL R Z K) (hZ1 : ∀ A U, E A U → va_T ty t N f A U U.heap) (hdg : decode cc pc = .ok (.arraylength, 1)) (kk : K ws k z (pc + 1) lv (.int (nI N) :: st)) : K ws k z pc lv (.ref t :: st) := by
  obtain ⟨p, e, s, m, args, below, meth, c, Q, A, hx, hb, hml, hown, hts, hK, hE, hA, hnm, rfl, hZ⟩ := X
  intro H locs ls hP hD hS hl
  exact va_tlen hx hb (hZ1 _ _ hE) hS rfl hdg (kk H locs ls hP hD hS hl)
theorem x_tbE {t N j : Nat} {f : Nat → Value} (X : xR l G E own nm cc nL R Z K) (hZ1 : ∀ A U, E A U → va_T .byte t N f A U U.heap) (hj : j < N) (hN : N < 2 ^ 31) (hv : f j = v) (hdg : decode cc pc = .ok (.baload, 1)) (kk : K ws k z (pc + 1) lv (v :: st)) : K ws k z pc lv (.int (nI j) :: .ref t :: st) := by
  obtain ⟨p, e, s, m, args, below, meth, c, Q, A, hx, hb, hml, hown, hts, hK, hE, hA, hnm, rfl, hZ⟩ := X
  intro H locs ls hP hD hS hl
  exact va_tb hx hb (hZ1 _ _ hE) hS (vp_in_nI hj hN) (by rw [nI_clamp (by omega)]; exact hv) hdg (kk H locs ls hP hD hS hl)
theorem x_i2c {x v : Int32} (X : xR l G E own nm cc nL R Z K) (hdg : decode cc pc = .ok (.i2c, 1)) (hv : (x.toUInt32 % 65536).toInt32 = v) (kk : K ws k z (pc + 1) lv (.int v :: st)) : K ws k z pc lv (.int x :: st) := by
  obtain ⟨p, e, s, m, args, below, meth, c, Q, A, hx, hb, hml, hown, hts, hK, hE, hA, hnm, rfl, hZ⟩ := X
  intro H locs ls hP hD hS hl
  exact lv_i2c hx hb hdg hv (kk H locs ls hP hD hS hl)
theorem x_ldcS {q : Nat} {tx : String} (X : xR l G E own nm cc nL R Z K) (hZ1 : ∀ A U, E A U → vk_R own idx tx q U) (hdg : decode cc pc = .ok (.ldc idx, 2)) (kk : K ws k z (pc + 2) lv (.ref q :: st)) : K ws k z pc lv st := by
  obtain ⟨p, e, s, m, args, below, meth, c, Q, A, hx, hb, hml, hown, hts, hK, hE, hA, hnm, rfl, hZ⟩ := X
  intro H locs ls hP hD hS hl
  exact va_ldcS hx hb hown (hZ1 _ _ hE) hdg (kk H locs ls hP hD hS hl)
end XN
set_option maxRecDepth 100000 in
set_option maxHeartbeats 4000000 in
theorem c_J0_coder (l : Launch) (G : xG) (q v : Nat) (w : Value) : xM l G (xES q v w) yJ0_coder_7d493 cJ0_coder_7d493 1 (some .byte) 0 0 0 0 [.ref q] [] (some (.int (nI 0))) (fun w2 => w2 = []) := by
  refine x_entry (by decide +kernel) (Nat.le_of_ble_eq_true rfl) rfl ⟨_, rfl, by decide⟩ (fun K X => ?_)
  refine x_getsE (v := .int (nI 1)) X (fun _ _ h => h.2.2.2.2.2.2.1) wf_J0_38 dJ0_coder_7d493_0 ?_
  refine x_if_eq 13 X dJ0_coder_7d493_3 (by decide) (fun h => absurd h (by decide)) (fun _ => ?_)
  refine x_aloadn X dJ0_coder_7d493_6 0 rfl ?_
  refine x_getfE (v := .int (nI 0)) X (fun _ _ h => h.2.2.2.1) wf_J0_15 dJ0_coder_7d493_7 ?_
  refine x_goto 14 X dJ0_coder_7d493_10 (by decide) ?_
  exact x_ret X dJ0_coder_7d493_14 ⟨rfl, rfl, by decide, by decide⟩
set_option maxRecDepth 100000 in
set_option maxHeartbeats 4000000 in
theorem c_J0_isLatin1 (l : Launch) (G : xG) (q v : Nat) (w : Value) : xM l G (xES q v w) yJ0_isLatin1_aae02 cJ0_isLatin1_aae02 1 (some .boolean) 0 0 0 0 [.ref q] [] (some (.int (nI 1))) (fun w2 => w2 = []) := by
  refine x_entry (by decide +kernel) (Nat.le_of_ble_eq_true rfl) rfl ⟨_, rfl, by decide⟩ (fun K X => ?_)
  refine x_getsE (v := .int (nI 1)) X (fun _ _ h => h.2.2.2.2.2.2.1) wf_J0_38 dJ0_isLatin1_aae02_0 ?_
  refine x_if_eq 17 X dJ0_isLatin1_aae02_3 (by decide) (fun h => absurd h (by decide)) (fun _ => ?_)
  refine x_aloadn X dJ0_isLatin1_aae02_6 0 rfl ?_
  refine x_getfE (v := .int (nI 0)) X (fun _ _ h => h.2.2.2.1) wf_J0_15 dJ0_isLatin1_aae02_7 ?_
  refine x_if_ne 17 X dJ0_isLatin1_aae02_10 (by decide) (fun h => absurd h (by decide)) (fun _ => ?_)
  refine x_iconst (v := nI 1) X dJ0_isLatin1_aae02_13 (by decide) ?_
  refine x_goto 18 X dJ0_isLatin1_aae02_14 (by decide) ?_
  exact x_ret X dJ0_isLatin1_aae02_18 ⟨rfl, rfl, by decide, by decide⟩
set_option maxRecDepth 100000 in
set_option maxHeartbeats 4000000 in
theorem c_J0_length (l : Launch) (G : xG) (q v : Nat) (w : Value) : xM l G (xES q v w) yJ0_length_8abf5 cJ0_length_8abf5 1 (some .int) 1 20 0 0 [.ref q] [] (some (.int (nI 122))) (fun w2 => w2 = []) := by
  refine x_entry (by decide +kernel) (Nat.le_of_ble_eq_true rfl) rfl ⟨_, rfl, rfl⟩ (fun K X => ?_)
  refine x_aloadn X dJ0_length_8abf5_0 0 rfl ?_
  refine x_getfE (v := .ref v) X (fun _ _ h => h.2.2.2.2.1) wf_J0_9 dJ0_length_8abf5_1 ?_
  refine x_tlenE X (fun _ _ h => h.2.2.2.2.2.1) dJ0_length_8abf5_4 ?_
  refine x_aloadn X dJ0_length_8abf5_5 0 rfl ?_
  refine x_callVE (As := []) (rest := [.int (nI 122)]) X (c_J0_coder l G q v w) (xES_ok q v w) (fun _ _ h => h) (fun _ _ h => h.2.2.1) rfl wco_J0_coder_7d493 wi_J0 xd_J0_coder_7d493 wl_J0_335 win_J0_coder_7d493 wse_J0_coder_7d493 (by decide) (Nat.le_of_ble_eq_true rfl) dJ0_length_8abf5_6 ?_
  refine x_ishr (v := nI 122) X dJ0_length_8abf5_9 (by decide) ?_
  exact x_ret X dJ0_length_8abf5_10 ⟨rfl, rfl, by decide, by decide⟩
set_option maxRecDepth 100000 in
set_option maxHeartbeats 4000000 in
theorem c_J3_checkIndex (l : Launch) (G : xG) (w : Value) (j n : Nat) (hw : w = .null ∨ ∃ f, w = .ref f) (hj : j < n) (hn : n < 2 ^ 31) : xM l G xE0 yJ3_checkIndex_8e157 cJ3_checkIndex_8e157 3 (some .int) 0 0 0 0 [.int (nI j), .int (nI n), w] [] (some (.int (nI j))) (fun w2 => w2 = []) := by
  have hb : ∀ lv : xL, lv[0]? = some (0, Value.int (nI j)) → lv[1]? = some (1, Value.int (nI n)) → ∀ K : xKt, xR l G xE0 yJ3_checkIndex_8e157.cls yJ3_checkIndex_8e157.name cJ3_checkIndex_8e157 3 (xRm 0 0 0 0) (xZ (some (.int (nI j))) (fun w2 => w2 = []) 0 0) K → K [] 0 0 0 lv [] := by
    intro lv h0 h1 K X
    refine x_iloadn X dJ3_checkIndex_8e157_0 0 h0 ?_
    refine x_if_lt_n 9 X dJ3_checkIndex_8e157_1 (by decide) (by omega) (fun h => absurd h (by omega)) (fun _ => ?_)
    refine x_iloadn X dJ3_checkIndex_8e157_4 0 h0 ?_
    refine x_iloadn X dJ3_checkIndex_8e157_5 1 h1 ?_
    refine x_icmp_lt_n 16 X dJ3_checkIndex_8e157_6 (by decide) (by omega) (by omega) (fun _ => ?_) (fun h => absurd hj (by omega))
    refine x_iloadn X dJ3_checkIndex_8e157_16 0 h0 ?_
    exact x_ret X dJ3_checkIndex_8e157_17 ⟨rfl, rfl, by decide, by decide⟩
  rcases hw with rfl | ⟨f, rfl⟩
  · exact x_entry (by decide +kernel) (Nat.le_of_ble_eq_true rfl) rfl ⟨_, rfl, rfl⟩ (fun K X => hb _ rfl rfl K X)
  · exact x_entry (by decide +kernel) (Nat.le_of_ble_eq_true rfl) rfl ⟨_, rfl, rfl⟩ (fun K X => hb _ rfl rfl K X)
set_option maxRecDepth 100000 in
set_option maxHeartbeats 4000000 in
theorem c_J0_checkIndex (l : Launch) (G : xG) (q v : Nat) (w : Value) (j n : Nat) (hw : w = .null ∨ ∃ f, w = .ref f) (hj : j < n) (hn : n < 2 ^ 31) : xM l G (xES q v w) yJ0_checkIndex_df160 cJ0_checkIndex_df160 2 none 1 22 0 0 [.int (nI j), .int (nI n)] [] none (fun w2 => w2 = []) := by
  refine x_entry (by decide +kernel) (Nat.le_of_ble_eq_true rfl) rfl rfl (fun K X => ?_)
  refine x_iloadn X dJ0_checkIndex_df160_0 0 rfl ?_
  refine x_iloadn X dJ0_checkIndex_df160_1 1 rfl ?_
  refine x_getsE (v := w) X (fun _ _ h => h.2.2.2.2.2.2.2) wf_J0_1053 dJ0_checkIndex_df160_2 ?_
  refine x_callSrv (As := [.int (nI j), .int (nI n), w]) (rest := []) X (c_J3_checkIndex l G w j n hw hj hn) xE0_ok (fun _ _ _ => trivial) [] rfl rfl rfl wco_J3_checkIndex_8e157 wi_J3 xd_J3_checkIndex_8e157 wl_J0_1059 wst_J3_checkIndex_8e157 (by decide) (Nat.le_of_ble_eq_true rfl) dJ0_checkIndex_df160_5 ?_
  refine x_pop X dJ0_checkIndex_df160_8 rfl ?_
  exact x_retv X dJ0_checkIndex_df160_9 ⟨rfl, rfl, by decide, by decide⟩
theorem txF_c {j : Nat} (hj : j < 122) : ((txF j &&& nI 255).toUInt32 % 65536).toInt32 = txF j ∧ narrow .char (.int (txF j)) = .int (txF j) := by
  have h : ∀ j, j < 122 → ((txF j &&& nI 255).toUInt32 % 65536).toInt32 = txF j ∧ narrow .char (.int (txF j)) = .int (txF j) := by decide +kernel
  exact h j hj
set_option maxRecDepth 100000 in
set_option maxHeartbeats 4000000 in
theorem c_J1_charAt (l : Launch) (G : xG) (q v : Nat) (w : Value) (j : Nat) (hw : w = .null ∨ ∃ f, w = .ref f) (hj : j < 122) : xM l G (xES q v w) yJ1_charAt_3b067 cJ1_charAt_3b067 2 (some .char) 2 43 0 0 [.ref v, .int (nI j)] [] (some (.int (txF j))) (fun w2 => w2 = []) := by
  refine x_entry (by decide +kernel) (Nat.le_of_ble_eq_true rfl) rfl ⟨_, rfl, (txF_c hj).2⟩ (fun K X => ?_)
  refine x_iloadn X dJ1_charAt_3b067_0 1 rfl ?_
  refine x_aloadn X dJ1_charAt_3b067_1 0 rfl ?_
  refine x_tlenE X (fun _ _ h => h.2.2.2.2.2.1) dJ1_charAt_3b067_2 ?_
  refine x_callSr0 (As := [.int (nI j), .int (nI 122)]) (rest := []) X (c_J0_checkIndex l G q v w j 122 hw hj (by decide)) (xES_ok q v w) (fun _ _ h => h) [] rfl rfl rfl wco_J0_checkIndex_df160 wi_J0 xd_J0_checkIndex_df160 wl_J1_9 wst_J0_checkIndex_df160 (by decide) (Nat.le_of_ble_eq_true rfl) dJ1_charAt_3b067_3 ?_
  refine x_aloadn X dJ1_charAt_3b067_6 0 rfl ?_
  refine x_iloadn X dJ1_charAt_3b067_7 1 rfl ?_
  refine x_tbE (v := .int (txF j)) X (fun _ _ h => h.2.2.2.2.2.1) hj (by decide) rfl dJ1_charAt_3b067_8 ?_
  refine x_sipush (v := nI 255) X dJ1_charAt_3b067_9 (by decide) ?_
  refine x_iand (v := txF j &&& nI 255) X dJ1_charAt_3b067_12 rfl ?_
  refine x_i2c (v := txF j) X dJ1_charAt_3b067_13 (txF_c hj).1 ?_
  exact x_ret X dJ1_charAt_3b067_14 ⟨rfl, rfl, by decide, by decide⟩
set_option maxRecDepth 100000 in
set_option maxHeartbeats 4000000 in
theorem c_J0_charAt (l : Launch) (G : xG) (q v : Nat) (w : Value) (j : Nat) (hw : w = .null ∨ ∃ f, w = .ref f) (hj : j < 122) : xM l G (xES q v w) yJ0_charAt_5068e cJ0_charAt_5068e 2 (some .char) 3 64 0 0 [.ref q, .int (nI j)] [] (some (.int (txF j))) (fun w2 => w2 = []) := by
  refine x_entry (by decide +kernel) (Nat.le_of_ble_eq_true rfl) rfl ⟨_, rfl, (txF_c hj).2⟩ (fun K X => ?_)
  refine x_aloadn X dJ0_charAt_5068e_0 0 rfl ?_
  refine x_callVE (As := []) (rest := []) X (c_J0_isLatin1 l G q v w) (xES_ok q v w) (fun _ _ h => h) (fun _ _ h => h.2.2.1) rfl wco_J0_isLatin1_aae02 wi_J0 xd_J0_isLatin1_aae02 wl_J0_492 win_J0_isLatin1_aae02 wse_J0_isLatin1_aae02 (by decide) (Nat.le_of_ble_eq_true rfl) dJ0_charAt_5068e_1 ?_
  refine x_if_eq 16 X dJ0_charAt_5068e_4 (by decide) (fun h => absurd h (by decide)) (fun _ => ?_)
  refine x_aloadn X dJ0_charAt_5068e_7 0 rfl ?_
  refine x_getfE (v := .ref v) X (fun _ _ h => h.2.2.2.2.1) wf_J0_9 dJ0_charAt_5068e_8 ?_
  refine x_iloadn X dJ0_charAt_5068e_11 1 rfl ?_
  refine x_callSrv (As := [.ref v, .int (nI j)]) (rest := []) X (c_J1_charAt l G q v w j hw hj) (xES_ok q v w) (fun _ _ h => h) [] rfl rfl rfl wco_J1_charAt_3b067 wi_J1 xd_J1_charAt_3b067 wl_J0_495 wst_J1_charAt_3b067 (by decide) (Nat.le_of_ble_eq_true rfl) dJ0_charAt_5068e_12 ?_
  exact x_ret X dJ0_charAt_5068e_15 ⟨rfl, rfl, by decide, by decide⟩

