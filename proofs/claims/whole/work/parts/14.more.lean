/-! ===== the class's long questions ===== -/
def wofN (j : Nat) : Nat := [1, 10, 45, 120, 210, 252, 210, 120, 45, 10, 1].getD j 0
/-- the static row of ways, at t -/
def xEW (t : Nat) : xE := fun A U => va_Z "OtherSideInk" "WAYS_OF_TEN" "[J" (.ref t) A U U.heap ∧ va_T .long t 11 (fun j => .long (lN (wofN j))) A U U.heap
theorem xEW_ok (t : Nat) : xEok (xEW t) := by
  refine ⟨fun A U g mk a h => ⟨va_Z.moved (u := U) (U := U.calling g mk a) (Vm.Alike.refl U.vm) h.1, va_T.moved (u := U) (U := U.calling g mk a) (Vm.Alike.refl U.vm) h.2⟩, fun A A1 s U hW hk hA h => ?_⟩
  exact ⟨((h.1.moved hW.alike).kept hk).narrow hA, ((h.2.moved hW.alike).kept hk).narrow hA⟩
section XR
variable {l : Launch} {G : xG} {own nm : String} {cc : ByteArray} {nL : Nat} {R : Room} {Z : Option Value → va_W → Nat → Nat → Prop} {K : xKt} {ws : va_W} {k z pc : Nat} {lv : xL} {st : List Value}
theorem x_getsW {t idx : Nat} (X : xR l G (xEW t) own nm cc nL R Z K) (hlk : Cond.fieldLink own idx "OtherSideInk" "WAYS_OF_TEN" "[J" ∈ wU) (hdg : decode cc pc = .ok (.getstatic idx, 3)) (kk : K ws k z (pc + 3) lv (.ref t :: st)) : K ws k z pc lv st := by
  obtain ⟨p, e, s, m, args, below, meth, c, Q, A, hx, hb, hml, hown, hts, hK, hE, hA, hnm, rfl, hZ⟩ := X
  intro H locs ls hP hD hS hl
  exact va_gets hx hb hE.1 hS hown (hts _ hlk) (fun _ h9 => h9) hdg (kk H locs ls hP hD hS hl)
theorem x_tlenW {t : Nat} (X : xR l G (xEW t) own nm cc nL R Z K) (hdg : decode cc pc = .ok (.arraylength, 1)) (kk : K ws k z (pc + 1) lv (.int (nI 11) :: st)) : K ws k z pc lv (.ref t :: st) := by
  obtain ⟨p, e, s, m, args, below, meth, c, Q, A, hx, hb, hml, hown, hts, hK, hE, hA, hnm, rfl, hZ⟩ := X
  intro H locs ls hP hD hS hl
  exact va_tlen hx hb hE.2 hS rfl hdg (kk H locs ls hP hD hS hl)
theorem x_taldW {t j : Nat} (X : xR l G (xEW t) own nm cc nL R Z K) (hj : j < 11) (hdg : decode cc pc = .ok (.laload, 1)) (kk : K ws k z (pc + 1) lv (.long (lN (wofN j)) :: st)) : K ws k z pc lv (.int (nI j) :: .ref t :: st) := by
  obtain ⟨p, e, s, m, args, below, meth, c, Q, A, hx, hb, hml, hown, hts, hK, hE, hA, hnm, rfl, hZ⟩ := X
  intro H locs ls hP hD hS hl
  exact va_tl hx hb hE.2 hS (vp_in_nI hj (by decide)) (by rw [nI_clamp (by omega)]) hdg (kk H locs ls hP hD hS hl)
end XR
def F_wayN (n x : Nat) : Nat → Nat
  | 0 => wofN n
  | i + 1 => F_wayN n x i * (if i < n then x else 10 - x)
theorem wofN_le (n : Nat) : wofN n ≤ 252 := by
  unfold wofN
  rcases Nat.lt_or_ge n 11 with h | h
  · have h2 : ∀ i, i < 11 → ([1, 10, 45, 120, 210, 252, 210, 120, 45, 10, 1] : List Nat).getD i 0 ≤ 252 := by decide
    exact h2 n h
  · rw [List.getD_eq_getElem?_getD, List.getElem?_eq_none (by simpa using h)]; decide
theorem F_wayN_le (n x : Nat) (hx : x ≤ 10) : ∀ i, F_wayN n x i ≤ 252 * 10 ^ i
  | 0 => by simpa [F_wayN] using wofN_le n
  | i + 1 => by
    have h := F_wayN_le n x hx i
    have h2 : (if i < n then x else 10 - x) ≤ 10 := by split <;> omega
    calc F_wayN n x (i + 1) = F_wayN n x i * (if i < n then x else 10 - x) := rfl
      _ ≤ 252 * 10 ^ i * 10 := Nat.mul_le_mul h h2
      _ = 252 * 10 ^ (i + 1) := by rw [Nat.pow_succ, Nat.mul_assoc]
/-- Euclid, k steps at most -/
def euc : Nat → Nat → Nat → Nat
  | 0, h, _ => h
  | k + 1, h, l => if l = 0 then h else euc k l (h % l)
theorem euc_0 (k h : Nat) : euc k h 0 = h := by cases k <;> simp [euc]
def F_abv (s : xS) (p t : Nat) (v : Int32) (x : Nat) : Nat → Nat
  | 0 => 0
  | i + 1 => if F_wr s p t (nI i) = v - nI 9 then F_abv s p t v x i + F_wayN i x 10 else F_abv s p t v x i
theorem F_abv_le (s : xS) (p t : Nat) (v : Int32) (x : Nat) (hx : x ≤ 10) : ∀ i, F_abv s p t v x i ≤ i * 2520000000000
  | 0 => Nat.le_refl 0
  | i + 1 => by
    have h := F_abv_le s p t v x hx i
    have h2 := F_wayN_le i x hx 10
    have e : 252 * 10 ^ 10 = 2520000000000 := by decide
    rw [e] at h2
    simp only [F_abv]
    generalize F_wayN i x 10 = w at h2 ⊢
    generalize F_abv s p t v x i = a at h ⊢
    rw [Nat.succ_mul]
    generalize i * 2520000000000 = b at h ⊢
    split
    · exact Nat.add_le_add h h2
    · exact Nat.le_trans h (Nat.le_add_right _ _)
def F_drops (s : xS) (p t v x part : Int32) : Int64 := if (inR p s.1 && (inR t 5 && (inR v 19 && (inR x 11 && inR part 2)))) = true then lN ((if tn part = 0 then F_abv s (tn p) (tn t) v (tn x) 11 else 10000000000) / euc 100 10000000000 (F_abv s (tn p) (tn t) v (tn x) 11)) else (-1)
def F_draw (z k : Nat) : Nat := (7919 * z + 6151 * k + 1) * (7919 * z + 6151 * k + 1) % 65521 / 2
theorem F_draw_lt (z k : Nat) : F_draw z k < 32761 := by
  have : (7919 * z + 6151 * k + 1) * (7919 * z + 6151 * k + 1) % 65521 < 65521 := Nat.mod_lt _ (by decide)
  unfold F_draw
  omega
theorem draw_sq {z k : Nat} (hz : z < 10000) (hk : k < 60) : (7919 * z + 6151 * k + 1) * (7919 * z + 6151 * k + 1) < 2 ^ 63 := by
  have h : 7919 * z + 6151 * k + 1 ≤ 80000000 := by omega
  exact Nat.lt_of_le_of_lt (Nat.mul_le_mul h h) (by decide)
def F_wkl (s : xS) (z : Nat) : Nat → Nat → Int32
  | 0 => s.2.2.2.2.2
  | k + 1 => upd (F_wkl s z k) (k % s.2.1 * 5 + F_draw z k / 8 % 5) (F_wr s (F_draw z k % s.1) (F_draw z k / 8 % 5) (nI (F_draw z k / 64 % 11)))
def F_wOk2 (z n what : Int32) : Bool := inR z 10000 && (!decide (n < nI 1) && (!decide (nI 60 < n) && inR what 2))
def F_weeks (s : xS) (z n what : Int32) : Int32 := if F_wOk2 z n what = true then (if tn what = 0 then nI (F_fils (F_wkl s (tn z) (tn n)) s.2.1) else F_sums (F_wkl s (tn z) (tn n)) s.2.1 + nI 500) else (-1)
def F_fs (f : Nat → Int32) (x : Int32) (n : Nat) : Nat → Nat → Nat
  | 0, _ => n
  | k + 1, i => if f i = x then i else F_fs f x n k (i + 1)
theorem F_fs_cg {f g : Nat → Int32} {x : Int32} {n : Nat} : ∀ k i, (∀ j, i ≤ j → j < i + k → f j = g j) → F_fs f x n k i = F_fs g x n k i
  | 0, _, _ => rfl
  | k + 1, i, h => by
    rw [F_fs, F_fs, h i (Nat.le_refl _) (by omega), F_fs_cg k (i + 1) (fun j h1 h2 => h j (by omega) (by omega))]
theorem F_fs_le (f : Nat → Int32) (x : Int32) (n : Nat) : ∀ k i, i + k ≤ n → F_fs f x n k i ≤ n
  | 0, _, _ => Nat.le_refl n
  | k + 1, i, h => by
    rw [F_fs]
    split
    · omega
    · exact F_fs_le f x n k (i + 1) (by omega)
/-- the LINES behind r rounds -/
def F_gon (s : xS) (a : Nat) : Nat → Nat → Int32
  | 0 => s.2.2.2.2.2
  | r + 1 => goR s.2.2.1 s.2.2.2.1 s.2.2.2.2.1 (F_gon s a r) a s.1
def F_cod (s : xS) (a r : Nat) : Int32 := F_code (F_gon s a r) a 5
def F_agn (s : xS) (a what : Nat) : Nat → Nat → Int32
  | 0, _ => (-4)
  | k + 1, r => if F_fs (F_cod s a) (F_cod s a r) r r 0 < r then (if what = 0 then nI r else nI (F_fs (F_cod s a) (F_cod s a r) r r 0)) else F_agn s a what k (r + 1)
def F_again (s : xS) (a what : Int32) : Int32 := if (inR a s.2.1 && inR what 2) = true then F_agn s (tn a) (tn what) 40 1 else (-1)
/-- a THREE is counted, the first one kept -/
def whoS (ok : Bool) (c : Int32) (r : Int32 × Int32) : Int32 × Int32 := if ok = true then (r.1 + nI 1, if r.2 = (-4) then c else r.2) else r
def P_who (s : xS) (th sa : Nat → Int32) (ns p m n : Nat) : Bool := !decide (m = p) && allW s.2.2.1 s.2.2.2.2.1 th sa p m (nI n) ns
def whoC (p m n : Nat) : Int32 := nI (1000 * p + 100 * m + n)
def F_who3 (s : xS) (th sa : Nat → Int32) (ns p m : Nat) (r : Int32 × Int32) : Nat → Int32 × Int32
  | 0 => r
  | n + 1 => whoS (P_who s th sa ns p m n) (whoC p m n) (F_who3 s th sa ns p m r n)
def F_who2 (s : xS) (th sa : Nat → Int32) (ns p : Nat) (r : Int32 × Int32) : Nat → Int32 × Int32
  | 0 => r
  | m + 1 => F_who3 s th sa ns p m (F_who2 s th sa ns p r m) 11
def F_who1 (s : xS) (th sa : Nat → Int32) (ns : Nat) : Nat → Int32 × Int32
  | 0 => (nI 0, (-4))
  | p + 1 => F_who2 s th sa ns p (F_who1 s th sa ns p) s.1
def F_who (s : xS) (th sa : Nat → Int32) (ns : Nat) (what : Int32) : Int32 := if inR what 2 = true then (if tn what = 0 then (F_who1 s th sa ns s.1).1 else (F_who1 s th sa ns s.1).2) else (-1)
def F_viv (s : xS) (p t : Nat) : Nat → Nat → Int32
  | 0 => s.2.2.2.2.1
  | v + 1 => upd (F_viv s p t v) (p * 5 + t) (nI v - nI 9)
def F_vib (s : xS) (th sa : Nat → Int32) (ns p t : Nat) (n : Int32) : Nat → Int32
  | 0 => nI 0
  | v + 1 => if allW s.2.2.1 (F_viv s p t (v + 1)) th sa p (tn (s.2.2.2.1 p)) n ns = true then F_vib s th sa ns p t n v ||| (nI 1 <<< (nI v &&& 31)) else F_vib s th sa ns p t n v
def F_views (s : xS) (th sa : Nat → Int32) (ns : Nat) (p t n : Int32) : Int32 := if (inR p s.1 && (inR t 5 && inR n 11)) = true then F_vib s th sa ns (tn p) (tn t) n 19 else (-1)
theorem dec_n60 {n : Int32} (h1 : ¬ n < nI 1) (h2 : ¬ nI 60 < n) : ∃ j : Nat, (1 ≤ j ∧ j ≤ 60) ∧ n = nI j := by
  obtain ⟨j, hj, rfl⟩ := nI_of (x := n) (fun q => h1 (by
    rw [Int32.lt_iff_toInt_lt] at q ⊢
    have e : (nI 1).toInt = 1 := by decide
    have e0 : (0 : Int32).toInt = 0 := by decide
    omega))
  exact ⟨j, ⟨Nat.not_lt.mp (fun q => h1 ((nI_ltI hj (by decide)).mpr q)), Nat.not_lt.mp (fun q => h2 ((nI_ltI (by decide) hj).mpr q))⟩, rfl⟩

set_option maxRecDepth 100000 in
set_option maxHeartbeats 4000000 in
/-- X4_drawOf -/
theorem c_X4_drawOf (l : Launch) (G : xG) (u : Nat) (v : Nat) (hu : u < 10000) (hv : v < 60) : xM l G xE0 yX4_drawOf cX4_drawOf 4 (some .int) 0 0 0 0 [.int (nI u), .int (nI v)] ([]) (some (.int (nI (F_draw u v)))) (fun w2 => w2 = []) := by
  refine x_entry (by decide +kernel) (Nat.le_of_ble_eq_true rfl) rfl ⟨_, rfl, rfl⟩ (fun K X => ?_)
  refine x_ldc2 (v := lN 7919) X wk_X4_211 dX4_drawOf_0 ?_
  refine x_iloadn X dX4_drawOf_3 0 rfl ?_
  refine x_i2l (v := lN u) X dX4_drawOf_4 (nI_l (by omega)) ?_
  refine x_lmul (v := lN (7919 * u)) X dX4_drawOf_5 (lN_mul _ _) ?_
  refine x_ldc2 (v := lN 6151) X wk_X4_213 dX4_drawOf_6 ?_
  refine x_iloadn X dX4_drawOf_9 1 rfl ?_
  refine x_i2l (v := lN v) X dX4_drawOf_10 (nI_l (by omega)) ?_
  refine x_lmul (v := lN (6151 * v)) X dX4_drawOf_11 (lN_mul _ _) ?_
  refine x_ladd (v := lN (7919 * u + (6151 * v))) X dX4_drawOf_12 (lN_add _ _) ?_
  refine x_lconst (v := lN 1) X dX4_drawOf_13 (by decide) ?_
  refine x_ladd (v := lN ((7919 * u + (6151 * v)) + 1)) X dX4_drawOf_14 (lN_add _ _) ?_
  refine x_lstoren (lv' := [(2, .long (lN ((7919 * u + (6151 * v)) + 1))), (0, .int (nI u)), (1, .int (nI v))]) X dX4_drawOf_15 (by decide) rfl ?_
  refine x_lloadn X dX4_drawOf_16 0 rfl ?_
  refine x_lloadn X dX4_drawOf_17 0 rfl ?_
  refine x_lmul (v := lN (((7919 * u + (6151 * v)) + 1) * ((7919 * u + (6151 * v)) + 1))) X dX4_drawOf_18 (lN_mul _ _) ?_
  refine x_ldc2 (v := lN 65521) X wk_X4_215 dX4_drawOf_19 ?_
  refine x_lrem (v := lN ((((7919 * u + (6151 * v)) + 1) * ((7919 * u + (6151 * v)) + 1)) % 65521)) X dX4_drawOf_22 (by decide) (pk_lRem (draw_sq hu hv) (by decide) (by decide)) ?_
  refine x_ldc2 (v := lN 2) X wk_X4_217 dX4_drawOf_23 ?_
  refine x_ldiv (v := lN (((((7919 * u + (6151 * v)) + 1) * ((7919 * u + (6151 * v)) + 1)) % 65521) / 2)) X dX4_drawOf_26 (by decide) (pk_lDiv (Nat.lt_trans (Nat.mod_lt _ (by decide)) (by decide)) (by decide) (by decide)) ?_
  refine x_l2i (v := nI (((((7919 * u + (6151 * v)) + 1) * ((7919 * u + (6151 * v)) + 1)) % 65521) / 2)) X dX4_drawOf_27 (lN_i _) ?_
  exact x_ret X dX4_drawOf_28 ⟨ret_i (by rfl), rfl, by decide, by decide⟩
set_option maxRecDepth 100000 in
set_option maxHeartbeats 4000000 in
/-- X4_firstSeen -/
theorem c_X4_firstSeen (l : Launch) (G : xG) (o : Nat) (x : Nat → Nat) (w : Nat → Nat) (d : Nat → Nat) (h : Nat → Nat) (g : Nat → Nat) (q : Nat → Nat) (e : Nat) (f : Nat → Int32) (u : Int32) (n : Nat) (hn : n ≤ 41) : xM l G xE0 yX4_firstSeen cX4_firstSeen 4 (some .int) 1 21 0 0 [.ref o, .int u, .int (nI n)] (xJ [wInk G o x w d h g q e, wIA G e 41 f]) (some (.int (nI (F_fs f u n n 0)))) (fun w2 => w2 = xJ [wInk G o x w d h g q e, wIA G e 41 f]) := by
  refine x_entry (by decide +kernel) (Nat.le_of_ble_eq_true rfl) rfl ⟨_, rfl, rfl⟩ (fun K X => ?_)
  refine x_iconst (v := nI 0) X dX4_firstSeen_0 (by decide) ?_
  refine x_istoren (lv' := [(3, .int (nI 0)), (0, .ref o), (1, .int u), (2, .int (nI n))]) X dX4_firstSeen_1 (by decide) rfl ?_
  have L2 : ∀ (fu : Nat) (i : Nat), n - i < fu → (i ≤ n) → (F_fs f u n (n - i) i = F_fs f u n n 0) → K (xJ [wInk G o x w d h g q e, wIA G e 41 f]) 0 0 2 [(0, .ref o), (1, .int u), (2, .int (nI n)), (3, .int (nI i))] [] := by
    intro fu
    induction fu with
    | zero => intro i hfu; exact absurd hfu (Nat.not_lt_zero _)
    | succ fu ih_L2 =>
      intro i hfu_L2 hi hF
      refine x_iloadn X dX4_firstSeen_2 3 rfl ?_
      refine x_iloadn X dX4_firstSeen_3 2 rfl ?_
      refine x_icmp_ge_n 27 X dX4_firstSeen_4 (by decide) (by omega) (by omega) (fun c_1 => ?_) (fun c_1 => ?_)
      · -- 4 t
        have n_1 := Nat.not_lt.mpr c_1
        refine x_iloadn X dX4_firstSeen_27 2 rfl ?_
        exact x_ret X dX4_firstSeen_28 ⟨ret_i (by rw [← hF, show n - i = 0 by omega, F_fs]), rfl, by decide, by decide⟩
      · -- 4 f
        refine x_aloadn X dX4_firstSeen_7 0 rfl ?_
        refine x_get X wu_X4 0 rfl rfl 6 (by decide) wf_X4_45 rfl rfl dX4_firstSeen_8 ?_
        refine x_iloadn X dX4_firstSeen_11 3 rfl ?_
        refine x_callSrv (As := [.ref e, .int (nI i)]) (rest := []) X (c_X4_at l G e 41 f i (by omega) (by omega)) xE0_ok (fun _ _ _ => trivial) [1] rfl rfl rfl wco_X4_at wi_X4 xd_X4_at wl_X4_207 wst_X4_at (by decide) (Nat.le_of_ble_eq_true rfl) dX4_firstSeen_12 ?_
        refine x_iloadn X dX4_firstSeen_15 1 rfl ?_
        refine x_icmp_ne 21 X dX4_firstSeen_16 (by decide) (fun c_2 => ?_) (fun c_2 => ?_)
        · -- 16 t
          refine x_iinc (v := nI (i + 1)) (lv' := [(3, .int (nI (i + 1))), (0, .ref o), (1, .int u), (2, .int (nI n))]) X dX4_firstSeen_21 3 rfl (nI_1 _) (by decide) rfl ?_
          refine x_goto 2 X dX4_firstSeen_24 (by decide) ?_
          refine x_lv (lv' := [(0, .ref o), (1, .int u), (2, .int (nI n)), (3, .int (nI (i + 1)))]) X [1, 2, 3, 0] rfl ?_
          exact ih_L2 (i + 1) (by omega) (by omega) (by rw [← hF, show n - i = (n - (i + 1)) + 1 by omega, F_fs, if_neg c_2])
        · -- 16 f
          refine x_iloadn X dX4_firstSeen_19 3 rfl ?_
          exact x_ret X dX4_firstSeen_20 ⟨ret_i (by rw [← hF, show n - i = (n - i - 1) + 1 by omega, F_fs, if_pos c_2]), rfl, by decide, by decide⟩
  refine x_lv (lv' := [(0, .ref o), (1, .int u), (2, .int (nI n)), (3, .int (nI 0))]) X [1, 2, 3, 0] rfl ?_
  exact L2 _ 0 (Nat.lt_succ_self _) (by omega) (rfl)
set_option maxRecDepth 100000 in
set_option maxHeartbeats 4000000 in
/-- X4_waysOfTears -/
theorem c_X4_waysOfTears (l : Launch) (G : xG) (tW : Nat) (n : Nat) (u : Nat) (hn : n ≤ 10) (hu : u ≤ 10) : xM l G (xEW tW) yX4_waysOfTears cX4_waysOfTears 5 (some .long) 0 0 0 0 [.int (nI n), .int (nI u)] ([]) (some (.long (lN (F_wayN n u 10)))) (fun w2 => w2 = []) := by
  refine x_entry (by decide +kernel) (Nat.le_of_ble_eq_true rfl) rfl rfl (fun K X => ?_)
  refine x_iloadn X dX4_waysOfTears_0 0 rfl ?_
  refine x_if_lt_n 20 X dX4_waysOfTears_1 (by decide) (by omega) (fun c_1 => ?_) (fun c_1 => ?_)
  · -- 1 t
    exact absurd c_1 (by omega)
  · -- 1 f
    refine x_iloadn X dX4_waysOfTears_4 0 rfl ?_
    refine x_getsW X wf_X4_219 dX4_waysOfTears_5 ?_
    refine x_tlenW X dX4_waysOfTears_8 ?_
    refine x_icmp_ge_n 20 X dX4_waysOfTears_9 (by decide) (by omega) (by omega) (fun c_2 => ?_) (fun c_2 => ?_)
    · -- 9 t
      exact absurd c_2 (by omega)
    · -- 9 f
      refine x_getsW X wf_X4_219 dX4_waysOfTears_12 ?_
      refine x_iloadn X dX4_waysOfTears_15 0 rfl ?_
      refine x_taldW X (by omega) dX4_waysOfTears_16 ?_
      refine x_goto 21 X dX4_waysOfTears_17 (by decide) ?_
      refine x_lstoren (lv' := [(2, .long (lN (wofN n))), (0, .int (nI n)), (1, .int (nI u))]) X dX4_waysOfTears_21 (by decide) rfl ?_
      refine x_iconst (v := nI 0) X dX4_waysOfTears_22 (by decide) ?_
      refine x_istore (lv' := [(4, .int (nI 0)), (2, .long (lN (wofN n))), (0, .int (nI n)), (1, .int (nI u))]) X dX4_waysOfTears_23 (by decide) rfl ?_
      have L25 : ∀ (fu : Nat) (i : Nat) (y : Nat), 10 - i < fu → (i ≤ 10) → (y = F_wayN n u i) → K ([]) 0 0 25 [(0, .int (nI n)), (1, .int (nI u)), (2, .long (lN y)), (4, .int (nI i))] [] := by
        intro fu
        induction fu with
        | zero => intro i y hfu; exact absurd hfu (Nat.not_lt_zero _)
        | succ fu ih_L25 =>
          intro i y hfu_L25 hi hy
          refine x_iload X dX4_waysOfTears_25 3 rfl ?_
          refine x_bipush (v := nI 10) X dX4_waysOfTears_27 (by decide) ?_
          refine x_icmp_ge_n 57 X dX4_waysOfTears_29 (by decide) (by omega) (by omega) (fun c_3 => ?_) (fun c_3 => ?_)
          · -- 29 t
            have n_3 := Nat.not_lt.mpr c_3
            have e : i = 10 := by omega
            rw [e] at hy
            refine x_lloadn X dX4_waysOfTears_57 2 rfl ?_
            exact x_ret X dX4_waysOfTears_58 ⟨ret_l (by rw [hy]), rfl, by decide, by decide⟩
          · -- 29 f
            refine x_lloadn X dX4_waysOfTears_32 2 rfl ?_
            refine x_iload X dX4_waysOfTears_33 3 rfl ?_
            refine x_iloadn X dX4_waysOfTears_35 0 rfl ?_
            refine x_icmp_ge_n 44 X dX4_waysOfTears_36 (by decide) (by omega) (by omega) (fun c_4 => ?_) (fun c_4 => ?_)
            · -- 36 t
              have n_4 := Nat.not_lt.mpr c_4
              refine x_bipush (v := nI 10) X dX4_waysOfTears_44 (by decide) ?_
              refine x_iloadn X dX4_waysOfTears_46 1 rfl ?_
              refine x_isub (v := nI (10 - u)) X dX4_waysOfTears_47 (pk_sub (by omega)) ?_
              refine x_i2l (v := lN (10 - u)) X dX4_waysOfTears_48 (nI_l (by omega)) ?_
              refine x_lmul (v := lN (y * (10 - u))) X dX4_waysOfTears_49 (lN_mul _ _) ?_
              refine x_lstoren (lv' := [(2, .long (lN (y * (10 - u)))), (0, .int (nI n)), (1, .int (nI u)), (4, .int (nI i))]) X dX4_waysOfTears_50 (by decide) rfl ?_
              refine x_iinc (v := nI (i + 1)) (lv' := [(4, .int (nI (i + 1))), (2, .long (lN (y * (10 - u)))), (0, .int (nI n)), (1, .int (nI u))]) X dX4_waysOfTears_51 3 rfl (nI_1 _) (by decide) rfl ?_
              refine x_goto 25 X dX4_waysOfTears_54 (by decide) ?_
              refine x_lv (lv' := [(0, .int (nI n)), (1, .int (nI u)), (2, .long (lN (y * (10 - u)))), (4, .int (nI (i + 1)))]) X [2, 3, 1, 0] rfl ?_
              exact ih_L25 (i + 1) (y * (10 - u)) (by omega) (by omega) (by rw [hy, F_wayN]; first | rw [if_pos (by omega)] | rw [if_neg (by omega)])
            · -- 36 f
              refine x_iloadn X dX4_waysOfTears_39 1 rfl ?_
              refine x_i2l (v := lN u) X dX4_waysOfTears_40 (nI_l (by omega)) ?_
              refine x_goto 49 X dX4_waysOfTears_41 (by decide) ?_
              refine x_lmul (v := lN (y * u)) X dX4_waysOfTears_49 (lN_mul _ _) ?_
              refine x_lstoren (lv' := [(2, .long (lN (y * u))), (0, .int (nI n)), (1, .int (nI u)), (4, .int (nI i))]) X dX4_waysOfTears_50 (by decide) rfl ?_
              refine x_iinc (v := nI (i + 1)) (lv' := [(4, .int (nI (i + 1))), (2, .long (lN (y * u))), (0, .int (nI n)), (1, .int (nI u))]) X dX4_waysOfTears_51 3 rfl (nI_1 _) (by decide) rfl ?_
              refine x_goto 25 X dX4_waysOfTears_54 (by decide) ?_
              refine x_lv (lv' := [(0, .int (nI n)), (1, .int (nI u)), (2, .long (lN (y * u))), (4, .int (nI (i + 1)))]) X [2, 3, 1, 0] rfl ?_
              exact ih_L25 (i + 1) (y * u) (by omega) (by omega) (by rw [hy, F_wayN]; first | rw [if_pos (by omega)] | rw [if_neg (by omega)])
      refine x_lv (lv' := [(0, .int (nI n)), (1, .int (nI u)), (2, .long (lN (wofN n))), (4, .int (nI 0))]) X [2, 3, 1, 0] rfl ?_
      exact L25 _ 0 (wofN n) (Nat.lt_succ_self _) (by omega) (rfl)
set_option maxRecDepth 100000 in
set_option maxHeartbeats 4000000 in
/-- X4_greatestDivisor -/
theorem c_X4_greatestDivisor (l : Launch) (G : xG) (u : Nat) (v : Nat) (hu : u < 2 ^ 63) (hv : v < 2 ^ 63) : xM l G xE0 yX4_greatestDivisor cX4_greatestDivisor 11 (some .long) 0 0 0 0 [.long (lN u), .long (lN v)] ([]) (some (.long (lN (euc 100 v u)))) (fun w2 => w2 = []) := by
  refine x_entry (by decide +kernel) (Nat.le_of_ble_eq_true rfl) rfl rfl (fun K X => ?_)
  refine x_lloadn X dX4_greatestDivisor_0 1 rfl ?_
  refine x_lstore (lv' := [(4, .long (lN v)), (0, .long (lN u)), (2, .long (lN v))]) X dX4_greatestDivisor_1 (by decide) rfl ?_
  refine x_lloadn X dX4_greatestDivisor_3 1 rfl ?_
  refine x_lstore (lv' := [(6, .long (lN u)), (4, .long (lN v)), (0, .long (lN u)), (2, .long (lN v))]) X dX4_greatestDivisor_4 (by decide) rfl ?_
  refine x_iconst (v := nI 0) X dX4_greatestDivisor_6 (by decide) ?_
  refine x_istore (lv' := [(8, .int (nI 0)), (6, .long (lN u)), (4, .long (lN v)), (0, .long (lN u)), (2, .long (lN v))]) X dX4_greatestDivisor_7 (by decide) rfl ?_
  have L9 : ∀ (fu : Nat) (i : Nat) (h1 : Nat) (l1 : Nat), 100 - i < fu → (i ≤ 100) → (h1 < 2 ^ 63) → (l1 < 2 ^ 63) → (euc (100 - i) h1 l1 = euc 100 v u) → K ([]) 0 0 9 [(0, .long (lN u)), (2, .long (lN v)), (4, .long (lN h1)), (6, .long (lN l1)), (8, .int (nI i))] [] := by
    intro fu
    induction fu with
    | zero => intro i h1 l1 hfu; exact absurd hfu (Nat.not_lt_zero _)
    | succ fu ih_L9 =>
      intro i h1 l1 hfu_L9 hi hh hl hF
      refine x_iload X dX4_greatestDivisor_9 4 rfl ?_
      refine x_bipush (v := nI 100) X dX4_greatestDivisor_11 (by decide) ?_
      refine x_icmp_ge_n 44 X dX4_greatestDivisor_13 (by decide) (by omega) (by omega) (fun c_1 => ?_) (fun c_1 => ?_)
      · -- 13 t
        have n_1 := Nat.not_lt.mpr c_1
        refine x_lload X dX4_greatestDivisor_44 2 rfl ?_
        exact x_ret X dX4_greatestDivisor_46 ⟨ret_l (by rw [← hF]; first | rw [z0, euc_0] | rw [show 100 - i = 0 by omega, euc]), rfl, by decide, by decide⟩
      · -- 13 f
        refine x_lload X dX4_greatestDivisor_16 3 rfl ?_
        refine x_lconst (v := lN 0) X dX4_greatestDivisor_18 (by decide) ?_
        refine x_lcmp X dX4_greatestDivisor_19 ?_
        refine x_if_eq 44 X dX4_greatestDivisor_20 (by decide) (fun c_2 => ?_) (fun c_2 => ?_)
        · -- 20 t
          have z0 : l1 = 0 := (pk_lEQ (by omega) (by decide)).mp ((lg_cmp_eq _ _).mp c_2)
          refine x_lload X dX4_greatestDivisor_44 2 rfl ?_
          exact x_ret X dX4_greatestDivisor_46 ⟨ret_l (by rw [← hF]; first | rw [z0, euc_0] | rw [show 100 - i = 0 by omega, euc]), rfl, by decide, by decide⟩
        · -- 20 f
          have z0 : l1 ≠ 0 := fun q => c_2 ((lg_cmp_eq _ _).mpr (by rw [q]))
          have zm := Nat.mod_lt h1 (Nat.pos_of_ne_zero z0)
          refine x_lload X dX4_greatestDivisor_23 2 rfl ?_
          refine x_lload X dX4_greatestDivisor_25 3 rfl ?_
          refine x_lrem (v := lN (h1 % l1)) X dX4_greatestDivisor_27 (fun q => z0 ((pk_lEQ hl (by decide)).mp q)) (pk_lRem hh (by omega) hl) ?_
          refine x_lstore (lv' := [(9, .long (lN (h1 % l1))), (0, .long (lN u)), (2, .long (lN v)), (4, .long (lN h1)), (6, .long (lN l1)), (8, .int (nI i))]) X dX4_greatestDivisor_28 (by decide) rfl ?_
          refine x_lload X dX4_greatestDivisor_30 4 rfl ?_
          refine x_lstore (lv' := [(4, .long (lN l1)), (9, .long (lN (h1 % l1))), (0, .long (lN u)), (2, .long (lN v)), (6, .long (lN l1)), (8, .int (nI i))]) X dX4_greatestDivisor_32 (by decide) rfl ?_
          refine x_lload X dX4_greatestDivisor_34 1 rfl ?_
          refine x_lstore (lv' := [(6, .long (lN (h1 % l1))), (4, .long (lN l1)), (9, .long (lN (h1 % l1))), (0, .long (lN u)), (2, .long (lN v)), (8, .int (nI i))]) X dX4_greatestDivisor_36 (by decide) rfl ?_
          refine x_iinc (v := nI (i + 1)) (lv' := [(8, .int (nI (i + 1))), (6, .long (lN (h1 % l1))), (4, .long (lN l1)), (9, .long (lN (h1 % l1))), (0, .long (lN u)), (2, .long (lN v))]) X dX4_greatestDivisor_38 5 rfl (nI_1 _) (by decide) rfl ?_
          refine x_goto 9 X dX4_greatestDivisor_41 (by decide) ?_
          refine x_lv (lv' := [(0, .long (lN u)), (2, .long (lN v)), (4, .long (lN l1)), (6, .long (lN (h1 % l1))), (8, .int (nI (i + 1)))]) X [4, 5, 2, 1, 0] rfl ?_
          exact ih_L9 (i + 1) l1 (h1 % l1) (by omega) (by omega) (hl) (by omega) (by rw [← hF, show 100 - i = (100 - (i + 1)) + 1 by omega, euc, if_neg z0])
  refine x_lv (lv' := [(0, .long (lN u)), (2, .long (lN v)), (4, .long (lN v)), (6, .long (lN u)), (8, .int (nI 0))]) X [3, 4, 2, 1, 0] rfl ?_
  exact L9 _ 0 v u (Nat.lt_succ_self _) (by omega) (hv) (hu) (rfl)
set_option maxRecDepth 100000 in
set_option maxHeartbeats 4000000 in
/-- X4_again -/
theorem c_X4_again (l : Launch) (G : xG) (o : Nat) (x : Nat → Nat) (w : Nat → Nat) (d : Nat → Nat) (h : Nat → Nat) (g : Nat → Nat) (q : Nat → Nat) (e : Nat) (s : xS) (sd : xS) (f : Nat → Int32) (a : Int32) (b : Int32) (hs6 : s.1 ≤ 6) (hs1 : 0 < s.1) (hq5 : s.2.1 ≤ 5) (hmi : ∀ j, j < 6 → inR (s.2.2.2.1 j) 6 = true) : xM l G xE0 yX4_again cX4_again 6 (some .int) 6 126 0 0 [.ref o, .int a, .int b] (xJ [wInk G o x w d h g q e, wCq G w s, wCq G d sd, wIA G e 41 f]) (some (.int (F_again s a b))) (fun w2 => ∃ sd' : xS, ∃ f' : Nat → Int32, w2 = xJ [wInk G o x w d h g q e, wCq G w s, wCq G d sd', wIA G e 41 f']) := by
  refine x_entry (by decide +kernel) (Nat.le_of_ble_eq_true rfl) rfl ⟨_, rfl, rfl⟩ (fun K X => ?_)
  refine x_aloadn X dX4_again_0 0 rfl ?_
  refine x_get X wu_X4 0 rfl rfl 1 (by decide) wf_X4_19 rfl rfl dX4_again_1 ?_
  refine x_iloadn X dX4_again_4 1 rfl ?_
  refine x_callVrv (As := [.int a]) (rest := []) X (c_X0_hasPaper l G w s.1 s.2.1 s.2.2.1 s.2.2.2.1 s.2.2.2.2.1 s.2.2.2.2.2 a (by omega)) xE0_ok (fun _ _ _ => trivial) [1, 2, 3, 4, 5] rfl 0 rfl rfl rfl rfl wco_X0_hasPaper wi_X0 xd_X0_hasPaper wl_X4_109 win_X0_hasPaper wse_X0_hasPaper (by decide) (Nat.le_of_ble_eq_true rfl) dX4_again_5 ?_
  refine x_ifeq_b 19 X dX4_again_8 (by decide) (fun c_1 => ?_) (fun c_1 => ?_)
  · -- 8 t
    refine x_iconst (v := (-1)) X dX4_again_19 (by decide) ?_
    exact x_ret X dX4_again_20 ⟨ret_i (by simp [F_again, tn, c_1]), ⟨sd, f, rfl⟩, by decide, by decide⟩
  · -- 8 f
    obtain ⟨aN, haN, rfl⟩ := inR_nat c_1 (by omega)
    have qaN : (nI aN).toNatClampNeg = aN := nI_clamp (by omega)
    refine x_iloadn X dX4_again_11 2 rfl ?_
    refine x_iconst (v := nI 1) X dX4_again_12 (by decide) ?_
    refine x_callSrv (As := [.int b, .int (nI 1)]) (rest := []) X (c_X4_isUpTo l G b 1 (by omega)) xE0_ok (fun _ _ _ => trivial) [] rfl rfl rfl wco_X4_isUpTo wi_X4 xd_X4_isUpTo wl_X4_91 wst_X4_isUpTo (by decide) (Nat.le_of_ble_eq_true rfl) dX4_again_13 ?_
    refine x_ifne_b 21 X dX4_again_16 (by decide) (fun c_2 => ?_) (fun c_2 => ?_)
    · -- 16 t
      obtain ⟨bN, hbN, rfl⟩ := inR_nat c_2 (by omega)
      have qbN : (nI bN).toNatClampNeg = bN := nI_clamp (by omega)
      refine x_aloadn X dX4_again_21 0 rfl ?_
      refine x_get X wu_X4 0 rfl rfl 2 (by decide) wf_X4_23 rfl rfl dX4_again_22 ?_
      refine x_aloadn X dX4_again_25 0 rfl ?_
      refine x_get X wu_X4 0 rfl rfl 1 (by decide) wf_X4_19 rfl rfl dX4_again_26 ?_
      refine x_callVf0 (As := [.ref (w 0)]) (rest := []) (w1 := xJ [wCh G d s.1 s.2.1 s.2.2.1 s.2.2.2.1 s.2.2.2.2.1 s.2.2.2.2.2, wCh G w s.1 s.2.1 s.2.2.1 s.2.2.2.1 s.2.2.2.2.1 s.2.2.2.2.2]) (ws' := xJ [wInk G o x w d h g q e, wCh G w s.1 s.2.1 s.2.2.1 s.2.2.2.1 s.2.2.2.2.1 s.2.2.2.2.2, wCh G d s.1 s.2.1 s.2.2.1 s.2.2.2.1 s.2.2.2.2.1 s.2.2.2.2.2, wIA G e 41 f]) X (c_X0_becomeLike l G d sd.1 sd.2.1 sd.2.2.1 sd.2.2.2.1 sd.2.2.2.2.1 sd.2.2.2.2.2 w s.1 s.2.1 s.2.2.1 s.2.2.2.1 s.2.2.2.2.1 s.2.2.2.2.2) xE0_ok (fun _ _ _ => trivial) [6, 7, 8, 9, 10, 1, 2, 3, 4, 5] rfl 0 rfl rfl rfl rfl wco_X0_becomeLike wi_X0 xd_X0_becomeLike wl_X4_78 win_X0_becomeLike wse_X0_becomeLike (by decide) (Nat.le_of_ble_eq_true rfl) dX4_again_29 rfl (Eq.trans (b := [d 0, d 1, d 2, d 3, d 4, w 0, w 1, w 2, w 3, w 4]) rfl rfl) rfl ?_
      refine x_aloadn X dX4_again_32 0 rfl ?_
      refine x_get X wu_X4 0 rfl rfl 6 (by decide) wf_X4_45 rfl rfl dX4_again_33 ?_
      refine x_iconst (v := nI 0) X dX4_again_36 (by decide) ?_
      refine x_aloadn X dX4_again_37 0 rfl ?_
      refine x_get X wu_X4 0 rfl rfl 2 (by decide) wf_X4_23 rfl rfl dX4_again_38 ?_
      refine x_iloadn X dX4_again_41 1 rfl ?_
      refine x_callVrv (As := [.int (nI aN)]) (rest := [.int (nI 0), .ref e]) X (c_X0_codeOf l G d s.1 s.2.1 s.2.2.1 s.2.2.2.1 s.2.2.2.2.1 s.2.2.2.2.2 aN (by omega)) xE0_ok (fun _ _ _ => trivial) [6, 7, 8, 9, 10] rfl 0 rfl rfl rfl rfl wco_X0_codeOf wi_X0 xd_X0_codeOf wl_X4_157 win_X0_codeOf wse_X0_codeOf (by decide) (Nat.le_of_ble_eq_true rfl) dX4_again_42 ?_
      refine x_callSf0 (As := [.ref e, .int (nI 0), .int (F_code s.2.2.2.2.2 aN 5)]) (rest := []) (w1 := wIA G e 41 (upd f 0 (F_code s.2.2.2.2.2 aN 5))) (ws' := xJ [wInk G o x w d h g q e, wCh G w s.1 s.2.1 s.2.2.1 s.2.2.2.1 s.2.2.2.2.1 s.2.2.2.2.2, wCh G d s.1 s.2.1 s.2.2.1 s.2.2.2.1 s.2.2.2.2.1 s.2.2.2.2.2, wIA G e 41 (upd f 0 (F_code s.2.2.2.2.2 aN 5))]) X (c_X4_put l G e 41 f 0 (F_code s.2.2.2.2.2 aN 5) (by omega) (by omega)) xE0_ok (fun _ _ _ => trivial) [11] rfl rfl rfl wco_X4_put wi_X4 xd_X4_put wl_X4_160 wst_X4_put (by decide) (Nat.le_of_ble_eq_true rfl) dX4_again_45 rfl (Eq.trans (b := [e]) rfl rfl) rfl ?_
      refine x_iconst (v := nI 1) X dX4_again_48 (by decide) ?_
      refine x_istoren (lv' := [(3, .int (nI 1)), (0, .ref o), (1, .int (nI aN)), (2, .int (nI bN))]) X dX4_again_49 (by decide) rfl ?_
      have L50 : ∀ (fu : Nat) (r : Nat) (u : Nat → Int32) (y : Nat → Int32), 41 - r < fu → (1 ≤ r) → (r ≤ 41) → (y = F_gon s aN (r - 1)) → (∀ j, j < r → u j = F_cod s aN j) → (F_agn s aN bN (41 - r) r = F_agn s aN bN 40 1) → K (xJ [wInk G o x w d h g q e, wCq G w s, wCh G d s.1 s.2.1 s.2.2.1 s.2.2.2.1 s.2.2.2.2.1 y, wIA G e 41 u]) 0 0 50 [(0, .ref o), (1, .int (nI aN)), (2, .int (nI bN)), (3, .int (nI r))] [] := by
        intro fu
        induction fu with
        | zero => intro r u y hfu; exact absurd hfu (Nat.not_lt_zero _)
        | succ fu ih_L50 =>
          intro r u y hfu_L50 hr1 hr hy hu hF
          refine x_iloadn X dX4_again_50 3 rfl ?_
          refine x_bipush (v := nI 40) X dX4_again_51 (by decide) ?_
          refine x_icmp_gt_n 116 X dX4_again_53 (by decide) (by omega) (by omega) (fun c_3 => ?_) (fun c_3 => ?_)
          · -- 53 t
            refine x_bipush (v := (-4)) X dX4_again_116 (by decide) ?_
            exact x_ret X dX4_again_118 ⟨ret_i (by rw [show F_again s (nI aN) (nI bN) = F_agn s aN bN 40 1 from by simp [F_again, tn, c_1, qaN, c_2, qbN], ← hF, show 41 - r = 0 by omega, F_agn]), ⟨(s.1, s.2.1, s.2.2.1, s.2.2.2.1, s.2.2.2.2.1, y), u, rfl⟩, by decide, by decide⟩
          · -- 53 f
            have n_3 := Nat.not_lt.mpr c_3
            refine x_aloadn X dX4_again_56 0 rfl ?_
            refine x_get X wu_X4 0 rfl rfl 2 (by decide) wf_X4_23 rfl rfl dX4_again_57 ?_
            refine x_iloadn X dX4_again_60 1 rfl ?_
            refine x_callVf0 (As := [.int (nI aN)]) (rest := []) (w1 := wCh G d s.1 s.2.1 s.2.2.1 s.2.2.2.1 s.2.2.2.2.1 (goR s.2.2.1 s.2.2.2.1 s.2.2.2.2.1 y aN s.1)) (ws' := xJ [wInk G o x w d h g q e, wCq G w s, wCh G d s.1 s.2.1 s.2.2.1 s.2.2.2.1 s.2.2.2.2.1 (goR s.2.2.1 s.2.2.2.1 s.2.2.2.2.1 y aN s.1), wIA G e 41 u]) X (c_X0_goRound l G d s.1 s.2.1 s.2.2.1 s.2.2.2.1 s.2.2.2.2.1 y aN (by omega) (by omega) (by assumption)) xE0_ok (fun _ _ _ => trivial) [6, 7, 8, 9, 10] rfl 0 rfl rfl rfl rfl wco_X0_goRound wi_X0 xd_X0_goRound wl_X4_164 win_X0_goRound wse_X0_goRound (by decide) (Nat.le_of_ble_eq_true rfl) dX4_again_61 rfl (Eq.trans (b := [d 0, d 1, d 2, d 3, d 4]) rfl rfl) rfl ?_
            obtain ⟨g1, hg1⟩ : ∃ g1, g1 = goR s.2.2.1 s.2.2.2.1 s.2.2.2.2.1 y aN s.1 := ⟨_, rfl⟩
            rw [← hg1]
            have hg : g1 = F_gon s aN r := by rw [hg1, hy, show r = (r - 1) + 1 by omega]; rfl
            refine x_aloadn X dX4_again_64 0 rfl ?_
            refine x_get X wu_X4 0 rfl rfl 2 (by decide) wf_X4_23 rfl rfl dX4_again_65 ?_
            refine x_iloadn X dX4_again_68 1 rfl ?_
            refine x_callVrv (As := [.int (nI aN)]) (rest := []) X (c_X0_codeOf l G d s.1 s.2.1 s.2.2.1 s.2.2.2.1 s.2.2.2.2.1 g1 aN (by omega)) xE0_ok (fun _ _ _ => trivial) [6, 7, 8, 9, 10] rfl 0 rfl rfl rfl rfl wco_X0_codeOf wi_X0 xd_X0_codeOf wl_X4_157 win_X0_codeOf wse_X0_codeOf (by decide) (Nat.le_of_ble_eq_true rfl) dX4_again_69 ?_
            obtain ⟨cd, hc1⟩ : ∃ cd, cd = F_code g1 aN 5 := ⟨_, rfl⟩
            rw [← hc1]
            have hcd : cd = F_cod s aN r := by rw [hc1, hg]; rfl
            refine x_istore (lv' := [(4, .int cd), (0, .ref o), (1, .int (nI aN)), (2, .int (nI bN)), (3, .int (nI r))]) X dX4_again_72 (by decide) rfl ?_
            refine x_aloadn X dX4_again_74 1 rfl ?_
            refine x_iload X dX4_again_75 0 rfl ?_
            refine x_iloadn X dX4_again_77 4 rfl ?_
            refine x_callVrv (As := [.int cd, .int (nI r)]) (rest := []) X (c_X4_firstSeen l G o x w d h g q e u cd r (by omega)) xE0_ok (fun _ _ _ => trivial) [0, 11] rfl 0 rfl rfl rfl rfl wco_X4_firstSeen wi_X4 xd_X4_firstSeen wl_X4_167 win_X4_firstSeen wse_X4_firstSeen (by decide) (Nat.le_of_ble_eq_true rfl) dX4_again_78 ?_
            obtain ⟨f1, hf1⟩ : ∃ f1, f1 = F_fs u cd r r 0 := ⟨_, rfl⟩
            rw [← hf1]
            have hfe : f1 = F_fs (F_cod s aN) (F_cod s aN r) r r 0 := by rw [hf1, hcd]; exact F_fs_cg _ _ (fun j _ hj => hu j (by omega))
            have hfl : f1 ≤ r := by rw [hf1]; exact F_fs_le _ _ _ _ _ (by omega)
            refine x_istore (lv' := [(5, .int (nI f1)), (4, .int cd), (0, .ref o), (1, .int (nI aN)), (2, .int (nI bN)), (3, .int (nI r))]) X dX4_again_81 (by decide) rfl ?_
            refine x_iload X dX4_again_83 0 rfl ?_
            refine x_iloadn X dX4_again_85 5 rfl ?_
            refine x_icmp_ge_n 100 X dX4_again_86 (by decide) (by omega) (by omega) (fun c_4 => ?_) (fun c_4 => ?_)
            · -- 86 t
              have n_4 := Nat.not_lt.mpr c_4
              refine x_aloadn X dX4_again_100 2 rfl ?_
              refine x_get X wu_X4 0 rfl rfl 6 (by decide) wf_X4_45 rfl rfl dX4_again_101 ?_
              refine x_iloadn X dX4_again_104 5 rfl ?_
              refine x_iload X dX4_again_105 1 rfl ?_
              refine x_callSf0 (As := [.ref e, .int (nI r), .int cd]) (rest := []) (w1 := wIA G e 41 (upd u r cd)) (ws' := xJ [wInk G o x w d h g q e, wCq G w s, wCh G d s.1 s.2.1 s.2.2.1 s.2.2.2.1 s.2.2.2.2.1 g1, wIA G e 41 (upd u r cd)]) X (c_X4_put l G e 41 u r cd (by omega) (by omega)) xE0_ok (fun _ _ _ => trivial) [11] rfl rfl rfl wco_X4_put wi_X4 xd_X4_put wl_X4_160 wst_X4_put (by decide) (Nat.le_of_ble_eq_true rfl) dX4_again_107 rfl (Eq.trans (b := [e]) rfl rfl) rfl ?_
              refine x_iinc (v := nI (r + 1)) (lv' := [(3, .int (nI (r + 1))), (5, .int (nI f1)), (4, .int cd), (0, .ref o), (1, .int (nI aN)), (2, .int (nI bN))]) X dX4_again_110 5 rfl (nI_1 _) (by decide) rfl ?_
              refine x_goto 50 X dX4_again_113 (by decide) ?_
              refine x_lv (lv' := [(0, .ref o), (1, .int (nI aN)), (2, .int (nI bN)), (3, .int (nI (r + 1)))]) X [3, 4, 5, 0] rfl ?_
              exact ih_L50 (r + 1) (upd u r cd) g1 (by omega) (by omega) (by omega) (by rw [Nat.add_sub_cancel]; exact hg) (fun j hj => by simp only [upd]; split; (rename_i e; rw [e]; exact hcd); exact hu j (by omega)) (by rw [← hF, show 41 - r = (41 - (r + 1)) + 1 by omega, F_agn, if_neg (by rw [← hfe]; omega)])
            · -- 86 f
              refine x_iloadn X dX4_again_89 4 rfl ?_
              refine x_if_ne_n 97 X dX4_again_90 (by decide) (by omega) (fun c_5 => ?_) (fun c_5 => ?_)
              · -- 90 t
                refine x_iload X dX4_again_97 0 rfl ?_
                exact x_ret X dX4_again_99 ⟨ret_i (by rw [show F_again s (nI aN) (nI bN) = F_agn s aN bN 40 1 from by simp [F_again, tn, c_1, qaN, c_2, qbN], ← hF, show 41 - r = (40 - r) + 1 by omega, F_agn, if_pos (by rw [← hfe]; omega), if_neg (by omega), ← hfe]), ⟨(s.1, s.2.1, s.2.2.1, s.2.2.2.1, s.2.2.2.2.1, g1), u, rfl⟩, by decide, by decide⟩
              · -- 90 f
                refine x_iloadn X dX4_again_93 5 rfl ?_
                refine x_goto 99 X dX4_again_94 (by decide) ?_
                exact x_ret X dX4_again_99 ⟨ret_i (by rw [show F_again s (nI aN) (nI bN) = F_agn s aN bN 40 1 from by simp [F_again, tn, c_1, qaN, c_2, qbN], ← hF, show 41 - r = (40 - r) + 1 by omega, F_agn, if_pos (by rw [← hfe]; omega), if_pos (by omega)]), ⟨(s.1, s.2.1, s.2.2.1, s.2.2.2.1, s.2.2.2.2.1, g1), u, rfl⟩, by decide, by decide⟩
      refine x_lv (lv' := [(0, .ref o), (1, .int (nI aN)), (2, .int (nI bN)), (3, .int (nI 1))]) X [1, 2, 3, 0] rfl ?_
      exact L50 _ 1 (upd f 0 (F_code s.2.2.2.2.2 aN 5)) s.2.2.2.2.2 (Nat.lt_succ_self _) (by omega) (by omega) (rfl) (fun j hj => by rw [show j = 0 by omega]; simp [upd, F_cod, F_gon]) (rfl)
    · -- 16 f
      refine x_iconst (v := (-1)) X dX4_again_19 (by decide) ?_
      exact x_ret X dX4_again_20 ⟨ret_i (by simp [F_again, tn, c_1, qaN, c_2]), ⟨sd, f, rfl⟩, by decide, by decide⟩
