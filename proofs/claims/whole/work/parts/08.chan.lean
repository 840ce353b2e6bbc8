/-! ===== the Chancery's loops ===== -/
abbrev tn (x : Int32) : Nat := x.toNatClampNeg
theorem inR_eq {x : Int32} {n : Nat} (h : inR x n = true) (hn : n < 2 ^ 31) : x = nI (tn x) ∧ tn x < n := by
  obtain ⟨j, hj, rfl⟩ := inR_nat h hn
  have e : tn (nI j) = j := nI_clamp (Nat.lt_trans hj hn)
  rw [e]
  exact ⟨rfl, hj⟩
def fillF (f : Nat → Int32) (v : Int32) (i : Nat) : Nat → Int32 := fun j => if j < i then v else f j
theorem fillF_0 (f : Nat → Int32) (v : Int32) : f = fillF f v 0 := by funext j; simp [fillF]
theorem fillF_s (f : Nat → Int32) (v : Int32) (i : Nat) : upd (fillF f v i) i v = fillF f v (i + 1) := by
  funext j
  simp only [upd, fillF]
  by_cases h : j = i
  · subst h; simp
  · simp only [h, if_false]
    by_cases h2 : j < i
    · rw [if_pos h2, if_pos (by omega)]
    · rw [if_neg h2, if_neg (by omega)]
section XR
variable {l : Launch} {G : xG} {E : xE} {own nm : String} {cc : ByteArray} {nL : Nat} {R : Room} {Z : Option Value → va_W → Nat → Nat → Prop} {K : xKt} {ws : va_W} {k z pc : Nat} {lv : xL} {st : List Value}
theorem x_rowc {a n : Nat} {cA : ClassId} {f : Nat → Int32} {ws' : va_W} (g : Nat → Int32) (X : xR l G E own nm cc nL R Z K) (q0 : Nat) (h0 : ws[q0]? = some (a, .inl (cA, n, .inl f))) (hfg : ∀ j, j < n → f j = g j) (hws : ws.set q0 (a, .inl (cA, n, .inl g)) = ws') (kk : K ws' k z pc lv st) : K ws k z pc lv st :=
  x_row X h0 hfg (by rw [hws]; exact kk)
end XR
/-- what PERSON p copies onto PAPER b from PAPER a, behind t THEMES -/
def cpP (kd mi vi li : Nat → Int32) (p a b t : Nat) : Nat → Int32 := fun j => if b * 5 ≤ j ∧ j < b * 5 + t then F_cop (kd p) (vi (tn (mi p) * 5 + (j - b * 5))) (li (a * 5 + (j - b * 5))) else li j
theorem cpP_0 (kd mi vi li : Nat → Int32) (p a b : Nat) : li = cpP kd mi vi li p a b 0 := by
  funext j
  simp only [cpP]
  rw [if_neg (by omega)]
theorem cpP_at (kd mi vi li : Nat → Int32) (p a b t : Nat) (ht : t < 5) : cpP kd mi vi li p a b t (a * 5 + t) = li (a * 5 + t) := by
  simp only [cpP]
  rw [if_neg (by omega)]
theorem cpP_s (kd mi vi li : Nat → Int32) (p a b t : Nat) : upd (cpP kd mi vi li p a b t) (b * 5 + t) (F_cop (kd p) (vi (tn (mi p) * 5 + t)) (li (a * 5 + t))) = cpP kd mi vi li p a b (t + 1) := by
  funext j
  simp only [upd, cpP]
  by_cases h : j = b * 5 + t
  · subst h
    rw [if_pos rfl, if_pos (by omega), show b * 5 + t - b * 5 = t by omega]
  · rw [if_neg h]
    by_cases h2 : b * 5 ≤ j ∧ j < b * 5 + t
    · rw [if_pos h2, if_pos (by omega)]
    · rw [if_neg h2, if_neg (by omega)]
def goR (kd mi vi li : Nat → Int32) (a : Nat) : Nat → Nat → Int32
  | 0 => li
  | p + 1 => cpP kd mi vi (goR kd mi vi li a p) p a a 5
def F_code (li : Nat → Int32) (a : Nat) : Nat → Int32
  | 0 => nI 0
  | t + 1 => F_code li a t * nI 20 + (if li (a * 5 + t) = nI 100 then nI 19 else li (a * 5 + t) + nI 9)
def F_fil (li : Nat → Int32) (a : Nat) : Nat → Nat
  | 0 => 0
  | t + 1 => F_fil li a t + (if li (a * 5 + t) = nI 100 then 0 else 1)
theorem F_fil_le (li : Nat → Int32) (a : Nat) : ∀ t, F_fil li a t ≤ t
  | 0 => Nat.le_refl 0
  | t + 1 => by
    have := F_fil_le li a t
    simp only [F_fil]
    split <;> omega
def F_fils (li : Nat → Int32) : Nat → Nat
  | 0 => 0
  | a + 1 => F_fils li a + F_fil li a 5
def F_sum (li : Nat → Int32) (s0 : Int32) (a : Nat) : Nat → Int32
  | 0 => s0
  | t + 1 => F_sum li s0 a t + (if li (a * 5 + t) = nI 100 then nI 0 else li (a * 5 + t))
def F_sums (li : Nat → Int32) : Nat → Int32
  | 0 => nI 0
  | a + 1 => F_sum li (F_sums li a) a 5

set_option maxRecDepth 100000 in
set_option maxHeartbeats 4000000 in
/-- J7_fill_53178 -/
theorem c_J7_fill_53178 (l : Launch) (G : xG) (a : Nat) (n : Nat) (f : Nat → Int32) (v : Int32) (hn : n < 2 ^ 31) : xM l G xE0 yJ7_fill_53178 cJ7_fill_53178 4 none 0 0 0 0 [.ref a, .int v] (wIA G a n f) none (fun w2 => w2 = wIA G a n (fun _ => v)) := by
  refine x_entry (by decide +kernel) (Nat.le_of_ble_eq_true rfl) rfl rfl (fun K X => ?_)
  refine x_iconst (v := nI 0) X dJ7_fill_53178_0 (by decide) ?_
  refine x_istoren (lv' := [(2, .int (nI 0)), (0, .ref a), (1, .int v)]) X dJ7_fill_53178_1 (by decide) rfl ?_
  refine x_aloadn X dJ7_fill_53178_2 1 rfl ?_
  refine x_alen X 0 rfl dJ7_fill_53178_3 ?_
  refine x_istoren (lv' := [(3, .int (nI n)), (2, .int (nI 0)), (0, .ref a), (1, .int v)]) X dJ7_fill_53178_4 (by decide) rfl ?_
  have L5 : ∀ (fu : Nat) (i : Nat) (g : Nat → Int32), n - i < fu → (i ≤ n) → (g = fillF f v i) → K (wIA G a n g) 0 0 5 [(0, .ref a), (1, .int v), (2, .int (nI i)), (3, .int (nI n))] [] := by
    intro fu
    induction fu with
    | zero => intro i g hfu; exact absurd hfu (Nat.not_lt_zero _)
    | succ fu ih_L5 =>
      intro i g hfu_L5 hi hg
      refine x_iloadn X dJ7_fill_53178_5 2 rfl ?_
      refine x_iloadn X dJ7_fill_53178_6 3 rfl ?_
      refine x_icmp_ge_n 20 X dJ7_fill_53178_7 (by decide) (by omega) (by omega) (fun c_1 => ?_) (fun c_1 => ?_)
      · -- 7 t
        have n_1 := Nat.not_lt.mpr c_1
        refine x_rowc (ws' := wIA G a n (fun _ => v)) (fun _ => v) X 0 rfl (fun j hj => by rw [hg]; simp [fillF]; omega) rfl ?_
        exact x_retv X dJ7_fill_53178_20 ⟨rfl, rfl, by decide, by decide⟩
      · -- 7 f
        refine x_aloadn X dJ7_fill_53178_10 0 rfl ?_
        refine x_iloadn X dJ7_fill_53178_11 2 rfl ?_
        refine x_iloadn X dJ7_fill_53178_12 1 rfl ?_
        refine x_iast_n (g := upd g i v) (ws' := wIA G a n (upd g i v)) X 0 rfl (by omega) (by omega) rfl rfl dJ7_fill_53178_13 ?_
        refine x_iinc (v := nI (i + 1)) (lv' := [(2, .int (nI (i + 1))), (0, .ref a), (1, .int v), (3, .int (nI n))]) X dJ7_fill_53178_14 2 rfl (nI_1 _) (by decide) rfl ?_
        refine x_goto 5 X dJ7_fill_53178_17 (by decide) ?_
        refine x_lv (lv' := [(0, .ref a), (1, .int v), (2, .int (nI (i + 1))), (3, .int (nI n))]) X [1, 2, 0, 3] rfl ?_
        exact ih_L5 (i + 1) (upd g i v) (by omega) ((by omega)) (by rw [hg]; exact fillF_s _ _ _)
  refine x_lv (lv' := [(0, .ref a), (1, .int v), (2, .int (nI 0)), (3, .int (nI n))]) X [2, 3, 1, 0] rfl ?_
  exact L5 _ 0 f (Nat.lt_succ_self _) ((by omega)) (fillF_0 _ _)
set_option maxRecDepth 100000 in
set_option maxHeartbeats 4000000 in
/-- X0_takeRow -/
theorem c_X0_takeRow (l : Launch) (G : xG) (a : Nat) (n : Nat) (f : Nat → Int32) (b : Nat) (g : Nat → Int32) (hn : n < 2 ^ 31) : xM l G xE0 yX0_takeRow cX0_takeRow 2 none 1 30 0 0 [.ref a, .ref b] (xJ [wIA G a n f, wIA G b n g]) none (fun w2 => w2 = xJ [wIA G a n f, wIA G b n f]) := by
  refine x_entry (by decide +kernel) (Nat.le_of_ble_eq_true rfl) rfl rfl (fun K X => ?_)
  refine x_aloadn X dX0_takeRow_0 0 rfl ?_
  refine x_iconst (v := nI 0) X dX0_takeRow_1 (by decide) ?_
  refine x_aloadn X dX0_takeRow_2 1 rfl ?_
  refine x_iconst (v := nI 0) X dX0_takeRow_3 (by decide) ?_
  refine x_aloadn X dX0_takeRow_4 0 rfl ?_
  refine x_alen X 0 rfl dX0_takeRow_5 ?_
  refine x_aloadn X dX0_takeRow_6 1 rfl ?_
  refine x_alen X 1 rfl dX0_takeRow_7 ?_
  refine x_min (v := nI n) X wl_X0_41 (by decide) (Nat.le_of_ble_eq_true rfl) (by decide) (by simp) dX0_takeRow_8 ?_
  refine x_copy_n (ws' := xJ [wIA G a n f, wIA G b n (va_cpy f g 0 0 n)]) X wl_X0_47 0 1 rfl rfl (by omega) (by omega) (by omega) (by omega) (by omega) (by decide) (Nat.le_of_ble_eq_true rfl) rfl dX0_takeRow_11 ?_
  refine x_rowc (ws' := xJ [wIA G a n f, wIA G b n f]) f X 1 rfl (fun j hj => by simp [va_cpy, hj]) rfl ?_
  exact x_retv X dX0_takeRow_14 ⟨rfl, rfl, by decide, by decide⟩
set_option maxRecDepth 100000 in
set_option maxHeartbeats 4000000 in
/-- X0_becomeLike -/
theorem c_X0_becomeLike (l : Launch) (G : xG) (a : Nat → Nat) (np : Nat) (nq : Nat) (kd : Nat → Int32) (mi : Nat → Int32) (vi : Nat → Int32) (li : Nat → Int32) (b : Nat → Nat) (np2 : Nat) (nq2 : Nat) (kd2 : Nat → Int32) (mi2 : Nat → Int32) (vi2 : Nat → Int32) (li2 : Nat → Int32)  : xM l G xE0 yX0_becomeLike cX0_becomeLike 2 none 2 51 0 0 [.ref (a 0), .ref (b 0)] (xJ [wCh G a np nq kd mi vi li, wCh G b np2 nq2 kd2 mi2 vi2 li2]) none (fun w2 => w2 = xJ [wCh G a np2 nq2 kd2 mi2 vi2 li2, wCh G b np2 nq2 kd2 mi2 vi2 li2]) := by
  refine x_entry (by decide +kernel) (Nat.le_of_ble_eq_true rfl) rfl rfl (fun K X => ?_)
  refine x_aloadn X dX0_becomeLike_0 0 rfl ?_
  refine x_aloadn X dX0_becomeLike_1 1 rfl ?_
  refine x_get X wu_X0 5 rfl rfl 0 (by decide) wf_X0_24 rfl rfl dX0_becomeLike_2 ?_
  refine x_put (ws' := xJ [wCh G a np2 nq kd mi vi li, wCh G b np2 nq2 kd2 mi2 vi2 li2]) (ty := tyX0 0) X wu_X0 tyX0_ok nmX0 0 rfl rfl 0 (by decide) wf_X0_24 rfl rfl (by decide +kernel) rfl rfl (Nat.le_of_ble_eq_true rfl) rfl dX0_becomeLike_5 ?_
  refine x_aloadn X dX0_becomeLike_8 0 rfl ?_
  refine x_aloadn X dX0_becomeLike_9 1 rfl ?_
  refine x_get X wu_X0 5 rfl rfl 1 (by decide) wf_X0_28 rfl rfl dX0_becomeLike_10 ?_
  refine x_put (ws' := xJ [wCh G a np2 nq2 kd mi vi li, wCh G b np2 nq2 kd2 mi2 vi2 li2]) (ty := tyX0 1) X wu_X0 tyX0_ok nmX0 0 rfl rfl 1 (by decide) wf_X0_28 rfl rfl (by decide +kernel) rfl rfl (Nat.le_of_ble_eq_true rfl) rfl dX0_becomeLike_13 ?_
  refine x_aloadn X dX0_becomeLike_16 1 rfl ?_
  refine x_get X wu_X0 5 rfl rfl 2 (by decide) wf_X0_9 rfl rfl dX0_becomeLike_17 ?_
  refine x_aloadn X dX0_becomeLike_20 0 rfl ?_
  refine x_get X wu_X0 0 rfl rfl 2 (by decide) wf_X0_9 rfl rfl dX0_becomeLike_21 ?_
  refine x_callSf0 (As := [.ref (b 1), .ref (a 1)]) (rest := []) (w1 := xJ [wIA G (b 1) 6 kd2, wIA G (a 1) 6 kd2]) (ws' := xJ [wCh G a np2 nq2 kd2 mi vi li, wCh G b np2 nq2 kd2 mi2 vi2 li2]) X (c_X0_takeRow l G (b 1) 6 kd2 (a 1) kd (by omega)) xE0_ok (fun _ _ _ => trivial) [6, 1] rfl rfl rfl wco_X0_takeRow wi_X0 xd_X0_takeRow wl_X0_37 wst_X0_takeRow (by decide) (Nat.le_of_ble_eq_true rfl) dX0_becomeLike_24 rfl (Eq.trans (b := [b 1, a 1]) rfl rfl) rfl ?_
  refine x_aloadn X dX0_becomeLike_27 1 rfl ?_
  refine x_get X wu_X0 5 rfl rfl 3 (by decide) wf_X0_15 rfl rfl dX0_becomeLike_28 ?_
  refine x_aloadn X dX0_becomeLike_31 0 rfl ?_
  refine x_get X wu_X0 0 rfl rfl 3 (by decide) wf_X0_15 rfl rfl dX0_becomeLike_32 ?_
  refine x_callSf0 (As := [.ref (b 2), .ref (a 2)]) (rest := []) (w1 := xJ [wIA G (b 2) 6 mi2, wIA G (a 2) 6 mi2]) (ws' := xJ [wCh G a np2 nq2 kd2 mi2 vi li, wCh G b np2 nq2 kd2 mi2 vi2 li2]) X (c_X0_takeRow l G (b 2) 6 mi2 (a 2) mi (by omega)) xE0_ok (fun _ _ _ => trivial) [7, 2] rfl rfl rfl wco_X0_takeRow wi_X0 xd_X0_takeRow wl_X0_37 wst_X0_takeRow (by decide) (Nat.le_of_ble_eq_true rfl) dX0_becomeLike_35 rfl (Eq.trans (b := [b 2, a 2]) rfl rfl) rfl ?_
  refine x_aloadn X dX0_becomeLike_38 1 rfl ?_
  refine x_get X wu_X0 5 rfl rfl 4 (by decide) wf_X0_18 rfl rfl dX0_becomeLike_39 ?_
  refine x_aloadn X dX0_becomeLike_42 0 rfl ?_
  refine x_get X wu_X0 0 rfl rfl 4 (by decide) wf_X0_18 rfl rfl dX0_becomeLike_43 ?_
  refine x_callSf0 (As := [.ref (b 3), .ref (a 3)]) (rest := []) (w1 := xJ [wIA G (b 3) 30 vi2, wIA G (a 3) 30 vi2]) (ws' := xJ [wCh G a np2 nq2 kd2 mi2 vi2 li, wCh G b np2 nq2 kd2 mi2 vi2 li2]) X (c_X0_takeRow l G (b 3) 30 vi2 (a 3) vi (by omega)) xE0_ok (fun _ _ _ => trivial) [8, 3] rfl rfl rfl wco_X0_takeRow wi_X0 xd_X0_takeRow wl_X0_37 wst_X0_takeRow (by decide) (Nat.le_of_ble_eq_true rfl) dX0_becomeLike_46 rfl (Eq.trans (b := [b 3, a 3]) rfl rfl) rfl ?_
  refine x_aloadn X dX0_becomeLike_49 1 rfl ?_
  refine x_get X wu_X0 5 rfl rfl 5 (by decide) wf_X0_21 rfl rfl dX0_becomeLike_50 ?_
  refine x_aloadn X dX0_becomeLike_53 0 rfl ?_
  refine x_get X wu_X0 0 rfl rfl 5 (by decide) wf_X0_21 rfl rfl dX0_becomeLike_54 ?_
  refine x_callSf0 (As := [.ref (b 4), .ref (a 4)]) (rest := []) (w1 := xJ [wIA G (b 4) 25 li2, wIA G (a 4) 25 li2]) (ws' := xJ [wCh G a np2 nq2 kd2 mi2 vi2 li2, wCh G b np2 nq2 kd2 mi2 vi2 li2]) X (c_X0_takeRow l G (b 4) 25 li2 (a 4) li (by omega)) xE0_ok (fun _ _ _ => trivial) [9, 4] rfl rfl rfl wco_X0_takeRow wi_X0 xd_X0_takeRow wl_X0_37 wst_X0_takeRow (by decide) (Nat.le_of_ble_eq_true rfl) dX0_becomeLike_57 rfl (Eq.trans (b := [b 4, a 4]) rfl rfl) rfl ?_
  exact x_retv X dX0_becomeLike_60 ⟨rfl, rfl, by decide, by decide⟩
set_option maxRecDepth 100000 in
set_option maxHeartbeats 4000000 in
/-- X0_becomeBlank -/
theorem c_X0_becomeBlank (l : Launch) (G : xG) (a : Nat → Nat) (np : Nat) (nq : Nat) (kd : Nat → Int32) (mi : Nat → Int32) (vi : Nat → Int32) (li : Nat → Int32)  : xM l G xE0 yX0_becomeBlank cX0_becomeBlank 1 none 1 23 0 0 [.ref (a 0)] (wCh G a np nq kd mi vi li) none (fun w2 => w2 = wCh G a 0 3 (fun _ => nI 0) (fun _ => nI 0) (fun _ => nI 0) (fun _ => nI 100)) := by
  refine x_entry (by decide +kernel) (Nat.le_of_ble_eq_true rfl) rfl rfl (fun K X => ?_)
  refine x_aloadn X dX0_becomeBlank_0 0 rfl ?_
  refine x_iconst (v := nI 0) X dX0_becomeBlank_1 (by decide) ?_
  refine x_put (ws' := wCh G a 0 nq kd mi vi li) (ty := tyX0 0) X wu_X0 tyX0_ok nmX0 0 rfl rfl 0 (by decide) wf_X0_24 rfl rfl (by decide +kernel) rfl rfl (Nat.le_of_ble_eq_true rfl) rfl dX0_becomeBlank_2 ?_
  refine x_aloadn X dX0_becomeBlank_5 0 rfl ?_
  refine x_iconst (v := nI 3) X dX0_becomeBlank_6 (by decide) ?_
  refine x_put (ws' := wCh G a 0 3 kd mi vi li) (ty := tyX0 1) X wu_X0 tyX0_ok nmX0 0 rfl rfl 1 (by decide) wf_X0_28 rfl rfl (by decide +kernel) rfl rfl (Nat.le_of_ble_eq_true rfl) rfl dX0_becomeBlank_7 ?_
  refine x_aloadn X dX0_becomeBlank_10 0 rfl ?_
  refine x_get X wu_X0 0 rfl rfl 2 (by decide) wf_X0_9 rfl rfl dX0_becomeBlank_11 ?_
  refine x_iconst (v := nI 0) X dX0_becomeBlank_14 (by decide) ?_
  refine x_callSf0 (As := [.ref (a 1), .int (nI 0)]) (rest := []) (w1 := wIA G (a 1) 6 (fun _ => (nI 0))) (ws' := wCh G a 0 3 (fun _ => (nI 0)) mi vi li) X (c_J7_fill_53178 l G (a 1) 6 kd (nI 0) (by omega)) xE0_ok (fun _ _ _ => trivial) [1] rfl rfl rfl wco_J7_fill_53178 wi_J7 xd_J7_fill_53178 wl_X0_31 wst_J7_fill_53178 (by decide) (Nat.le_of_ble_eq_true rfl) dX0_becomeBlank_15 rfl (Eq.trans (b := [a 1]) rfl rfl) rfl ?_
  refine x_aloadn X dX0_becomeBlank_18 0 rfl ?_
  refine x_get X wu_X0 0 rfl rfl 3 (by decide) wf_X0_15 rfl rfl dX0_becomeBlank_19 ?_
  refine x_iconst (v := nI 0) X dX0_becomeBlank_22 (by decide) ?_
  refine x_callSf0 (As := [.ref (a 2), .int (nI 0)]) (rest := []) (w1 := wIA G (a 2) 6 (fun _ => (nI 0))) (ws' := wCh G a 0 3 (fun _ => (nI 0)) (fun _ => (nI 0)) vi li) X (c_J7_fill_53178 l G (a 2) 6 mi (nI 0) (by omega)) xE0_ok (fun _ _ _ => trivial) [2] rfl rfl rfl wco_J7_fill_53178 wi_J7 xd_J7_fill_53178 wl_X0_31 wst_J7_fill_53178 (by decide) (Nat.le_of_ble_eq_true rfl) dX0_becomeBlank_23 rfl (Eq.trans (b := [a 2]) rfl rfl) rfl ?_
  refine x_aloadn X dX0_becomeBlank_26 0 rfl ?_
  refine x_get X wu_X0 0 rfl rfl 4 (by decide) wf_X0_18 rfl rfl dX0_becomeBlank_27 ?_
  refine x_iconst (v := nI 0) X dX0_becomeBlank_30 (by decide) ?_
  refine x_callSf0 (As := [.ref (a 3), .int (nI 0)]) (rest := []) (w1 := wIA G (a 3) 30 (fun _ => (nI 0))) (ws' := wCh G a 0 3 (fun _ => (nI 0)) (fun _ => (nI 0)) (fun _ => (nI 0)) li) X (c_J7_fill_53178 l G (a 3) 30 vi (nI 0) (by omega)) xE0_ok (fun _ _ _ => trivial) [3] rfl rfl rfl wco_J7_fill_53178 wi_J7 xd_J7_fill_53178 wl_X0_31 wst_J7_fill_53178 (by decide) (Nat.le_of_ble_eq_true rfl) dX0_becomeBlank_31 rfl (Eq.trans (b := [a 3]) rfl rfl) rfl ?_
  refine x_aloadn X dX0_becomeBlank_34 0 rfl ?_
  refine x_get X wu_X0 0 rfl rfl 5 (by decide) wf_X0_21 rfl rfl dX0_becomeBlank_35 ?_
  refine x_bipush (v := nI 100) X dX0_becomeBlank_38 (by decide) ?_
  refine x_callSf0 (As := [.ref (a 4), .int (nI 100)]) (rest := []) (w1 := wIA G (a 4) 25 (fun _ => (nI 100))) (ws' := wCh G a 0 3 (fun _ => (nI 0)) (fun _ => (nI 0)) (fun _ => (nI 0)) (fun _ => (nI 100))) X (c_J7_fill_53178 l G (a 4) 25 li (nI 100) (by omega)) xE0_ok (fun _ _ _ => trivial) [4] rfl rfl rfl wco_J7_fill_53178 wi_J7 xd_J7_fill_53178 wl_X0_31 wst_J7_fill_53178 (by decide) (Nat.le_of_ble_eq_true rfl) dX0_becomeBlank_40 rfl (Eq.trans (b := [a 4]) rfl rfl) rfl ?_
  exact x_retv X dX0_becomeBlank_43 ⟨rfl, rfl, by decide, by decide⟩
set_option maxRecDepth 100000 in
set_option maxHeartbeats 4000000 in
/-- X0_canBeLaid -/
theorem c_X0_canBeLaid (l : Launch) (G : xG) (a : Nat → Nat) (np : Nat) (nq : Nat) (kd : Nat → Int32) (mi : Nat → Int32) (vi : Nat → Int32) (li : Nat → Int32) (hnp : np ≤ 6) : xM l G xE0 yX0_canBeLaid cX0_canBeLaid 2 (some .boolean) 2 42 0 0 [.ref (a 0)] (wCh G a np nq kd mi vi li) (some (.int (bI (decide (∀ j, j < np → inR (mi j) np = true) && decide (0 < np))))) (fun w2 => w2 = wCh G a np nq kd mi vi li) := by
  refine x_entry (by decide +kernel) (Nat.le_of_ble_eq_true rfl) rfl ⟨_, rfl, bI_narrow _⟩ (fun K X => ?_)
  refine x_iconst (v := nI 0) X dX0_canBeLaid_0 (by decide) ?_
  refine x_istoren (lv' := [(1, .int (nI 0)), (0, .ref (a 0))]) X dX0_canBeLaid_1 (by decide) rfl ?_
  have L2 : ∀ (fu : Nat) (i : Nat), np - i < fu → (i ≤ np) → (∀ j, j < i → inR (mi j) np = true) → K (wCh G a np nq kd mi vi li) 0 0 2 [(0, .ref (a 0)), (1, .int (nI i))] [] := by
    intro fu
    induction fu with
    | zero => intro i hfu; exact absurd hfu (Nat.not_lt_zero _)
    | succ fu ih_L2 =>
      intro i hfu_L2 hi hm
      refine x_iloadn X dX0_canBeLaid_2 1 rfl ?_
      refine x_aloadn X dX0_canBeLaid_3 0 rfl ?_
      refine x_get X wu_X0 0 rfl rfl 0 (by decide) wf_X0_24 rfl rfl dX0_canBeLaid_4 ?_
      refine x_icmp_ge_n 30 X dX0_canBeLaid_7 (by decide) (by omega) (by omega) (fun c_1 => ?_) (fun c_1 => ?_)
      · -- 7 t
        have n_1 := Nat.not_lt.mpr c_1
        refine x_aloadn X dX0_canBeLaid_30 0 rfl ?_
        refine x_get X wu_X0 0 rfl rfl 0 (by decide) wf_X0_24 rfl rfl dX0_canBeLaid_31 ?_
        refine x_if_le_n 41 X dX0_canBeLaid_34 (by decide) (by omega) (fun c_2 => ?_) (fun c_2 => ?_)
        · -- 34 t
          have n_2 := Nat.not_lt.mpr c_2
          refine x_iconst (v := nI 0) X dX0_canBeLaid_41 (by decide) ?_
          exact x_ret X dX0_canBeLaid_42 ⟨ret_i (by rw [show (decide (∀ j, j < np → inR (mi j) np = true)) = true from decide_eq_true (fun j h => hm j (by omega)), show decide (0 < np) = false from decide_eq_false (by omega)]; rfl), rfl, by decide, by decide⟩
        · -- 34 f
          refine x_iconst (v := nI 1) X dX0_canBeLaid_37 (by decide) ?_
          refine x_goto 42 X dX0_canBeLaid_38 (by decide) ?_
          exact x_ret X dX0_canBeLaid_42 ⟨ret_i (by rw [show (decide (∀ j, j < np → inR (mi j) np = true)) = true from decide_eq_true (fun j h => hm j (by omega)), show decide (0 < np) = true from decide_eq_true (by omega)]; rfl), rfl, by decide, by decide⟩
      · -- 7 f
        refine x_aloadn X dX0_canBeLaid_10 0 rfl ?_
        refine x_aloadn X dX0_canBeLaid_11 0 rfl ?_
        refine x_iloadn X dX0_canBeLaid_12 1 rfl ?_
        refine x_callVrv (As := [.int (nI i)]) (rest := [.ref (a 0)]) X (c_X0_mindOf l G a np nq kd mi vi li i (by omega)) xE0_ok (fun _ _ _ => trivial) [0, 1, 2, 3, 4] rfl 0 rfl rfl rfl rfl wco_X0_mindOf wi_X0 xd_X0_mindOf wl_X0_72 win_X0_mindOf wse_X0_mindOf (by decide) (Nat.le_of_ble_eq_true rfl) dX0_canBeLaid_13 ?_
        refine x_callVrv (As := [.int (mi i)]) (rest := []) X (c_X0_hasPerson l G a np nq kd mi vi li (mi i) (by omega)) xE0_ok (fun _ _ _ => trivial) [0, 1, 2, 3, 4] rfl 0 rfl rfl rfl rfl wco_X0_hasPerson wi_X0 xd_X0_hasPerson wl_X0_61 win_X0_hasPerson wse_X0_hasPerson (by decide) (Nat.le_of_ble_eq_true rfl) dX0_canBeLaid_16 ?_
        refine x_ifne_b 24 X dX0_canBeLaid_19 (by decide) (fun c_3 => ?_) (fun c_3 => ?_)
        · -- 19 t
          refine x_iinc (v := nI (i + 1)) (lv' := [(1, .int (nI (i + 1))), (0, .ref (a 0))]) X dX0_canBeLaid_24 1 rfl (nI_1 _) (by decide) rfl ?_
          refine x_goto 2 X dX0_canBeLaid_27 (by decide) ?_
          refine x_lv (lv' := [(0, .ref (a 0)), (1, .int (nI (i + 1)))]) X [1, 0] rfl ?_
          exact ih_L2 (i + 1) (by omega) ((by omega)) (fun j h => by rcases Nat.lt_succ_iff_lt_or_eq.mp h with h | h; exact hm j h; rw [h]; assumption)
        · -- 19 f
          refine x_iconst (v := nI 0) X dX0_canBeLaid_22 (by decide) ?_
          exact x_ret X dX0_canBeLaid_23 ⟨ret_i (by rw [show (decide (∀ j, j < np → inR (mi j) np = true)) = false from decide_eq_false (fun h => by have := h i (by assumption); simp_all)]; rfl), rfl, by decide, by decide⟩
  refine x_lv (lv' := [(0, .ref (a 0)), (1, .int (nI 0))]) X [1, 0] rfl ?_
  exact L2 _ 0 (Nat.lt_succ_self _) ((by omega)) (fun j h => absurd h (Nat.not_lt_zero j))
set_option maxRecDepth 100000 in
set_option maxHeartbeats 4000000 in
/-- X0_written -/
theorem c_X0_written (l : Launch) (G : xG) (a : Nat → Nat) (np : Nat) (nq : Nat) (kd : Nat → Int32) (mi : Nat → Int32) (vi : Nat → Int32) (li : Nat → Int32) (p : Nat) (t : Nat) (n : Int32) (hp : p < 6) (ht : t < 5) (hmi : ∀ j, j < 6 → inR (mi j) 6 = true) : xM l G xE0 yX0_written cX0_written 4 (some .int) 3 69 0 0 [.ref (a 0), .int (nI p), .int (nI t), .int n] (wCh G a np nq kd mi vi li) (some (.int (F_ink (kd p) (vi (tn (mi p) * 5 + t)) (vi (p * 5 + t)) n))) (fun w2 => w2 = wCh G a np nq kd mi vi li) := by
  refine x_entry (by decide +kernel) (Nat.le_of_ble_eq_true rfl) rfl ⟨_, rfl, rfl⟩ (fun K X => ?_)
  refine x_aloadn X dX0_written_0 0 rfl ?_
  refine x_iloadn X dX0_written_1 1 rfl ?_
  refine x_aloadn X dX0_written_2 0 rfl ?_
  refine x_iloadn X dX0_written_3 1 rfl ?_
  refine x_callVrv (As := [.int (nI p)]) (rest := [.int (nI p), .ref (a 0)]) X (c_X0_mindOf l G a np nq kd mi vi li p (by omega)) xE0_ok (fun _ _ _ => trivial) [0, 1, 2, 3, 4] rfl 0 rfl rfl rfl rfl wco_X0_mindOf wi_X0 xd_X0_mindOf wl_X0_72 win_X0_mindOf wse_X0_mindOf (by decide) (Nat.le_of_ble_eq_true rfl) dX0_written_4 ?_
  obtain ⟨em, hm6⟩ := inR_eq (hmi p hp) (by decide)
  refine x_int em ?_
  refine x_iloadn X dX0_written_7 2 rfl ?_
  refine x_iloadn X dX0_written_8 3 rfl ?_
  refine x_callVrv (As := [.int (nI p), .int (nI (tn (mi p))), .int (nI t), .int n]) (rest := []) X (c_X0_writtenFor l G a np nq kd mi vi li p (tn (mi p)) t n (by omega) (by omega) (by omega)) xE0_ok (fun _ _ _ => trivial) [0, 1, 2, 3, 4] rfl 0 rfl rfl rfl rfl wco_X0_writtenFor wi_X0 xd_X0_writtenFor wl_X0_80 win_X0_writtenFor wse_X0_writtenFor (by decide) (Nat.le_of_ble_eq_true rfl) dX0_written_9 ?_
  exact x_ret X dX0_written_12 ⟨ret_i (by simp []), rfl, by decide, by decide⟩
set_option maxRecDepth 100000 in
set_option maxHeartbeats 4000000 in
/-- X0_copied -/
theorem c_X0_copied (l : Launch) (G : xG) (a : Nat → Nat) (np : Nat) (nq : Nat) (kd : Nat → Int32) (mi : Nat → Int32) (vi : Nat → Int32) (li : Nat → Int32) (p : Nat) (t : Nat) (x : Int32) (hp : p < 6) (ht : t < 5) (hmi : ∀ j, j < 6 → inR (mi j) 6 = true) : xM l G xE0 yX0_copied cX0_copied 4 (some .int) 3 57 0 0 [.ref (a 0), .int (nI p), .int (nI t), .int x] (wCh G a np nq kd mi vi li) (some (.int (F_cop (kd p) (vi (tn (mi p) * 5 + t)) x))) (fun w2 => w2 = wCh G a np nq kd mi vi li) := by
  refine x_entry (by decide +kernel) (Nat.le_of_ble_eq_true rfl) rfl ⟨_, rfl, rfl⟩ (fun K X => ?_)
  refine x_iloadn X dX0_copied_0 3 rfl ?_
  refine x_bipush (v := nI 100) X dX0_copied_1 (by decide) ?_
  refine x_icmp_ne 11 X dX0_copied_3 (by decide) (fun c_1 => ?_) (fun c_1 => ?_)
  · -- 3 t
    refine x_aloadn X dX0_copied_11 0 rfl ?_
    refine x_iloadn X dX0_copied_12 1 rfl ?_
    refine x_callVrv (As := [.int (nI p)]) (rest := []) X (c_X0_kindOf l G a np nq kd mi vi li p (by omega)) xE0_ok (fun _ _ _ => trivial) [0, 1, 2, 3, 4] rfl 0 rfl rfl rfl rfl wco_X0_kindOf wi_X0 xd_X0_kindOf wl_X0_84 win_X0_kindOf wse_X0_kindOf (by decide) (Nat.le_of_ble_eq_true rfl) dX0_copied_13 ?_
    refine x_iloadn X dX0_copied_16 3 rfl ?_
    refine x_aloadn X dX0_copied_17 0 rfl ?_
    refine x_aloadn X dX0_copied_18 0 rfl ?_
    refine x_iloadn X dX0_copied_19 1 rfl ?_
    refine x_callVrv (As := [.int (nI p)]) (rest := [.ref (a 0), .int x, .int (kd p)]) X (c_X0_mindOf l G a np nq kd mi vi li p (by omega)) xE0_ok (fun _ _ _ => trivial) [0, 1, 2, 3, 4] rfl 0 rfl rfl rfl rfl wco_X0_mindOf wi_X0 xd_X0_mindOf wl_X0_72 win_X0_mindOf wse_X0_mindOf (by decide) (Nat.le_of_ble_eq_true rfl) dX0_copied_20 ?_
    obtain ⟨em, hm6⟩ := inR_eq (hmi p hp) (by decide)
    refine x_int em ?_
    refine x_iloadn X dX0_copied_23 2 rfl ?_
    refine x_callVrv (As := [.int (nI (tn (mi p))), .int (nI t)]) (rest := [.int x, .int (kd p)]) X (c_X0_viewOf l G a np nq kd mi vi li (tn (mi p)) t (by omega) (by omega)) xE0_ok (fun _ _ _ => trivial) [0, 1, 2, 3, 4] rfl 0 rfl rfl rfl rfl wco_X0_viewOf wi_X0 xd_X0_viewOf wl_X0_87 win_X0_viewOf wse_X0_viewOf (by decide) (Nat.le_of_ble_eq_true rfl) dX0_copied_24 ?_
    refine x_callNrv (As := [.int (kd p), .int x, .int (vi ((tn (mi p)) * 5 + t))]) (rest := []) X (c_X4_carried l G (kd p) x (vi ((tn (mi p)) * 5 + t))) xE0_ok (fun _ _ _ => trivial) [] rfl rfl rfl wco_X4_carried wi_X4 xd_X4_carried wn_X0_93 wst_X4_carried (by decide) (Nat.le_of_ble_eq_true rfl) dX0_copied_27 ?_
    exact x_ret X dX0_copied_30 ⟨ret_i (by simp [F_cop, c_1]), rfl, by decide, by decide⟩
  · -- 3 f
    refine x_bipush (v := nI 100) X dX0_copied_6 (by decide) ?_
    refine x_goto 30 X dX0_copied_8 (by decide) ?_
    exact x_ret X dX0_copied_30 ⟨ret_i (by simp [F_cop, c_1]), rfl, by decide, by decide⟩
set_option maxRecDepth 100000 in
set_option maxHeartbeats 4000000 in
/-- X0_copyPaper -/
theorem c_X0_copyPaper (l : Launch) (G : xG) (a : Nat → Nat) (np : Nat) (nq : Nat) (kd : Nat → Int32) (mi : Nat → Int32) (vi : Nat → Int32) (li : Nat → Int32) (x : Nat) (y : Nat) (p : Nat) (hx : x < 5) (hy : y < 5) (hp : p < 6) (hmi : ∀ j, j < 6 → inR (mi j) 6 = true) : xM l G xE0 yX0_copyPaper cX0_copyPaper 5 none 4 80 0 0 [.ref (a 0), .int (nI x), .int (nI y), .int (nI p)] (wCh G a np nq kd mi vi li) none (fun w2 => w2 = wCh G a np nq kd mi vi (cpP kd mi vi li p x y 5)) := by
  refine x_entry (by decide +kernel) (Nat.le_of_ble_eq_true rfl) rfl rfl (fun K X => ?_)
  refine x_iconst (v := nI 0) X dX0_copyPaper_0 (by decide) ?_
  refine x_istore (lv' := [(4, .int (nI 0)), (0, .ref (a 0)), (1, .int (nI x)), (2, .int (nI y)), (3, .int (nI p))]) X dX0_copyPaper_1 (by decide) rfl ?_
  have L3 : ∀ (fu : Nat) (t : Nat) (g : Nat → Int32), 5 - t < fu → (t ≤ 5) → (g = cpP kd mi vi li p x y t) → K (wCh G a np nq kd mi vi g) 0 0 3 [(0, .ref (a 0)), (1, .int (nI x)), (2, .int (nI y)), (3, .int (nI p)), (4, .int (nI t))] [] := by
    intro fu
    induction fu with
    | zero => intro t g hfu; exact absurd hfu (Nat.not_lt_zero _)
    | succ fu ih_L3 =>
      intro t g hfu_L3 ht5 hg
      refine x_iload X dX0_copyPaper_3 4 rfl ?_
      refine x_iconst (v := nI 5) X dX0_copyPaper_5 (by decide) ?_
      refine x_icmp_ge_n 36 X dX0_copyPaper_6 (by decide) (by omega) (by omega) (fun c_1 => ?_) (fun c_1 => ?_)
      · -- 6 t
        have n_1 := Nat.not_lt.mpr c_1
        obtain rfl : t = 5 := by omega
        exact x_retv X dX0_copyPaper_36 ⟨rfl, (by rw [hg]), by decide, by decide⟩
      · -- 6 f
        refine x_aloadn X dX0_copyPaper_9 0 rfl ?_
        refine x_iloadn X dX0_copyPaper_10 2 rfl ?_
        refine x_iload X dX0_copyPaper_11 4 rfl ?_
        refine x_aloadn X dX0_copyPaper_13 0 rfl ?_
        refine x_iloadn X dX0_copyPaper_14 3 rfl ?_
        refine x_iload X dX0_copyPaper_15 4 rfl ?_
        refine x_aloadn X dX0_copyPaper_17 0 rfl ?_
        refine x_iloadn X dX0_copyPaper_18 1 rfl ?_
        refine x_iload X dX0_copyPaper_19 4 rfl ?_
        refine x_callVrv (As := [.int (nI x), .int (nI t)]) (rest := [.int (nI t), .int (nI p), .ref (a 0), .int (nI t), .int (nI y), .ref (a 0)]) X (c_X0_lineOf l G a np nq kd mi vi g x t (by omega) (by omega)) xE0_ok (fun _ _ _ => trivial) [0, 1, 2, 3, 4] rfl 0 rfl rfl rfl rfl wco_X0_lineOf wi_X0 xd_X0_lineOf wl_X0_97 win_X0_lineOf wse_X0_lineOf (by decide) (Nat.le_of_ble_eq_true rfl) dX0_copyPaper_21 ?_
        refine x_callVrv (As := [.int (nI p), .int (nI t), .int (g (x * 5 + t))]) (rest := [.int (nI t), .int (nI y), .ref (a 0)]) X (c_X0_copied l G a np nq kd mi vi g p t (g (x * 5 + t)) (by omega) (by omega) (by assumption)) xE0_ok (fun _ _ _ => trivial) [0, 1, 2, 3, 4] rfl 0 rfl rfl rfl rfl wco_X0_copied wi_X0 xd_X0_copied wl_X0_100 win_X0_copied wse_X0_copied (by decide) (Nat.le_of_ble_eq_true rfl) dX0_copyPaper_24 ?_
        refine x_callVf0 (As := [.int (nI y), .int (nI t), .int (F_cop (kd p) (vi (tn (mi p) * 5 + t)) (g (x * 5 + t)))]) (rest := []) (w1 := wCh G a np nq kd mi vi (upd g (y * 5 + t) (F_cop (kd p) (vi (tn (mi p) * 5 + t)) (g (x * 5 + t))))) (ws' := wCh G a np nq kd mi vi (upd g (y * 5 + t) (F_cop (kd p) (vi (tn (mi p) * 5 + t)) (g (x * 5 + t))))) X (c_X0_putLine l G a np nq kd mi vi g y t (F_cop (kd p) (vi (tn (mi p) * 5 + t)) (g (x * 5 + t))) (by omega) (by omega)) xE0_ok (fun _ _ _ => trivial) [0, 1, 2, 3, 4] rfl 0 rfl rfl rfl rfl wco_X0_putLine wi_X0 xd_X0_putLine wl_X0_103 win_X0_putLine wse_X0_putLine (by decide) (Nat.le_of_ble_eq_true rfl) dX0_copyPaper_27 rfl (Eq.trans (b := [a 0, a 1, a 2, a 3, a 4]) rfl rfl) rfl ?_
        refine x_iinc (v := nI (t + 1)) (lv' := [(4, .int (nI (t + 1))), (0, .ref (a 0)), (1, .int (nI x)), (2, .int (nI y)), (3, .int (nI p))]) X dX0_copyPaper_30 4 rfl (nI_1 _) (by decide) rfl ?_
        refine x_goto 3 X dX0_copyPaper_33 (by decide) ?_
        refine x_lv (lv' := [(0, .ref (a 0)), (1, .int (nI x)), (2, .int (nI y)), (3, .int (nI p)), (4, .int (nI (t + 1)))]) X [1, 2, 3, 4, 0] rfl ?_
        exact ih_L3 (t + 1) (upd g (y * 5 + t) (F_cop (kd p) (vi (tn (mi p) * 5 + t)) (g (x * 5 + t)))) (by omega) ((by omega)) (by rw [hg, cpP_at _ _ _ _ _ _ _ _ (by omega)]; exact cpP_s _ _ _ _ _ _ _ _)
  refine x_lv (lv' := [(0, .ref (a 0)), (1, .int (nI x)), (2, .int (nI y)), (3, .int (nI p)), (4, .int (nI 0))]) X [1, 2, 3, 4, 0] rfl ?_
  exact L3 _ 0 li (Nat.lt_succ_self _) ((by omega)) (cpP_0 _ _ _ _ _ _ _)
set_option maxRecDepth 100000 in
set_option maxHeartbeats 4000000 in
/-- X0_goRound -/
theorem c_X0_goRound (l : Launch) (G : xG) (a : Nat → Nat) (np : Nat) (nq : Nat) (kd : Nat → Int32) (mi : Nat → Int32) (vi : Nat → Int32) (li : Nat → Int32) (x : Nat) (hx : x < 5) (hnp : np ≤ 6) (hmi : ∀ j, j < 6 → inR (mi j) 6 = true) : xM l G xE0 yX0_goRound cX0_goRound 3 none 5 104 0 0 [.ref (a 0), .int (nI x)] (wCh G a np nq kd mi vi li) none (fun w2 => w2 = wCh G a np nq kd mi vi (goR kd mi vi li x np)) := by
  refine x_entry (by decide +kernel) (Nat.le_of_ble_eq_true rfl) rfl rfl (fun K X => ?_)
  refine x_iconst (v := nI 0) X dX0_goRound_0 (by decide) ?_
  refine x_istoren (lv' := [(2, .int (nI 0)), (0, .ref (a 0)), (1, .int (nI x))]) X dX0_goRound_1 (by decide) rfl ?_
  have L2 : ∀ (fu : Nat) (p : Nat) (g : Nat → Int32), np - p < fu → (p ≤ np) → (g = goR kd mi vi li x p) → K (wCh G a np nq kd mi vi g) 0 0 2 [(0, .ref (a 0)), (1, .int (nI x)), (2, .int (nI p))] [] := by
    intro fu
    induction fu with
    | zero => intro p g hfu; exact absurd hfu (Nat.not_lt_zero _)
    | succ fu ih_L2 =>
      intro p g hfu_L2 hp6 hg
      refine x_iloadn X dX0_goRound_2 2 rfl ?_
      refine x_aloadn X dX0_goRound_3 0 rfl ?_
      refine x_get X wu_X0 0 rfl rfl 0 (by decide) wf_X0_24 rfl rfl dX0_goRound_4 ?_
      refine x_icmp_ge_n 23 X dX0_goRound_7 (by decide) (by omega) (by omega) (fun c_1 => ?_) (fun c_1 => ?_)
      · -- 7 t
        have n_1 := Nat.not_lt.mpr c_1
        have e : p = np := by omega
        rw [e] at hg
        exact x_retv X dX0_goRound_23 ⟨rfl, (by rw [hg]), by decide, by decide⟩
      · -- 7 f
        refine x_aloadn X dX0_goRound_10 0 rfl ?_
        refine x_iloadn X dX0_goRound_11 1 rfl ?_
        refine x_iloadn X dX0_goRound_12 1 rfl ?_
        refine x_iloadn X dX0_goRound_13 2 rfl ?_
        refine x_callVf0 (As := [.int (nI x), .int (nI x), .int (nI p)]) (rest := []) (w1 := wCh G a np nq kd mi vi (cpP kd mi vi g p x x 5)) (ws' := wCh G a np nq kd mi vi (cpP kd mi vi g p x x 5)) X (c_X0_copyPaper l G a np nq kd mi vi g x x p (by omega) (by omega) (by omega) (by assumption)) xE0_ok (fun _ _ _ => trivial) [0, 1, 2, 3, 4] rfl 0 rfl rfl rfl rfl wco_X0_copyPaper wi_X0 xd_X0_copyPaper wl_X0_106 win_X0_copyPaper wse_X0_copyPaper (by decide) (Nat.le_of_ble_eq_true rfl) dX0_goRound_14 rfl (Eq.trans (b := [a 0, a 1, a 2, a 3, a 4]) rfl rfl) rfl ?_
        refine x_iinc (v := nI (p + 1)) (lv' := [(2, .int (nI (p + 1))), (0, .ref (a 0)), (1, .int (nI x))]) X dX0_goRound_17 2 rfl (nI_1 _) (by decide) rfl ?_
        refine x_goto 2 X dX0_goRound_20 (by decide) ?_
        refine x_lv (lv' := [(0, .ref (a 0)), (1, .int (nI x)), (2, .int (nI (p + 1)))]) X [1, 2, 0] rfl ?_
        exact ih_L2 (p + 1) (cpP kd mi vi g p x x 5) (by omega) ((by omega)) (by rw [hg]; rfl)
  refine x_lv (lv' := [(0, .ref (a 0)), (1, .int (nI x)), (2, .int (nI 0))]) X [1, 2, 0] rfl ?_
  exact L2 _ 0 li (Nat.lt_succ_self _) ((by omega)) (rfl)
set_option maxRecDepth 100000 in
set_option maxHeartbeats 4000000 in
/-- X0_codeOf -/
theorem c_X0_codeOf (l : Launch) (G : xG) (a : Nat → Nat) (np : Nat) (nq : Nat) (kd : Nat → Int32) (mi : Nat → Int32) (vi : Nat → Int32) (li : Nat → Int32) (x : Nat) (hx : x < 5) : xM l G xE0 yX0_codeOf cX0_codeOf 5 (some .int) 2 43 0 0 [.ref (a 0), .int (nI x)] (wCh G a np nq kd mi vi li) (some (.int (F_code li x 5))) (fun w2 => w2 = wCh G a np nq kd mi vi li) := by
  refine x_entry (by decide +kernel) (Nat.le_of_ble_eq_true rfl) rfl ⟨_, rfl, rfl⟩ (fun K X => ?_)
  refine x_iconst (v := nI 0) X dX0_codeOf_0 (by decide) ?_
  refine x_istoren (lv' := [(2, .int (nI 0)), (0, .ref (a 0)), (1, .int (nI x))]) X dX0_codeOf_1 (by decide) rfl ?_
  refine x_iconst (v := nI 0) X dX0_codeOf_2 (by decide) ?_
  refine x_istoren (lv' := [(3, .int (nI 0)), (2, .int (nI 0)), (0, .ref (a 0)), (1, .int (nI x))]) X dX0_codeOf_3 (by decide) rfl ?_
  have L4 : ∀ (fu : Nat) (t : Nat) (co : Int32), 5 - t < fu → (t ≤ 5) → (co = F_code li x t) → K (wCh G a np nq kd mi vi li) 0 0 4 [(0, .ref (a 0)), (1, .int (nI x)), (2, .int co), (3, .int (nI t))] [] := by
    intro fu
    induction fu with
    | zero => intro t co hfu; exact absurd hfu (Nat.not_lt_zero _)
    | succ fu ih_L4 =>
      intro t co hfu_L4 ht5 hco
      refine x_iloadn X dX0_codeOf_4 3 rfl ?_
      refine x_iconst (v := nI 5) X dX0_codeOf_5 (by decide) ?_
      refine x_icmp_ge_n 46 X dX0_codeOf_6 (by decide) (by omega) (by omega) (fun c_1 => ?_) (fun c_1 => ?_)
      · -- 6 t
        have n_1 := Nat.not_lt.mpr c_1
        obtain rfl : t = 5 := by omega
        refine x_iloadn X dX0_codeOf_46 2 rfl ?_
        exact x_ret X dX0_codeOf_47 ⟨ret_i (by rw [hco]), rfl, by decide, by decide⟩
      · -- 6 f
        refine x_aloadn X dX0_codeOf_9 0 rfl ?_
        refine x_iloadn X dX0_codeOf_10 1 rfl ?_
        refine x_iloadn X dX0_codeOf_11 3 rfl ?_
        refine x_callVrv (As := [.int (nI x), .int (nI t)]) (rest := []) X (c_X0_lineOf l G a np nq kd mi vi li x t (by omega) (by omega)) xE0_ok (fun _ _ _ => trivial) [0, 1, 2, 3, 4] rfl 0 rfl rfl rfl rfl wco_X0_lineOf wi_X0 xd_X0_lineOf wl_X0_97 win_X0_lineOf wse_X0_lineOf (by decide) (Nat.le_of_ble_eq_true rfl) dX0_codeOf_12 ?_
        refine x_istore (lv' := [(4, .int (li (x * 5 + t))), (0, .ref (a 0)), (1, .int (nI x)), (2, .int co), (3, .int (nI t))]) X dX0_codeOf_15 (by decide) rfl ?_
        refine x_iloadn X dX0_codeOf_17 3 rfl ?_
        refine x_bipush (v := nI 20) X dX0_codeOf_18 (by decide) ?_
        refine x_imul (v := co * (nI 20)) X dX0_codeOf_20 rfl ?_
        refine x_iload X dX0_codeOf_21 0 rfl ?_
        refine x_bipush (v := nI 100) X dX0_codeOf_23 (by decide) ?_
        refine x_icmp_ne 33 X dX0_codeOf_25 (by decide) (fun c_2 => ?_) (fun c_2 => ?_)
        · -- 25 t
          refine x_iload X dX0_codeOf_33 0 rfl ?_
          refine x_bipush (v := nI 9) X dX0_codeOf_35 (by decide) ?_
          refine x_iadd (v := (li (x * 5 + t)) + (nI 9)) X dX0_codeOf_37 rfl ?_
          refine x_iadd (v := (co * (nI 20)) + ((li (x * 5 + t)) + (nI 9))) X dX0_codeOf_38 rfl ?_
          refine x_istoren (lv' := [(2, .int ((co * (nI 20)) + ((li (x * 5 + t)) + (nI 9)))), (4, .int (li (x * 5 + t))), (0, .ref (a 0)), (1, .int (nI x)), (3, .int (nI t))]) X dX0_codeOf_39 (by decide) rfl ?_
          refine x_iinc (v := nI (t + 1)) (lv' := [(3, .int (nI (t + 1))), (2, .int ((co * (nI 20)) + ((li (x * 5 + t)) + (nI 9)))), (4, .int (li (x * 5 + t))), (0, .ref (a 0)), (1, .int (nI x))]) X dX0_codeOf_40 4 rfl (nI_1 _) (by decide) rfl ?_
          refine x_goto 4 X dX0_codeOf_43 (by decide) ?_
          refine x_lv (lv' := [(0, .ref (a 0)), (1, .int (nI x)), (2, .int ((co * (nI 20)) + ((li (x * 5 + t)) + (nI 9)))), (3, .int (nI (t + 1)))]) X [3, 4, 1, 0] rfl ?_
          exact ih_L4 (t + 1) ((co * (nI 20)) + ((li (x * 5 + t)) + (nI 9))) (by omega) ((by omega)) (by simp [F_code, ht5, hco, c_1, c_2])
        · -- 25 f
          refine x_bipush (v := nI 19) X dX0_codeOf_28 (by decide) ?_
          refine x_goto 38 X dX0_codeOf_30 (by decide) ?_
          refine x_iadd (v := (co * (nI 20)) + (nI 19)) X dX0_codeOf_38 rfl ?_
          refine x_istoren (lv' := [(2, .int ((co * (nI 20)) + (nI 19))), (4, .int (li (x * 5 + t))), (0, .ref (a 0)), (1, .int (nI x)), (3, .int (nI t))]) X dX0_codeOf_39 (by decide) rfl ?_
          refine x_iinc (v := nI (t + 1)) (lv' := [(3, .int (nI (t + 1))), (2, .int ((co * (nI 20)) + (nI 19))), (4, .int (li (x * 5 + t))), (0, .ref (a 0)), (1, .int (nI x))]) X dX0_codeOf_40 4 rfl (nI_1 _) (by decide) rfl ?_
          refine x_goto 4 X dX0_codeOf_43 (by decide) ?_
          refine x_lv (lv' := [(0, .ref (a 0)), (1, .int (nI x)), (2, .int ((co * (nI 20)) + (nI 19))), (3, .int (nI (t + 1)))]) X [3, 4, 1, 0] rfl ?_
          exact ih_L4 (t + 1) ((co * (nI 20)) + (nI 19)) (by omega) ((by omega)) (by simp [F_code, ht5, hco, c_1, c_2])
  refine x_lv (lv' := [(0, .ref (a 0)), (1, .int (nI x)), (2, .int (nI 0)), (3, .int (nI 0))]) X [2, 3, 1, 0] rfl ?_
  exact L4 _ 0 (nI 0) (Nat.lt_succ_self _) ((by omega)) (rfl)
set_option maxRecDepth 100000 in
set_option maxHeartbeats 4000000 in
/-- X0_filledLinesOf -/
theorem c_X0_filledLinesOf (l : Launch) (G : xG) (a : Nat → Nat) (np : Nat) (nq : Nat) (kd : Nat → Int32) (mi : Nat → Int32) (vi : Nat → Int32) (li : Nat → Int32) (x : Nat) (hx : x < 5) : xM l G xE0 yX0_filledLinesOf cX0_filledLinesOf 4 (some .int) 2 43 0 0 [.ref (a 0), .int (nI x)] (wCh G a np nq kd mi vi li) (some (.int (nI (F_fil li x 5)))) (fun w2 => w2 = wCh G a np nq kd mi vi li) := by
  refine x_entry (by decide +kernel) (Nat.le_of_ble_eq_true rfl) rfl ⟨_, rfl, rfl⟩ (fun K X => ?_)
  refine x_iconst (v := nI 0) X dX0_filledLinesOf_0 (by decide) ?_
  refine x_istoren (lv' := [(2, .int (nI 0)), (0, .ref (a 0)), (1, .int (nI x))]) X dX0_filledLinesOf_1 (by decide) rfl ?_
  refine x_iconst (v := nI 0) X dX0_filledLinesOf_2 (by decide) ?_
  refine x_istoren (lv' := [(3, .int (nI 0)), (2, .int (nI 0)), (0, .ref (a 0)), (1, .int (nI x))]) X dX0_filledLinesOf_3 (by decide) rfl ?_
  have L4 : ∀ (fu : Nat) (t : Nat) (co : Nat), 5 - t < fu → (t ≤ 5) → (co = F_fil li x t) → K (wCh G a np nq kd mi vi li) 0 0 4 [(0, .ref (a 0)), (1, .int (nI x)), (2, .int (nI co)), (3, .int (nI t))] [] := by
    intro fu
    induction fu with
    | zero => intro t co hfu; exact absurd hfu (Nat.not_lt_zero _)
    | succ fu ih_L4 =>
      intro t co hfu_L4 ht5 hco
      refine x_iloadn X dX0_filledLinesOf_4 3 rfl ?_
      refine x_iconst (v := nI 5) X dX0_filledLinesOf_5 (by decide) ?_
      refine x_icmp_ge_n 34 X dX0_filledLinesOf_6 (by decide) (by omega) (by omega) (fun c_1 => ?_) (fun c_1 => ?_)
      · -- 6 t
        have n_1 := Nat.not_lt.mpr c_1
        obtain rfl : t = 5 := by omega
        refine x_iloadn X dX0_filledLinesOf_34 2 rfl ?_
        exact x_ret X dX0_filledLinesOf_35 ⟨ret_i (by rw [hco]), rfl, by decide, by decide⟩
      · -- 6 f
        refine x_iloadn X dX0_filledLinesOf_9 2 rfl ?_
        refine x_aloadn X dX0_filledLinesOf_10 0 rfl ?_
        refine x_iloadn X dX0_filledLinesOf_11 1 rfl ?_
        refine x_iloadn X dX0_filledLinesOf_12 3 rfl ?_
        refine x_callVrv (As := [.int (nI x), .int (nI t)]) (rest := [.int (nI co)]) X (c_X0_lineOf l G a np nq kd mi vi li x t (by omega) (by omega)) xE0_ok (fun _ _ _ => trivial) [0, 1, 2, 3, 4] rfl 0 rfl rfl rfl rfl wco_X0_lineOf wi_X0 xd_X0_lineOf wl_X0_97 win_X0_lineOf wse_X0_lineOf (by decide) (Nat.le_of_ble_eq_true rfl) dX0_filledLinesOf_13 ?_
        refine x_bipush (v := nI 100) X dX0_filledLinesOf_16 (by decide) ?_
        refine x_icmp_ne 25 X dX0_filledLinesOf_18 (by decide) (fun c_2 => ?_) (fun c_2 => ?_)
        · -- 18 t
          refine x_iconst (v := nI 1) X dX0_filledLinesOf_25 (by decide) ?_
          refine x_iadd (v := nI (co + 1)) X dX0_filledLinesOf_26 (nI_add _ _) ?_
          refine x_istoren (lv' := [(2, .int (nI (co + 1))), (0, .ref (a 0)), (1, .int (nI x)), (3, .int (nI t))]) X dX0_filledLinesOf_27 (by decide) rfl ?_
          refine x_iinc (v := nI (t + 1)) (lv' := [(3, .int (nI (t + 1))), (2, .int (nI (co + 1))), (0, .ref (a 0)), (1, .int (nI x))]) X dX0_filledLinesOf_28 3 rfl (nI_1 _) (by decide) rfl ?_
          refine x_goto 4 X dX0_filledLinesOf_31 (by decide) ?_
          refine x_lv (lv' := [(0, .ref (a 0)), (1, .int (nI x)), (2, .int (nI (co + 1))), (3, .int (nI (t + 1)))]) X [2, 3, 1, 0] rfl ?_
          exact ih_L4 (t + 1) (co + 1) (by omega) ((by omega)) (by simp [F_fil, ht5, hco, c_1, c_2])
        · -- 18 f
          refine x_iconst (v := nI 0) X dX0_filledLinesOf_21 (by decide) ?_
          refine x_goto 26 X dX0_filledLinesOf_22 (by decide) ?_
          refine x_iadd (v := nI co) X dX0_filledLinesOf_26 (nI_add _ 0) ?_
          refine x_istoren (lv' := [(2, .int (nI co)), (0, .ref (a 0)), (1, .int (nI x)), (3, .int (nI t))]) X dX0_filledLinesOf_27 (by decide) rfl ?_
          refine x_iinc (v := nI (t + 1)) (lv' := [(3, .int (nI (t + 1))), (2, .int (nI co)), (0, .ref (a 0)), (1, .int (nI x))]) X dX0_filledLinesOf_28 3 rfl (nI_1 _) (by decide) rfl ?_
          refine x_goto 4 X dX0_filledLinesOf_31 (by decide) ?_
          refine x_lv (lv' := [(0, .ref (a 0)), (1, .int (nI x)), (2, .int (nI co)), (3, .int (nI (t + 1)))]) X [2, 3, 1, 0] rfl ?_
          exact ih_L4 (t + 1) co (by omega) ((by omega)) (by simp [F_fil, ht5, hco, c_1, c_2])
  refine x_lv (lv' := [(0, .ref (a 0)), (1, .int (nI x)), (2, .int (nI 0)), (3, .int (nI 0))]) X [2, 3, 1, 0] rfl ?_
  exact L4 _ 0 0 (Nat.lt_succ_self _) ((by omega)) (rfl)
set_option maxRecDepth 100000 in
set_option maxHeartbeats 4000000 in
/-- X0_filledLines -/
theorem c_X0_filledLines (l : Launch) (G : xG) (a : Nat → Nat) (np : Nat) (nq : Nat) (kd : Nat → Int32) (mi : Nat → Int32) (vi : Nat → Int32) (li : Nat → Int32) (hnq : nq ≤ 5) : xM l G xE0 yX0_filledLines cX0_filledLines 3 (some .int) 3 66 0 0 [.ref (a 0)] (wCh G a np nq kd mi vi li) (some (.int (nI (F_fils li nq)))) (fun w2 => w2 = wCh G a np nq kd mi vi li) := by
  refine x_entry (by decide +kernel) (Nat.le_of_ble_eq_true rfl) rfl ⟨_, rfl, rfl⟩ (fun K X => ?_)
  refine x_iconst (v := nI 0) X dX0_filledLines_0 (by decide) ?_
  refine x_istoren (lv' := [(1, .int (nI 0)), (0, .ref (a 0))]) X dX0_filledLines_1 (by decide) rfl ?_
  refine x_iconst (v := nI 0) X dX0_filledLines_2 (by decide) ?_
  refine x_istoren (lv' := [(2, .int (nI 0)), (1, .int (nI 0)), (0, .ref (a 0))]) X dX0_filledLines_3 (by decide) rfl ?_
  have L4 : ∀ (fu : Nat) (x : Nat) (co : Nat), nq - x < fu → (x ≤ nq) → (co = F_fils li x) → K (wCh G a np nq kd mi vi li) 0 0 4 [(0, .ref (a 0)), (1, .int (nI co)), (2, .int (nI x))] [] := by
    intro fu
    induction fu with
    | zero => intro x co hfu; exact absurd hfu (Nat.not_lt_zero _)
    | succ fu ih_L4 =>
      intro x co hfu_L4 hx hco
      refine x_iloadn X dX0_filledLines_4 2 rfl ?_
      refine x_aloadn X dX0_filledLines_5 0 rfl ?_
      refine x_get X wu_X0 0 rfl rfl 1 (by decide) wf_X0_28 rfl rfl dX0_filledLines_6 ?_
      refine x_icmp_ge_n 26 X dX0_filledLines_9 (by decide) (by omega) (by omega) (fun c_1 => ?_) (fun c_1 => ?_)
      · -- 9 t
        have n_1 := Nat.not_lt.mpr c_1
        have e : x = nq := by omega
        rw [e] at hco
        refine x_iloadn X dX0_filledLines_26 1 rfl ?_
        exact x_ret X dX0_filledLines_27 ⟨ret_i (by rw [hco]), rfl, by decide, by decide⟩
      · -- 9 f
        refine x_iloadn X dX0_filledLines_12 1 rfl ?_
        refine x_aloadn X dX0_filledLines_13 0 rfl ?_
        refine x_iloadn X dX0_filledLines_14 2 rfl ?_
        refine x_callVrv (As := [.int (nI x)]) (rest := [.int (nI co)]) X (c_X0_filledLinesOf l G a np nq kd mi vi li x (by omega)) xE0_ok (fun _ _ _ => trivial) [0, 1, 2, 3, 4] rfl 0 rfl rfl rfl rfl wco_X0_filledLinesOf wi_X0 xd_X0_filledLinesOf wl_X0_109 win_X0_filledLinesOf wse_X0_filledLinesOf (by decide) (Nat.le_of_ble_eq_true rfl) dX0_filledLines_15 ?_
        refine x_iadd (v := nI (co + (F_fil li x 5))) X dX0_filledLines_18 (nI_add _ _) ?_
        refine x_istoren (lv' := [(1, .int (nI (co + (F_fil li x 5)))), (0, .ref (a 0)), (2, .int (nI x))]) X dX0_filledLines_19 (by decide) rfl ?_
        refine x_iinc (v := nI (x + 1)) (lv' := [(2, .int (nI (x + 1))), (1, .int (nI (co + (F_fil li x 5)))), (0, .ref (a 0))]) X dX0_filledLines_20 2 rfl (nI_1 _) (by decide) rfl ?_
        refine x_goto 4 X dX0_filledLines_23 (by decide) ?_
        refine x_lv (lv' := [(0, .ref (a 0)), (1, .int (nI (co + (F_fil li x 5)))), (2, .int (nI (x + 1)))]) X [2, 1, 0] rfl ?_
        exact ih_L4 (x + 1) (co + (F_fil li x 5)) (by omega) ((by omega)) (by rw [hco]; rfl)
  refine x_lv (lv' := [(0, .ref (a 0)), (1, .int (nI 0)), (2, .int (nI 0))]) X [2, 1, 0] rfl ?_
  exact L4 _ 0 0 (Nat.lt_succ_self _) ((by omega)) (rfl)
set_option maxRecDepth 100000 in
set_option maxHeartbeats 4000000 in
/-- X0_sumOfLines -/
theorem c_X0_sumOfLines (l : Launch) (G : xG) (a : Nat → Nat) (np : Nat) (nq : Nat) (kd : Nat → Int32) (mi : Nat → Int32) (vi : Nat → Int32) (li : Nat → Int32) (hnq : nq ≤ 5) : xM l G xE0 yX0_sumOfLines cX0_sumOfLines 5 (some .int) 2 43 0 0 [.ref (a 0)] (wCh G a np nq kd mi vi li) (some (.int (F_sums li nq))) (fun w2 => w2 = wCh G a np nq kd mi vi li) := by
  refine x_entry (by decide +kernel) (Nat.le_of_ble_eq_true rfl) rfl ⟨_, rfl, rfl⟩ (fun K X => ?_)
  refine x_iconst (v := nI 0) X dX0_sumOfLines_0 (by decide) ?_
  refine x_istoren (lv' := [(1, .int (nI 0)), (0, .ref (a 0))]) X dX0_sumOfLines_1 (by decide) rfl ?_
  refine x_iconst (v := nI 0) X dX0_sumOfLines_2 (by decide) ?_
  refine x_istoren (lv' := [(2, .int (nI 0)), (1, .int (nI 0)), (0, .ref (a 0))]) X dX0_sumOfLines_3 (by decide) rfl ?_
  have L4 : ∀ (fu : Nat) (x : Nat) (co : Int32), nq - x < fu → (x ≤ nq) → (co = F_sums li x) → K (wCh G a np nq kd mi vi li) 0 0 4 [(0, .ref (a 0)), (1, .int co), (2, .int (nI x))] [] := by
    intro fu
    induction fu with
    | zero => intro x co hfu; exact absurd hfu (Nat.not_lt_zero _)
    | succ fu ih_L4 =>
      intro x co hfu_L4 hx hco
      refine x_iloadn X dX0_sumOfLines_4 2 rfl ?_
      refine x_aloadn X dX0_sumOfLines_5 0 rfl ?_
      refine x_get X wu_X0 0 rfl rfl 1 (by decide) wf_X0_28 rfl rfl dX0_sumOfLines_6 ?_
      refine x_icmp_ge_n 55 X dX0_sumOfLines_9 (by decide) (by omega) (by omega) (fun c_1 => ?_) (fun c_1 => ?_)
      · -- 9 t
        have n_1 := Nat.not_lt.mpr c_1
        have e : x = nq := by omega
        rw [e] at hco
        refine x_iloadn X dX0_sumOfLines_55 1 rfl ?_
        exact x_ret X dX0_sumOfLines_56 ⟨ret_i (by rw [hco]), rfl, by decide, by decide⟩
      · -- 9 f
        refine x_iconst (v := nI 0) X dX0_sumOfLines_12 (by decide) ?_
        refine x_istoren (lv' := [(3, .int (nI 0)), (0, .ref (a 0)), (1, .int co), (2, .int (nI x))]) X dX0_sumOfLines_13 (by decide) rfl ?_
        have L14_1 : ∀ (fu : Nat) (t : Nat) (cu : Int32), 5 - t < fu → (t ≤ 5) → (cu = F_sum li co x t) → K (wCh G a np nq kd mi vi li) 0 0 14 [(0, .ref (a 0)), (1, .int cu), (2, .int (nI x)), (3, .int (nI t))] [] := by
          intro fu
          induction fu with
          | zero => intro t cu hfu; exact absurd hfu (Nat.not_lt_zero _)
          | succ fu ih_L14_1 =>
            intro t cu hfu_L14_1 ht5 hcu
            refine x_iloadn X dX0_sumOfLines_14 3 rfl ?_
            refine x_iconst (v := nI 5) X dX0_sumOfLines_15 (by decide) ?_
            refine x_icmp_ge_n 49 X dX0_sumOfLines_16 (by decide) (by omega) (by omega) (fun c_2 => ?_) (fun c_2 => ?_)
            · -- 16 t
              have n_2 := Nat.not_lt.mpr c_2
              obtain rfl : t = 5 := by omega
              refine x_iinc (v := nI (x + 1)) (lv' := [(2, .int (nI (x + 1))), (0, .ref (a 0)), (1, .int cu), (3, .int (nI 5))]) X dX0_sumOfLines_49 2 rfl (nI_1 _) (by decide) rfl ?_
              refine x_goto 4 X dX0_sumOfLines_52 (by decide) ?_
              refine x_lv (lv' := [(0, .ref (a 0)), (1, .int cu), (2, .int (nI (x + 1)))]) X [1, 2, 0] rfl ?_
              exact ih_L4 (x + 1) cu (by omega) ((by omega)) (by rw [hcu, hco]; rfl)
            · -- 16 f
              refine x_aloadn X dX0_sumOfLines_19 0 rfl ?_
              refine x_iloadn X dX0_sumOfLines_20 2 rfl ?_
              refine x_iloadn X dX0_sumOfLines_21 3 rfl ?_
              refine x_callVrv (As := [.int (nI x), .int (nI t)]) (rest := []) X (c_X0_lineOf l G a np nq kd mi vi li x t (by omega) (by omega)) xE0_ok (fun _ _ _ => trivial) [0, 1, 2, 3, 4] rfl 0 rfl rfl rfl rfl wco_X0_lineOf wi_X0 xd_X0_lineOf wl_X0_97 win_X0_lineOf wse_X0_lineOf (by decide) (Nat.le_of_ble_eq_true rfl) dX0_sumOfLines_22 ?_
              refine x_istore (lv' := [(4, .int (li (x * 5 + t))), (0, .ref (a 0)), (1, .int cu), (2, .int (nI x)), (3, .int (nI t))]) X dX0_sumOfLines_25 (by decide) rfl ?_
              refine x_iloadn X dX0_sumOfLines_27 2 rfl ?_
              refine x_iload X dX0_sumOfLines_28 0 rfl ?_
              refine x_bipush (v := nI 100) X dX0_sumOfLines_30 (by decide) ?_
              refine x_icmp_ne 39 X dX0_sumOfLines_32 (by decide) (fun c_3 => ?_) (fun c_3 => ?_)
              · -- 32 t
                refine x_iload X dX0_sumOfLines_39 0 rfl ?_
                refine x_iadd (v := cu + (li (x * 5 + t))) X dX0_sumOfLines_41 rfl ?_
                refine x_istoren (lv' := [(1, .int (cu + (li (x * 5 + t)))), (4, .int (li (x * 5 + t))), (0, .ref (a 0)), (2, .int (nI x)), (3, .int (nI t))]) X dX0_sumOfLines_42 (by decide) rfl ?_
                refine x_iinc (v := nI (t + 1)) (lv' := [(3, .int (nI (t + 1))), (1, .int (cu + (li (x * 5 + t)))), (4, .int (li (x * 5 + t))), (0, .ref (a 0)), (2, .int (nI x))]) X dX0_sumOfLines_43 4 rfl (nI_1 _) (by decide) rfl ?_
                refine x_goto 14 X dX0_sumOfLines_46 (by decide) ?_
                refine x_lv (lv' := [(0, .ref (a 0)), (1, .int (cu + (li (x * 5 + t)))), (2, .int (nI x)), (3, .int (nI (t + 1)))]) X [3, 1, 4, 0] rfl ?_
                exact ih_L14_1 (t + 1) (cu + (li (x * 5 + t))) (by omega) ((by omega)) (by simp [F_sum, hx, hco, c_1, ht5, hcu, c_2, c_3])
              · -- 32 f
                refine x_iconst (v := nI 0) X dX0_sumOfLines_35 (by decide) ?_
                refine x_goto 41 X dX0_sumOfLines_36 (by decide) ?_
                refine x_iadd (v := cu + (nI 0)) X dX0_sumOfLines_41 rfl ?_
                refine x_istoren (lv' := [(1, .int (cu + (nI 0))), (4, .int (li (x * 5 + t))), (0, .ref (a 0)), (2, .int (nI x)), (3, .int (nI t))]) X dX0_sumOfLines_42 (by decide) rfl ?_
                refine x_iinc (v := nI (t + 1)) (lv' := [(3, .int (nI (t + 1))), (1, .int (cu + (nI 0))), (4, .int (li (x * 5 + t))), (0, .ref (a 0)), (2, .int (nI x))]) X dX0_sumOfLines_43 4 rfl (nI_1 _) (by decide) rfl ?_
                refine x_goto 14 X dX0_sumOfLines_46 (by decide) ?_
                refine x_lv (lv' := [(0, .ref (a 0)), (1, .int (cu + (nI 0))), (2, .int (nI x)), (3, .int (nI (t + 1)))]) X [3, 1, 4, 0] rfl ?_
                exact ih_L14_1 (t + 1) (cu + (nI 0)) (by omega) ((by omega)) (by simp [F_sum, hx, hco, c_1, ht5, hcu, c_2, c_3])
        refine x_lv (lv' := [(0, .ref (a 0)), (1, .int co), (2, .int (nI x)), (3, .int (nI 0))]) X [1, 2, 3, 0] rfl ?_
        exact L14_1 _ 0 co (Nat.lt_succ_self _) ((by omega)) (rfl)
  refine x_lv (lv' := [(0, .ref (a 0)), (1, .int (nI 0)), (2, .int (nI 0))]) X [2, 1, 0] rfl ?_
  exact L4 _ 0 (nI 0) (Nat.lt_succ_self _) ((by omega)) (rfl)
