/-! ===== the class's questions ===== -/
abbrev wInk (G : xG) (o : Nat) (x w d h g q : Nat → Nat) (e : Nat) : va_W := [(o, .inr (4, [.ref (x 0), .ref (w 0), .ref (d 0), .ref (h 0), .ref (g 0), .ref (q 0), .ref e]))]
def F_wr (s : xS) (p t : Nat) (n : Int32) : Int32 := F_ink (s.2.2.1 p) (s.2.2.2.2.1 (tn (s.2.2.2.1 p) * 5 + t)) (s.2.2.2.2.1 (p * 5 + t)) n
def F_wf (s : xS) (p m t : Nat) (n : Int32) : Int32 := F_ink (s.2.2.1 p) (s.2.2.2.2.1 (m * 5 + t)) (s.2.2.2.2.1 (p * 5 + t)) n
def F_person (s : xS) (p what : Int32) : Int32 := if (inR p s.1 && inR what 2) = true then (if tn what = 0 then s.2.2.1 (tn p) else s.2.2.2.1 (tn p)) else (-1)
def F_view (s : xS) (p t : Int32) : Int32 := if (inR p s.1 && inR t 5) = true then s.2.2.2.2.1 (tn p * 5 + tn t) + nI 9 else (-1)
def F_line (s : xS) (a t : Int32) : Int32 := if (inR a s.2.1 && inR t 5) = true then F_told (s.2.2.2.2.2 (tn a * 5 + tn t)) else (-1)
def F_would (s : xS) (p t n : Int32) : Int32 := if (inR p s.1 && (inR t 5 && inR n 11)) = true then F_wr s (tn p) (tn t) n + nI 9 else (-1)
def F_owb (s : xS) (a p : Nat) : Nat → Int32
  | 0 => nI 0
  | t + 1 => if s.2.2.2.2.2 (a * 5 + t) = s.2.2.2.2.1 (p * 5 + t) then F_owb s a p t ||| (nI 1 <<< (nI t &&& 31)) else F_owb s a p t
def F_own (s : xS) (a p : Int32) : Int32 := if (inR a s.2.1 && inR p s.1) = true then F_owb s (tn a) (tn p) 5 else (-1)
/-- the first from i on, of k -/
def F_fnd (P : Nat → Bool) : Nat → Nat → Int32
  | 0, _ => (-4)
  | k + 1, i => if P i = true then nI i else F_fnd P k (i + 1)
theorem F_fnd_y {P : Nat → Bool} {N i : Nat} (h : i < N) (hp : P i = true) : F_fnd P (N - i) i = nI i := by rw [show N - i = (N - i - 1) + 1 by omega, F_fnd, if_pos hp]
theorem F_fnd_n {P : Nat → Bool} {N i : Nat} (h : i < N) (hp : P i = false) : F_fnd P (N - (i + 1)) (i + 1) = F_fnd P (N - i) i := by rw [show N - i = (N - (i + 1)) + 1 by omega, F_fnd, if_neg (by rw [hp]; decide)]
theorem F_fnd_e {P : Nat → Bool} {N i : Nat} (h : N ≤ i) : F_fnd P (N - i) i = (-4) := by rw [show N - i = 0 by omega, F_fnd]
def P_tears (s : xS) (p t : Nat) (v : Int32) (n : Nat) : Bool := decide (F_wr s p t (nI n) = v - nI 9)
def F_tears (s : xS) (p t v : Int32) : Int32 := if (inR p s.1 && (inR t 5 && inR v 19)) = true then F_fnd (P_tears s (tn p) (tn t) v) 11 0 else (-1)
def P_whom (s : xS) (p t : Nat) (v : Int32) (m : Nat) : Bool := decide (m ≠ p) && decide (F_wf s p m t (nI 0) = v - nI 9)
def F_whom (s : xS) (p t v : Int32) : Int32 := if (inR p s.1 && (inR t 5 && inR v 19)) = true then F_fnd (P_whom s (tn p) (tn t) v) s.1 0 else (-1)
def F_trb (s : xS) (p q : Nat) (n : Int32) : Nat → Int32
  | 0 => nI 0
  | t + 1 => if F_wf s p q t n = F_wf s q p t n then F_trb s p q n t ||| (nI 1 <<< (nI t &&& 31)) else F_trb s p q n t
def F_treaty (s : xS) (p q n : Int32) : Int32 := if (inR p s.1 && (inR q s.1 && (!decide (p = q) && inR n 11))) = true then F_trb s (tn p) (tn q) n 5 else (-1)
def F_rnd (s : xS) (a t : Nat) : Nat → Int32
  | 0 => s.2.2.2.2.2 (a * 5 + t)
  | k + 1 => F_cop (s.2.2.1 (k % s.1)) (s.2.2.2.2.1 (tn (s.2.2.2.1 (k % s.1)) * 5 + t)) (F_rnd s a t k)
def F_round (s : xS) (a t k : Int32) : Int32 := if (inR a s.2.1 && (inR t 5 && inR k 61)) = true then F_told (F_rnd s (tn a) (tn t) (tn k)) else (-1)
def F_us (x n : Int32) : Int32 := (x.toUInt32 >>> (n.toUInt32 &&& Int32.toUInt32 31)).toInt32
def F_bc1 (x : Int32) : Int32 := x - (F_us x (nI 1) &&& nI 1431655765)
def F_bc2 (x : Int32) : Int32 := (x &&& nI 858993459) + (F_us x (nI 2) &&& nI 858993459)
def F_bc3 (x : Int32) : Int32 := (x + F_us x (nI 4)) &&& nI 252645135
def F_bc4 (x : Int32) : Int32 := x + F_us x (nI 8)
def F_bc5 (x : Int32) : Int32 := x + F_us x (nI 16)
def F_bc (x : Int32) : Int32 := F_bc5 (F_bc4 (F_bc3 (F_bc2 (F_bc1 x)))) &&& nI 63
def F_lsb (s : xS) (a p : Nat) : Nat → Int32
  | 0 => nI 0
  | t + 1 => if s.2.2.2.2.2 (a * 5 + t) = s.2.2.2.2.1 (p * 5 + t) then F_lsb s a p t else F_lsb s a p t ||| (nI 1 <<< (nI t &&& 31))
def F_least (s : xS) (a p what : Int32) : Int32 := if (inR a s.2.1 && (inR p s.1 && inR what 2)) = true then (if F_fil s.2.2.2.2.2 (tn a) 5 < 5 then (-4) else if tn what = 0 then F_bc (F_lsb s (tn a) (tn p) 5) else F_lsb s (tn a) (tn p) 5) else (-1)

set_option maxRecDepth 100000 in
set_option maxHeartbeats 4000000 in
/-- J6_bitCount_0f7a4 -/
theorem c_J6_bitCount_0f7a4 (l : Launch) (G : xG) (v : Int32)  : xM l G xE0 yJ6_bitCount_0f7a4 cJ6_bitCount_0f7a4 1 (some .int) 0 0 0 0 [.int v] ([]) (some (.int (F_bc v))) (fun w2 => w2 = []) := by
  refine x_entry (by decide +kernel) (Nat.le_of_ble_eq_true rfl) rfl ⟨_, rfl, rfl⟩ (fun K X => ?_)
  refine x_iloadn X dJ6_bitCount_0f7a4_0 0 rfl ?_
  refine x_iloadn X dJ6_bitCount_0f7a4_1 0 rfl ?_
  refine x_iconst (v := nI 1) X dJ6_bitCount_0f7a4_2 (by decide) ?_
  refine x_iushr (v := (v.toUInt32 >>> ((nI 1).toUInt32 &&& Int32.toUInt32 31)).toInt32) X dJ6_bitCount_0f7a4_3 rfl ?_
  refine x_ldcw (v := nI 1431655765) X wk_J6_265 dJ6_bitCount_0f7a4_4 ?_
  refine x_iand (v := ((v.toUInt32 >>> ((nI 1).toUInt32 &&& Int32.toUInt32 31)).toInt32) &&& (nI 1431655765)) X dJ6_bitCount_0f7a4_7 rfl ?_
  refine x_isub (v := v - (((v.toUInt32 >>> ((nI 1).toUInt32 &&& Int32.toUInt32 31)).toInt32) &&& (nI 1431655765))) X dJ6_bitCount_0f7a4_8 rfl ?_
  refine x_istoren (lv' := [(0, .int (v - (((v.toUInt32 >>> ((nI 1).toUInt32 &&& Int32.toUInt32 31)).toInt32) &&& (nI 1431655765))))]) X dJ6_bitCount_0f7a4_9 (by decide) rfl ?_
  refine x_iloadn X dJ6_bitCount_0f7a4_10 0 rfl ?_
  refine x_ldcw (v := nI 858993459) X wk_J6_266 dJ6_bitCount_0f7a4_11 ?_
  refine x_iand (v := (v - (((v.toUInt32 >>> ((nI 1).toUInt32 &&& Int32.toUInt32 31)).toInt32) &&& (nI 1431655765))) &&& (nI 858993459)) X dJ6_bitCount_0f7a4_14 rfl ?_
  refine x_iloadn X dJ6_bitCount_0f7a4_15 0 rfl ?_
  refine x_iconst (v := nI 2) X dJ6_bitCount_0f7a4_16 (by decide) ?_
  refine x_iushr (v := ((v - (((v.toUInt32 >>> ((nI 1).toUInt32 &&& Int32.toUInt32 31)).toInt32) &&& (nI 1431655765))).toUInt32 >>> ((nI 2).toUInt32 &&& Int32.toUInt32 31)).toInt32) X dJ6_bitCount_0f7a4_17 rfl ?_
  refine x_ldcw (v := nI 858993459) X wk_J6_266 dJ6_bitCount_0f7a4_18 ?_
  refine x_iand (v := (((v - (((v.toUInt32 >>> ((nI 1).toUInt32 &&& Int32.toUInt32 31)).toInt32) &&& (nI 1431655765))).toUInt32 >>> ((nI 2).toUInt32 &&& Int32.toUInt32 31)).toInt32) &&& (nI 858993459)) X dJ6_bitCount_0f7a4_21 rfl ?_
  refine x_iadd (v := ((v - (((v.toUInt32 >>> ((nI 1).toUInt32 &&& Int32.toUInt32 31)).toInt32) &&& (nI 1431655765))) &&& (nI 858993459)) + ((((v - (((v.toUInt32 >>> ((nI 1).toUInt32 &&& Int32.toUInt32 31)).toInt32) &&& (nI 1431655765))).toUInt32 >>> ((nI 2).toUInt32 &&& Int32.toUInt32 31)).toInt32) &&& (nI 858993459))) X dJ6_bitCount_0f7a4_22 rfl ?_
  refine x_istoren (lv' := [(0, .int (((v - (((v.toUInt32 >>> ((nI 1).toUInt32 &&& Int32.toUInt32 31)).toInt32) &&& (nI 1431655765))) &&& (nI 858993459)) + ((((v - (((v.toUInt32 >>> ((nI 1).toUInt32 &&& Int32.toUInt32 31)).toInt32) &&& (nI 1431655765))).toUInt32 >>> ((nI 2).toUInt32 &&& Int32.toUInt32 31)).toInt32) &&& (nI 858993459))))]) X dJ6_bitCount_0f7a4_23 (by decide) rfl ?_
  refine x_iloadn X dJ6_bitCount_0f7a4_24 0 rfl ?_
  refine x_iloadn X dJ6_bitCount_0f7a4_25 0 rfl ?_
  refine x_iconst (v := nI 4) X dJ6_bitCount_0f7a4_26 (by decide) ?_
  refine x_iushr (v := ((((v - (((v.toUInt32 >>> ((nI 1).toUInt32 &&& Int32.toUInt32 31)).toInt32) &&& (nI 1431655765))) &&& (nI 858993459)) + ((((v - (((v.toUInt32 >>> ((nI 1).toUInt32 &&& Int32.toUInt32 31)).toInt32) &&& (nI 1431655765))).toUInt32 >>> ((nI 2).toUInt32 &&& Int32.toUInt32 31)).toInt32) &&& (nI 858993459))).toUInt32 >>> ((nI 4).toUInt32 &&& Int32.toUInt32 31)).toInt32) X dJ6_bitCount_0f7a4_27 rfl ?_
  refine x_iadd (v := (((v - (((v.toUInt32 >>> ((nI 1).toUInt32 &&& Int32.toUInt32 31)).toInt32) &&& (nI 1431655765))) &&& (nI 858993459)) + ((((v - (((v.toUInt32 >>> ((nI 1).toUInt32 &&& Int32.toUInt32 31)).toInt32) &&& (nI 1431655765))).toUInt32 >>> ((nI 2).toUInt32 &&& Int32.toUInt32 31)).toInt32) &&& (nI 858993459))) + (((((v - (((v.toUInt32 >>> ((nI 1).toUInt32 &&& Int32.toUInt32 31)).toInt32) &&& (nI 1431655765))) &&& (nI 858993459)) + ((((v - (((v.toUInt32 >>> ((nI 1).toUInt32 &&& Int32.toUInt32 31)).toInt32) &&& (nI 1431655765))).toUInt32 >>> ((nI 2).toUInt32 &&& Int32.toUInt32 31)).toInt32) &&& (nI 858993459))).toUInt32 >>> ((nI 4).toUInt32 &&& Int32.toUInt32 31)).toInt32)) X dJ6_bitCount_0f7a4_28 rfl ?_
  refine x_ldcw (v := nI 252645135) X wk_J6_267 dJ6_bitCount_0f7a4_29 ?_
  refine x_iand (v := ((((v - (((v.toUInt32 >>> ((nI 1).toUInt32 &&& Int32.toUInt32 31)).toInt32) &&& (nI 1431655765))) &&& (nI 858993459)) + ((((v - (((v.toUInt32 >>> ((nI 1).toUInt32 &&& Int32.toUInt32 31)).toInt32) &&& (nI 1431655765))).toUInt32 >>> ((nI 2).toUInt32 &&& Int32.toUInt32 31)).toInt32) &&& (nI 858993459))) + (((((v - (((v.toUInt32 >>> ((nI 1).toUInt32 &&& Int32.toUInt32 31)).toInt32) &&& (nI 1431655765))) &&& (nI 858993459)) + ((((v - (((v.toUInt32 >>> ((nI 1).toUInt32 &&& Int32.toUInt32 31)).toInt32) &&& (nI 1431655765))).toUInt32 >>> ((nI 2).toUInt32 &&& Int32.toUInt32 31)).toInt32) &&& (nI 858993459))).toUInt32 >>> ((nI 4).toUInt32 &&& Int32.toUInt32 31)).toInt32)) &&& (nI 252645135)) X dJ6_bitCount_0f7a4_32 rfl ?_
  refine x_istoren (lv' := [(0, .int (((((v - (((v.toUInt32 >>> ((nI 1).toUInt32 &&& Int32.toUInt32 31)).toInt32) &&& (nI 1431655765))) &&& (nI 858993459)) + ((((v - (((v.toUInt32 >>> ((nI 1).toUInt32 &&& Int32.toUInt32 31)).toInt32) &&& (nI 1431655765))).toUInt32 >>> ((nI 2).toUInt32 &&& Int32.toUInt32 31)).toInt32) &&& (nI 858993459))) + (((((v - (((v.toUInt32 >>> ((nI 1).toUInt32 &&& Int32.toUInt32 31)).toInt32) &&& (nI 1431655765))) &&& (nI 858993459)) + ((((v - (((v.toUInt32 >>> ((nI 1).toUInt32 &&& Int32.toUInt32 31)).toInt32) &&& (nI 1431655765))).toUInt32 >>> ((nI 2).toUInt32 &&& Int32.toUInt32 31)).toInt32) &&& (nI 858993459))).toUInt32 >>> ((nI 4).toUInt32 &&& Int32.toUInt32 31)).toInt32)) &&& (nI 252645135)))]) X dJ6_bitCount_0f7a4_33 (by decide) rfl ?_
  refine x_iloadn X dJ6_bitCount_0f7a4_34 0 rfl ?_
  refine x_iloadn X dJ6_bitCount_0f7a4_35 0 rfl ?_
  refine x_bipush (v := nI 8) X dJ6_bitCount_0f7a4_36 (by decide) ?_
  refine x_iushr (v := ((((((v - (((v.toUInt32 >>> ((nI 1).toUInt32 &&& Int32.toUInt32 31)).toInt32) &&& (nI 1431655765))) &&& (nI 858993459)) + ((((v - (((v.toUInt32 >>> ((nI 1).toUInt32 &&& Int32.toUInt32 31)).toInt32) &&& (nI 1431655765))).toUInt32 >>> ((nI 2).toUInt32 &&& Int32.toUInt32 31)).toInt32) &&& (nI 858993459))) + (((((v - (((v.toUInt32 >>> ((nI 1).toUInt32 &&& Int32.toUInt32 31)).toInt32) &&& (nI 1431655765))) &&& (nI 858993459)) + ((((v - (((v.toUInt32 >>> ((nI 1).toUInt32 &&& Int32.toUInt32 31)).toInt32) &&& (nI 1431655765))).toUInt32 >>> ((nI 2).toUInt32 &&& Int32.toUInt32 31)).toInt32) &&& (nI 858993459))).toUInt32 >>> ((nI 4).toUInt32 &&& Int32.toUInt32 31)).toInt32)) &&& (nI 252645135)).toUInt32 >>> ((nI 8).toUInt32 &&& Int32.toUInt32 31)).toInt32) X dJ6_bitCount_0f7a4_38 rfl ?_
  refine x_iadd (v := (((((v - (((v.toUInt32 >>> ((nI 1).toUInt32 &&& Int32.toUInt32 31)).toInt32) &&& (nI 1431655765))) &&& (nI 858993459)) + ((((v - (((v.toUInt32 >>> ((nI 1).toUInt32 &&& Int32.toUInt32 31)).toInt32) &&& (nI 1431655765))).toUInt32 >>> ((nI 2).toUInt32 &&& Int32.toUInt32 31)).toInt32) &&& (nI 858993459))) + (((((v - (((v.toUInt32 >>> ((nI 1).toUInt32 &&& Int32.toUInt32 31)).toInt32) &&& (nI 1431655765))) &&& (nI 858993459)) + ((((v - (((v.toUInt32 >>> ((nI 1).toUInt32 &&& Int32.toUInt32 31)).toInt32) &&& (nI 1431655765))).toUInt32 >>> ((nI 2).toUInt32 &&& Int32.toUInt32 31)).toInt32) &&& (nI 858993459))).toUInt32 >>> ((nI 4).toUInt32 &&& Int32.toUInt32 31)).toInt32)) &&& (nI 252645135)) + (((((((v - (((v.toUInt32 >>> ((nI 1).toUInt32 &&& Int32.toUInt32 31)).toInt32) &&& (nI 1431655765))) &&& (nI 858993459)) + ((((v - (((v.toUInt32 >>> ((nI 1).toUInt32 &&& Int32.toUInt32 31)).toInt32) &&& (nI 1431655765))).toUInt32 >>> ((nI 2).toUInt32 &&& Int32.toUInt32 31)).toInt32) &&& (nI 858993459))) + (((((v - (((v.toUInt32 >>> ((nI 1).toUInt32 &&& Int32.toUInt32 31)).toInt32) &&& (nI 1431655765))) &&& (nI 858993459)) + ((((v - (((v.toUInt32 >>> ((nI 1).toUInt32 &&& Int32.toUInt32 31)).toInt32) &&& (nI 1431655765))).toUInt32 >>> ((nI 2).toUInt32 &&& Int32.toUInt32 31)).toInt32) &&& (nI 858993459))).toUInt32 >>> ((nI 4).toUInt32 &&& Int32.toUInt32 31)).toInt32)) &&& (nI 252645135)).toUInt32 >>> ((nI 8).toUInt32 &&& Int32.toUInt32 31)).toInt32)) X dJ6_bitCount_0f7a4_39 rfl ?_
  refine x_istoren (lv' := [(0, .int ((((((v - (((v.toUInt32 >>> ((nI 1).toUInt32 &&& Int32.toUInt32 31)).toInt32) &&& (nI 1431655765))) &&& (nI 858993459)) + ((((v - (((v.toUInt32 >>> ((nI 1).toUInt32 &&& Int32.toUInt32 31)).toInt32) &&& (nI 1431655765))).toUInt32 >>> ((nI 2).toUInt32 &&& Int32.toUInt32 31)).toInt32) &&& (nI 858993459))) + (((((v - (((v.toUInt32 >>> ((nI 1).toUInt32 &&& Int32.toUInt32 31)).toInt32) &&& (nI 1431655765))) &&& (nI 858993459)) + ((((v - (((v.toUInt32 >>> ((nI 1).toUInt32 &&& Int32.toUInt32 31)).toInt32) &&& (nI 1431655765))).toUInt32 >>> ((nI 2).toUInt32 &&& Int32.toUInt32 31)).toInt32) &&& (nI 858993459))).toUInt32 >>> ((nI 4).toUInt32 &&& Int32.toUInt32 31)).toInt32)) &&& (nI 252645135)) + (((((((v - (((v.toUInt32 >>> ((nI 1).toUInt32 &&& Int32.toUInt32 31)).toInt32) &&& (nI 1431655765))) &&& (nI 858993459)) + ((((v - (((v.toUInt32 >>> ((nI 1).toUInt32 &&& Int32.toUInt32 31)).toInt32) &&& (nI 1431655765))).toUInt32 >>> ((nI 2).toUInt32 &&& Int32.toUInt32 31)).toInt32) &&& (nI 858993459))) + (((((v - (((v.toUInt32 >>> ((nI 1).toUInt32 &&& Int32.toUInt32 31)).toInt32) &&& (nI 1431655765))) &&& (nI 858993459)) + ((((v - (((v.toUInt32 >>> ((nI 1).toUInt32 &&& Int32.toUInt32 31)).toInt32) &&& (nI 1431655765))).toUInt32 >>> ((nI 2).toUInt32 &&& Int32.toUInt32 31)).toInt32) &&& (nI 858993459))).toUInt32 >>> ((nI 4).toUInt32 &&& Int32.toUInt32 31)).toInt32)) &&& (nI 252645135)).toUInt32 >>> ((nI 8).toUInt32 &&& Int32.toUInt32 31)).toInt32)))]) X dJ6_bitCount_0f7a4_40 (by decide) rfl ?_
  refine x_iloadn X dJ6_bitCount_0f7a4_41 0 rfl ?_
  refine x_iloadn X dJ6_bitCount_0f7a4_42 0 rfl ?_
  refine x_bipush (v := nI 16) X dJ6_bitCount_0f7a4_43 (by decide) ?_
  refine x_iushr (v := (((((((v - (((v.toUInt32 >>> ((nI 1).toUInt32 &&& Int32.toUInt32 31)).toInt32) &&& (nI 1431655765))) &&& (nI 858993459)) + ((((v - (((v.toUInt32 >>> ((nI 1).toUInt32 &&& Int32.toUInt32 31)).toInt32) &&& (nI 1431655765))).toUInt32 >>> ((nI 2).toUInt32 &&& Int32.toUInt32 31)).toInt32) &&& (nI 858993459))) + (((((v - (((v.toUInt32 >>> ((nI 1).toUInt32 &&& Int32.toUInt32 31)).toInt32) &&& (nI 1431655765))) &&& (nI 858993459)) + ((((v - (((v.toUInt32 >>> ((nI 1).toUInt32 &&& Int32.toUInt32 31)).toInt32) &&& (nI 1431655765))).toUInt32 >>> ((nI 2).toUInt32 &&& Int32.toUInt32 31)).toInt32) &&& (nI 858993459))).toUInt32 >>> ((nI 4).toUInt32 &&& Int32.toUInt32 31)).toInt32)) &&& (nI 252645135)) + (((((((v - (((v.toUInt32 >>> ((nI 1).toUInt32 &&& Int32.toUInt32 31)).toInt32) &&& (nI 1431655765))) &&& (nI 858993459)) + ((((v - (((v.toUInt32 >>> ((nI 1).toUInt32 &&& Int32.toUInt32 31)).toInt32) &&& (nI 1431655765))).toUInt32 >>> ((nI 2).toUInt32 &&& Int32.toUInt32 31)).toInt32) &&& (nI 858993459))) + (((((v - (((v.toUInt32 >>> ((nI 1).toUInt32 &&& Int32.toUInt32 31)).toInt32) &&& (nI 1431655765))) &&& (nI 858993459)) + ((((v - (((v.toUInt32 >>> ((nI 1).toUInt32 &&& Int32.toUInt32 31)).toInt32) &&& (nI 1431655765))).toUInt32 >>> ((nI 2).toUInt32 &&& Int32.toUInt32 31)).toInt32) &&& (nI 858993459))).toUInt32 >>> ((nI 4).toUInt32 &&& Int32.toUInt32 31)).toInt32)) &&& (nI 252645135)).toUInt32 >>> ((nI 8).toUInt32 &&& Int32.toUInt32 31)).toInt32)).toUInt32 >>> ((nI 16).toUInt32 &&& Int32.toUInt32 31)).toInt32) X dJ6_bitCount_0f7a4_45 rfl ?_
  refine x_iadd (v := ((((((v - (((v.toUInt32 >>> ((nI 1).toUInt32 &&& Int32.toUInt32 31)).toInt32) &&& (nI 1431655765))) &&& (nI 858993459)) + ((((v - (((v.toUInt32 >>> ((nI 1).toUInt32 &&& Int32.toUInt32 31)).toInt32) &&& (nI 1431655765))).toUInt32 >>> ((nI 2).toUInt32 &&& Int32.toUInt32 31)).toInt32) &&& (nI 858993459))) + (((((v - (((v.toUInt32 >>> ((nI 1).toUInt32 &&& Int32.toUInt32 31)).toInt32) &&& (nI 1431655765))) &&& (nI 858993459)) + ((((v - (((v.toUInt32 >>> ((nI 1).toUInt32 &&& Int32.toUInt32 31)).toInt32) &&& (nI 1431655765))).toUInt32 >>> ((nI 2).toUInt32 &&& Int32.toUInt32 31)).toInt32) &&& (nI 858993459))).toUInt32 >>> ((nI 4).toUInt32 &&& Int32.toUInt32 31)).toInt32)) &&& (nI 252645135)) + (((((((v - (((v.toUInt32 >>> ((nI 1).toUInt32 &&& Int32.toUInt32 31)).toInt32) &&& (nI 1431655765))) &&& (nI 858993459)) + ((((v - (((v.toUInt32 >>> ((nI 1).toUInt32 &&& Int32.toUInt32 31)).toInt32) &&& (nI 1431655765))).toUInt32 >>> ((nI 2).toUInt32 &&& Int32.toUInt32 31)).toInt32) &&& (nI 858993459))) + (((((v - (((v.toUInt32 >>> ((nI 1).toUInt32 &&& Int32.toUInt32 31)).toInt32) &&& (nI 1431655765))) &&& (nI 858993459)) + ((((v - (((v.toUInt32 >>> ((nI 1).toUInt32 &&& Int32.toUInt32 31)).toInt32) &&& (nI 1431655765))).toUInt32 >>> ((nI 2).toUInt32 &&& Int32.toUInt32 31)).toInt32) &&& (nI 858993459))).toUInt32 >>> ((nI 4).toUInt32 &&& Int32.toUInt32 31)).toInt32)) &&& (nI 252645135)).toUInt32 >>> ((nI 8).toUInt32 &&& Int32.toUInt32 31)).toInt32)) + ((((((((v - (((v.toUInt32 >>> ((nI 1).toUInt32 &&& Int32.toUInt32 31)).toInt32) &&& (nI 1431655765))) &&& (nI 858993459)) + ((((v - (((v.toUInt32 >>> ((nI 1).toUInt32 &&& Int32.toUInt32 31)).toInt32) &&& (nI 1431655765))).toUInt32 >>> ((nI 2).toUInt32 &&& Int32.toUInt32 31)).toInt32) &&& (nI 858993459))) + (((((v - (((v.toUInt32 >>> ((nI 1).toUInt32 &&& Int32.toUInt32 31)).toInt32) &&& (nI 1431655765))) &&& (nI 858993459)) + ((((v - (((v.toUInt32 >>> ((nI 1).toUInt32 &&& Int32.toUInt32 31)).toInt32) &&& (nI 1431655765))).toUInt32 >>> ((nI 2).toUInt32 &&& Int32.toUInt32 31)).toInt32) &&& (nI 858993459))).toUInt32 >>> ((nI 4).toUInt32 &&& Int32.toUInt32 31)).toInt32)) &&& (nI 252645135)) + (((((((v - (((v.toUInt32 >>> ((nI 1).toUInt32 &&& Int32.toUInt32 31)).toInt32) &&& (nI 1431655765))) &&& (nI 858993459)) + ((((v - (((v.toUInt32 >>> ((nI 1).toUInt32 &&& Int32.toUInt32 31)).toInt32) &&& (nI 1431655765))).toUInt32 >>> ((nI 2).toUInt32 &&& Int32.toUInt32 31)).toInt32) &&& (nI 858993459))) + (((((v - (((v.toUInt32 >>> ((nI 1).toUInt32 &&& Int32.toUInt32 31)).toInt32) &&& (nI 1431655765))) &&& (nI 858993459)) + ((((v - (((v.toUInt32 >>> ((nI 1).toUInt32 &&& Int32.toUInt32 31)).toInt32) &&& (nI 1431655765))).toUInt32 >>> ((nI 2).toUInt32 &&& Int32.toUInt32 31)).toInt32) &&& (nI 858993459))).toUInt32 >>> ((nI 4).toUInt32 &&& Int32.toUInt32 31)).toInt32)) &&& (nI 252645135)).toUInt32 >>> ((nI 8).toUInt32 &&& Int32.toUInt32 31)).toInt32)).toUInt32 >>> ((nI 16).toUInt32 &&& Int32.toUInt32 31)).toInt32)) X dJ6_bitCount_0f7a4_46 rfl ?_
  refine x_istoren (lv' := [(0, .int (((((((v - (((v.toUInt32 >>> ((nI 1).toUInt32 &&& Int32.toUInt32 31)).toInt32) &&& (nI 1431655765))) &&& (nI 858993459)) + ((((v - (((v.toUInt32 >>> ((nI 1).toUInt32 &&& Int32.toUInt32 31)).toInt32) &&& (nI 1431655765))).toUInt32 >>> ((nI 2).toUInt32 &&& Int32.toUInt32 31)).toInt32) &&& (nI 858993459))) + (((((v - (((v.toUInt32 >>> ((nI 1).toUInt32 &&& Int32.toUInt32 31)).toInt32) &&& (nI 1431655765))) &&& (nI 858993459)) + ((((v - (((v.toUInt32 >>> ((nI 1).toUInt32 &&& Int32.toUInt32 31)).toInt32) &&& (nI 1431655765))).toUInt32 >>> ((nI 2).toUInt32 &&& Int32.toUInt32 31)).toInt32) &&& (nI 858993459))).toUInt32 >>> ((nI 4).toUInt32 &&& Int32.toUInt32 31)).toInt32)) &&& (nI 252645135)) + (((((((v - (((v.toUInt32 >>> ((nI 1).toUInt32 &&& Int32.toUInt32 31)).toInt32) &&& (nI 1431655765))) &&& (nI 858993459)) + ((((v - (((v.toUInt32 >>> ((nI 1).toUInt32 &&& Int32.toUInt32 31)).toInt32) &&& (nI 1431655765))).toUInt32 >>> ((nI 2).toUInt32 &&& Int32.toUInt32 31)).toInt32) &&& (nI 858993459))) + (((((v - (((v.toUInt32 >>> ((nI 1).toUInt32 &&& Int32.toUInt32 31)).toInt32) &&& (nI 1431655765))) &&& (nI 858993459)) + ((((v - (((v.toUInt32 >>> ((nI 1).toUInt32 &&& Int32.toUInt32 31)).toInt32) &&& (nI 1431655765))).toUInt32 >>> ((nI 2).toUInt32 &&& Int32.toUInt32 31)).toInt32) &&& (nI 858993459))).toUInt32 >>> ((nI 4).toUInt32 &&& Int32.toUInt32 31)).toInt32)) &&& (nI 252645135)).toUInt32 >>> ((nI 8).toUInt32 &&& Int32.toUInt32 31)).toInt32)) + ((((((((v - (((v.toUInt32 >>> ((nI 1).toUInt32 &&& Int32.toUInt32 31)).toInt32) &&& (nI 1431655765))) &&& (nI 858993459)) + ((((v - (((v.toUInt32 >>> ((nI 1).toUInt32 &&& Int32.toUInt32 31)).toInt32) &&& (nI 1431655765))).toUInt32 >>> ((nI 2).toUInt32 &&& Int32.toUInt32 31)).toInt32) &&& (nI 858993459))) + (((((v - (((v.toUInt32 >>> ((nI 1).toUInt32 &&& Int32.toUInt32 31)).toInt32) &&& (nI 1431655765))) &&& (nI 858993459)) + ((((v - (((v.toUInt32 >>> ((nI 1).toUInt32 &&& Int32.toUInt32 31)).toInt32) &&& (nI 1431655765))).toUInt32 >>> ((nI 2).toUInt32 &&& Int32.toUInt32 31)).toInt32) &&& (nI 858993459))).toUInt32 >>> ((nI 4).toUInt32 &&& Int32.toUInt32 31)).toInt32)) &&& (nI 252645135)) + (((((((v - (((v.toUInt32 >>> ((nI 1).toUInt32 &&& Int32.toUInt32 31)).toInt32) &&& (nI 1431655765))) &&& (nI 858993459)) + ((((v - (((v.toUInt32 >>> ((nI 1).toUInt32 &&& Int32.toUInt32 31)).toInt32) &&& (nI 1431655765))).toUInt32 >>> ((nI 2).toUInt32 &&& Int32.toUInt32 31)).toInt32) &&& (nI 858993459))) + (((((v - (((v.toUInt32 >>> ((nI 1).toUInt32 &&& Int32.toUInt32 31)).toInt32) &&& (nI 1431655765))) &&& (nI 858993459)) + ((((v - (((v.toUInt32 >>> ((nI 1).toUInt32 &&& Int32.toUInt32 31)).toInt32) &&& (nI 1431655765))).toUInt32 >>> ((nI 2).toUInt32 &&& Int32.toUInt32 31)).toInt32) &&& (nI 858993459))).toUInt32 >>> ((nI 4).toUInt32 &&& Int32.toUInt32 31)).toInt32)) &&& (nI 252645135)).toUInt32 >>> ((nI 8).toUInt32 &&& Int32.toUInt32 31)).toInt32)).toUInt32 >>> ((nI 16).toUInt32 &&& Int32.toUInt32 31)).toInt32)))]) X dJ6_bitCount_0f7a4_47 (by decide) rfl ?_
  refine x_iloadn X dJ6_bitCount_0f7a4_48 0 rfl ?_
  refine x_bipush (v := nI 63) X dJ6_bitCount_0f7a4_49 (by decide) ?_
  refine x_iand (v := (((((((v - (((v.toUInt32 >>> ((nI 1).toUInt32 &&& Int32.toUInt32 31)).toInt32) &&& (nI 1431655765))) &&& (nI 858993459)) + ((((v - (((v.toUInt32 >>> ((nI 1).toUInt32 &&& Int32.toUInt32 31)).toInt32) &&& (nI 1431655765))).toUInt32 >>> ((nI 2).toUInt32 &&& Int32.toUInt32 31)).toInt32) &&& (nI 858993459))) + (((((v - (((v.toUInt32 >>> ((nI 1).toUInt32 &&& Int32.toUInt32 31)).toInt32) &&& (nI 1431655765))) &&& (nI 858993459)) + ((((v - (((v.toUInt32 >>> ((nI 1).toUInt32 &&& Int32.toUInt32 31)).toInt32) &&& (nI 1431655765))).toUInt32 >>> ((nI 2).toUInt32 &&& Int32.toUInt32 31)).toInt32) &&& (nI 858993459))).toUInt32 >>> ((nI 4).toUInt32 &&& Int32.toUInt32 31)).toInt32)) &&& (nI 252645135)) + (((((((v - (((v.toUInt32 >>> ((nI 1).toUInt32 &&& Int32.toUInt32 31)).toInt32) &&& (nI 1431655765))) &&& (nI 858993459)) + ((((v - (((v.toUInt32 >>> ((nI 1).toUInt32 &&& Int32.toUInt32 31)).toInt32) &&& (nI 1431655765))).toUInt32 >>> ((nI 2).toUInt32 &&& Int32.toUInt32 31)).toInt32) &&& (nI 858993459))) + (((((v - (((v.toUInt32 >>> ((nI 1).toUInt32 &&& Int32.toUInt32 31)).toInt32) &&& (nI 1431655765))) &&& (nI 858993459)) + ((((v - (((v.toUInt32 >>> ((nI 1).toUInt32 &&& Int32.toUInt32 31)).toInt32) &&& (nI 1431655765))).toUInt32 >>> ((nI 2).toUInt32 &&& Int32.toUInt32 31)).toInt32) &&& (nI 858993459))).toUInt32 >>> ((nI 4).toUInt32 &&& Int32.toUInt32 31)).toInt32)) &&& (nI 252645135)).toUInt32 >>> ((nI 8).toUInt32 &&& Int32.toUInt32 31)).toInt32)) + ((((((((v - (((v.toUInt32 >>> ((nI 1).toUInt32 &&& Int32.toUInt32 31)).toInt32) &&& (nI 1431655765))) &&& (nI 858993459)) + ((((v - (((v.toUInt32 >>> ((nI 1).toUInt32 &&& Int32.toUInt32 31)).toInt32) &&& (nI 1431655765))).toUInt32 >>> ((nI 2).toUInt32 &&& Int32.toUInt32 31)).toInt32) &&& (nI 858993459))) + (((((v - (((v.toUInt32 >>> ((nI 1).toUInt32 &&& Int32.toUInt32 31)).toInt32) &&& (nI 1431655765))) &&& (nI 858993459)) + ((((v - (((v.toUInt32 >>> ((nI 1).toUInt32 &&& Int32.toUInt32 31)).toInt32) &&& (nI 1431655765))).toUInt32 >>> ((nI 2).toUInt32 &&& Int32.toUInt32 31)).toInt32) &&& (nI 858993459))).toUInt32 >>> ((nI 4).toUInt32 &&& Int32.toUInt32 31)).toInt32)) &&& (nI 252645135)) + (((((((v - (((v.toUInt32 >>> ((nI 1).toUInt32 &&& Int32.toUInt32 31)).toInt32) &&& (nI 1431655765))) &&& (nI 858993459)) + ((((v - (((v.toUInt32 >>> ((nI 1).toUInt32 &&& Int32.toUInt32 31)).toInt32) &&& (nI 1431655765))).toUInt32 >>> ((nI 2).toUInt32 &&& Int32.toUInt32 31)).toInt32) &&& (nI 858993459))) + (((((v - (((v.toUInt32 >>> ((nI 1).toUInt32 &&& Int32.toUInt32 31)).toInt32) &&& (nI 1431655765))) &&& (nI 858993459)) + ((((v - (((v.toUInt32 >>> ((nI 1).toUInt32 &&& Int32.toUInt32 31)).toInt32) &&& (nI 1431655765))).toUInt32 >>> ((nI 2).toUInt32 &&& Int32.toUInt32 31)).toInt32) &&& (nI 858993459))).toUInt32 >>> ((nI 4).toUInt32 &&& Int32.toUInt32 31)).toInt32)) &&& (nI 252645135)).toUInt32 >>> ((nI 8).toUInt32 &&& Int32.toUInt32 31)).toInt32)).toUInt32 >>> ((nI 16).toUInt32 &&& Int32.toUInt32 31)).toInt32)) &&& (nI 63)) X dJ6_bitCount_0f7a4_51 rfl ?_
  exact x_ret X dJ6_bitCount_0f7a4_52 ⟨ret_i (by rfl), rfl, by decide, by decide⟩
set_option maxRecDepth 100000 in
set_option maxHeartbeats 4000000 in
/-- X4_person -/
theorem c_X4_person (l : Launch) (G : xG) (o : Nat) (x : Nat → Nat) (w : Nat → Nat) (d : Nat → Nat) (h : Nat → Nat) (g : Nat → Nat) (q : Nat → Nat) (e : Nat) (s : xS) (a : Int32) (b : Int32) (hs6 : s.1 ≤ 6) (hs1 : 0 < s.1) (hq5 : s.2.1 ≤ 5) (hmi : ∀ j, j < 6 → inR (s.2.2.2.1 j) 6 = true) : xM l G xE0 yX4_person cX4_person 3 (some .int) 2 42 0 0 [.ref o, .int a, .int b] (xJ [wInk G o x w d h g q e, wCq G w s]) (some (.int (F_person s a b))) (fun w2 => w2 = xJ [wInk G o x w d h g q e, wCq G w s]) := by
  refine x_entry (by decide +kernel) (Nat.le_of_ble_eq_true rfl) rfl ⟨_, rfl, rfl⟩ (fun K X => ?_)
  refine x_aloadn X dX4_person_0 0 rfl ?_
  refine x_get X wu_X4 0 rfl rfl 1 (by decide) wf_X4_19 rfl rfl dX4_person_1 ?_
  refine x_iloadn X dX4_person_4 1 rfl ?_
  refine x_callVrv (As := [.int a]) (rest := []) X (c_X0_hasPerson l G w s.1 s.2.1 s.2.2.1 s.2.2.2.1 s.2.2.2.2.1 s.2.2.2.2.2 a (by omega)) xE0_ok (fun _ _ _ => trivial) [1, 2, 3, 4, 5] rfl 0 rfl rfl rfl rfl wco_X0_hasPerson wi_X0 xd_X0_hasPerson wl_X4_87 win_X0_hasPerson wse_X0_hasPerson (by decide) (Nat.le_of_ble_eq_true rfl) dX4_person_5 ?_
  refine x_ifeq_b 19 X dX4_person_8 (by decide) (fun c_1 => ?_) (fun c_1 => ?_)
  · -- 8 t
    refine x_iconst (v := (-1)) X dX4_person_19 (by decide) ?_
    exact x_ret X dX4_person_20 ⟨ret_i (by simp [F_person, tn, c_1]), rfl, by decide, by decide⟩
  · -- 8 f
    obtain ⟨aN, haN, rfl⟩ := inR_nat c_1 (by omega)
    have qaN : (nI aN).toNatClampNeg = aN := nI_clamp (by omega)
    refine x_iloadn X dX4_person_11 2 rfl ?_
    refine x_iconst (v := nI 1) X dX4_person_12 (by decide) ?_
    refine x_callSrv (As := [.int b, .int (nI 1)]) (rest := []) X (c_X4_isUpTo l G b 1 (by omega)) xE0_ok (fun _ _ _ => trivial) [] rfl rfl rfl wco_X4_isUpTo wi_X4 xd_X4_isUpTo wl_X4_91 wst_X4_isUpTo (by decide) (Nat.le_of_ble_eq_true rfl) dX4_person_13 ?_
    refine x_ifne_b 21 X dX4_person_16 (by decide) (fun c_2 => ?_) (fun c_2 => ?_)
    · -- 16 t
      obtain ⟨bN, hbN, rfl⟩ := inR_nat c_2 (by omega)
      have qbN : (nI bN).toNatClampNeg = bN := nI_clamp (by omega)
      refine x_iloadn X dX4_person_21 2 rfl ?_
      refine x_if_ne_n 36 X dX4_person_22 (by decide) (by omega) (fun c_3 => ?_) (fun c_3 => ?_)
      · -- 22 t
        refine x_aloadn X dX4_person_36 0 rfl ?_
        refine x_get X wu_X4 0 rfl rfl 1 (by decide) wf_X4_19 rfl rfl dX4_person_37 ?_
        refine x_iloadn X dX4_person_40 1 rfl ?_
        refine x_callVrv (As := [.int (nI aN)]) (rest := []) X (c_X0_mindOf l G w s.1 s.2.1 s.2.2.1 s.2.2.2.1 s.2.2.2.2.1 s.2.2.2.2.2 aN (by omega)) xE0_ok (fun _ _ _ => trivial) [1, 2, 3, 4, 5] rfl 0 rfl rfl rfl rfl wco_X0_mindOf wi_X0 xd_X0_mindOf wl_X4_99 win_X0_mindOf wse_X0_mindOf (by decide) (Nat.le_of_ble_eq_true rfl) dX4_person_41 ?_
        exact x_ret X dX4_person_44 ⟨ret_i (by simp [F_person, tn, c_1, qaN, c_2, qbN, c_3]), rfl, by decide, by decide⟩
      · -- 22 f
        refine x_aloadn X dX4_person_25 0 rfl ?_
        refine x_get X wu_X4 0 rfl rfl 1 (by decide) wf_X4_19 rfl rfl dX4_person_26 ?_
        refine x_iloadn X dX4_person_29 1 rfl ?_
        refine x_callVrv (As := [.int (nI aN)]) (rest := []) X (c_X0_kindOf l G w s.1 s.2.1 s.2.2.1 s.2.2.2.1 s.2.2.2.2.1 s.2.2.2.2.2 aN (by omega)) xE0_ok (fun _ _ _ => trivial) [1, 2, 3, 4, 5] rfl 0 rfl rfl rfl rfl wco_X0_kindOf wi_X0 xd_X0_kindOf wl_X4_95 win_X0_kindOf wse_X0_kindOf (by decide) (Nat.le_of_ble_eq_true rfl) dX4_person_30 ?_
        refine x_goto 44 X dX4_person_33 (by decide) ?_
        exact x_ret X dX4_person_44 ⟨ret_i (by simp [F_person, tn, c_1, qaN, c_2, qbN, (eq_true c_3)]), rfl, by decide, by decide⟩
    · -- 16 f
      refine x_iconst (v := (-1)) X dX4_person_19 (by decide) ?_
      exact x_ret X dX4_person_20 ⟨ret_i (by simp [F_person, tn, c_1, qaN, c_2]), rfl, by decide, by decide⟩
set_option maxRecDepth 100000 in
set_option maxHeartbeats 4000000 in
/-- X4_view -/
theorem c_X4_view (l : Launch) (G : xG) (o : Nat) (x : Nat → Nat) (w : Nat → Nat) (d : Nat → Nat) (h : Nat → Nat) (g : Nat → Nat) (q : Nat → Nat) (e : Nat) (s : xS) (a : Int32) (b : Int32) (hs6 : s.1 ≤ 6) (hs1 : 0 < s.1) (hq5 : s.2.1 ≤ 5) (hmi : ∀ j, j < 6 → inR (s.2.2.2.1 j) 6 = true) : xM l G xE0 yX4_view cX4_view 3 (some .int) 2 43 0 0 [.ref o, .int a, .int b] (xJ [wInk G o x w d h g q e, wCq G w s]) (some (.int (F_view s a b))) (fun w2 => w2 = xJ [wInk G o x w d h g q e, wCq G w s]) := by
  refine x_entry (by decide +kernel) (Nat.le_of_ble_eq_true rfl) rfl ⟨_, rfl, rfl⟩ (fun K X => ?_)
  refine x_aloadn X dX4_view_0 0 rfl ?_
  refine x_get X wu_X4 0 rfl rfl 1 (by decide) wf_X4_19 rfl rfl dX4_view_1 ?_
  refine x_iloadn X dX4_view_4 1 rfl ?_
  refine x_callVrv (As := [.int a]) (rest := []) X (c_X0_hasPerson l G w s.1 s.2.1 s.2.2.1 s.2.2.2.1 s.2.2.2.2.1 s.2.2.2.2.2 a (by omega)) xE0_ok (fun _ _ _ => trivial) [1, 2, 3, 4, 5] rfl 0 rfl rfl rfl rfl wco_X0_hasPerson wi_X0 xd_X0_hasPerson wl_X4_87 win_X0_hasPerson wse_X0_hasPerson (by decide) (Nat.le_of_ble_eq_true rfl) dX4_view_5 ?_
  refine x_ifeq_b 18 X dX4_view_8 (by decide) (fun c_1 => ?_) (fun c_1 => ?_)
  · -- 8 t
    refine x_iconst (v := (-1)) X dX4_view_18 (by decide) ?_
    exact x_ret X dX4_view_19 ⟨ret_i (by simp [F_view, tn, c_1]), rfl, by decide, by decide⟩
  · -- 8 f
    obtain ⟨aN, haN, rfl⟩ := inR_nat c_1 (by omega)
    have qaN : (nI aN).toNatClampNeg = aN := nI_clamp (by omega)
    refine x_iloadn X dX4_view_11 2 rfl ?_
    refine x_callSrv (As := [.int b]) (rest := []) X (c_X4_isTheme l G b) xE0_ok (fun _ _ _ => trivial) [] rfl rfl rfl wco_X4_isTheme wi_X4 xd_X4_isTheme wl_X4_102 wst_X4_isTheme (by decide) (Nat.le_of_ble_eq_true rfl) dX4_view_12 ?_
    refine x_ifne_b 20 X dX4_view_15 (by decide) (fun c_2 => ?_) (fun c_2 => ?_)
    · -- 15 t
      obtain ⟨bN, hbN, rfl⟩ := inR_nat c_2 (by omega)
      have qbN : (nI bN).toNatClampNeg = bN := nI_clamp (by omega)
      refine x_aloadn X dX4_view_20 0 rfl ?_
      refine x_get X wu_X4 0 rfl rfl 1 (by decide) wf_X4_19 rfl rfl dX4_view_21 ?_
      refine x_iloadn X dX4_view_24 1 rfl ?_
      refine x_iloadn X dX4_view_25 2 rfl ?_
      refine x_callVrv (As := [.int (nI aN), .int (nI bN)]) (rest := []) X (c_X0_viewOf l G w s.1 s.2.1 s.2.2.1 s.2.2.2.1 s.2.2.2.2.1 s.2.2.2.2.2 aN bN (by omega) (by omega)) xE0_ok (fun _ _ _ => trivial) [1, 2, 3, 4, 5] rfl 0 rfl rfl rfl rfl wco_X0_viewOf wi_X0 xd_X0_viewOf wl_X4_105 win_X0_viewOf wse_X0_viewOf (by decide) (Nat.le_of_ble_eq_true rfl) dX4_view_26 ?_
      refine x_bipush (v := nI 9) X dX4_view_29 (by decide) ?_
      refine x_iadd (v := (s.2.2.2.2.1 (aN * 5 + bN)) + (nI 9)) X dX4_view_31 rfl ?_
      exact x_ret X dX4_view_32 ⟨ret_i (by simp [F_view, tn, c_1, qaN, c_2, qbN]), rfl, by decide, by decide⟩
    · -- 15 f
      refine x_iconst (v := (-1)) X dX4_view_18 (by decide) ?_
      exact x_ret X dX4_view_19 ⟨ret_i (by simp [F_view, tn, c_1, qaN, c_2]), rfl, by decide, by decide⟩
set_option maxRecDepth 100000 in
set_option maxHeartbeats 4000000 in
/-- X4_line -/
theorem c_X4_line (l : Launch) (G : xG) (o : Nat) (x : Nat → Nat) (w : Nat → Nat) (d : Nat → Nat) (h : Nat → Nat) (g : Nat → Nat) (q : Nat → Nat) (e : Nat) (s : xS) (a : Int32) (b : Int32) (hs6 : s.1 ≤ 6) (hs1 : 0 < s.1) (hq5 : s.2.1 ≤ 5) (hmi : ∀ j, j < 6 → inR (s.2.2.2.1 j) 6 = true) : xM l G xE0 yX4_line cX4_line 3 (some .int) 2 43 0 0 [.ref o, .int a, .int b] (xJ [wInk G o x w d h g q e, wCq G w s]) (some (.int (F_line s a b))) (fun w2 => w2 = xJ [wInk G o x w d h g q e, wCq G w s]) := by
  refine x_entry (by decide +kernel) (Nat.le_of_ble_eq_true rfl) rfl ⟨_, rfl, rfl⟩ (fun K X => ?_)
  refine x_aloadn X dX4_line_0 0 rfl ?_
  refine x_get X wu_X4 0 rfl rfl 1 (by decide) wf_X4_19 rfl rfl dX4_line_1 ?_
  refine x_iloadn X dX4_line_4 1 rfl ?_
  refine x_callVrv (As := [.int a]) (rest := []) X (c_X0_hasPaper l G w s.1 s.2.1 s.2.2.1 s.2.2.2.1 s.2.2.2.2.1 s.2.2.2.2.2 a (by omega)) xE0_ok (fun _ _ _ => trivial) [1, 2, 3, 4, 5] rfl 0 rfl rfl rfl rfl wco_X0_hasPaper wi_X0 xd_X0_hasPaper wl_X4_109 win_X0_hasPaper wse_X0_hasPaper (by decide) (Nat.le_of_ble_eq_true rfl) dX4_line_5 ?_
  refine x_ifeq_b 18 X dX4_line_8 (by decide) (fun c_1 => ?_) (fun c_1 => ?_)
  · -- 8 t
    refine x_iconst (v := (-1)) X dX4_line_18 (by decide) ?_
    exact x_ret X dX4_line_19 ⟨ret_i (by simp [F_line, tn, c_1]), rfl, by decide, by decide⟩
  · -- 8 f
    obtain ⟨aN, haN, rfl⟩ := inR_nat c_1 (by omega)
    have qaN : (nI aN).toNatClampNeg = aN := nI_clamp (by omega)
    refine x_iloadn X dX4_line_11 2 rfl ?_
    refine x_callSrv (As := [.int b]) (rest := []) X (c_X4_isTheme l G b) xE0_ok (fun _ _ _ => trivial) [] rfl rfl rfl wco_X4_isTheme wi_X4 xd_X4_isTheme wl_X4_102 wst_X4_isTheme (by decide) (Nat.le_of_ble_eq_true rfl) dX4_line_12 ?_
    refine x_ifne_b 20 X dX4_line_15 (by decide) (fun c_2 => ?_) (fun c_2 => ?_)
    · -- 15 t
      obtain ⟨bN, hbN, rfl⟩ := inR_nat c_2 (by omega)
      have qbN : (nI bN).toNatClampNeg = bN := nI_clamp (by omega)
      refine x_aloadn X dX4_line_20 0 rfl ?_
      refine x_get X wu_X4 0 rfl rfl 1 (by decide) wf_X4_19 rfl rfl dX4_line_21 ?_
      refine x_iloadn X dX4_line_24 1 rfl ?_
      refine x_iloadn X dX4_line_25 2 rfl ?_
      refine x_callVrv (As := [.int (nI aN), .int (nI bN)]) (rest := []) X (c_X0_lineOf l G w s.1 s.2.1 s.2.2.1 s.2.2.2.1 s.2.2.2.2.1 s.2.2.2.2.2 aN bN (by omega) (by omega)) xE0_ok (fun _ _ _ => trivial) [1, 2, 3, 4, 5] rfl 0 rfl rfl rfl rfl wco_X0_lineOf wi_X0 xd_X0_lineOf wl_X4_112 win_X0_lineOf wse_X0_lineOf (by decide) (Nat.le_of_ble_eq_true rfl) dX4_line_26 ?_
      refine x_callSrv (As := [.int (s.2.2.2.2.2 (aN * 5 + bN))]) (rest := []) X (c_X4_told l G (s.2.2.2.2.2 (aN * 5 + bN))) xE0_ok (fun _ _ _ => trivial) [] rfl rfl rfl wco_X4_told wi_X4 xd_X4_told wl_X4_115 wst_X4_told (by decide) (Nat.le_of_ble_eq_true rfl) dX4_line_29 ?_
      exact x_ret X dX4_line_32 ⟨ret_i (by simp [F_line, tn, c_1, qaN, c_2, qbN]), rfl, by decide, by decide⟩
    · -- 15 f
      refine x_iconst (v := (-1)) X dX4_line_18 (by decide) ?_
      exact x_ret X dX4_line_19 ⟨ret_i (by simp [F_line, tn, c_1, qaN, c_2]), rfl, by decide, by decide⟩
set_option maxRecDepth 100000 in
set_option maxHeartbeats 4000000 in
/-- X4_would -/
theorem c_X4_would (l : Launch) (G : xG) (o : Nat) (x : Nat → Nat) (w : Nat → Nat) (d : Nat → Nat) (h : Nat → Nat) (g : Nat → Nat) (q : Nat → Nat) (e : Nat) (s : xS) (a : Int32) (b : Int32) (c : Int32) (hs6 : s.1 ≤ 6) (hs1 : 0 < s.1) (hq5 : s.2.1 ≤ 5) (hmi : ∀ j, j < 6 → inR (s.2.2.2.1 j) 6 = true) : xM l G xE0 yX4_would cX4_would 4 (some .int) 4 92 0 0 [.ref o, .int a, .int b, .int c] (xJ [wInk G o x w d h g q e, wCq G w s]) (some (.int (F_would s a b c))) (fun w2 => w2 = xJ [wInk G o x w d h g q e, wCq G w s]) := by
  refine x_entry (by decide +kernel) (Nat.le_of_ble_eq_true rfl) rfl ⟨_, rfl, rfl⟩ (fun K X => ?_)
  refine x_aloadn X dX4_would_0 0 rfl ?_
  refine x_get X wu_X4 0 rfl rfl 1 (by decide) wf_X4_19 rfl rfl dX4_would_1 ?_
  refine x_iloadn X dX4_would_4 1 rfl ?_
  refine x_callVrv (As := [.int a]) (rest := []) X (c_X0_hasPerson l G w s.1 s.2.1 s.2.2.1 s.2.2.2.1 s.2.2.2.2.1 s.2.2.2.2.2 a (by omega)) xE0_ok (fun _ _ _ => trivial) [1, 2, 3, 4, 5] rfl 0 rfl rfl rfl rfl wco_X0_hasPerson wi_X0 xd_X0_hasPerson wl_X4_87 win_X0_hasPerson wse_X0_hasPerson (by decide) (Nat.le_of_ble_eq_true rfl) dX4_would_5 ?_
  refine x_ifeq_b 27 X dX4_would_8 (by decide) (fun c_1 => ?_) (fun c_1 => ?_)
  · -- 8 t
    refine x_iconst (v := (-1)) X dX4_would_27 (by decide) ?_
    exact x_ret X dX4_would_28 ⟨ret_i (by simp [F_would, F_wr, tn, c_1]), rfl, by decide, by decide⟩
  · -- 8 f
    obtain ⟨aN, haN, rfl⟩ := inR_nat c_1 (by omega)
    have qaN : (nI aN).toNatClampNeg = aN := nI_clamp (by omega)
    refine x_iloadn X dX4_would_11 2 rfl ?_
    refine x_callSrv (As := [.int b]) (rest := []) X (c_X4_isTheme l G b) xE0_ok (fun _ _ _ => trivial) [] rfl rfl rfl wco_X4_isTheme wi_X4 xd_X4_isTheme wl_X4_102 wst_X4_isTheme (by decide) (Nat.le_of_ble_eq_true rfl) dX4_would_12 ?_
    refine x_ifeq_b 27 X dX4_would_15 (by decide) (fun c_2 => ?_) (fun c_2 => ?_)
    · -- 15 t
      refine x_iconst (v := (-1)) X dX4_would_27 (by decide) ?_
      exact x_ret X dX4_would_28 ⟨ret_i (by simp [F_would, F_wr, tn, c_1, qaN, c_2]), rfl, by decide, by decide⟩
    · -- 15 f
      obtain ⟨bN, hbN, rfl⟩ := inR_nat c_2 (by omega)
      have qbN : (nI bN).toNatClampNeg = bN := nI_clamp (by omega)
      refine x_iloadn X dX4_would_18 3 rfl ?_
      refine x_bipush (v := nI 10) X dX4_would_19 (by decide) ?_
      refine x_callSrv (As := [.int c, .int (nI 10)]) (rest := []) X (c_X4_isUpTo l G c 10 (by omega)) xE0_ok (fun _ _ _ => trivial) [] rfl rfl rfl wco_X4_isUpTo wi_X4 xd_X4_isUpTo wl_X4_91 wst_X4_isUpTo (by decide) (Nat.le_of_ble_eq_true rfl) dX4_would_21 ?_
      refine x_ifne_b 29 X dX4_would_24 (by decide) (fun c_3 => ?_) (fun c_3 => ?_)
      · -- 24 t
        obtain ⟨cN, hcN, rfl⟩ := inR_nat c_3 (by omega)
        have qcN : (nI cN).toNatClampNeg = cN := nI_clamp (by omega)
        refine x_aloadn X dX4_would_29 0 rfl ?_
        refine x_get X wu_X4 0 rfl rfl 1 (by decide) wf_X4_19 rfl rfl dX4_would_30 ?_
        refine x_iloadn X dX4_would_33 1 rfl ?_
        refine x_iloadn X dX4_would_34 2 rfl ?_
        refine x_iloadn X dX4_would_35 3 rfl ?_
        refine x_callVrv (As := [.int (nI aN), .int (nI bN), .int (nI cN)]) (rest := []) X (c_X0_written l G w s.1 s.2.1 s.2.2.1 s.2.2.2.1 s.2.2.2.2.1 s.2.2.2.2.2 aN bN (nI cN) (by omega) (by omega) (by assumption)) xE0_ok (fun _ _ _ => trivial) [1, 2, 3, 4, 5] rfl 0 rfl rfl rfl rfl wco_X0_written wi_X0 xd_X0_written wl_X4_118 win_X0_written wse_X0_written (by decide) (Nat.le_of_ble_eq_true rfl) dX4_would_36 ?_
        refine x_bipush (v := nI 9) X dX4_would_39 (by decide) ?_
        refine x_iadd (v := (F_ink (s.2.2.1 aN) (s.2.2.2.2.1 (tn (s.2.2.2.1 aN) * 5 + bN)) (s.2.2.2.2.1 (aN * 5 + bN)) (nI cN)) + (nI 9)) X dX4_would_41 rfl ?_
        exact x_ret X dX4_would_42 ⟨ret_i (by simp [F_would, F_wr, tn, c_1, qaN, c_2, qbN, c_3, qcN]), rfl, by decide, by decide⟩
      · -- 24 f
        refine x_iconst (v := (-1)) X dX4_would_27 (by decide) ?_
        exact x_ret X dX4_would_28 ⟨ret_i (by simp [F_would, F_wr, tn, c_1, qaN, c_2, qbN, c_3]), rfl, by decide, by decide⟩
set_option maxRecDepth 100000 in
set_option maxHeartbeats 4000000 in
/-- X4_own -/
theorem c_X4_own (l : Launch) (G : xG) (o : Nat) (x : Nat → Nat) (w : Nat → Nat) (d : Nat → Nat) (h : Nat → Nat) (g : Nat → Nat) (q : Nat → Nat) (e : Nat) (s : xS) (a : Int32) (b : Int32) (hs6 : s.1 ≤ 6) (hs1 : 0 < s.1) (hq5 : s.2.1 ≤ 5) (hmi : ∀ j, j < 6 → inR (s.2.2.2.1 j) 6 = true) : xM l G xE0 yX4_own cX4_own 5 (some .int) 2 43 0 0 [.ref o, .int a, .int b] (xJ [wInk G o x w d h g q e, wCq G w s]) (some (.int (F_own s a b))) (fun w2 => w2 = xJ [wInk G o x w d h g q e, wCq G w s]) := by
  refine x_entry (by decide +kernel) (Nat.le_of_ble_eq_true rfl) rfl ⟨_, rfl, rfl⟩ (fun K X => ?_)
  refine x_aloadn X dX4_own_0 0 rfl ?_
  refine x_get X wu_X4 0 rfl rfl 1 (by decide) wf_X4_19 rfl rfl dX4_own_1 ?_
  refine x_iloadn X dX4_own_4 1 rfl ?_
  refine x_callVrv (As := [.int a]) (rest := []) X (c_X0_hasPaper l G w s.1 s.2.1 s.2.2.1 s.2.2.2.1 s.2.2.2.2.1 s.2.2.2.2.2 a (by omega)) xE0_ok (fun _ _ _ => trivial) [1, 2, 3, 4, 5] rfl 0 rfl rfl rfl rfl wco_X0_hasPaper wi_X0 xd_X0_hasPaper wl_X4_109 win_X0_hasPaper wse_X0_hasPaper (by decide) (Nat.le_of_ble_eq_true rfl) dX4_own_5 ?_
  refine x_ifeq_b 22 X dX4_own_8 (by decide) (fun c_1 => ?_) (fun c_1 => ?_)
  · -- 8 t
    refine x_iconst (v := (-1)) X dX4_own_22 (by decide) ?_
    exact x_ret X dX4_own_23 ⟨ret_i (by simp [F_own, tn, c_1]), rfl, by decide, by decide⟩
  · -- 8 f
    obtain ⟨aN, haN, rfl⟩ := inR_nat c_1 (by omega)
    have qaN : (nI aN).toNatClampNeg = aN := nI_clamp (by omega)
    refine x_aloadn X dX4_own_11 0 rfl ?_
    refine x_get X wu_X4 0 rfl rfl 1 (by decide) wf_X4_19 rfl rfl dX4_own_12 ?_
    refine x_iloadn X dX4_own_15 2 rfl ?_
    refine x_callVrv (As := [.int b]) (rest := []) X (c_X0_hasPerson l G w s.1 s.2.1 s.2.2.1 s.2.2.2.1 s.2.2.2.2.1 s.2.2.2.2.2 b (by omega)) xE0_ok (fun _ _ _ => trivial) [1, 2, 3, 4, 5] rfl 0 rfl rfl rfl rfl wco_X0_hasPerson wi_X0 xd_X0_hasPerson wl_X4_87 win_X0_hasPerson wse_X0_hasPerson (by decide) (Nat.le_of_ble_eq_true rfl) dX4_own_16 ?_
    refine x_ifne_b 24 X dX4_own_19 (by decide) (fun c_2 => ?_) (fun c_2 => ?_)
    · -- 19 t
      obtain ⟨bN, hbN, rfl⟩ := inR_nat c_2 (by omega)
      have qbN : (nI bN).toNatClampNeg = bN := nI_clamp (by omega)
      refine x_iconst (v := nI 0) X dX4_own_24 (by decide) ?_
      refine x_istoren (lv' := [(3, .int (nI 0)), (0, .ref o), (1, .int (nI aN)), (2, .int (nI bN))]) X dX4_own_25 (by decide) rfl ?_
      refine x_iconst (v := nI 0) X dX4_own_26 (by decide) ?_
      refine x_istore (lv' := [(4, .int (nI 0)), (3, .int (nI 0)), (0, .ref o), (1, .int (nI aN)), (2, .int (nI bN))]) X dX4_own_27 (by decide) rfl ?_
      have L29 : ∀ (fu : Nat) (t : Nat) (u : Int32), 5 - t < fu → (t ≤ 5) → (u = F_owb s aN bN t) → K (xJ [wInk G o x w d h g q e, wCq G w s]) 0 0 29 [(0, .ref o), (1, .int (nI aN)), (2, .int (nI bN)), (3, .int u), (4, .int (nI t))] [] := by
        intro fu
        induction fu with
        | zero => intro t u hfu; exact absurd hfu (Nat.not_lt_zero _)
        | succ fu ih_L29 =>
          intro t u hfu_L29 ht5 hu
          refine x_iload X dX4_own_29 4 rfl ?_
          refine x_iconst (v := nI 5) X dX4_own_31 (by decide) ?_
          refine x_icmp_ge_n 71 X dX4_own_32 (by decide) (by omega) (by omega) (fun c_3 => ?_) (fun c_3 => ?_)
          · -- 32 t
            have n_3 := Nat.not_lt.mpr c_3
            obtain rfl : t = 5 := by omega
            refine x_iloadn X dX4_own_71 3 rfl ?_
            exact x_ret X dX4_own_72 ⟨ret_i (by simp [F_own, tn, c_1, qaN, c_2, qbN, ht5, hu, c_3, n_3]), rfl, by decide, by decide⟩
          · -- 32 f
            refine x_aloadn X dX4_own_35 0 rfl ?_
            refine x_get X wu_X4 0 rfl rfl 1 (by decide) wf_X4_19 rfl rfl dX4_own_36 ?_
            refine x_iloadn X dX4_own_39 1 rfl ?_
            refine x_iload X dX4_own_40 4 rfl ?_
            refine x_callVrv (As := [.int (nI aN), .int (nI t)]) (rest := []) X (c_X0_lineOf l G w s.1 s.2.1 s.2.2.1 s.2.2.2.1 s.2.2.2.2.1 s.2.2.2.2.2 aN t (by omega) (by omega)) xE0_ok (fun _ _ _ => trivial) [1, 2, 3, 4, 5] rfl 0 rfl rfl rfl rfl wco_X0_lineOf wi_X0 xd_X0_lineOf wl_X4_112 win_X0_lineOf wse_X0_lineOf (by decide) (Nat.le_of_ble_eq_true rfl) dX4_own_42 ?_
            refine x_aloadn X dX4_own_45 0 rfl ?_
            refine x_get X wu_X4 0 rfl rfl 1 (by decide) wf_X4_19 rfl rfl dX4_own_46 ?_
            refine x_iloadn X dX4_own_49 2 rfl ?_
            refine x_iload X dX4_own_50 4 rfl ?_
            refine x_callVrv (As := [.int (nI bN), .int (nI t)]) (rest := [.int (s.2.2.2.2.2 (aN * 5 + t))]) X (c_X0_viewOf l G w s.1 s.2.1 s.2.2.1 s.2.2.2.1 s.2.2.2.2.1 s.2.2.2.2.2 bN t (by omega) (by omega)) xE0_ok (fun _ _ _ => trivial) [1, 2, 3, 4, 5] rfl 0 rfl rfl rfl rfl wco_X0_viewOf wi_X0 xd_X0_viewOf wl_X4_105 win_X0_viewOf wse_X0_viewOf (by decide) (Nat.le_of_ble_eq_true rfl) dX4_own_52 ?_
            refine x_icmp_ne 65 X dX4_own_55 (by decide) (fun c_4 => ?_) (fun c_4 => ?_)
            · -- 55 t
              refine x_iinc (v := nI (t + 1)) (lv' := [(4, .int (nI (t + 1))), (0, .ref o), (1, .int (nI aN)), (2, .int (nI bN)), (3, .int u)]) X dX4_own_65 4 rfl (nI_1 _) (by decide) rfl ?_
              refine x_goto 29 X dX4_own_68 (by decide) ?_
              refine x_lv (lv' := [(0, .ref o), (1, .int (nI aN)), (2, .int (nI bN)), (3, .int u), (4, .int (nI (t + 1)))]) X [1, 2, 3, 4, 0] rfl ?_
              exact ih_L29 (t + 1) u (by omega) (by omega) (by simp [F_owb, c_1, qaN, c_2, qbN, ht5, hu, c_3, c_4])
            · -- 55 f
              refine x_iloadn X dX4_own_58 3 rfl ?_
              refine x_iconst (v := nI 1) X dX4_own_59 (by decide) ?_
              refine x_iload X dX4_own_60 4 rfl ?_
              refine x_ishl (v := (nI 1) <<< ((nI t) &&& 31)) X dX4_own_62 rfl ?_
              refine x_ior (v := u ||| ((nI 1) <<< ((nI t) &&& 31))) X dX4_own_63 rfl ?_
              refine x_istoren (lv' := [(3, .int (u ||| ((nI 1) <<< ((nI t) &&& 31)))), (0, .ref o), (1, .int (nI aN)), (2, .int (nI bN)), (4, .int (nI t))]) X dX4_own_64 (by decide) rfl ?_
              refine x_iinc (v := nI (t + 1)) (lv' := [(4, .int (nI (t + 1))), (3, .int (u ||| ((nI 1) <<< ((nI t) &&& 31)))), (0, .ref o), (1, .int (nI aN)), (2, .int (nI bN))]) X dX4_own_65 4 rfl (nI_1 _) (by decide) rfl ?_
              refine x_goto 29 X dX4_own_68 (by decide) ?_
              refine x_lv (lv' := [(0, .ref o), (1, .int (nI aN)), (2, .int (nI bN)), (3, .int (u ||| ((nI 1) <<< ((nI t) &&& 31)))), (4, .int (nI (t + 1)))]) X [2, 3, 4, 1, 0] rfl ?_
              exact ih_L29 (t + 1) (u ||| ((nI 1) <<< ((nI t) &&& 31))) (by omega) (by omega) (by simp [F_owb, c_1, qaN, c_2, qbN, ht5, hu, c_3, c_4])
      refine x_lv (lv' := [(0, .ref o), (1, .int (nI aN)), (2, .int (nI bN)), (3, .int (nI 0)), (4, .int (nI 0))]) X [2, 3, 4, 1, 0] rfl ?_
      exact L29 _ 0 (nI 0) (Nat.lt_succ_self _) (by omega) (rfl)
    · -- 19 f
      refine x_iconst (v := (-1)) X dX4_own_22 (by decide) ?_
      exact x_ret X dX4_own_23 ⟨ret_i (by simp [F_own, tn, c_1, qaN, c_2]), rfl, by decide, by decide⟩
set_option maxRecDepth 100000 in
set_option maxHeartbeats 4000000 in
/-- X4_tears -/
theorem c_X4_tears (l : Launch) (G : xG) (o : Nat) (x : Nat → Nat) (w : Nat → Nat) (d : Nat → Nat) (h : Nat → Nat) (g : Nat → Nat) (q : Nat → Nat) (e : Nat) (s : xS) (a : Int32) (b : Int32) (c : Int32) (hs6 : s.1 ≤ 6) (hs1 : 0 < s.1) (hq5 : s.2.1 ≤ 5) (hmi : ∀ j, j < 6 → inR (s.2.2.2.1 j) 6 = true) : xM l G xE0 yX4_tears cX4_tears 5 (some .int) 4 92 0 0 [.ref o, .int a, .int b, .int c] (xJ [wInk G o x w d h g q e, wCq G w s]) (some (.int (F_tears s a b c))) (fun w2 => w2 = xJ [wInk G o x w d h g q e, wCq G w s]) := by
  refine x_entry (by decide +kernel) (Nat.le_of_ble_eq_true rfl) rfl ⟨_, rfl, rfl⟩ (fun K X => ?_)
  refine x_aloadn X dX4_tears_0 0 rfl ?_
  refine x_get X wu_X4 0 rfl rfl 1 (by decide) wf_X4_19 rfl rfl dX4_tears_1 ?_
  refine x_iloadn X dX4_tears_4 1 rfl ?_
  refine x_callVrv (As := [.int a]) (rest := []) X (c_X0_hasPerson l G w s.1 s.2.1 s.2.2.1 s.2.2.2.1 s.2.2.2.2.1 s.2.2.2.2.2 a (by omega)) xE0_ok (fun _ _ _ => trivial) [1, 2, 3, 4, 5] rfl 0 rfl rfl rfl rfl wco_X0_hasPerson wi_X0 xd_X0_hasPerson wl_X4_87 win_X0_hasPerson wse_X0_hasPerson (by decide) (Nat.le_of_ble_eq_true rfl) dX4_tears_5 ?_
  refine x_ifeq_b 27 X dX4_tears_8 (by decide) (fun c_1 => ?_) (fun c_1 => ?_)
  · -- 8 t
    refine x_iconst (v := (-1)) X dX4_tears_27 (by decide) ?_
    exact x_ret X dX4_tears_28 ⟨ret_i (by simp [F_tears, tn, c_1]), rfl, by decide, by decide⟩
  · -- 8 f
    obtain ⟨aN, haN, rfl⟩ := inR_nat c_1 (by omega)
    have qaN : (nI aN).toNatClampNeg = aN := nI_clamp (by omega)
    refine x_iloadn X dX4_tears_11 2 rfl ?_
    refine x_callSrv (As := [.int b]) (rest := []) X (c_X4_isTheme l G b) xE0_ok (fun _ _ _ => trivial) [] rfl rfl rfl wco_X4_isTheme wi_X4 xd_X4_isTheme wl_X4_102 wst_X4_isTheme (by decide) (Nat.le_of_ble_eq_true rfl) dX4_tears_12 ?_
    refine x_ifeq_b 27 X dX4_tears_15 (by decide) (fun c_2 => ?_) (fun c_2 => ?_)
    · -- 15 t
      refine x_iconst (v := (-1)) X dX4_tears_27 (by decide) ?_
      exact x_ret X dX4_tears_28 ⟨ret_i (by simp [F_tears, tn, c_1, qaN, c_2]), rfl, by decide, by decide⟩
    · -- 15 f
      obtain ⟨bN, hbN, rfl⟩ := inR_nat c_2 (by omega)
      have qbN : (nI bN).toNatClampNeg = bN := nI_clamp (by omega)
      refine x_iloadn X dX4_tears_18 3 rfl ?_
      refine x_bipush (v := nI 18) X dX4_tears_19 (by decide) ?_
      refine x_callSrv (As := [.int c, .int (nI 18)]) (rest := []) X (c_X4_isUpTo l G c 18 (by omega)) xE0_ok (fun _ _ _ => trivial) [] rfl rfl rfl wco_X4_isUpTo wi_X4 xd_X4_isUpTo wl_X4_91 wst_X4_isUpTo (by decide) (Nat.le_of_ble_eq_true rfl) dX4_tears_21 ?_
      refine x_ifne_b 29 X dX4_tears_24 (by decide) (fun c_3 => ?_) (fun c_3 => ?_)
      · -- 24 t
        obtain ⟨cN, hcN, rfl⟩ := inR_nat c_3 (by omega)
        have qcN : (nI cN).toNatClampNeg = cN := nI_clamp (by omega)
        refine x_iconst (v := nI 0) X dX4_tears_29 (by decide) ?_
        refine x_istore (lv' := [(4, .int (nI 0)), (0, .ref o), (1, .int (nI aN)), (2, .int (nI bN)), (3, .int (nI cN))]) X dX4_tears_30 (by decide) rfl ?_
        have L32 : ∀ (fu : Nat) (i : Nat), 11 - i < fu → (i ≤ 11) → (F_fnd (P_tears s aN bN (nI cN)) (11 - i) i = F_fnd (P_tears s aN bN (nI cN)) 11 0) → K (xJ [wInk G o x w d h g q e, wCq G w s]) 0 0 32 [(0, .ref o), (1, .int (nI aN)), (2, .int (nI bN)), (3, .int (nI cN)), (4, .int (nI i))] [] := by
          intro fu
          induction fu with
          | zero => intro i hfu; exact absurd hfu (Nat.not_lt_zero _)
          | succ fu ih_L32 =>
            intro i hfu_L32 hi hF
            refine x_iload X dX4_tears_32 4 rfl ?_
            refine x_bipush (v := nI 10) X dX4_tears_34 (by decide) ?_
            refine x_icmp_gt_n 66 X dX4_tears_36 (by decide) (by omega) (by omega) (fun c_4 => ?_) (fun c_4 => ?_)
            · -- 36 t
              refine x_bipush (v := (-4)) X dX4_tears_66 (by decide) ?_
              exact x_ret X dX4_tears_68 ⟨ret_i (by rw [show F_tears s (nI aN) (nI bN) (nI cN) = F_fnd (P_tears s aN bN (nI cN)) 11 0 from by simp [F_tears, tn, c_1, qaN, c_2, qbN, c_3, qcN, hi, hF, c_4], ← hF, F_fnd_e (by omega)]), rfl, by decide, by decide⟩
            · -- 36 f
              have n_4 := Nat.not_lt.mpr c_4
              refine x_aloadn X dX4_tears_39 0 rfl ?_
              refine x_get X wu_X4 0 rfl rfl 1 (by decide) wf_X4_19 rfl rfl dX4_tears_40 ?_
              refine x_iloadn X dX4_tears_43 1 rfl ?_
              refine x_iloadn X dX4_tears_44 2 rfl ?_
              refine x_iload X dX4_tears_45 4 rfl ?_
              refine x_callVrv (As := [.int (nI aN), .int (nI bN), .int (nI i)]) (rest := []) X (c_X0_written l G w s.1 s.2.1 s.2.2.1 s.2.2.2.1 s.2.2.2.2.1 s.2.2.2.2.2 aN bN (nI i) (by omega) (by omega) (by assumption)) xE0_ok (fun _ _ _ => trivial) [1, 2, 3, 4, 5] rfl 0 rfl rfl rfl rfl wco_X0_written wi_X0 xd_X0_written wl_X4_118 win_X0_written wse_X0_written (by decide) (Nat.le_of_ble_eq_true rfl) dX4_tears_47 ?_
              refine x_iloadn X dX4_tears_50 3 rfl ?_
              refine x_bipush (v := nI 9) X dX4_tears_51 (by decide) ?_
              refine x_isub (v := (nI cN) - (nI 9)) X dX4_tears_53 rfl ?_
              refine x_icmp_ne 60 X dX4_tears_54 (by decide) (fun c_5 => ?_) (fun c_5 => ?_)
              · -- 54 t
                refine x_iinc (v := nI (i + 1)) (lv' := [(4, .int (nI (i + 1))), (0, .ref o), (1, .int (nI aN)), (2, .int (nI bN)), (3, .int (nI cN))]) X dX4_tears_60 4 rfl (nI_1 _) (by decide) rfl ?_
                refine x_goto 32 X dX4_tears_63 (by decide) ?_
                refine x_lv (lv' := [(0, .ref o), (1, .int (nI aN)), (2, .int (nI bN)), (3, .int (nI cN)), (4, .int (nI (i + 1)))]) X [1, 2, 3, 4, 0] rfl ?_
                exact ih_L32 (i + 1) (by omega) (by omega) (by rw [F_fnd_n (by omega) (by simp [P_tears, F_wr, c_1, qaN, c_2, qbN, c_3, qcN, hi, hF, c_4, n_4, c_5]), hF])
              · -- 54 f
                refine x_iload X dX4_tears_57 4 rfl ?_
                exact x_ret X dX4_tears_59 ⟨ret_i (by rw [show F_tears s (nI aN) (nI bN) (nI cN) = F_fnd (P_tears s aN bN (nI cN)) 11 0 from by simp [F_tears, tn, c_1, qaN, c_2, qbN, c_3, qcN, hi, hF, c_4, n_4, c_5], ← hF, F_fnd_y (by omega) (by simp [P_tears, F_wr, c_1, qaN, c_2, qbN, c_3, qcN, hi, hF, c_4, n_4, c_5])]), rfl, by decide, by decide⟩
        refine x_lv (lv' := [(0, .ref o), (1, .int (nI aN)), (2, .int (nI bN)), (3, .int (nI cN)), (4, .int (nI 0))]) X [1, 2, 3, 4, 0] rfl ?_
        exact L32 _ 0 (Nat.lt_succ_self _) (by omega) (rfl)
      · -- 24 f
        refine x_iconst (v := (-1)) X dX4_tears_27 (by decide) ?_
        exact x_ret X dX4_tears_28 ⟨ret_i (by simp [F_tears, tn, c_1, qaN, c_2, qbN, c_3]), rfl, by decide, by decide⟩
set_option maxRecDepth 100000 in
set_option maxHeartbeats 4000000 in
/-- X4_whom -/
theorem c_X4_whom (l : Launch) (G : xG) (o : Nat) (x : Nat → Nat) (w : Nat → Nat) (d : Nat → Nat) (h : Nat → Nat) (g : Nat → Nat) (q : Nat → Nat) (e : Nat) (s : xS) (a : Int32) (b : Int32) (c : Int32) (hs6 : s.1 ≤ 6) (hs1 : 0 < s.1) (hq5 : s.2.1 ≤ 5) (hmi : ∀ j, j < 6 → inR (s.2.2.2.1 j) 6 = true) : xM l G xE0 yX4_whom cX4_whom 5 (some .int) 3 69 0 0 [.ref o, .int a, .int b, .int c] (xJ [wInk G o x w d h g q e, wCq G w s]) (some (.int (F_whom s a b c))) (fun w2 => w2 = xJ [wInk G o x w d h g q e, wCq G w s]) := by
  refine x_entry (by decide +kernel) (Nat.le_of_ble_eq_true rfl) rfl ⟨_, rfl, rfl⟩ (fun K X => ?_)
  refine x_aloadn X dX4_whom_0 0 rfl ?_
  refine x_get X wu_X4 0 rfl rfl 1 (by decide) wf_X4_19 rfl rfl dX4_whom_1 ?_
  refine x_iloadn X dX4_whom_4 1 rfl ?_
  refine x_callVrv (As := [.int a]) (rest := []) X (c_X0_hasPerson l G w s.1 s.2.1 s.2.2.1 s.2.2.2.1 s.2.2.2.2.1 s.2.2.2.2.2 a (by omega)) xE0_ok (fun _ _ _ => trivial) [1, 2, 3, 4, 5] rfl 0 rfl rfl rfl rfl wco_X0_hasPerson wi_X0 xd_X0_hasPerson wl_X4_87 win_X0_hasPerson wse_X0_hasPerson (by decide) (Nat.le_of_ble_eq_true rfl) dX4_whom_5 ?_
  refine x_ifeq_b 27 X dX4_whom_8 (by decide) (fun c_1 => ?_) (fun c_1 => ?_)
  · -- 8 t
    refine x_iconst (v := (-1)) X dX4_whom_27 (by decide) ?_
    exact x_ret X dX4_whom_28 ⟨ret_i (by simp [F_whom, tn, c_1]), rfl, by decide, by decide⟩
  · -- 8 f
    obtain ⟨aN, haN, rfl⟩ := inR_nat c_1 (by omega)
    have qaN : (nI aN).toNatClampNeg = aN := nI_clamp (by omega)
    refine x_iloadn X dX4_whom_11 2 rfl ?_
    refine x_callSrv (As := [.int b]) (rest := []) X (c_X4_isTheme l G b) xE0_ok (fun _ _ _ => trivial) [] rfl rfl rfl wco_X4_isTheme wi_X4 xd_X4_isTheme wl_X4_102 wst_X4_isTheme (by decide) (Nat.le_of_ble_eq_true rfl) dX4_whom_12 ?_
    refine x_ifeq_b 27 X dX4_whom_15 (by decide) (fun c_2 => ?_) (fun c_2 => ?_)
    · -- 15 t
      refine x_iconst (v := (-1)) X dX4_whom_27 (by decide) ?_
      exact x_ret X dX4_whom_28 ⟨ret_i (by simp [F_whom, tn, c_1, qaN, c_2]), rfl, by decide, by decide⟩
    · -- 15 f
      obtain ⟨bN, hbN, rfl⟩ := inR_nat c_2 (by omega)
      have qbN : (nI bN).toNatClampNeg = bN := nI_clamp (by omega)
      refine x_iloadn X dX4_whom_18 3 rfl ?_
      refine x_bipush (v := nI 18) X dX4_whom_19 (by decide) ?_
      refine x_callSrv (As := [.int c, .int (nI 18)]) (rest := []) X (c_X4_isUpTo l G c 18 (by omega)) xE0_ok (fun _ _ _ => trivial) [] rfl rfl rfl wco_X4_isUpTo wi_X4 xd_X4_isUpTo wl_X4_91 wst_X4_isUpTo (by decide) (Nat.le_of_ble_eq_true rfl) dX4_whom_21 ?_
      refine x_ifne_b 29 X dX4_whom_24 (by decide) (fun c_3 => ?_) (fun c_3 => ?_)
      · -- 24 t
        obtain ⟨cN, hcN, rfl⟩ := inR_nat c_3 (by omega)
        have qcN : (nI cN).toNatClampNeg = cN := nI_clamp (by omega)
        refine x_iconst (v := nI 0) X dX4_whom_29 (by decide) ?_
        refine x_istore (lv' := [(4, .int (nI 0)), (0, .ref o), (1, .int (nI aN)), (2, .int (nI bN)), (3, .int (nI cN))]) X dX4_whom_30 (by decide) rfl ?_
        have L32 : ∀ (fu : Nat) (i : Nat), s.1 - i < fu → (i ≤ s.1) → (F_fnd (P_whom s aN bN (nI cN)) (s.1 - i) i = F_fnd (P_whom s aN bN (nI cN)) s.1 0) → K (xJ [wInk G o x w d h g q e, wCq G w s]) 0 0 32 [(0, .ref o), (1, .int (nI aN)), (2, .int (nI bN)), (3, .int (nI cN)), (4, .int (nI i))] [] := by
          intro fu
          induction fu with
          | zero => intro i hfu; exact absurd hfu (Nat.not_lt_zero _)
          | succ fu ih_L32 =>
            intro i hfu_L32 hi hF
            refine x_iload X dX4_whom_32 4 rfl ?_
            refine x_aloadn X dX4_whom_34 0 rfl ?_
            refine x_get X wu_X4 0 rfl rfl 1 (by decide) wf_X4_19 rfl rfl dX4_whom_35 ?_
            refine x_callVrv (As := []) (rest := [.int (nI i)]) X (c_X0_persons l G w s.1 s.2.1 s.2.2.1 s.2.2.2.1 s.2.2.2.2.1 s.2.2.2.2.2) xE0_ok (fun _ _ _ => trivial) [1, 2, 3, 4, 5] rfl 0 rfl rfl rfl rfl wco_X0_persons wi_X0 xd_X0_persons wl_X4_84 win_X0_persons wse_X0_persons (by decide) (Nat.le_of_ble_eq_true rfl) dX4_whom_38 ?_
            refine x_icmp_ge_n 78 X dX4_whom_41 (by decide) (by omega) (by omega) (fun c_4 => ?_) (fun c_4 => ?_)
            · -- 41 t
              have n_4 := Nat.not_lt.mpr c_4
              refine x_bipush (v := (-4)) X dX4_whom_78 (by decide) ?_
              exact x_ret X dX4_whom_80 ⟨ret_i (by rw [show F_whom s (nI aN) (nI bN) (nI cN) = F_fnd (P_whom s aN bN (nI cN)) s.1 0 from by simp [F_whom, tn, c_1, qaN, c_2, qbN, c_3, qcN, hi, hF, c_4, n_4], ← hF, F_fnd_e (by omega)]), rfl, by decide, by decide⟩
            · -- 41 f
              refine x_iload X dX4_whom_44 4 rfl ?_
              refine x_iloadn X dX4_whom_46 1 rfl ?_
              refine x_icmp_eq_n 72 X dX4_whom_47 (by decide) (by omega) (by omega) (fun c_5 => ?_) (fun c_5 => ?_)
              · -- 47 t
                refine x_iinc (v := nI (i + 1)) (lv' := [(4, .int (nI (i + 1))), (0, .ref o), (1, .int (nI aN)), (2, .int (nI bN)), (3, .int (nI cN))]) X dX4_whom_72 4 rfl (nI_1 _) (by decide) rfl ?_
                refine x_goto 32 X dX4_whom_75 (by decide) ?_
                refine x_lv (lv' := [(0, .ref o), (1, .int (nI aN)), (2, .int (nI bN)), (3, .int (nI cN)), (4, .int (nI (i + 1)))]) X [1, 2, 3, 4, 0] rfl ?_
                exact ih_L32 (i + 1) (by omega) (by omega) (by rw [F_fnd_n (by omega) (by simp [P_whom, F_wf, c_1, qaN, c_2, qbN, c_3, qcN, hi, hF, c_4, (eq_true c_5)]), hF])
              · -- 47 f
                refine x_aloadn X dX4_whom_50 0 rfl ?_
                refine x_get X wu_X4 0 rfl rfl 1 (by decide) wf_X4_19 rfl rfl dX4_whom_51 ?_
                refine x_iloadn X dX4_whom_54 1 rfl ?_
                refine x_iload X dX4_whom_55 4 rfl ?_
                refine x_iloadn X dX4_whom_57 2 rfl ?_
                refine x_iconst (v := nI 0) X dX4_whom_58 (by decide) ?_
                refine x_callVrv (As := [.int (nI aN), .int (nI i), .int (nI bN), .int (nI 0)]) (rest := []) X (c_X0_writtenFor l G w s.1 s.2.1 s.2.2.1 s.2.2.2.1 s.2.2.2.2.1 s.2.2.2.2.2 aN i bN (nI 0) (by omega) (by omega) (by omega)) xE0_ok (fun _ _ _ => trivial) [1, 2, 3, 4, 5] rfl 0 rfl rfl rfl rfl wco_X0_writtenFor wi_X0 xd_X0_writtenFor wl_X4_147 win_X0_writtenFor wse_X0_writtenFor (by decide) (Nat.le_of_ble_eq_true rfl) dX4_whom_59 ?_
                refine x_iloadn X dX4_whom_62 3 rfl ?_
                refine x_bipush (v := nI 9) X dX4_whom_63 (by decide) ?_
                refine x_isub (v := (nI cN) - (nI 9)) X dX4_whom_65 rfl ?_
                refine x_icmp_ne 72 X dX4_whom_66 (by decide) (fun c_6 => ?_) (fun c_6 => ?_)
                · -- 66 t
                  refine x_iinc (v := nI (i + 1)) (lv' := [(4, .int (nI (i + 1))), (0, .ref o), (1, .int (nI aN)), (2, .int (nI bN)), (3, .int (nI cN))]) X dX4_whom_72 4 rfl (nI_1 _) (by decide) rfl ?_
                  refine x_goto 32 X dX4_whom_75 (by decide) ?_
                  refine x_lv (lv' := [(0, .ref o), (1, .int (nI aN)), (2, .int (nI bN)), (3, .int (nI cN)), (4, .int (nI (i + 1)))]) X [1, 2, 3, 4, 0] rfl ?_
                  exact ih_L32 (i + 1) (by omega) (by omega) (by rw [F_fnd_n (by omega) (by simp [P_whom, F_wf, c_1, qaN, c_2, qbN, c_3, qcN, hi, hF, c_4, c_5, c_6]), hF])
                · -- 66 f
                  refine x_iload X dX4_whom_69 4 rfl ?_
                  exact x_ret X dX4_whom_71 ⟨ret_i (by rw [show F_whom s (nI aN) (nI bN) (nI cN) = F_fnd (P_whom s aN bN (nI cN)) s.1 0 from by simp [F_whom, tn, c_1, qaN, c_2, qbN, c_3, qcN, hi, hF, c_4, c_5, c_6], ← hF, F_fnd_y (by omega) (by simp [P_whom, F_wf, c_1, qaN, c_2, qbN, c_3, qcN, hi, hF, c_4, c_5, c_6])]), rfl, by decide, by decide⟩
        refine x_lv (lv' := [(0, .ref o), (1, .int (nI aN)), (2, .int (nI bN)), (3, .int (nI cN)), (4, .int (nI 0))]) X [1, 2, 3, 4, 0] rfl ?_
        exact L32 _ 0 (Nat.lt_succ_self _) (by omega) (rfl)
      · -- 24 f
        refine x_iconst (v := (-1)) X dX4_whom_27 (by decide) ?_
        exact x_ret X dX4_whom_28 ⟨ret_i (by simp [F_whom, tn, c_1, qaN, c_2, qbN, c_3]), rfl, by decide, by decide⟩
set_option maxRecDepth 100000 in
set_option maxHeartbeats 4000000 in
/-- X4_treaty -/
theorem c_X4_treaty (l : Launch) (G : xG) (o : Nat) (x : Nat → Nat) (w : Nat → Nat) (d : Nat → Nat) (h : Nat → Nat) (g : Nat → Nat) (q : Nat → Nat) (e : Nat) (s : xS) (a : Int32) (b : Int32) (c : Int32) (hs6 : s.1 ≤ 6) (hs1 : 0 < s.1) (hq5 : s.2.1 ≤ 5) (hmi : ∀ j, j < 6 → inR (s.2.2.2.1 j) 6 = true) : xM l G xE0 yX4_treaty cX4_treaty 6 (some .int) 3 69 0 0 [.ref o, .int a, .int b, .int c] (xJ [wInk G o x w d h g q e, wCq G w s]) (some (.int (F_treaty s a b c))) (fun w2 => w2 = xJ [wInk G o x w d h g q e, wCq G w s]) := by
  refine x_entry (by decide +kernel) (Nat.le_of_ble_eq_true rfl) rfl ⟨_, rfl, rfl⟩ (fun K X => ?_)
  refine x_aloadn X dX4_treaty_0 0 rfl ?_
  refine x_get X wu_X4 0 rfl rfl 1 (by decide) wf_X4_19 rfl rfl dX4_treaty_1 ?_
  refine x_iloadn X dX4_treaty_4 1 rfl ?_
  refine x_callVrv (As := [.int a]) (rest := []) X (c_X0_hasPerson l G w s.1 s.2.1 s.2.2.1 s.2.2.2.1 s.2.2.2.2.1 s.2.2.2.2.2 a (by omega)) xE0_ok (fun _ _ _ => trivial) [1, 2, 3, 4, 5] rfl 0 rfl rfl rfl rfl wco_X0_hasPerson wi_X0 xd_X0_hasPerson wl_X4_87 win_X0_hasPerson wse_X0_hasPerson (by decide) (Nat.le_of_ble_eq_true rfl) dX4_treaty_5 ?_
  refine x_ifeq_b 36 X dX4_treaty_8 (by decide) (fun c_1 => ?_) (fun c_1 => ?_)
  · -- 8 t
    refine x_iconst (v := (-1)) X dX4_treaty_36 (by decide) ?_
    exact x_ret X dX4_treaty_37 ⟨ret_i (by simp [F_treaty, tn, c_1]), rfl, by decide, by decide⟩
  · -- 8 f
    obtain ⟨aN, haN, rfl⟩ := inR_nat c_1 (by omega)
    have qaN : (nI aN).toNatClampNeg = aN := nI_clamp (by omega)
    refine x_aloadn X dX4_treaty_11 0 rfl ?_
    refine x_get X wu_X4 0 rfl rfl 1 (by decide) wf_X4_19 rfl rfl dX4_treaty_12 ?_
    refine x_iloadn X dX4_treaty_15 2 rfl ?_
    refine x_callVrv (As := [.int b]) (rest := []) X (c_X0_hasPerson l G w s.1 s.2.1 s.2.2.1 s.2.2.2.1 s.2.2.2.2.1 s.2.2.2.2.2 b (by omega)) xE0_ok (fun _ _ _ => trivial) [1, 2, 3, 4, 5] rfl 0 rfl rfl rfl rfl wco_X0_hasPerson wi_X0 xd_X0_hasPerson wl_X4_87 win_X0_hasPerson wse_X0_hasPerson (by decide) (Nat.le_of_ble_eq_true rfl) dX4_treaty_16 ?_
    refine x_ifeq_b 36 X dX4_treaty_19 (by decide) (fun c_2 => ?_) (fun c_2 => ?_)
    · -- 19 t
      refine x_iconst (v := (-1)) X dX4_treaty_36 (by decide) ?_
      exact x_ret X dX4_treaty_37 ⟨ret_i (by simp [F_treaty, tn, c_1, qaN, c_2]), rfl, by decide, by decide⟩
    · -- 19 f
      obtain ⟨bN, hbN, rfl⟩ := inR_nat c_2 (by omega)
      have qbN : (nI bN).toNatClampNeg = bN := nI_clamp (by omega)
      refine x_iloadn X dX4_treaty_22 1 rfl ?_
      refine x_iloadn X dX4_treaty_23 2 rfl ?_
      refine x_icmp_eq_n 36 X dX4_treaty_24 (by decide) (by omega) (by omega) (fun c_3 => ?_) (fun c_3 => ?_)
      · -- 24 t
        have heq : nI aN = nI bN := congrArg nI c_3
        refine x_iconst (v := (-1)) X dX4_treaty_36 (by decide) ?_
        exact x_ret X dX4_treaty_37 ⟨ret_i (by simp [F_treaty, tn, c_1, qaN, c_2, qbN, heq]), rfl, by decide, by decide⟩
      · -- 24 f
        have hne : ¬ nI aN = nI bN := fun q => c_3 ((nI_eq (by omega) (by omega)).mp q)
        refine x_iloadn X dX4_treaty_27 3 rfl ?_
        refine x_bipush (v := nI 10) X dX4_treaty_28 (by decide) ?_
        refine x_callSrv (As := [.int c, .int (nI 10)]) (rest := []) X (c_X4_isUpTo l G c 10 (by omega)) xE0_ok (fun _ _ _ => trivial) [] rfl rfl rfl wco_X4_isUpTo wi_X4 xd_X4_isUpTo wl_X4_91 wst_X4_isUpTo (by decide) (Nat.le_of_ble_eq_true rfl) dX4_treaty_30 ?_
        refine x_ifne_b 38 X dX4_treaty_33 (by decide) (fun c_4 => ?_) (fun c_4 => ?_)
        · -- 33 t
          obtain ⟨cN, hcN, rfl⟩ := inR_nat c_4 (by omega)
          have qcN : (nI cN).toNatClampNeg = cN := nI_clamp (by omega)
          refine x_iconst (v := nI 0) X dX4_treaty_38 (by decide) ?_
          refine x_istore (lv' := [(4, .int (nI 0)), (0, .ref o), (1, .int (nI aN)), (2, .int (nI bN)), (3, .int (nI cN))]) X dX4_treaty_39 (by decide) rfl ?_
          refine x_iconst (v := nI 0) X dX4_treaty_41 (by decide) ?_
          refine x_istore (lv' := [(5, .int (nI 0)), (4, .int (nI 0)), (0, .ref o), (1, .int (nI aN)), (2, .int (nI bN)), (3, .int (nI cN))]) X dX4_treaty_42 (by decide) rfl ?_
          have L44 : ∀ (fu : Nat) (t : Nat) (u : Int32), 5 - t < fu → (t ≤ 5) → (u = F_trb s aN bN (nI cN) t) → K (xJ [wInk G o x w d h g q e, wCq G w s]) 0 0 44 [(0, .ref o), (1, .int (nI aN)), (2, .int (nI bN)), (3, .int (nI cN)), (4, .int u), (5, .int (nI t))] [] := by
            intro fu
            induction fu with
            | zero => intro t u hfu; exact absurd hfu (Nat.not_lt_zero _)
            | succ fu ih_L44 =>
              intro t u hfu_L44 ht5 hu
              refine x_iload X dX4_treaty_44 5 rfl ?_
              refine x_iconst (v := nI 5) X dX4_treaty_46 (by decide) ?_
              refine x_icmp_ge_n 92 X dX4_treaty_47 (by decide) (by omega) (by omega) (fun c_5 => ?_) (fun c_5 => ?_)
              · -- 47 t
                have n_5 := Nat.not_lt.mpr c_5
                obtain rfl : t = 5 := by omega
                refine x_iload X dX4_treaty_92 4 rfl ?_
                exact x_ret X dX4_treaty_94 ⟨ret_i (by simp [F_treaty, tn, c_1, qaN, c_2, qbN, c_3, hne, c_4, qcN, ht5, hu, c_5, n_5]), rfl, by decide, by decide⟩
              · -- 47 f
                refine x_aloadn X dX4_treaty_50 0 rfl ?_
                refine x_get X wu_X4 0 rfl rfl 1 (by decide) wf_X4_19 rfl rfl dX4_treaty_51 ?_
                refine x_iloadn X dX4_treaty_54 1 rfl ?_
                refine x_iloadn X dX4_treaty_55 2 rfl ?_
                refine x_iload X dX4_treaty_56 5 rfl ?_
                refine x_iloadn X dX4_treaty_58 3 rfl ?_
                refine x_callVrv (As := [.int (nI aN), .int (nI bN), .int (nI t), .int (nI cN)]) (rest := []) X (c_X0_writtenFor l G w s.1 s.2.1 s.2.2.1 s.2.2.2.1 s.2.2.2.2.1 s.2.2.2.2.2 aN bN t (nI cN) (by omega) (by omega) (by omega)) xE0_ok (fun _ _ _ => trivial) [1, 2, 3, 4, 5] rfl 0 rfl rfl rfl rfl wco_X0_writtenFor wi_X0 xd_X0_writtenFor wl_X4_147 win_X0_writtenFor wse_X0_writtenFor (by decide) (Nat.le_of_ble_eq_true rfl) dX4_treaty_59 ?_
                refine x_aloadn X dX4_treaty_62 0 rfl ?_
                refine x_get X wu_X4 0 rfl rfl 1 (by decide) wf_X4_19 rfl rfl dX4_treaty_63 ?_
                refine x_iloadn X dX4_treaty_66 2 rfl ?_
                refine x_iloadn X dX4_treaty_67 1 rfl ?_
                refine x_iload X dX4_treaty_68 5 rfl ?_
                refine x_iloadn X dX4_treaty_70 3 rfl ?_
                refine x_callVrv (As := [.int (nI bN), .int (nI aN), .int (nI t), .int (nI cN)]) (rest := [.int (F_ink (s.2.2.1 aN) (s.2.2.2.2.1 (bN * 5 + t)) (s.2.2.2.2.1 (aN * 5 + t)) (nI cN))]) X (c_X0_writtenFor l G w s.1 s.2.1 s.2.2.1 s.2.2.2.1 s.2.2.2.2.1 s.2.2.2.2.2 bN aN t (nI cN) (by omega) (by omega) (by omega)) xE0_ok (fun _ _ _ => trivial) [1, 2, 3, 4, 5] rfl 0 rfl rfl rfl rfl wco_X0_writtenFor wi_X0 xd_X0_writtenFor wl_X4_147 win_X0_writtenFor wse_X0_writtenFor (by decide) (Nat.le_of_ble_eq_true rfl) dX4_treaty_71 ?_
                refine x_icmp_ne 86 X dX4_treaty_74 (by decide) (fun c_6 => ?_) (fun c_6 => ?_)
                · -- 74 t
                  refine x_iinc (v := nI (t + 1)) (lv' := [(5, .int (nI (t + 1))), (0, .ref o), (1, .int (nI aN)), (2, .int (nI bN)), (3, .int (nI cN)), (4, .int u)]) X dX4_treaty_86 5 rfl (nI_1 _) (by decide) rfl ?_
                  refine x_goto 44 X dX4_treaty_89 (by decide) ?_
                  refine x_lv (lv' := [(0, .ref o), (1, .int (nI aN)), (2, .int (nI bN)), (3, .int (nI cN)), (4, .int u), (5, .int (nI (t + 1)))]) X [1, 2, 3, 4, 5, 0] rfl ?_
                  exact ih_L44 (t + 1) u (by omega) (by omega) (by simp [F_trb, F_wf, c_1, qaN, c_2, qbN, c_3, hne, c_4, qcN, ht5, hu, c_5, c_6])
                · -- 74 f
                  refine x_iload X dX4_treaty_77 4 rfl ?_
                  refine x_iconst (v := nI 1) X dX4_treaty_79 (by decide) ?_
                  refine x_iload X dX4_treaty_80 5 rfl ?_
                  refine x_ishl (v := (nI 1) <<< ((nI t) &&& 31)) X dX4_treaty_82 rfl ?_
                  refine x_ior (v := u ||| ((nI 1) <<< ((nI t) &&& 31))) X dX4_treaty_83 rfl ?_
                  refine x_istore (lv' := [(4, .int (u ||| ((nI 1) <<< ((nI t) &&& 31)))), (0, .ref o), (1, .int (nI aN)), (2, .int (nI bN)), (3, .int (nI cN)), (5, .int (nI t))]) X dX4_treaty_84 (by decide) rfl ?_
                  refine x_iinc (v := nI (t + 1)) (lv' := [(5, .int (nI (t + 1))), (4, .int (u ||| ((nI 1) <<< ((nI t) &&& 31)))), (0, .ref o), (1, .int (nI aN)), (2, .int (nI bN)), (3, .int (nI cN))]) X dX4_treaty_86 5 rfl (nI_1 _) (by decide) rfl ?_
                  refine x_goto 44 X dX4_treaty_89 (by decide) ?_
                  refine x_lv (lv' := [(0, .ref o), (1, .int (nI aN)), (2, .int (nI bN)), (3, .int (nI cN)), (4, .int (u ||| ((nI 1) <<< ((nI t) &&& 31)))), (5, .int (nI (t + 1)))]) X [2, 3, 4, 5, 1, 0] rfl ?_
                  exact ih_L44 (t + 1) (u ||| ((nI 1) <<< ((nI t) &&& 31))) (by omega) (by omega) (by simp [F_trb, F_wf, c_1, qaN, c_2, qbN, c_3, hne, c_4, qcN, ht5, hu, c_5, c_6])
          refine x_lv (lv' := [(0, .ref o), (1, .int (nI aN)), (2, .int (nI bN)), (3, .int (nI cN)), (4, .int (nI 0)), (5, .int (nI 0))]) X [2, 3, 4, 5, 1, 0] rfl ?_
          exact L44 _ 0 (nI 0) (Nat.lt_succ_self _) (by omega) (rfl)
        · -- 33 f
          refine x_iconst (v := (-1)) X dX4_treaty_36 (by decide) ?_
          exact x_ret X dX4_treaty_37 ⟨ret_i (by simp [F_treaty, tn, c_1, qaN, c_2, qbN, c_3, hne, c_4]), rfl, by decide, by decide⟩
set_option maxRecDepth 100000 in
set_option maxHeartbeats 4000000 in
/-- X4_round -/
theorem c_X4_round (l : Launch) (G : xG) (o : Nat) (x : Nat → Nat) (w : Nat → Nat) (d : Nat → Nat) (h : Nat → Nat) (g : Nat → Nat) (q : Nat → Nat) (e : Nat) (s : xS) (a : Int32) (b : Int32) (c : Int32) (hs6 : s.1 ≤ 6) (hs1 : 0 < s.1) (hq5 : s.2.1 ≤ 5) (hmi : ∀ j, j < 6 → inR (s.2.2.2.1 j) 6 = true) : xM l G xE0 yX4_round cX4_round 6 (some .int) 4 80 0 0 [.ref o, .int a, .int b, .int c] (xJ [wInk G o x w d h g q e, wCq G w s]) (some (.int (F_round s a b c))) (fun w2 => w2 = xJ [wInk G o x w d h g q e, wCq G w s]) := by
  refine x_entry (by decide +kernel) (Nat.le_of_ble_eq_true rfl) rfl ⟨_, rfl, rfl⟩ (fun K X => ?_)
  refine x_aloadn X dX4_round_0 0 rfl ?_
  refine x_get X wu_X4 0 rfl rfl 1 (by decide) wf_X4_19 rfl rfl dX4_round_1 ?_
  refine x_iloadn X dX4_round_4 1 rfl ?_
  refine x_callVrv (As := [.int a]) (rest := []) X (c_X0_hasPaper l G w s.1 s.2.1 s.2.2.1 s.2.2.2.1 s.2.2.2.2.1 s.2.2.2.2.2 a (by omega)) xE0_ok (fun _ _ _ => trivial) [1, 2, 3, 4, 5] rfl 0 rfl rfl rfl rfl wco_X0_hasPaper wi_X0 xd_X0_hasPaper wl_X4_109 win_X0_hasPaper wse_X0_hasPaper (by decide) (Nat.le_of_ble_eq_true rfl) dX4_round_5 ?_
  refine x_ifeq_b 27 X dX4_round_8 (by decide) (fun c_1 => ?_) (fun c_1 => ?_)
  · -- 8 t
    refine x_iconst (v := (-1)) X dX4_round_27 (by decide) ?_
    exact x_ret X dX4_round_28 ⟨ret_i (by simp [F_round, tn, c_1]), rfl, by decide, by decide⟩
  · -- 8 f
    obtain ⟨aN, haN, rfl⟩ := inR_nat c_1 (by omega)
    have qaN : (nI aN).toNatClampNeg = aN := nI_clamp (by omega)
    refine x_iloadn X dX4_round_11 2 rfl ?_
    refine x_callSrv (As := [.int b]) (rest := []) X (c_X4_isTheme l G b) xE0_ok (fun _ _ _ => trivial) [] rfl rfl rfl wco_X4_isTheme wi_X4 xd_X4_isTheme wl_X4_102 wst_X4_isTheme (by decide) (Nat.le_of_ble_eq_true rfl) dX4_round_12 ?_
    refine x_ifeq_b 27 X dX4_round_15 (by decide) (fun c_2 => ?_) (fun c_2 => ?_)
    · -- 15 t
      refine x_iconst (v := (-1)) X dX4_round_27 (by decide) ?_
      exact x_ret X dX4_round_28 ⟨ret_i (by simp [F_round, tn, c_1, qaN, c_2]), rfl, by decide, by decide⟩
    · -- 15 f
      obtain ⟨bN, hbN, rfl⟩ := inR_nat c_2 (by omega)
      have qbN : (nI bN).toNatClampNeg = bN := nI_clamp (by omega)
      refine x_iloadn X dX4_round_18 3 rfl ?_
      refine x_bipush (v := nI 60) X dX4_round_19 (by decide) ?_
      refine x_callSrv (As := [.int c, .int (nI 60)]) (rest := []) X (c_X4_isUpTo l G c 60 (by omega)) xE0_ok (fun _ _ _ => trivial) [] rfl rfl rfl wco_X4_isUpTo wi_X4 xd_X4_isUpTo wl_X4_91 wst_X4_isUpTo (by decide) (Nat.le_of_ble_eq_true rfl) dX4_round_21 ?_
      refine x_ifne_b 29 X dX4_round_24 (by decide) (fun c_3 => ?_) (fun c_3 => ?_)
      · -- 24 t
        obtain ⟨cN, hcN, rfl⟩ := inR_nat c_3 (by omega)
        have qcN : (nI cN).toNatClampNeg = cN := nI_clamp (by omega)
        refine x_aloadn X dX4_round_29 0 rfl ?_
        refine x_get X wu_X4 0 rfl rfl 1 (by decide) wf_X4_19 rfl rfl dX4_round_30 ?_
        refine x_iloadn X dX4_round_33 1 rfl ?_
        refine x_iloadn X dX4_round_34 2 rfl ?_
        refine x_callVrv (As := [.int (nI aN), .int (nI bN)]) (rest := []) X (c_X0_lineOf l G w s.1 s.2.1 s.2.2.1 s.2.2.2.1 s.2.2.2.2.1 s.2.2.2.2.2 aN bN (by omega) (by omega)) xE0_ok (fun _ _ _ => trivial) [1, 2, 3, 4, 5] rfl 0 rfl rfl rfl rfl wco_X0_lineOf wi_X0 xd_X0_lineOf wl_X4_112 win_X0_lineOf wse_X0_lineOf (by decide) (Nat.le_of_ble_eq_true rfl) dX4_round_35 ?_
        refine x_istore (lv' := [(4, .int (s.2.2.2.2.2 (aN * 5 + bN))), (0, .ref o), (1, .int (nI aN)), (2, .int (nI bN)), (3, .int (nI cN))]) X dX4_round_38 (by decide) rfl ?_
        refine x_iconst (v := nI 0) X dX4_round_40 (by decide) ?_
        refine x_istore (lv' := [(5, .int (nI 0)), (4, .int (s.2.2.2.2.2 (aN * 5 + bN))), (0, .ref o), (1, .int (nI aN)), (2, .int (nI bN)), (3, .int (nI cN))]) X dX4_round_41 (by decide) rfl ?_
        have L43 : ∀ (fu : Nat) (i : Nat) (u : Int32), cN - i < fu → (i ≤ cN) → (u = F_rnd s aN bN i) → K (xJ [wInk G o x w d h g q e, wCq G w s]) 0 0 43 [(0, .ref o), (1, .int (nI aN)), (2, .int (nI bN)), (3, .int (nI cN)), (4, .int u), (5, .int (nI i))] [] := by
          intro fu
          induction fu with
          | zero => intro i u hfu; exact absurd hfu (Nat.not_lt_zero _)
          | succ fu ih_L43 =>
            intro i u hfu_L43 hi hu
            refine x_iload X dX4_round_43 5 rfl ?_
            refine x_iloadn X dX4_round_45 3 rfl ?_
            refine x_icmp_ge_n 79 X dX4_round_46 (by decide) (by omega) (by omega) (fun c_4 => ?_) (fun c_4 => ?_)
            · -- 46 t
              have n_4 := Nat.not_lt.mpr c_4
              have e : i = cN := by omega
              rw [e] at hu
              refine x_iload X dX4_round_79 4 rfl ?_
              refine x_callSrv (As := [.int u]) (rest := []) X (c_X4_told l G u) xE0_ok (fun _ _ _ => trivial) [] rfl rfl rfl wco_X4_told wi_X4 xd_X4_told wl_X4_115 wst_X4_told (by decide) (Nat.le_of_ble_eq_true rfl) dX4_round_81 ?_
              exact x_ret X dX4_round_84 ⟨ret_i (by simp [F_round, tn, c_1, qaN, c_2, qbN, c_3, qcN, hi, hu, c_4, n_4]), rfl, by decide, by decide⟩
            · -- 46 f
              refine x_aloadn X dX4_round_49 0 rfl ?_
              refine x_get X wu_X4 0 rfl rfl 1 (by decide) wf_X4_19 rfl rfl dX4_round_50 ?_
              refine x_iload X dX4_round_53 5 rfl ?_
              refine x_aloadn X dX4_round_55 0 rfl ?_
              refine x_get X wu_X4 0 rfl rfl 1 (by decide) wf_X4_19 rfl rfl dX4_round_56 ?_
              refine x_callVrv (As := []) (rest := [.int (nI i), .ref (w 0)]) X (c_X0_persons l G w s.1 s.2.1 s.2.2.1 s.2.2.2.1 s.2.2.2.2.1 s.2.2.2.2.2) xE0_ok (fun _ _ _ => trivial) [1, 2, 3, 4, 5] rfl 0 rfl rfl rfl rfl wco_X0_persons wi_X0 xd_X0_persons wl_X4_84 win_X0_persons wse_X0_persons (by decide) (Nat.le_of_ble_eq_true rfl) dX4_round_59 ?_
              refine x_callSrv (As := [.int (nI i), .int (nI s.1)]) (rest := [.ref (w 0)]) X (c_X4_remainder l G i s.1 (by omega) (by omega) (by omega)) xE0_ok (fun _ _ _ => trivial) [] rfl rfl rfl wco_X4_remainder wi_X4 xd_X4_remainder wl_X4_151 wst_X4_remainder (by decide) (Nat.le_of_ble_eq_true rfl) dX4_round_62 ?_
              have hmod := Nat.mod_lt i (show 0 < s.1 by omega)
              refine x_iloadn X dX4_round_65 2 rfl ?_
              refine x_iload X dX4_round_66 4 rfl ?_
              refine x_callVrv (As := [.int (nI (i % s.1)), .int (nI bN), .int u]) (rest := []) X (c_X0_copied l G w s.1 s.2.1 s.2.2.1 s.2.2.2.1 s.2.2.2.2.1 s.2.2.2.2.2 (i % s.1) bN u (by omega) (by omega) (by assumption)) xE0_ok (fun _ _ _ => trivial) [1, 2, 3, 4, 5] rfl 0 rfl rfl rfl rfl wco_X0_copied wi_X0 xd_X0_copied wl_X4_154 win_X0_copied wse_X0_copied (by decide) (Nat.le_of_ble_eq_true rfl) dX4_round_68 ?_
              refine x_istore (lv' := [(4, .int (F_cop (s.2.2.1 (i % s.1)) (s.2.2.2.2.1 (tn (s.2.2.2.1 (i % s.1)) * 5 + bN)) u)), (0, .ref o), (1, .int (nI aN)), (2, .int (nI bN)), (3, .int (nI cN)), (5, .int (nI i))]) X dX4_round_71 (by decide) rfl ?_
              refine x_iinc (v := nI (i + 1)) (lv' := [(5, .int (nI (i + 1))), (4, .int (F_cop (s.2.2.1 (i % s.1)) (s.2.2.2.2.1 (tn (s.2.2.2.1 (i % s.1)) * 5 + bN)) u)), (0, .ref o), (1, .int (nI aN)), (2, .int (nI bN)), (3, .int (nI cN))]) X dX4_round_73 5 rfl (nI_1 _) (by decide) rfl ?_
              refine x_goto 43 X dX4_round_76 (by decide) ?_
              refine x_lv (lv' := [(0, .ref o), (1, .int (nI aN)), (2, .int (nI bN)), (3, .int (nI cN)), (4, .int (F_cop (s.2.2.1 (i % s.1)) (s.2.2.2.2.1 (tn (s.2.2.2.1 (i % s.1)) * 5 + bN)) u)), (5, .int (nI (i + 1)))]) X [2, 3, 4, 5, 1, 0] rfl ?_
              exact ih_L43 (i + 1) (F_cop (s.2.2.1 (i % s.1)) (s.2.2.2.2.1 (tn (s.2.2.2.1 (i % s.1)) * 5 + bN)) u) (by omega) (by omega) (by rw [hu]; rfl)
        refine x_lv (lv' := [(0, .ref o), (1, .int (nI aN)), (2, .int (nI bN)), (3, .int (nI cN)), (4, .int (s.2.2.2.2.2 (aN * 5 + bN))), (5, .int (nI 0))]) X [2, 3, 4, 5, 1, 0] rfl ?_
        exact L43 _ 0 (s.2.2.2.2.2 (aN * 5 + bN)) (Nat.lt_succ_self _) (by omega) (rfl)
      · -- 24 f
        refine x_iconst (v := (-1)) X dX4_round_27 (by decide) ?_
        exact x_ret X dX4_round_28 ⟨ret_i (by simp [F_round, tn, c_1, qaN, c_2, qbN, c_3]), rfl, by decide, by decide⟩
set_option maxRecDepth 100000 in
set_option maxHeartbeats 4000000 in
/-- X4_least -/
theorem c_X4_least (l : Launch) (G : xG) (o : Nat) (x : Nat → Nat) (w : Nat → Nat) (d : Nat → Nat) (h : Nat → Nat) (g : Nat → Nat) (q : Nat → Nat) (e : Nat) (s : xS) (a : Int32) (b : Int32) (c : Int32) (hs6 : s.1 ≤ 6) (hs1 : 0 < s.1) (hq5 : s.2.1 ≤ 5) (hmi : ∀ j, j < 6 → inR (s.2.2.2.1 j) 6 = true) : xM l G xE0 yX4_least cX4_least 6 (some .int) 3 66 0 0 [.ref o, .int a, .int b, .int c] (xJ [wInk G o x w d h g q e, wCq G w s]) (some (.int (F_least s a b c))) (fun w2 => w2 = xJ [wInk G o x w d h g q e, wCq G w s]) := by
  refine x_entry (by decide +kernel) (Nat.le_of_ble_eq_true rfl) rfl ⟨_, rfl, rfl⟩ (fun K X => ?_)
  refine x_aloadn X dX4_least_0 0 rfl ?_
  refine x_get X wu_X4 0 rfl rfl 1 (by decide) wf_X4_19 rfl rfl dX4_least_1 ?_
  refine x_iloadn X dX4_least_4 1 rfl ?_
  refine x_callVrv (As := [.int a]) (rest := []) X (c_X0_hasPaper l G w s.1 s.2.1 s.2.2.1 s.2.2.2.1 s.2.2.2.2.1 s.2.2.2.2.2 a (by omega)) xE0_ok (fun _ _ _ => trivial) [1, 2, 3, 4, 5] rfl 0 rfl rfl rfl rfl wco_X0_hasPaper wi_X0 xd_X0_hasPaper wl_X4_109 win_X0_hasPaper wse_X0_hasPaper (by decide) (Nat.le_of_ble_eq_true rfl) dX4_least_5 ?_
  refine x_ifeq_b 30 X dX4_least_8 (by decide) (fun c_1 => ?_) (fun c_1 => ?_)
  · -- 8 t
    refine x_iconst (v := (-1)) X dX4_least_30 (by decide) ?_
    exact x_ret X dX4_least_31 ⟨ret_i (by simp [F_least, tn, c_1]), rfl, by decide, by decide⟩
  · -- 8 f
    obtain ⟨aN, haN, rfl⟩ := inR_nat c_1 (by omega)
    have qaN : (nI aN).toNatClampNeg = aN := nI_clamp (by omega)
    refine x_aloadn X dX4_least_11 0 rfl ?_
    refine x_get X wu_X4 0 rfl rfl 1 (by decide) wf_X4_19 rfl rfl dX4_least_12 ?_
    refine x_iloadn X dX4_least_15 2 rfl ?_
    refine x_callVrv (As := [.int b]) (rest := []) X (c_X0_hasPerson l G w s.1 s.2.1 s.2.2.1 s.2.2.2.1 s.2.2.2.2.1 s.2.2.2.2.2 b (by omega)) xE0_ok (fun _ _ _ => trivial) [1, 2, 3, 4, 5] rfl 0 rfl rfl rfl rfl wco_X0_hasPerson wi_X0 xd_X0_hasPerson wl_X4_87 win_X0_hasPerson wse_X0_hasPerson (by decide) (Nat.le_of_ble_eq_true rfl) dX4_least_16 ?_
    refine x_ifeq_b 30 X dX4_least_19 (by decide) (fun c_2 => ?_) (fun c_2 => ?_)
    · -- 19 t
      refine x_iconst (v := (-1)) X dX4_least_30 (by decide) ?_
      exact x_ret X dX4_least_31 ⟨ret_i (by simp [F_least, tn, c_1, qaN, c_2]), rfl, by decide, by decide⟩
    · -- 19 f
      obtain ⟨bN, hbN, rfl⟩ := inR_nat c_2 (by omega)
      have qbN : (nI bN).toNatClampNeg = bN := nI_clamp (by omega)
      refine x_iloadn X dX4_least_22 3 rfl ?_
      refine x_iconst (v := nI 1) X dX4_least_23 (by decide) ?_
      refine x_callSrv (As := [.int c, .int (nI 1)]) (rest := []) X (c_X4_isUpTo l G c 1 (by omega)) xE0_ok (fun _ _ _ => trivial) [] rfl rfl rfl wco_X4_isUpTo wi_X4 xd_X4_isUpTo wl_X4_91 wst_X4_isUpTo (by decide) (Nat.le_of_ble_eq_true rfl) dX4_least_24 ?_
      refine x_ifne_b 32 X dX4_least_27 (by decide) (fun c_3 => ?_) (fun c_3 => ?_)
      · -- 27 t
        obtain ⟨cN, hcN, rfl⟩ := inR_nat c_3 (by omega)
        have qcN : (nI cN).toNatClampNeg = cN := nI_clamp (by omega)
        refine x_aloadn X dX4_least_32 0 rfl ?_
        refine x_get X wu_X4 0 rfl rfl 1 (by decide) wf_X4_19 rfl rfl dX4_least_33 ?_
        refine x_iloadn X dX4_least_36 1 rfl ?_
        refine x_callVrv (As := [.int (nI aN)]) (rest := []) X (c_X0_filledLinesOf l G w s.1 s.2.1 s.2.2.1 s.2.2.2.1 s.2.2.2.2.1 s.2.2.2.2.2 aN (by omega)) xE0_ok (fun _ _ _ => trivial) [1, 2, 3, 4, 5] rfl 0 rfl rfl rfl rfl wco_X0_filledLinesOf wi_X0 xd_X0_filledLinesOf wl_X4_132 win_X0_filledLinesOf wse_X0_filledLinesOf (by decide) (Nat.le_of_ble_eq_true rfl) dX4_least_37 ?_
        have hfil := F_fil_le s.2.2.2.2.2 aN 5
        refine x_iconst (v := nI 5) X dX4_least_40 (by decide) ?_
        refine x_icmp_ge_n 47 X dX4_least_41 (by decide) (by omega) (by omega) (fun c_4 => ?_) (fun c_4 => ?_)
        · -- 41 t
          have n_4 := Nat.not_lt.mpr c_4
          refine x_iconst (v := nI 0) X dX4_least_47 (by decide) ?_
          refine x_istore (lv' := [(4, .int (nI 0)), (0, .ref o), (1, .int (nI aN)), (2, .int (nI bN)), (3, .int (nI cN))]) X dX4_least_48 (by decide) rfl ?_
          refine x_iconst (v := nI 0) X dX4_least_50 (by decide) ?_
          refine x_istore (lv' := [(5, .int (nI 0)), (4, .int (nI 0)), (0, .ref o), (1, .int (nI aN)), (2, .int (nI bN)), (3, .int (nI cN))]) X dX4_least_51 (by decide) rfl ?_
          have L53 : ∀ (fu : Nat) (t : Nat) (u : Int32), 5 - t < fu → (t ≤ 5) → (u = F_lsb s aN bN t) → K (xJ [wInk G o x w d h g q e, wCq G w s]) 0 0 53 [(0, .ref o), (1, .int (nI aN)), (2, .int (nI bN)), (3, .int (nI cN)), (4, .int u), (5, .int (nI t))] [] := by
            intro fu
            induction fu with
            | zero => intro t u hfu; exact absurd hfu (Nat.not_lt_zero _)
            | succ fu ih_L53 =>
              intro t u hfu_L53 ht5 hu
              refine x_iload X dX4_least_53 5 rfl ?_
              refine x_iconst (v := nI 5) X dX4_least_55 (by decide) ?_
              refine x_icmp_ge_n 97 X dX4_least_56 (by decide) (by omega) (by omega) (fun c_5 => ?_) (fun c_5 => ?_)
              · -- 56 t
                have n_5 := Nat.not_lt.mpr c_5
                obtain rfl : t = 5 := by omega
                refine x_iloadn X dX4_least_97 3 rfl ?_
                refine x_if_ne_n 109 X dX4_least_98 (by decide) (by omega) (fun c_6 => ?_) (fun c_6 => ?_)
                · -- 98 t
                  refine x_iload X dX4_least_109 4 rfl ?_
                  exact x_ret X dX4_least_111 ⟨ret_i (by simp [F_least, tn, c_1, qaN, c_2, qbN, c_3, qcN, c_4, n_4, ht5, hu, c_5, n_5, c_6]), rfl, by decide, by decide⟩
                · -- 98 f
                  refine x_iload X dX4_least_101 4 rfl ?_
                  refine x_callSrv (As := [.int u]) (rest := []) X (c_J6_bitCount_0f7a4 l G u) xE0_ok (fun _ _ _ => trivial) [] rfl rfl rfl wco_J6_bitCount_0f7a4 wi_J6 xd_J6_bitCount_0f7a4 wl_X4_170 wst_J6_bitCount_0f7a4 (by decide) (Nat.le_of_ble_eq_true rfl) dX4_least_103 ?_
                  refine x_goto 111 X dX4_least_106 (by decide) ?_
                  exact x_ret X dX4_least_111 ⟨ret_i (by simp [F_least, tn, c_1, qaN, c_2, qbN, c_3, qcN, c_4, n_4, ht5, hu, c_5, n_5, (eq_true c_6)]), rfl, by decide, by decide⟩
              · -- 56 f
                refine x_aloadn X dX4_least_59 0 rfl ?_
                refine x_get X wu_X4 0 rfl rfl 1 (by decide) wf_X4_19 rfl rfl dX4_least_60 ?_
                refine x_iloadn X dX4_least_63 1 rfl ?_
                refine x_iload X dX4_least_64 5 rfl ?_
                refine x_callVrv (As := [.int (nI aN), .int (nI t)]) (rest := []) X (c_X0_lineOf l G w s.1 s.2.1 s.2.2.1 s.2.2.2.1 s.2.2.2.2.1 s.2.2.2.2.2 aN t (by omega) (by omega)) xE0_ok (fun _ _ _ => trivial) [1, 2, 3, 4, 5] rfl 0 rfl rfl rfl rfl wco_X0_lineOf wi_X0 xd_X0_lineOf wl_X4_112 win_X0_lineOf wse_X0_lineOf (by decide) (Nat.le_of_ble_eq_true rfl) dX4_least_66 ?_
                refine x_aloadn X dX4_least_69 0 rfl ?_
                refine x_get X wu_X4 0 rfl rfl 1 (by decide) wf_X4_19 rfl rfl dX4_least_70 ?_
                refine x_iloadn X dX4_least_73 2 rfl ?_
                refine x_iload X dX4_least_74 5 rfl ?_
                refine x_callVrv (As := [.int (nI bN), .int (nI t)]) (rest := [.int (s.2.2.2.2.2 (aN * 5 + t))]) X (c_X0_viewOf l G w s.1 s.2.1 s.2.2.1 s.2.2.2.1 s.2.2.2.2.1 s.2.2.2.2.2 bN t (by omega) (by omega)) xE0_ok (fun _ _ _ => trivial) [1, 2, 3, 4, 5] rfl 0 rfl rfl rfl rfl wco_X0_viewOf wi_X0 xd_X0_viewOf wl_X4_105 win_X0_viewOf wse_X0_viewOf (by decide) (Nat.le_of_ble_eq_true rfl) dX4_least_76 ?_
                refine x_icmp_eq 91 X dX4_least_79 (by decide) (fun c_7 => ?_) (fun c_7 => ?_)
                · -- 79 t
                  refine x_iinc (v := nI (t + 1)) (lv' := [(5, .int (nI (t + 1))), (0, .ref o), (1, .int (nI aN)), (2, .int (nI bN)), (3, .int (nI cN)), (4, .int u)]) X dX4_least_91 5 rfl (nI_1 _) (by decide) rfl ?_
                  refine x_goto 53 X dX4_least_94 (by decide) ?_
                  refine x_lv (lv' := [(0, .ref o), (1, .int (nI aN)), (2, .int (nI bN)), (3, .int (nI cN)), (4, .int u), (5, .int (nI (t + 1)))]) X [1, 2, 3, 4, 5, 0] rfl ?_
                  exact ih_L53 (t + 1) u (by omega) (by omega) (by simp [F_lsb, c_1, qaN, c_2, qbN, c_3, qcN, c_4, n_4, ht5, hu, c_5, c_7])
                · -- 79 f
                  refine x_iload X dX4_least_82 4 rfl ?_
                  refine x_iconst (v := nI 1) X dX4_least_84 (by decide) ?_
                  refine x_iload X dX4_least_85 5 rfl ?_
                  refine x_ishl (v := (nI 1) <<< ((nI t) &&& 31)) X dX4_least_87 rfl ?_
                  refine x_ior (v := u ||| ((nI 1) <<< ((nI t) &&& 31))) X dX4_least_88 rfl ?_
                  refine x_istore (lv' := [(4, .int (u ||| ((nI 1) <<< ((nI t) &&& 31)))), (0, .ref o), (1, .int (nI aN)), (2, .int (nI bN)), (3, .int (nI cN)), (5, .int (nI t))]) X dX4_least_89 (by decide) rfl ?_
                  refine x_iinc (v := nI (t + 1)) (lv' := [(5, .int (nI (t + 1))), (4, .int (u ||| ((nI 1) <<< ((nI t) &&& 31)))), (0, .ref o), (1, .int (nI aN)), (2, .int (nI bN)), (3, .int (nI cN))]) X dX4_least_91 5 rfl (nI_1 _) (by decide) rfl ?_
                  refine x_goto 53 X dX4_least_94 (by decide) ?_
                  refine x_lv (lv' := [(0, .ref o), (1, .int (nI aN)), (2, .int (nI bN)), (3, .int (nI cN)), (4, .int (u ||| ((nI 1) <<< ((nI t) &&& 31)))), (5, .int (nI (t + 1)))]) X [2, 3, 4, 5, 1, 0] rfl ?_
                  exact ih_L53 (t + 1) (u ||| ((nI 1) <<< ((nI t) &&& 31))) (by omega) (by omega) (by simp [F_lsb, c_1, qaN, c_2, qbN, c_3, qcN, c_4, n_4, ht5, hu, c_5, c_7])
          refine x_lv (lv' := [(0, .ref o), (1, .int (nI aN)), (2, .int (nI bN)), (3, .int (nI cN)), (4, .int (nI 0)), (5, .int (nI 0))]) X [2, 3, 4, 5, 1, 0] rfl ?_
          exact L53 _ 0 (nI 0) (Nat.lt_succ_self _) (by omega) (rfl)
        · -- 41 f
          refine x_bipush (v := (-4)) X dX4_least_44 (by decide) ?_
          exact x_ret X dX4_least_46 ⟨ret_i (by simp [F_least, tn, c_1, qaN, c_2, qbN, c_3, qcN, c_4]), rfl, by decide, by decide⟩
      · -- 27 f
        refine x_iconst (v := (-1)) X dX4_least_30 (by decide) ?_
        exact x_ret X dX4_least_31 ⟨ret_i (by simp [F_least, tn, c_1, qaN, c_2, qbN, c_3]), rfl, by decide, by decide⟩
