/-! ===== the law: what ties both sides ===== -/
/-- the same PERSONS, PAPERS and kinds -/
def SE (c s : xS) : Prop := c.1 = s.1 ∧ c.2.1 = s.2.1 ∧ c.2.2.1 = s.2.2.1
theorem SE_rf (s : xS) : SE s s := ⟨rfl, rfl, rfl⟩
theorem SE_tr {c s r : xS} (h : SE c s) (h2 : SE r s) : SE c r := ⟨h.1.trans h2.1.symm, h.2.1.trans h2.2.1.symm, h.2.2.trans h2.2.2.symm⟩
abbrev StI (s : xS) (kd : Nat → Int32) : Prop := (GS s) ∧ (0 < s.1) ∧ (∀ p, p < s.1 → kd p = s.2.2.1 p)
theorem StI.gs {s : xS} {kd : Nat → Int32} (h : StI s kd) : GS s := h.1
theorem StI.pos {s : xS} {kd : Nat → Int32} (h : StI s kd) : 0 < s.1 := h.2.1
theorem StI.kd {s : xS} {kd : Nat → Int32} (h : StI s kd) : ∀ p, p < s.1 → kd p = s.2.2.1 p := h.2.2
abbrev TxI (le le2 : Nat → Int32) (nl : Nat) : Prop := (nl ≤ 200) ∧ (∀ j, j < nl → le2 j = le j)
theorem TxI.len {le le2 : Nat → Int32} {nl : Nat} (h : TxI le le2 nl) : nl ≤ 200 := h.1
theorem TxI.eq {le le2 : Nat → Int32} {nl : Nat} (h : TxI le le2 nl) : ∀ j, j < nl → le2 j = le j := h.2
abbrev SgI (th sa sg : Nat → Int32) (ns : Nat) : Prop := (ns ≤ 6) ∧ (∀ k, k < ns → sg (2 * k) = th k ∧ sg (2 * k + 1) = sa k + nI 9) ∧ (∀ k, k < ns → inR (th k) 5 = true)
theorem SgI.len {th sa sg : Nat → Int32} {ns : Nat} (h : SgI th sa sg ns) : ns ≤ 6 := h.1
theorem SgI.eq {th sa sg : Nat → Int32} {ns : Nat} (h : SgI th sa sg ns) : ∀ k, k < ns → sg (2 * k) = th k ∧ sg (2 * k + 1) = sa k + nI 9 := h.2.1
theorem SgI.th {th sa sg : Nat → Int32} {ns : Nat} (h : SgI th sa sg ns) : ∀ k, k < ns → inR (th k) 5 = true := h.2.2
/-- a shelf of m as the reference's row -/
abbrev RiI (m : Nat) (s : xS) (cs : Nat → xS) (lw sz : Nat) (W : Nat → Int32) : Prop := (lw < m) ∧ (sz ≤ m) ∧ (∀ j, j < sz → ∀ i, i < 61 → W (61 * j + i) = en (cs ((lw + j) % m)) i) ∧ (∀ j, j < sz → GS (cs ((lw + j) % m)) ∧ SE (cs ((lw + j) % m)) s)
theorem RiI.low {m : Nat} {s : xS} {cs : Nat → xS} {lw sz : Nat} {W : Nat → Int32} (h : RiI m s cs lw sz W) : lw < m := h.1
theorem RiI.len {m : Nat} {s : xS} {cs : Nat → xS} {lw sz : Nat} {W : Nat → Int32} (h : RiI m s cs lw sz W) : sz ≤ m := h.2.1
theorem RiI.eq {m : Nat} {s : xS} {cs : Nat → xS} {lw sz : Nat} {W : Nat → Int32} (h : RiI m s cs lw sz W) : ∀ j, j < sz → ∀ i, i < 61 → W (61 * j + i) = en (cs ((lw + j) % m)) i := h.2.2.1
theorem RiI.ok {m : Nat} {s : xS} {cs : Nat → xS} {lw sz : Nat} {W : Nat → Int32} (h : RiI m s cs lw sz W) : ∀ j, j < sz → GS (cs ((lw + j) % m)) ∧ SE (cs ((lw + j) % m)) s := h.2.2.2
theorem StI.to {s r : xS} {kd : Nat → Int32} (h : StI s kd) (hg : GS r) (hs : SE r s) : StI r kd := ⟨hg, by rw [hs.1]; exact h.pos, fun p hp => by rw [hs.2.2]; exact h.kd p (by rw [← hs.1]; exact hp)⟩
theorem RiI.to {m : Nat} {s r : xS} {cs : Nat → xS} {lw sz : Nat} {W : Nat → Int32} (h : RiI m s cs lw sz W) (hs : SE r s) : RiI m r cs lw sz W := ⟨h.low, h.len, h.eq, fun j hj => ⟨(h.ok j hj).1, SE_tr (h.ok j hj).2 hs⟩⟩
theorem RiI.le {m : Nat} {s : xS} {cs : Nat → xS} {lw sz : Nat} {W : Nat → Int32} (h : RiI m s cs lw sz W) {n : Nat} (hn : n ≤ sz) : RiI m s cs lw n W := ⟨h.low, Nat.le_trans hn h.len, fun j hj => h.eq j (by omega), fun j hj => h.ok j (by omega)⟩
theorem cpy_in {f g : Nat → Int32} {dp j i : Nat} (h : i < 61) (hj : 61 * j = dp) : va_cpy f g 0 dp 61 (61 * j + i) = f i := by
  rw [va_cpy, if_pos (by omega), show 0 + (61 * j + i - dp) = i by omega]
theorem cpy_out {f g : Nat → Int32} {n j i : Nat} (h : i < 61) (hj : j < n) : va_cpy f g 0 (61 * n) 61 (61 * j + i) = g (61 * j + i) := by
  rw [va_cpy, if_neg (by omega)]
theorem updS_at (cs : Nat → xS) (i : Nat) (s : xS) : updS cs i s i = s := if_pos rfl
theorem updS_ne (cs : Nat → xS) {i j : Nat} (s : xS) (h : j ≠ i) : updS cs i s j = cs j := if_neg h
theorem RiI.push {s r : xS} {cs : Nat → xS} {lw sz : Nat} {W : Nat → Int32} (b : Bool) (h : RiI 8 s cs lw sz W) (hg : GS s) (hs : SE r s) : RiI 8 r (pCs b cs lw sz s) (pLw b lw sz) (pSz b sz) (mWb b W (en s) sz) := by
  have hl := h.low
  have hz := h.len
  cases b with
  | false => exact h.to hs
  | true =>
    show RiI 8 r (updS cs ((lw + sz) % 8) s) (if sz < 8 then lw else (lw + 1) % 8) (if sz < 8 then sz + 1 else sz) (mW W (en s) sz)
    by_cases h8 : sz < 8
    · rw [if_pos h8, if_pos h8, mW, if_neg (by omega)]
      refine ⟨hl, by omega, fun j hj i hi => ?_, fun j hj => ?_⟩
      · by_cases e : j = sz
        · subst e; rw [cpy_in hi rfl, updS_at]
        · rw [cpy_out hi (by omega), updS_ne _ _ (by omega)]; exact h.eq j (by omega) i hi
      · by_cases e : j = sz
        · subst e; rw [updS_at]; exact ⟨hg, SE_tr (SE_rf s) hs⟩
        · rw [updS_ne _ _ (by omega)]; exact ⟨(h.ok j (by omega)).1, SE_tr (h.ok j (by omega)).2 hs⟩
    · rw [if_neg h8, if_neg h8, mW, if_pos (by omega)]
      obtain rfl : sz = 8 := by omega
      refine ⟨Nat.mod_lt _ (by decide), Nat.le_refl 8, fun j hj i hi => ?_, fun j hj => ?_⟩
      · by_cases e : j = 7
        · subst e; rw [cpy_in hi rfl, show ((lw + 1) % 8 + 7) % 8 = (lw + 8) % 8 by omega, updS_at]
        · rw [cpy_out hi (by omega), updS_ne _ _ (by omega), shW, if_pos (by omega), show 61 * j + i + 61 = 61 * (j + 1) + i by omega, h.eq (j + 1) (by omega) i hi, show ((lw + 1) % 8 + j) % 8 = (lw + (j + 1)) % 8 by omega]
      · by_cases e : j = 7
        · subst e; rw [show ((lw + 1) % 8 + 7) % 8 = (lw + 8) % 8 by omega, updS_at]; exact ⟨hg, SE_tr (SE_rf s) hs⟩
        · rw [updS_ne _ _ (by omega), show ((lw + 1) % 8 + j) % 8 = (lw + (j + 1)) % 8 by omega]; exact ⟨(h.ok (j + 1) (by omega)).1, SE_tr (h.ok (j + 1) (by omega)).2 hs⟩
theorem RiI.keep {s : xS} {cs : Nat → xS} {lw sz : Nat} {W : Nat → Int32} (h : RiI 2 s cs lw sz W) (hg : GS s) : RiI 2 s (kCs cs lw sz s) lw (kSz sz) (mKp W (en s) sz) := by
  have hl := h.low
  have hz := h.len
  by_cases h8 : sz < 2
  · rw [kCs, kSz, mKp, if_pos h8, if_pos h8, if_pos h8]
    refine ⟨hl, by omega, fun j hj i hi => ?_, fun j hj => ?_⟩
    · by_cases e : j = sz
      · subst e; rw [cpy_in hi rfl, updS_at]
      · rw [cpy_out hi (by omega), updS_ne _ _ (by omega)]; exact h.eq j (by omega) i hi
    · by_cases e : j = sz
      · subst e; rw [updS_at]; exact ⟨hg, SE_rf s⟩
      · rw [updS_ne _ _ (by omega)]; exact h.ok j (by omega)
  · rw [kCs, kSz, mKp, if_neg h8, if_neg h8, if_neg h8]
    exact h
theorem mN_pSz {b : Bool} {sz : Nat} (h : sz ≤ 8) : mN b sz = pSz b sz := by
  unfold mN pSz mNa
  cases b with
  | false => rfl
  | true =>
    simp only [if_true]
    by_cases h8 : sz = 8
    · subst h8; rfl
    · rw [if_neg h8, if_pos (by omega)]
theorem undo_ok {m : Nat} {s : xS} {cs : Nat → xS} {lw sz : Nat} {W : Nat → Int32} (h : RiI m s cs lw sz W) (hg : GS s) : GS (if sz = 0 then s else cs ((lw + (sz - 1)) % m)) ∧ SE (if sz = 0 then s else cs ((lw + (sz - 1)) % m)) s := by
  split
  · exact ⟨hg, SE_rf s⟩
  · exact h.ok (sz - 1) (by omega)
theorem inR_mono {x : Int32} {m n : Nat} (hm : m ≤ n) (hn : n < 2 ^ 31) (h : inR x m = true) : inR x n = true := by
  obtain ⟨j, hj, rfl⟩ := inR_nat h (by omega)
  exact inR_of (by omega) hn
theorem bd_of {v : Int32} (h : inR v 19 = true) : bd (v - nI 9) := by
  obtain ⟨e, hl⟩ := inR_eq h (by decide)
  rw [e]
  exact ⟨_, hl, rfl⟩
theorem tn_lt {x : Int32} {n : Nat} (h : inR x n = true) (hn : n < 2 ^ 31) : tn x < n := (inR_eq h hn).2
theorem wr_bd {s : xS} {p t n : Int32} (hg : GS s) (hp : inR p s.1 = true) (ht : inR t 5 = true) (hn : inR n 11 = true) : bd (F_wr s (tn p) (tn t) n) := by
  obtain ⟨h1, h2, h3, h4, h5⟩ := hg
  have hp2 := tn_lt hp (by omega)
  have hm := tn_lt (h3 (tn p) (by omega)) (by decide)
  obtain ⟨e, hl⟩ := inR_eq hn (by decide)
  rw [wr_wf, e]
  exact wf_bd h4 (by omega) hm (tn_lt ht (by decide)) hl
theorem set_ok {s : xS} {a p t n : Int32} (hg : GS s) : GS (F_setS s a p t n) ∧ SE (F_setS s a p t n) s := by
  unfold F_setS
  split
  · rename_i h
    simp only [F_setOk, Bool.and_eq_true] at h
    refine ⟨⟨hg.1, hg.2.1, hg.2.2.1, hg.2.2.2.1, ?_⟩, rfl, rfl, rfl⟩
    exact upd_all (P := bl) hg.2.2.2.2 (Or.inr (wr_bd hg h.2.1 h.2.2.1 h.2.2.2))
  · exact ⟨hg, SE_rf s⟩
theorem erase_ok {s : xS} {a p t : Int32} (hg : GS s) : GS (F_eraseS s a p t) ∧ SE (F_eraseS s a p t) s := by
  unfold F_eraseS
  split
  · rename_i h
    simp only [F_eraseOk, F_eraseIn, Bool.and_eq_true] at h
    refine ⟨⟨hg.1, hg.2.1, hg.2.2.1, hg.2.2.2.1, ?_⟩, rfl, rfl, rfl⟩
    have h6 := hg.1
    have hp := tn_lt h.1.2.1 (by omega)
    have ht := tn_lt h.1.2.2 (by decide)
    exact upd_all (P := bl) hg.2.2.2.2 (Or.inr (hg.2.2.2.1 _ (by omega)))
  · exact ⟨hg, SE_rf s⟩
theorem copy_ok {s : xS} {a b p : Int32} (hg : GS s) : GS (F_copyS s a b p) ∧ SE (F_copyS s a b p) s := by
  unfold F_copyS
  split
  · rename_i h
    simp only [F_copyOk, Bool.and_eq_true] at h
    refine ⟨⟨hg.1, hg.2.1, hg.2.2.1, hg.2.2.2.1, ?_⟩, rfl, rfl, rfl⟩
    have h6 := hg.1
    have h5 := hg.2.1.2
    exact cpS_bl (s := s) hg.2.2.1 hg.2.2.2.1 hg.2.2.2.2 (Nat.lt_of_lt_of_le (tn_lt h.2.2.2 (by omega)) h6) (Nat.lt_of_lt_of_le (tn_lt h.1 (by omega)) h5)
  · exact ⟨hg, SE_rf s⟩
theorem think_ok {s : xS} {p t v : Int32} (hg : GS s) : GS (F_thinkS s p t v) ∧ SE (F_thinkS s p t v) s := by
  unfold F_thinkS
  split
  · rename_i h
    simp only [F_thinkOk, Bool.and_eq_true] at h
    exact ⟨⟨hg.1, hg.2.1, hg.2.2.1, upd_all (P := bd) hg.2.2.2.1 (bd_of h.2.2), hg.2.2.2.2⟩, rfl, rfl, rfl⟩
  · exact ⟨hg, SE_rf s⟩
theorem mind_ok {s : xS} {p m : Int32} (hg : GS s) : GS (F_mindS s p m) ∧ SE (F_mindS s p m) s := by
  unfold F_mindS
  split
  · rename_i h
    simp only [F_mindOk, Bool.and_eq_true] at h
    exact ⟨⟨hg.1, hg.2.1, upd_all (P := fun x => inR x 6 = true) hg.2.2.1 (inR_mono hg.1 (by decide) h.2), hg.2.2.2⟩, rfl, rfl, rfl⟩
  · exact ⟨hg, SE_rf s⟩
theorem TxI.prs {le le2 : Nat → Int32} {nl : Nat} (h : TxI le le2 nl) : prsT le2 nl = prsT le nl := prs_cg h.eq 200 0 blankS
theorem TxI.write {le le2 : Nat → Int32} {nl : Nat} (h : TxI le le2 nl) (x : Int32) : TxI (F_wLe x le nl) (F_wLe x le2 nl) (F_wNl x nl) := by
  have hl := h.len
  unfold F_wLe F_wNl
  split
  · split
    · refine ⟨by omega, fun j hj => ?_⟩
      unfold upd
      split
      · rfl
      · exact h.eq j (by omega)
    · exact h
  · exact h
theorem SgI.sign {th sa sg : Nat → Int32} {ns : Nat} (h : SgI th sa sg ns) (t v : Int32) : SgI (F_sTh t v th ns) (F_sSa t v sa ns) (mSg (F_sOk t v) t v sg ns) (F_sNs t v ns) := by
  have hl := h.len
  unfold F_sTh F_sSa mSg F_sNs
  split
  · rename_i hok
    split
    · refine ⟨by omega, fun k hk => ?_, fun k hk => ?_⟩
      · by_cases e : k = ns
        · subst e
          simp only [upd]
          refine ⟨by rw [if_neg (by omega)]; simp, ?_⟩
          simp only [if_true]
          apply Int32.toBitVec_inj.mp
          simp
        · have e1 : ¬ 2 * k = 2 * ns + 1 := by omega
          have e2 : ¬ 2 * k = 2 * ns := by omega
          have e3 : ¬ 2 * k + 1 = 2 * ns + 1 := by omega
          have e4 : ¬ 2 * k + 1 = 2 * ns := by omega
          simp only [upd, if_neg e, if_neg e1, if_neg e2, if_neg e3, if_neg e4]
          exact h.eq k (by omega)
      · unfold upd
        split
        · simp only [F_sOk, Bool.and_eq_true] at hok
          exact hok.1
        · exact h.th k (by omega)
    · exact h
  · exact h
theorem lay_ok {s : xS} (le : Nat → Int32) (nl : Nat) (hg : GS s) (hp : 0 < s.1) : GS (lyS le nl s) ∧ 0 < (lyS le nl s).1 := by
  unfold lyS
  split
  · rename_i h
    refine ⟨GS_T le nl, ?_⟩
    simp only [F_layOk, Bool.and_eq_true, decide_eq_true_iff] at h
    exact h.2.2
  · exact ⟨hg, hp⟩
theorem RiI.lay {m : Nat} {s : xS} {cs : Nat → xS} {lw sz : Nat} {W : Nat → Int32} (h : RiI m s cs lw sz W) (le : Nat → Int32) (nl : Nat) : RiI m (lyS le nl s) cs lw (l0 (F_layOk (prsT le nl)) sz) W := by
  unfold lyS l0
  split
  · exact ⟨h.low, Nat.zero_le _, fun j hj => absurd hj (Nat.not_lt_zero _), fun j hj => absurd hj (Nat.not_lt_zero _)⟩
  · exact h
theorem SgI.lay {th sa sg : Nat → Int32} {ns : Nat} (h : SgI th sa sg ns) (b : Bool) : SgI th sa sg (l0 b ns) := by
  unfold l0
  split
  · exact ⟨Nat.zero_le _, fun j hj => absurd hj (Nat.not_lt_zero _), fun j hj => absurd hj (Nat.not_lt_zero _)⟩
  · exact h
theorem RiI.back {s r : xS} {cs : Nat → xS} {lw sz n2 : Nat} {W : Nat → Int32} (h : RiI 8 s cs lw sz W) (hs : n2 = 0 → r = s) : RiI 8 r cs lw (if n2 = 0 then sz else 0) W := by
  split
  · rename_i h0; rw [hs h0]; exact h
  · exact ⟨h.low, Nat.zero_le _, fun j hj => absurd hj (Nat.not_lt_zero _), fun j hj => absurd hj (Nat.not_lt_zero _)⟩
theorem lg_self (x : Int64) : lg_cmp x x = 0 := by
  have h1 : lg_cmp x x ≤ 0 := (lg_cmp_le _ _).mpr (Int64.le_refl x)
  unfold lg_cmp at *
  simp
/-- the state of both sides -/
abbrev LI (s : xS) (kd le le2 : Nat → Int32) (nl lw sz : Nat) (cs : Nat → xS) (W : Nat → Int32) (lw2 sz2 : Nat) (cs2 : Nat → xS) (Kp : Nat → Int32) (ns : Nat) (th sa sg : Nat → Int32) : Prop := (StI s kd) ∧ (TxI le le2 nl) ∧ (RiI 8 s cs lw sz W) ∧ (RiI 2 s cs2 lw2 sz2 Kp) ∧ (SgI th sa sg ns)
theorem LI.st {s : xS} {kd le le2 : Nat → Int32} {nl lw sz : Nat} {cs : Nat → xS} {W : Nat → Int32} {lw2 sz2 : Nat} {cs2 : Nat → xS} {Kp : Nat → Int32} {ns : Nat} {th sa sg : Nat → Int32} (h : LI s kd le le2 nl lw sz cs W lw2 sz2 cs2 Kp ns th sa sg) : StI s kd := h.1
theorem LI.tx {s : xS} {kd le le2 : Nat → Int32} {nl lw sz : Nat} {cs : Nat → xS} {W : Nat → Int32} {lw2 sz2 : Nat} {cs2 : Nat → xS} {Kp : Nat → Int32} {ns : Nat} {th sa sg : Nat → Int32} (h : LI s kd le le2 nl lw sz cs W lw2 sz2 cs2 Kp ns th sa sg) : TxI le le2 nl := h.2.1
theorem LI.ps {s : xS} {kd le le2 : Nat → Int32} {nl lw sz : Nat} {cs : Nat → xS} {W : Nat → Int32} {lw2 sz2 : Nat} {cs2 : Nat → xS} {Kp : Nat → Int32} {ns : Nat} {th sa sg : Nat → Int32} (h : LI s kd le le2 nl lw sz cs W lw2 sz2 cs2 Kp ns th sa sg) : RiI 8 s cs lw sz W := h.2.2.1
theorem LI.kp {s : xS} {kd le le2 : Nat → Int32} {nl lw sz : Nat} {cs : Nat → xS} {W : Nat → Int32} {lw2 sz2 : Nat} {cs2 : Nat → xS} {Kp : Nat → Int32} {ns : Nat} {th sa sg : Nat → Int32} (h : LI s kd le le2 nl lw sz cs W lw2 sz2 cs2 Kp ns th sa sg) : RiI 2 s cs2 lw2 sz2 Kp := h.2.2.2.1
theorem LI.si {s : xS} {kd le le2 : Nat → Int32} {nl lw sz : Nat} {cs : Nat → xS} {W : Nat → Int32} {lw2 sz2 : Nat} {cs2 : Nat → xS} {Kp : Nat → Int32} {ns : Nat} {th sa sg : Nat → Int32} (h : LI s kd le le2 nl lw sz cs W lw2 sz2 cs2 Kp ns th sa sg) : SgI th sa sg ns := h.2.2.2.2
theorem lw_lt {L i : Nat} (hL : L ≤ 384) (hi : i ≤ 390) (h : ¬ nI L - nI 6 < nI i) : i + 6 ≤ L := by
  have h2 := Int32.not_lt.mp h
  rw [Int32.le_iff_toInt_le, nI_toInt (by omega)] at h2
  have h3 : (nI L - nI 6).toInt = (L : Int) - 6 := by
    rw [Int32.toInt_sub, nI_toInt (by omega), nI_toInt (by omega)]
    apply Int.bmod_eq_of_le <;> omega
  omega

