/-! ===== the reference: drops ===== -/
/-- the ways, as the reference counts them -/
def bnm : Nat → Nat
  | 0 => 1
  | k + 1 => bnm k * (10 - k) / (k + 1)
theorem bnm_w {k : Nat} (h : k < 11) : bnm k = wofN k := by
  have h2 : ∀ k, k < 11 → bnm k = wofN k := by decide
  exact h2 k h
theorem euc_gcd : ∀ (k h l : Nat), l ≤ h → h * l < 2 ^ k → euc (k + 1) h l = Nat.gcd h l
  | k, h, 0, _, _ => by rw [euc_0, Nat.gcd_zero_right]
  | 0, h, l + 1, hl, hk => by
    have : 1 ≤ h * (l + 1) := Nat.mul_pos (by omega) (by omega)
    omega
  | k + 1, h, l + 1, hl, hk => by
    rw [euc, if_neg (by omega)]
    have hr : h % (l + 1) < l + 1 := Nat.mod_lt _ (by omega)
    have hd := Nat.div_add_mod h (l + 1)
    have hq : 1 ≤ h / (l + 1) := Nat.div_pos hl (by omega)
    have h2 : (l + 1) * 1 ≤ (l + 1) * (h / (l + 1)) := Nat.mul_le_mul_left _ hq
    rw [euc_gcd k (l + 1) (h % (l + 1)) (by omega) ?_, Nat.gcd_comm h, Nat.gcd_rec (l + 1) h, Nat.gcd_comm]
    have h3 : 2 * (h % (l + 1)) ≤ h := by omega
    have h4 : (l + 1) * (2 * (h % (l + 1))) ≤ (l + 1) * h := Nat.mul_le_mul_left _ h3
    rw [Nat.mul_comm h] at hk
    rw [Nat.mul_left_comm] at h4
    rw [Nat.pow_succ] at hk
    omega
theorem euc_100 {y : Nat} (hy : y < 2 ^ 63) : euc 100 10000000000 y = Nat.gcd 10000000000 y := by
  rcases Nat.lt_or_ge 10000000000 y with h | h
  · rw [show (100 : Nat) = 99 + 1 from rfl, euc, if_neg (by omega), Nat.mod_eq_of_lt h, show (99 : Nat) = 98 + 1 from rfl, euc_gcd 98 _ _ (by omega) (by omega), Nat.gcd_comm]
  · exact euc_gcd 99 _ _ h (by omega)

