/-! ===== the reference: what a plan names ===== -/
/-- men by their bits -/
theorem bt_t : ∀ a, a < 64 → ∀ b, b < 64 → ∀ i, i < 12 → zHs (nI (64 * a + b)) (nI i) = bI ((64 * a + b).testBit i) := by decide +kernel
theorem bt_o : ∀ a, a < 64 → ∀ b, b < 64 → ∀ i, i < 12 → nI (64 * a + b) ||| (nI 1 <<< (nI i &&& 31)) = nI ((64 * a + b) ||| 2 ^ i) := by decide +kernel
theorem bt_h {m i : Nat} (hm : m < 4096) (hi : i < 12) : zHs (nI m) (nI i) = bI (m.testBit i) := by
  have h := bt_t (m / 64) (by omega) (m % 64) (by omega) i hi
  rwa [Nat.div_add_mod] at h
theorem bt_s {m i : Nat} (hm : m < 4096) (hi : i < 12) : nI m ||| (nI 1 <<< (nI i &&& 31)) = nI (m ||| 2 ^ i) := by
  have h := bt_o (m / 64) (by omega) (m % 64) (by omega) i hi
  rwa [Nat.div_add_mod] at h
theorem bt_l {m i : Nat} (hm : m < 4096) (hi : i < 12) : m ||| 2 ^ i < 4096 := Nat.or_lt_two_pow (n := 12) hm (Nat.pow_lt_pow_right (by decide) hi)
theorem bt_x {m i j : Nat} : (m ||| 2 ^ i).testBit j = (m.testBit j || decide (i = j)) := by rw [Nat.testBit_or, Nat.testBit_two_pow]
/-- how many of the first k are not told -/
def bZ (m : Nat) : Nat → Nat
  | 0 => 0
  | k + 1 => bZ m k + (if m.testBit k = true then 0 else 1)
theorem bZ_n {m i : Nat} : ∀ k, k ≤ i → bZ (m ||| 2 ^ i) k = bZ m k
  | 0, _ => rfl
  | k + 1, h => by
    rw [bZ, bZ, bZ_n k (by omega), bt_x, decide_eq_false (show ¬ i = k by omega), Bool.or_false]
theorem bZ_s {m i : Nat} (hi : m.testBit i = false) : ∀ k, i < k → bZ (m ||| 2 ^ i) k + 1 = bZ m k
  | 0, h => absurd h (Nat.not_lt_zero _)
  | k + 1, h => by
    rw [bZ, bZ, bt_x]
    by_cases hk : i = k
    · subst hk
      rw [bZ_n i (Nat.le_refl _), hi, decide_eq_true rfl]
      rfl
    · rw [decide_eq_false hk, Bool.or_false, ← bZ_s hi k (by omega)]
      omega
theorem bZ_0 {m : Nat} : ∀ k, bZ m k = 0 → ∀ i, i < k → m.testBit i = true
  | 0, _, i, h => absurd h (Nat.not_lt_zero _)
  | k + 1, h0, i, h => by
    rw [bZ] at h0
    by_cases hk : i = k
    · subst hk
      by_cases ht : m.testBit i = true
      · exact ht
      · rw [if_neg ht] at h0
        omega
    · exact bZ_0 k (by omega) i (by omega)

