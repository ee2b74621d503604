/-! ===== numbers: Int32 by naturals and integers ===== -/
theorem zs_top {B : zB} {kc ks pc : Nat} {lv : List (Nat × Value)} {st : List Value} {K : zK} {x : Int32} (k : ∀ y : Int32, y = x → zS B kc ks pc lv (.int y :: st) K) : zS B kc ks pc lv (.int x :: st) K := k x rfl
theorem zs_as {B : zB} {kc ks pc : Nat} {lv : List (Nat × Value)} {st : List Value} {K : zK} {x y : Int32} (h : x = y) (k : zS B kc ks pc lv (.int y :: st) K) : zS B kc ks pc lv (.int x :: st) K := h ▸ k
theorem zi_clamp (x : Int32) : x.toNatClampNeg = x.toInt.toNat := rfl
theorem zi_lt {x y : Int32} : x < y ↔ x.toInt < y.toInt := Int32.lt_iff_toInt_lt
theorem zi_le {x y : Int32} : x ≤ y ↔ x.toInt ≤ y.toInt := Int32.le_iff_toInt_le
theorem zi_eq {x y : Int32} : x = y ↔ x.toInt = y.toInt := Int32.toInt_inj.symm
theorem zi_rng (x : Int32) : -2147483648 ≤ x.toInt ∧ x.toInt ≤ 2147483647 := ⟨Int32.le_toInt x, Int32.toInt_le x⟩
theorem vp_iff {x : Int32} {n : Nat} : vp_in x n ↔ 0 ≤ x.toInt ∧ x.toInt < (n : Int) := by
  unfold vp_in
  rw [not_or, zi_lt, zi_clamp, Int32.toInt_zero]
  omega
theorem vp_of {x : Int32} {n : Nat} (h : 0 ≤ x.toInt) (h2 : x.toInt < (n : Int)) : vp_in x n := vp_iff.mpr ⟨h, h2⟩
theorem nI_t {n : Nat} (h : n < 2147483648) : (nI n).toInt = (n : Int) := nI_toInt h
theorem nI_c {n : Nat} (h : n < 2147483648) : (nI n).toNatClampNeg = n := nI_clamp h
theorem nI_lt' {a b : Nat} (ha : a < 2147483648) (hb : b < 2147483648) : nI a < nI b ↔ a < b := by rw [zi_lt, nI_t ha, nI_t hb]; omega
theorem nI_le' {a b : Nat} (ha : a < 2147483648) (hb : b < 2147483648) : nI a ≤ nI b ↔ a ≤ b := by rw [zi_le, nI_t ha, nI_t hb]; omega
theorem nI_eq' {a b : Nat} (ha : a < 2147483648) (hb : b < 2147483648) : nI a = nI b ↔ a = b := by rw [zi_eq, nI_t ha, nI_t hb]; omega
theorem nI_mul (a b : Nat) : nI a * nI b = nI (a * b) := by unfold nI; exact (Int32.ofNat_mul a b).symm
theorem nI_s1 (a : Nat) : nI a + 1 = nI (a + 1) := nI_add a 1
theorem nI_sub {a b : Nat} (h : b ≤ a) : nI a - nI b = nI (a - b) := by
  have h1 := nI_add (a - b) b
  rw [Nat.sub_add_cancel h] at h1
  rw [← h1]
  exact Int32.add_sub_cancel _ _
theorem zi_of {x : Int32} (h : 0 ≤ x.toInt) : x = nI x.toInt.toNat := by
  have := zi_rng x
  rw [zi_eq, nI_t (by omega)]
  omega
theorem nI_ex {x : Int32} (h : 0 ≤ x) : ∃ n : Nat, n < 2147483648 ∧ x = nI n := by
  have h1 : 0 ≤ x.toInt := by simpa using zi_le.mp h
  have := zi_rng x
  exact ⟨x.toInt.toNat, by omega, zi_of h1⟩
theorem zi_add {x y : Int32} (h : -2147483648 ≤ x.toInt + y.toInt) (h2 : x.toInt + y.toInt ≤ 2147483647) : (x + y).toInt = x.toInt + y.toInt := by
  rw [Int32.toInt_add]
  exact Int.bmod_eq_of_le (by omega) (by omega)
theorem zi_sub {x y : Int32} (h : -2147483648 ≤ x.toInt - y.toInt) (h2 : x.toInt - y.toInt ≤ 2147483647) : (x - y).toInt = x.toInt - y.toInt := by
  rw [Int32.toInt_sub]
  exact Int.bmod_eq_of_le (by omega) (by omega)
theorem zi_mul {x y : Int32} (h : -2147483648 ≤ x.toInt * y.toInt) (h2 : x.toInt * y.toInt ≤ 2147483647) : (x * y).toInt = x.toInt * y.toInt := by
  rw [Int32.toInt_mul]
  exact Int.bmod_eq_of_le (by omega) (by omega)
theorem zi_div {x y : Int32} (h : 0 ≤ x.toInt) (h2 : 0 < y.toInt) : (x / y).toInt = x.toInt / y.toInt := by
  have hx := zi_rng x
  rw [Int32.toInt_div, Int.tdiv_eq_ediv_of_nonneg h]
  have h3 : x.toInt / y.toInt ≤ x.toInt := Int.ediv_le_self _ h
  have h4 : 0 ≤ x.toInt / y.toInt := Int.ediv_nonneg h (by omega)
  exact Int.bmod_eq_of_le (by omega) (by omega)
theorem nI_div {a b : Nat} (ha : a < 2147483648) (hb : b < 2147483648) (h0 : 0 < b) : nI a / nI b = nI (a / b) := by
  have h1 : a / b ≤ a := Nat.div_le_self a b
  rw [zi_eq, zi_div (by rw [nI_t ha]; omega) (by rw [nI_t hb]; omega), nI_t ha, nI_t hb, nI_t (by omega)]
  exact (Int.natCast_ediv a b).symm
theorem nI_rem {a b : Nat} (ha : a < 2147483648) (hb : b < 2147483648) (h0 : 0 < b) : nI a - nI a / nI b * nI b = nI (a % b) := by
  rw [nI_div ha hb h0, nI_mul, nI_sub (Nat.div_mul_le_self a b)]
  congr 1
  have := Nat.div_add_mod a b
  rw [Nat.mul_comm] at this
  omega
theorem upd_s (f : Nat → Int32) (k : Nat) (x : Int32) : upd f k x k = x := if_pos rfl
theorem upd_n (f : Nat → Int32) {k j : Nat} (x : Int32) (h : j ≠ k) : upd f k x j = f j := if_neg h
theorem zs_eq {B : zB} {kc ks pc : Nat} {lv : List (Nat × Value)} {st : List Value} {K K' : zK} (h : K = K') (k : zS B kc ks pc lv st K') : zS B kc ks pc lv st K := h ▸ k
