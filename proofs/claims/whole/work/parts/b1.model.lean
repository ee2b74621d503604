/-! ===== the reference's row and the class's ===== -/
/-- how many of the first k are x, by hundreds -/
def cnt (f : Nat → Nat) (x : Nat) : Nat → Nat
  | 0 => 0
  | k + 1 => cnt f x k + (if f k % 100 = x then 1 else 0)
theorem cnt_c {f g : Nat → Nat} {x : Nat} : ∀ n, (∀ j, j < n → f j = g j) → cnt f x n = cnt g x n
  | 0, _ => rfl
  | n + 1, h => by
    show cnt f x n + _ = cnt g x n + _
    rw [cnt_c n (fun j hj => h j (by omega)), h n (by omega)]
theorem cnt_f {f : Nat → Nat} {x : Nat} : ∀ n, cnt f x (n + 1) = (if f 0 % 100 = x then 1 else 0) + cnt (fun j => f (j + 1)) x n
  | 0 => Nat.zero_add _
  | n + 1 => by
    show cnt f x (n + 1) + (if f (n + 1) % 100 = x then 1 else 0) = _ + (cnt (fun j => f (j + 1)) x n + (if f (n + 1) % 100 = x then 1 else 0))
    rw [cnt_f n, Nat.add_assoc]
theorem cnt_0 {f : Nat → Nat} {x : Nat} : ∀ n, (∀ j, j < n → ¬ f j % 100 = x) → cnt f x n = 0
  | 0, _ => rfl
  | n + 1, h => by
    show cnt f x n + (if f n % 100 = x then 1 else 0) = 0
    rw [cnt_0 n (fun j hj => h j (by omega)), if_neg (h n (by omega))]
theorem nSum_a {f g : Nat → Nat} : ∀ n, nSum (fun x => f x + g x) n = nSum f n + nSum g n
  | 0 => rfl
  | n + 1 => by
    have := nSum_a (f := f) (g := g) n
    simp only [nSum]
    omega
theorem nSum_1 {y : Nat} : ∀ n, nSum (fun x => if y = x then 1 else 0) n = if y < n then 1 else 0
  | 0 => by rw [if_neg (by omega)]; rfl
  | n + 1 => by
    show nSum (fun x => if y = x then 1 else 0) n + (if y = n then 1 else 0) = _
    rw [nSum_1 n]
    by_cases h1 : y < n
    · rw [if_pos h1, if_neg (by omega), if_pos (by omega)]
    · by_cases h2 : y = n
      · rw [if_neg h1, if_pos h2, if_pos (by omega)]
      · rw [if_neg h1, if_neg h2, if_neg (by omega)]
theorem nSum_f {f : Nat → Nat} : ∀ n, nSum f (n + 1) = f 0 + nSum (fun j => f (j + 1)) n
  | 0 => by simp only [nSum]; omega
  | n + 1 => by
    have := nSum_f (f := f) n
    simp only [nSum] at this ⊢
    omega
theorem cnt_s {f : Nat → Nat} : ∀ n, nSum (fun x => cnt f x n) 100 = n
  | 0 => nSum_0 100
  | n + 1 => by
    show nSum (fun x => cnt f x n + (if f n % 100 = x then 1 else 0)) 100 = n + 1
    rw [nSum_a, cnt_s n, nSum_1, if_pos (by omega)]
/-- what a place holds: in hand, and standing -/
def gS (M : zRs) (p : Nat) : Nat := M.2 26 p + nSum (fun i => M.2 28 (30 * p + i)) (M.2 29 p)
/-- what was drawn is thrown, spilt or on its way; the men stand as D's names say, where those are below twelve -/
def tT (D : zYd) (M : zRs) : Prop := ∀ p, p < 12 → D.2.2.1 p < 12 → M.2 24 p = D.2.2.1 p
def tE (D : zYd) (M : zRs) : Prop := M.1 42 = M.1 39 + M.1 40 + nSum (gS M) (M.1 33) ∧ tT D M
/-- a place of the reference's row (M) and of the class's (s) -/
def tP (D : zYd) (s M : zRs) (p : Nat) : Prop := s.2 1 p < D.1 0 ∧ s.2 2 p = nTime D.1 D.2.2.2.1 (s.2 1 p) p (s.1 1) ∧ M.2 24 p = s.2 1 p ∧ M.2 25 p = s.2 3 p ∧ M.2 26 p = (if s.2 3 p = 0 then 0 else s.2 4 p) ∧ M.2 27 p = s.2 5 p ∧ M.2 29 p = s.2 8 p ∧ M.2 30 p = s.2 9 p ∧ ∀ i, i < s.2 8 p → M.2 28 (30 * p + i) = s.2 6 (p * 30 + (s.2 7 p + i) % 30)
/-- the pails that come back -/
def tC (back : Nat) (s M : zRs) : Prop := (∀ i j, i ≤ j → j < M.1 38 → M.2 31 i ≤ M.2 31 j) ∧ (∀ i, i < M.1 38 → M.1 36 < M.2 31 i ∧ M.2 31 i ≤ M.1 36 + back) ∧ ∀ x, x < 100 → s.2 10 x = cnt (M.2 31) x (M.1 38)
def tN (s M : zRs) : Prop := M.1 33 = s.1 1 ∧ M.1 35 = s.1 14 ∧ M.1 36 = s.1 12 ∧ M.1 37 = s.1 13 ∧ M.1 39 = s.1 15 ∧ M.1 40 = s.1 17 ∧ M.1 41 = s.1 18 ∧ M.1 42 = s.1 16
def tR (D : zYd) (s M : zRs) : Prop := tN s M ∧ (∀ p, p < s.1 1 → tP D s M p) ∧ tC (D.1 11) s M ∧ tE D M
theorem tR_away {D : zYd} {s M : zRs} (h : tR D s M) : M.1 38 = nSum (s.2 10) 100 := by
  rw [nSum_c 100 (fun j hj => h.2.2.1.2.2 j hj), cnt_s]
def tmDe (M : zRs) (k : Nat) : zRs := (M.1, uu M.2 25 (un (M.2 25) k (M.2 25 k - 1)))
theorem tR_de {D : zYd} {s M : zRs} {k : Nat} (h : tR D s M) (hk : k < s.1 1) (hr : 2 ≤ s.2 3 k) : tR D (cDec s k) (tmDe M k) := by
  obtain ⟨h1, h2, h3, h4⟩ := h
  refine ⟨h1, fun p hp => ?_, h3, h4⟩
  obtain ⟨a1, a2, a3, a4, a5, a6, a7, a8, a9⟩ := h2 p hp
  refine ⟨a1, a2, a3, ?_, ?_, a6, a7, a8, a9⟩
  · show un (M.2 25) k (M.2 25 k - 1) p = un (s.2 3) k (s.2 3 k - 1) p
    by_cases e : p = k
    · subst e; rw [un_s, un_s, a4]
    · rw [un_n e, un_n e, a4]
  · show M.2 26 p = if un (s.2 3) k (s.2 3 k - 1) p = 0 then 0 else s.2 4 p
    rw [a5]
    by_cases e : p = k
    · subst e; rw [un_s, if_neg (by omega), if_neg (by omega)]
    · rw [un_n e]
theorem un_2 {f : Nat → Nat} {k x y j : Nat} (h : j = k → x = y) : un f k x j = un f k y j := by
  by_cases e : j = k
  · rw [h e]
  · rw [un_n e, un_n e]
set_option maxRecDepth 10000 in
theorem tR_fi {D : zYd} {s M : zRs} {P t k : Nat} (hD : yI D) (h : tR D s M) (hI : cIn P t (k + 1) s) (hP : P ≤ 30) (hk : k < s.1 1) (hr : s.2 3 k = 1) : tR D (cFin (D.1 11) (D.1 10) (cDec s k) k) (tmFi (D.1 11) (D.1 10) (tmDe M k) k) := by
  have haw := tR_away h
  obtain ⟨⟨n33, n35, n36, n37, n39, n40, n41, n42⟩, h2, ⟨c1, c2, c3⟩, h4⟩ := h
  obtain ⟨i1, i2, i3, i4, i5, i6, i7, i8⟩ := hI
  have h11 := hD.2.2.2.2.2.2.2.2.2.2.2.2.2.2.2.1
  have h10 := hD.2.2.2.2.2.2.2.2.2.2.2.2.2.2.1
  obtain ⟨k1, k2, k3, k4, k5, k6, k7, k8, k9⟩ := h2 k hk
  rw [if_neg (by omega)] at k5
  have hbz : bz (s.2 3) k = 1 := if_neg (by omega)
  have hb := nSum_le (f := bz (s.2 3)) (k := k) (s.1 1) hk
  have h8k := i2 k (by omega)
  unfold cPails at i8
  unfold cFin tmFi
  by_cases e1 : k = s.1 1 - 1
  · rw [if_pos (show k = (cDec s k).1 1 - 1 from e1), if_pos (show k = (tmDe M k).1 33 - 1 by show k = M.1 33 - 1; rw [n33]; exact e1)]
    refine ⟨⟨n33, n35, n36, n37, ?_, n40, ?_, n42⟩, fun p hp => ?_, ⟨fun i j hij hj => ?_, fun i hi => ?_, fun x hx => ?_⟩, ?_⟩
    · show M.1 39 + M.2 26 k = s.1 15 + s.2 4 k
      rw [n39, k5]
    · show M.1 41 + 1 = s.1 18 + 1
      rw [n41]
    · obtain ⟨a1, a2, a3, a4, a5, a6, a7, a8, a9⟩ := h2 p hp
      refine ⟨a1, a2, a3, ?_, ?_, ?_, a7, a8, a9⟩
      · show un (M.2 25) k (M.2 25 k - 1) p = un (s.2 3) k (s.2 3 k - 1) p
        by_cases e : p = k
        · subst e; rw [un_s, un_s, a4]
        · rw [un_n e, un_n e, a4]
      · show un (M.2 26) k 0 p = if un (s.2 3) k (s.2 3 k - 1) p = 0 then 0 else s.2 4 p
        by_cases e : p = k
        · subst e; rw [un_s, un_s, if_pos (by omega)]
        · rw [un_n e, un_n e, a5]
      · show un (M.2 27) k (M.2 27 k + 1) p = un (s.2 5) k (s.2 5 k + 1) p
        by_cases e : p = k
        · subst e; rw [un_s, un_s, a6]
        · rw [un_n e, un_n e, a6]
    · have hj : j < M.1 38 + 1 := hj
      show un (M.2 31) (M.1 38) (M.1 36 + D.1 11) i ≤ un (M.2 31) (M.1 38) (M.1 36 + D.1 11) j
      by_cases ej : j = M.1 38
      · rw [ej, un_s]
        by_cases ei : i = M.1 38
        · rw [ei, un_s]; exact Nat.le_refl _
        · rw [un_n ei]; exact (c2 i (by omega)).2
      · rw [un_n ej, un_n (show i ≠ M.1 38 by omega)]
        exact c1 i j hij (by omega)
    · have hi : i < M.1 38 + 1 := hi
      show M.1 36 < un (M.2 31) (M.1 38) (M.1 36 + D.1 11) i ∧ un (M.2 31) (M.1 38) (M.1 36 + D.1 11) i ≤ M.1 36 + D.1 11
      by_cases ei : i = M.1 38
      · rw [ei, un_s]; omega
      · rw [un_n ei]; exact c2 i (by omega)
    · show un (s.2 10) ((s.1 12 + D.1 11) % 100) (s.2 10 ((s.1 12 + D.1 11) % 100) + 1) x = cnt (un (M.2 31) (M.1 38) (M.1 36 + D.1 11)) x (M.1 38) + (if un (M.2 31) (M.1 38) (M.1 36 + D.1 11) (M.1 38) % 100 = x then 1 else 0)
      rw [un_s, cnt_c (M.1 38) (fun j hj => un_n (show j ≠ M.1 38 by omega)), ← c3 x hx, n36]
      by_cases ex : (s.1 12 + D.1 11) % 100 = x
      · rw [if_pos ex, ex, un_s]
      · rw [if_neg ex, un_n (fun q => ex q.symm)]; rfl
    · refine ⟨?_, h4.2⟩
      show M.1 42 = M.1 39 + M.2 26 k + M.1 40 + nSum (gS (un (un (un M.1 38 (M.1 38 + 1)) 39 (M.1 39 + M.2 26 k)) 41 (M.1 41 + 1), uu (uu (uu (uu M.2 25 (un (M.2 25) k (M.2 25 k - 1))) 26 (un (M.2 26) k 0)) 27 (un (M.2 27) k (M.2 27 k + 1))) 31 (un (M.2 31) (M.1 38) (M.1 36 + D.1 11)))) (M.1 33)
      have h4 := h4.1
      rw [nSum_c (g := un (gS M) k (gS M k - M.2 26 k)) (M.1 33) (fun j hj => by
        show un (M.2 26) k 0 j + nSum (fun i => M.2 28 (30 * j + i)) (M.2 29 j) = _
        by_cases e : j = k
        · subst e; rw [un_s, un_s]; unfold gS; omega
        · rw [un_n e, un_n e]; rfl)]
      have hu := nSum_u (f := gS M) (k := k) (x := gS M k - M.2 26 k) (M.1 33) (by omega)
      have hg : M.2 26 k ≤ gS M k := Nat.le_add_right _ _
      omega
  · have hk1 : k + 1 < s.1 1 := by omega
    have hst := nSum_le (f := s.2 8) (k := k + 1) (s.1 1) hk1
    have h30 : s.2 8 (k + 1) < 30 := by omega
    obtain ⟨m1, m2, m3, m4, m5, m6, m7, m8, m9⟩ := h2 (k + 1) hk1
    have hv : s.2 4 k * D.1 10 / 100 ≤ s.2 4 k := by
      have h1 : s.2 4 k * D.1 10 ≤ s.2 4 k * 100 := Nat.mul_le_mul_left _ (by omega)
      omega
    rw [if_neg (show ¬ k = (cDec s k).1 1 - 1 from e1), if_neg (show ¬ 30 ≤ (cDec s k).2 8 (k + 1) by show ¬ 30 ≤ s.2 8 (k + 1); omega), if_neg (show ¬ k = (tmDe M k).1 33 - 1 by show ¬ k = M.1 33 - 1; rw [n33]; exact e1)]
    refine ⟨⟨n33, n35, n36, n37, n39, ?_, n41, n42⟩, fun p hp => ?_, ⟨c1, c2, c3⟩, ?_⟩
    · show M.1 40 + M.2 26 k * D.1 10 / 100 = s.1 17 + s.2 4 k * D.1 10 / 100
      rw [n40, k5]
    · obtain ⟨a1, a2, a3, a4, a5, a6, a7, a8, a9⟩ := h2 p hp
      have b8 := i2 p (by have hp : p < s.1 1 := hp; omega)
      refine ⟨a1, a2, a3, ?_, ?_, ?_, ?_, a8, fun i hi => ?_⟩
      · show un (M.2 25) k (M.2 25 k - 1) p = un (s.2 3) k (s.2 3 k - 1) p
        by_cases e : p = k
        · subst e; rw [un_s, un_s, a4]
        · rw [un_n e, un_n e, a4]
      · show un (M.2 26) k 0 p = if un (s.2 3) k (s.2 3 k - 1) p = 0 then 0 else s.2 4 p
        by_cases e : p = k
        · subst e; rw [un_s, un_s, if_pos (by omega)]
        · rw [un_n e, un_n e, a5]
      · show un (M.2 27) k (M.2 27 k + 1) p = un (s.2 5) k (s.2 5 k + 1) p
        by_cases e : p = k
        · subst e; rw [un_s, un_s, a6]
        · rw [un_n e, un_n e, a6]
      · show un (M.2 29) (k + 1) (M.2 29 (k + 1) + 1) p = un (s.2 8) (k + 1) (s.2 8 (k + 1) + 1) p
        by_cases e : p = k + 1
        · rw [e, un_s, un_s, m7]
        · rw [un_n e, un_n e, a7]
      · have hi : i < un (s.2 8) (k + 1) (s.2 8 (k + 1) + 1) p := hi
        show un (M.2 28) (30 * (k + 1) + M.2 29 (k + 1)) (M.2 26 k - M.2 26 k * D.1 10 / 100) (30 * p + i) = un (s.2 6) ((k + 1) * 30 + (s.2 7 (k + 1) + s.2 8 (k + 1)) % 30) (s.2 4 k - s.2 4 k * D.1 10 / 100) (p * 30 + (s.2 7 p + i) % 30)
        rw [m7, k5]
        by_cases e : p = k + 1
        · subst e
          rw [un_s] at hi
          by_cases ei : i = s.2 8 (k + 1)
          · rw [ei, un_s, un_s]
          · rw [un_n (by omega), un_n (by omega)]
            exact a9 i (by omega)
        · rw [un_n e] at hi
          rw [un_n (by omega), un_n (by omega)]
          exact a9 i hi
    · refine ⟨?_, h4.2⟩
      show M.1 42 = M.1 39 + (M.1 40 + M.2 26 k * D.1 10 / 100) + nSum (gS (tmLd (tmPu (un (tmDe M k).1 40 (M.1 40 + M.2 26 k * D.1 10 / 100), uu (tmDe M k).2 27 (un (M.2 27) k (M.2 27 k + 1))) (k + 1) (M.2 26 k - M.2 26 k * D.1 10 / 100)) k 0)) (M.1 33)
      have h4 := h4.1
      rw [nSum_c (g := un (un (gS M) k (gS M k - M.2 26 k)) (k + 1) (gS M (k + 1) + (M.2 26 k - M.2 26 k * D.1 10 / 100))) (M.1 33) (fun j hj => by
        show un (M.2 26) k 0 j + nSum (fun i => un (M.2 28) (30 * (k + 1) + M.2 29 (k + 1)) (M.2 26 k - M.2 26 k * D.1 10 / 100) (30 * j + i)) (un (M.2 29) (k + 1) (M.2 29 (k + 1) + 1) j) = _
        by_cases e : j = k + 1
        · subst e
          rw [un_s, un_s, un_n (show k + 1 ≠ k by omega)]
          show M.2 26 (k + 1) + (nSum (fun i => un (M.2 28) (30 * (k + 1) + M.2 29 (k + 1)) (M.2 26 k - M.2 26 k * D.1 10 / 100) (30 * (k + 1) + i)) (M.2 29 (k + 1)) + un (M.2 28) (30 * (k + 1) + M.2 29 (k + 1)) (M.2 26 k - M.2 26 k * D.1 10 / 100) (30 * (k + 1) + M.2 29 (k + 1))) = _
          rw [un_s, nSum_c (g := fun i => M.2 28 (30 * (k + 1) + i)) (M.2 29 (k + 1)) (fun i hi => un_n (by omega))]
          unfold gS
          omega
        · have hj2 : M.2 29 j = s.2 8 j := (h2 j (by omega)).2.2.2.2.2.2.1
          have hj3 := i2 j (by omega)
          rw [un_n e, un_n e, nSum_c (g := fun i => M.2 28 (30 * j + i)) (M.2 29 j) (fun i hi => un_n (by omega))]
          by_cases e2 : j = k
          · subst e2; rw [un_s, un_s]; unfold gS; omega
          · rw [un_n e2, un_n e2]; rfl)]
      have hu := nSum_u (f := un (gS M) k (gS M k - M.2 26 k)) (k := k + 1) (x := gS M (k + 1) + (M.2 26 k - M.2 26 k * D.1 10 / 100)) (M.1 33) (by omega)
      rw [un_n (show k + 1 ≠ k by omega)] at hu
      have hu2 := nSum_u (f := gS M) (k := k) (x := gS M k - M.2 26 k) (M.1 33) (by omega)
      have hg : M.2 26 k ≤ gS M k := Nat.le_add_right _ _
      rw [k5] at hu hu2 hg ⊢
      omega
