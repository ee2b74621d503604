/-! ===== the reference's row and the class's: a man takes up a pail; a tick's begin; the heaps ===== -/
theorem tV_m {D : zYd} {s M : zRs} (h : M.1 35 = s.1 14) : tV (D.1 7) M = min (D.1 7) (s.1 14) := by
  unfold tV
  rw [h]
  by_cases q : s.1 14 < D.1 7
  · rw [if_pos q, Nat.min_eq_right (by omega)]
  · rw [if_neg q, Nat.min_eq_left (by omega)]
theorem tmLf_c {D : zYd} {s M : zRs} {k : Nat} (h : tP D s M k) (hn : M.1 33 = s.1 1) : tmLf D M k = cLf D.2.2.2.2.2.1 s k := by
  obtain ⟨a1, a2, a3, a4, a5, a6, a7, a8, a9⟩ := h
  unfold tmLf cLf
  rw [a3, a6, hn, ← a2]
  by_cases q : s.2 5 k < 10 * D.2.2.2.2.2.1 (s.2 1 k)
  · rw [if_pos q, if_pos q, Nat.mul_one]
  · rw [if_neg q, if_neg q, Nat.mul_comm]
set_option maxRecDepth 10000 in
theorem tR_ta {D : zYd} {s M : zRs} {P t k : Nat} (hD : yI D) (h : tR D s M) (hI : cIn P t k s) (hk : k < s.1 1) (h0 : s.2 3 k = 0) : tR D (cSta (D.1 7) D.2.2.2.2.2.1 s k) (tmTa D M k) := by
  obtain ⟨⟨n33, n35, n36, n37, n39, n40, n41, n42⟩, h2, hC, h4⟩ := h
  obtain ⟨i1, i2, i3, i4, i5, i6, i7, i8⟩ := hI
  have hL := tmLf_c (h2 k hk) n33
  obtain ⟨k1, k2, k3, k4, k5, k6, k7, k8, k9⟩ := h2 k hk
  rw [if_pos h0] at k5
  have hl1 : 1 ≤ cLf D.2.2.2.2.2.1 s k := by
    have := i7 k hk
    unfold cLf
    split <;> omega
  have h8k := i2 k (by omega)
  unfold cSta tmTa
  by_cases e0 : k = 0
  · rw [if_pos e0, if_pos e0, n37, n35]
    by_cases e1 : s.1 13 = 0
    · rw [if_pos e1, if_pos e1]
      exact ⟨⟨n33, n35, n36, n37, n39, n40, n41, n42⟩, h2, hC, h4⟩
    · rw [if_neg e1, if_neg e1]
      by_cases e2 : s.1 14 = 0
      · rw [if_pos e2, if_pos e2]
        exact ⟨⟨n33, n35, n36, n37, n39, n40, n41, n42⟩, h2, hC, h4⟩
      · rw [if_neg e2, if_neg e2]
        have hv := tV_m (D := D) n35
        have hv2 : tV (D.1 7) (un M.1 37 (s.1 13 - 1), M.2) = min (D.1 7) (s.1 14) := tV_m (D := D) (s := s) (M := (un M.1 37 (s.1 13 - 1), M.2)) n35
        refine ⟨⟨n33, ?_, n36, rfl, n39, n40, n41, ?_⟩, fun p hp => ?_, hC, ?_⟩
        · show M.1 35 - tV (D.1 7) (un M.1 37 (s.1 13 - 1), M.2) = s.1 14 - min (D.1 7) (s.1 14)
          rw [hv2, n35]
        · show M.1 42 + tV (D.1 7) (un M.1 37 (s.1 13 - 1), M.2) = s.1 16 + min (D.1 7) (s.1 14)
          rw [hv2, n42]
        · obtain ⟨a1, a2, a3, a4, a5, a6, a7, a8, a9⟩ := h2 p hp
          refine ⟨a1, a2, a3, ?_, ?_, a6, a7, a8, a9⟩
          · show un (M.2 25) k (tmLf D M k) p = un (s.2 3) k (cLf D.2.2.2.2.2.1 s k) p
            rw [hL]
            by_cases e : p = k
            · rw [e, un_s, un_s]
            · rw [un_n e, un_n e, a4]
          · show un (M.2 26) 0 (tV (D.1 7) M) p = if un (s.2 3) k (cLf D.2.2.2.2.2.1 s k) p = 0 then 0 else un (s.2 4) 0 (min (D.1 7) (s.1 14)) p
            rw [hv]
            by_cases e : p = k
            · rw [e, un_s, if_neg (by omega), e0, un_s, un_s]
            · rw [un_n (show p ≠ 0 by omega), un_n e, un_n (show p ≠ 0 by omega), a5]
        · refine ⟨?_, h4.2⟩
          show M.1 42 + tV (D.1 7) (un M.1 37 (s.1 13 - 1), M.2) = M.1 39 + M.1 40 + nSum (gS (tmRs (tmLd (tmDr (D.1 7) (un M.1 37 (s.1 13 - 1), M.2)) 0 (tV (D.1 7) M)) k (tmLf D M k))) (M.1 33)
          have h4 := h4.1
          rw [hv2, nSum_c (g := un (gS M) 0 (gS M 0 + min (D.1 7) (s.1 14))) (M.1 33) (fun j hj => by
            show un (M.2 26) 0 (tV (D.1 7) M) j + nSum (fun i => M.2 28 (30 * j + i)) (M.2 29 j) = _
            rw [hv]
            by_cases e : j = 0
            · subst e
              subst e0
              rw [un_s, un_s]
              unfold gS
              omega
            · rw [un_n e, un_n e]; rfl)]
          have hu := nSum_u (f := gS M) (k := 0) (x := gS M 0 + min (D.1 7) (s.1 14)) (M.1 33) (by omega)
          omega
  · rw [if_neg e0, if_neg e0, k7]
    by_cases e1 : s.2 8 k = 0
    · rw [if_pos e1, if_pos e1]
      exact ⟨⟨n33, n35, n36, n37, n39, n40, n41, n42⟩, h2, hC, h4⟩
    · rw [if_neg e1, if_neg e1]
      have hq0 : M.2 28 (30 * k) = s.2 6 (k * 30 + s.2 7 k) := by
        have := k9 0 (by omega)
        rw [show s.2 7 k + 0 = s.2 7 k from rfl, Nat.mod_eq_of_lt h8k.2.2.2.2.2.1] at this
        exact this
      refine ⟨⟨n33, n35, n36, n37, n39, n40, n41, n42⟩, fun p hp => ?_, hC, ?_⟩
      · obtain ⟨a1, a2, a3, a4, a5, a6, a7, a8, a9⟩ := h2 p hp
        have b8 := i2 p (by have hp : p < s.1 1 := hp; omega)
        refine ⟨a1, a2, a3, ?_, ?_, a6, ?_, a8, fun i hi => ?_⟩
        · show un (M.2 25) k (tmLf D M k) p = un (s.2 3) k (cLf D.2.2.2.2.2.1 s k) p
          rw [hL]
          by_cases e : p = k
          · rw [e, un_s, un_s]
          · rw [un_n e, un_n e, a4]
        · show un (M.2 26) k (M.2 28 (30 * k)) p = if un (s.2 3) k (cLf D.2.2.2.2.2.1 s k) p = 0 then 0 else un (s.2 4) k (s.2 6 (k * 30 + s.2 7 k)) p
          by_cases e : p = k
          · rw [e, un_s, un_s, if_neg (by omega), un_s, hq0]
          · rw [un_n e, un_n e, un_n e, a5]
        · show un (M.2 29) k (M.2 29 k - 1) p = un (s.2 8) k (s.2 8 k - 1) p
          by_cases e : p = k
          · rw [e, un_s, un_s, k7]
          · rw [un_n e, un_n e, a7]
        · have hi : i < un (s.2 8) k (s.2 8 k - 1) p := hi
          show shf (M.2 28) (30 * k) (M.2 29 k - 1) (30 * p + i) = s.2 6 (p * 30 + (un (s.2 7) k ((s.2 7 k + 1) % 30) p + i) % 30)
          by_cases e : p = k
          · subst e
            rw [un_s] at hi ⊢
            rw [shf, if_pos (by omega), show 30 * p + i + 1 = 30 * p + (i + 1) by omega, k9 (i + 1) (by omega)]
            exact congrArg (fun q => s.2 6 (p * 30 + q)) (by omega)
          · rw [un_n e] at hi ⊢
            rw [shf, if_neg (by omega)]
            exact a9 i hi
      · refine ⟨?_, h4.2⟩
        show M.1 42 = M.1 39 + M.1 40 + nSum (gS (tmRs (tmLd (tmSh M k) k (M.2 28 (30 * k))) k (tmLf D M k))) (M.1 33)
        have h4 := h4.1
        rw [h4]
        refine congrArg (M.1 39 + M.1 40 + ·) (nSum_c _ (fun j hj => ?_))
        show gS M j = un (M.2 26) k (M.2 28 (30 * k)) j + nSum (fun i => shf (M.2 28) (30 * k) (M.2 29 k - 1) (30 * j + i)) (un (M.2 29) k (M.2 29 k - 1) j)
        by_cases e : j = k
        · subst e
          rw [un_s, un_s]
          unfold gS
          rw [k5, Nat.zero_add]
          have hw1 : M.2 29 j = (M.2 29 j - 1) + 1 := by omega
          rw [nSum_c (f := fun i => shf (M.2 28) (30 * j) (M.2 29 j - 1) (30 * j + i)) (g := fun i => M.2 28 (30 * j + (i + 1))) (M.2 29 j - 1) (fun i hi => by
            show shf (M.2 28) (30 * j) (M.2 29 j - 1) (30 * j + i) = M.2 28 (30 * j + (i + 1))
            rw [shf, if_pos (by omega)]
            exact congrArg (M.2 28) (by omega))]
          have hf := nSum_f (f := fun i => M.2 28 (30 * j + i)) (M.2 29 j - 1)
          rw [← hw1] at hf
          exact hf
        · have hj2 : M.2 29 j = s.2 8 j := (h2 j (by omega)).2.2.2.2.2.2.1
          have hj3 := i2 j (by omega)
          rw [un_n e, un_n e]
          unfold gS
          refine congrArg (M.2 26 j + ·) (nSum_c _ (fun i hi => ?_))
          show M.2 28 (30 * j + i) = shf (M.2 28) (30 * k) (M.2 29 k - 1) (30 * j + i)
          rw [shf, if_neg (by omega)]
/-- within a tick's begin: some of the pails that come are back -/
def tJ (D : zYd) (s M : zRs) : Prop := (∀ i j, i ≤ j → j < M.1 38 → M.2 31 i ≤ M.2 31 j) ∧ (∀ i, i < M.1 38 → M.1 36 ≤ M.2 31 i ∧ M.2 31 i + 1 ≤ M.1 36 + D.1 11) ∧ M.1 37 + cnt (M.2 31) (M.1 36 % 100) (M.1 38) = s.1 13 ∧ (∀ x, x < 100 → ¬ x = M.1 36 % 100 → s.2 10 x = cnt (M.2 31) x (M.1 38)) ∧ s.2 10 (M.1 36 % 100) = 0 ∧ M.1 38 ≤ 30
def tN0 (s M : zRs) : Prop := M.1 33 = s.1 1 ∧ M.1 35 = s.1 14 ∧ M.1 36 = s.1 12 ∧ M.1 39 = s.1 15 ∧ M.1 40 = s.1 17 ∧ M.1 41 = s.1 18 ∧ M.1 42 = s.1 16
def tR0 (D : zYd) (s M : zRs) : Prop := tN0 s M ∧ (∀ p, p < s.1 1 → tP D s M p) ∧ tJ D s M ∧ tE D M
def tmUp (M : zRs) : zRs := (un M.1 36 (M.1 36 + 1), M.2)
theorem tR_up {D : zYd} {s M : zRs} {P t : Nat} (hD : yI D) (h : tR D s M) (hJ : cJ P t s) (hP : P ≤ 30) : tR0 D (cT0 s) (tmUp M) := by
  have haw := tR_away h
  obtain ⟨⟨n33, n35, n36, n37, n39, n40, n41, n42⟩, h2, ⟨c1, c2, c3⟩, h4⟩ := h
  have h8 := hJ.1.2.2.2.2.2.2.2
  unfold cPails at h8
  refine ⟨⟨n33, n35, by show M.1 36 + 1 = s.1 12 + 1; rw [n36], n39, n40, n41, n42⟩, h2, ⟨c1, fun i hi => ?_, ?_, fun x hx hxn => ?_, ?_, by show M.1 38 ≤ 30; omega⟩, h4⟩
  · have := c2 i hi
    show M.1 36 + 1 ≤ M.2 31 i ∧ M.2 31 i + 1 ≤ M.1 36 + 1 + D.1 11
    omega
  · show M.1 37 + cnt (M.2 31) ((M.1 36 + 1) % 100) (M.1 38) = s.1 13 + s.2 10 ((s.1 12 + 1) % 100)
    rw [← c3 _ (by omega), n37, n36]
  · have hxn : ¬ x = (M.1 36 + 1) % 100 := hxn
    show un (s.2 10) ((s.1 12 + 1) % 100) 0 x = cnt (M.2 31) x (M.1 38)
    rw [un_n (by rw [← n36]; exact hxn), c3 x hx]
  · show un (s.2 10) ((s.1 12 + 1) % 100) 0 ((M.1 36 + 1) % 100) = 0
    rw [n36, un_s]
/-- one pail is back -/
def tmRm (M : zRs) : zRs := (un (un M.1 37 (M.1 37 + 1)) 38 (M.1 38 - 1), uu M.2 31 (shf (M.2 31) 0 (M.1 38 - 1)))
theorem tR_rm {D : zYd} {s M : zRs} (h : tR0 D s M) (h0 : 0 < M.1 38) (h1 : M.2 31 0 ≤ M.1 36) : tR0 D s (tmRm M) := by
  obtain ⟨hn, h2, ⟨c1, c2, c3, c4, c5, c6⟩, h4⟩ := h
  have e0 : M.2 31 0 = M.1 36 := by have := (c2 0 h0).1; omega
  have hsh : ∀ i, i < M.1 38 - 1 → shf (M.2 31) 0 (M.1 38 - 1) i = M.2 31 (i + 1) := fun i hi => if_pos (by omega)
  have hcn : ∀ x, cnt (M.2 31) x (M.1 38) = (if M.1 36 % 100 = x then 1 else 0) + cnt (shf (M.2 31) 0 (M.1 38 - 1)) x (M.1 38 - 1) := fun x => by
    rw [cnt_c (f := shf (M.2 31) 0 (M.1 38 - 1)) (g := fun j => M.2 31 (j + 1)) (M.1 38 - 1) hsh, ← e0, ← cnt_f, show M.1 38 - 1 + 1 = M.1 38 by omega]
  refine ⟨hn, h2, ⟨fun i j hij hj => ?_, fun i hi => ?_, ?_, fun x hx hxn => ?_, c5, by show M.1 38 - 1 ≤ 30; omega⟩, h4⟩
  · have hj : j < M.1 38 - 1 := hj
    show shf (M.2 31) 0 (M.1 38 - 1) i ≤ shf (M.2 31) 0 (M.1 38 - 1) j
    rw [hsh i (by omega), hsh j hj]
    exact c1 _ _ (by omega) (by omega)
  · have hi : i < M.1 38 - 1 := hi
    show M.1 36 ≤ shf (M.2 31) 0 (M.1 38 - 1) i ∧ shf (M.2 31) 0 (M.1 38 - 1) i + 1 ≤ M.1 36 + D.1 11
    rw [hsh i hi]
    exact c2 _ (by omega)
  · show M.1 37 + 1 + cnt (shf (M.2 31) 0 (M.1 38 - 1)) (M.1 36 % 100) (M.1 38 - 1) = s.1 13
    have := hcn (M.1 36 % 100)
    rw [if_pos rfl] at this
    omega
  · show s.2 10 x = cnt (shf (M.2 31) 0 (M.1 38 - 1)) x (M.1 38 - 1)
    have hxn : ¬ x = M.1 36 % 100 := hxn
    have := hcn x
    rw [if_neg (fun q => hxn q.symm)] at this
    rw [c4 x hx hxn]
    omega
/-- none is back any more -/
theorem tR_be {D : zYd} {s M : zRs} (hD : yI D) (h : tR0 D s M) (h1 : 0 < M.1 38 → M.1 36 < M.2 31 0) : tR D s M := by
  have h11 := hD.2.2.2.2.2.2.2.2.2.2.2.2.2.2.2.1
  obtain ⟨⟨n33, n35, n36, n39, n40, n41, n42⟩, h2, ⟨c1, c2, c3, c4, c5, c6⟩, h4⟩ := h
  have hgt : ∀ i, i < M.1 38 → M.1 36 < M.2 31 i := fun i hi => Nat.lt_of_lt_of_le (h1 (by omega)) (c1 0 i (by omega) hi)
  have hc0 : cnt (M.2 31) (M.1 36 % 100) (M.1 38) = 0 := cnt_0 _ (fun j hj => by
    have := hgt j hj
    have := c2 j hj
    omega)
  refine ⟨⟨n33, n35, n36, by omega, n39, n40, n41, n42⟩, h2, ⟨c1, fun i hi => ⟨hgt i hi, by have := c2 i hi; omega⟩, fun x hx => ?_⟩, h4⟩
  by_cases e : x = M.1 36 % 100
  · rw [e, c5, hc0]
  · exact c4 x hx e
/-- the heaps -/
theorem tR_mo {D : zYd} {d M : zRs} {k : Nat} (hk : 1 ≤ k) (h : tR D (d.1, uu d.2 9 (cMo d k)) M) (hn : k < d.1 1) : (M.2 30 k < M.2 29 k → tR D (d.1, uu d.2 9 (cMo d (k + 1))) (M.1, uu M.2 30 (un (M.2 30) k (M.2 29 k)))) ∧ (¬ M.2 30 k < M.2 29 k → tR D (d.1, uu d.2 9 (cMo d (k + 1))) M) := by
  obtain ⟨h1, h2, h3, h4⟩ := h
  have ek : cMo d (k + 1) = un (cMo d k) k (max (d.2 9 k) (d.2 8 k)) := if_neg (by omega)
  have e9 : cMo d k k = d.2 9 k := cMo_ge d k k (Nat.le_refl _)
  obtain ⟨k1, k2, k3, k4, k5, k6, k7, k8, k9⟩ := h2 k hn
  have k8 : M.2 30 k = cMo d k k := k8
  have k7 : M.2 29 k = d.2 8 k := k7
  rw [ek]
  refine ⟨fun q => ⟨h1, fun p hp => ?_, h3, h4⟩, fun q => ⟨h1, fun p hp => ?_, h3, h4⟩⟩
  · obtain ⟨a1, a2, a3, a4, a5, a6, a7, a8, a9⟩ := h2 p hp
    refine ⟨a1, a2, a3, a4, a5, a6, a7, ?_, a9⟩
    show un (M.2 30) k (M.2 29 k) p = un (cMo d k) k (max (d.2 9 k) (d.2 8 k)) p
    by_cases e : p = k
    · rw [e, un_s, un_s]; omega
    · rw [un_n e, un_n e]; exact a8
  · obtain ⟨a1, a2, a3, a4, a5, a6, a7, a8, a9⟩ := h2 p hp
    refine ⟨a1, a2, a3, a4, a5, a6, a7, ?_, a9⟩
    show M.2 30 p = un (cMo d k) k (max (d.2 9 k) (d.2 8 k)) p
    by_cases e : p = k
    · rw [e, un_s]; omega
    · rw [un_n e]; exact a8
/-- a row begun -/
theorem tR_0 {D : zYd} {s M : zRs} (h1 : tN s M) (h2 : ∀ p, p < s.1 1 → tP D s M p) (h38 : M.1 38 = 0) (hr : ∀ x, x < 100 → s.2 10 x = 0) (h39 : M.1 39 = 0) (h40 : M.1 40 = 0) (h42 : M.1 42 = 0) (hg : ∀ p, p < s.1 1 → M.2 26 p = 0 ∧ M.2 29 p = 0) (hT : tT D M) : tR D s M := by
  refine ⟨h1, h2, ⟨fun i j _ hj => by omega, fun i hi => by omega, fun x hx => by rw [hr x hx, h38]; rfl⟩, ?_⟩
  refine ⟨?_, hT⟩
  rw [h39, h40, h42, nSum_c (g := fun _ => 0) (M.1 33) (fun j hj => by
    have := hg j (by have := h1.1; omega)
    unfold gS
    rw [this.1, this.2]
    rfl), nSum_0]
