/-! ===== the reference's runners and the class's ===== -/
/-- a runner of the reference (M) and of the class (s) -/
def uP (D : zYd) (s M : zRs) (p : Nat) : Prop := M.2 24 p < D.1 0 ∧ s.2 1 p = nUp (D.1 5) (D.2.2.2.2.1 (M.2 24 p)) ∧ M.2 25 p = s.2 3 p ∧ M.2 32 p = s.2 2 p ∧ (s.2 2 p = 1 ∨ s.2 2 p = 2 → M.2 26 p = s.2 4 p)
def uN (s M : zRs) : Prop := M.1 33 = s.1 1 ∧ M.1 35 = s.1 7 ∧ M.1 39 = s.1 8 ∧ M.1 42 = s.1 9
/-- who draws is one at most, and the well is taken then -/
def uW (s : zRs) : Prop := (∀ p q, p < s.1 1 → q < s.1 1 → s.2 2 p = 1 → s.2 2 q = 1 → p = q) ∧ (s.1 6 = 1 → ∃ p, p < s.1 1 ∧ s.2 2 p = 1) ∧ ((∃ p, p < s.1 1 ∧ s.2 2 p = 1) → s.1 6 = 1)
def uR (D : zYd) (s M : zRs) : Prop := uN s M ∧ (∀ p, p < s.1 1 → uP D s M p) ∧ uW s ∧ (s.1 7 ≤ 9999 ∧ tT D M) ∧ rI s
theorem uR_b {D : zYd} {s M : zRs} {k : Nat} (h : uR D s M) (hk : k < s.1 1) : (M.1 33 = s.1 1 ∧ M.1 33 ≤ 12) ∧ M.2 24 k < D.1 0 ∧ M.2 25 k = s.2 3 k ∧ s.2 3 k ≤ 1000 ∧ M.2 32 k = s.2 2 k ∧ s.2 2 k ≤ 3 ∧ s.2 1 k ≤ 1000 ∧ M.1 35 = s.1 7 ∧ s.1 7 ≤ 9999 ∧ s.2 4 k ≤ 20 ∧ s.1 6 ≤ 1 := by
  obtain ⟨⟨n33, n35, n39, n42⟩, h2, h3, h7, hI⟩ := h
  have h12 := hI.1
  obtain ⟨a1, a2, a3, a4, a5⟩ := h2 k hk
  have hb := hI.2.1 k (by omega)
  exact ⟨⟨n33, by omega⟩, a1, a3, hb.2.2.1, a4, hb.2.1, hb.1, n35, h7.1, hb.2.2.2, hI.2.2.1⟩
theorem uR_de {D : zYd} {s M : zRs} {k : Nat} (h : uR D s M) (hk : k < s.1 1) : uR D (rDec s k) (tmDe M k) := by
  obtain ⟨h1, h2, h3, h7, hI⟩ := h
  have h12 := hI.1
  refine ⟨h1, fun p hp => ?_, h3, h7, rI_dec hI (by omega)⟩
  obtain ⟨a1, a2, a3, a4, a5⟩ := h2 p hp
  refine ⟨a1, a2, ?_, a4, a5⟩
  show un (M.2 25) k (M.2 25 k - 1) p = un (s.2 3) k (s.2 3 k - 1) p
  by_cases e : p = k
  · subst e; rw [un_s, un_s, a3]
  · rw [un_n e, un_n e, a3]
theorem un_u (f : Nat → Nat) (k a b : Nat) : un (un f k a) k b = un f k b := by
  funext j
  unfold un
  split <;> rfl
/-- a runner's road ends: he was drawing -/
theorem uR_f1 {D : zYd} {s M : zRs} {k : Nat} (h : uR D s M) (hk : k < s.1 1) (hd : s.2 2 k = 1) : uR D (rFin (rDec s k) k) (M.1, uu (uu M.2 25 (un (un (M.2 25) k (M.2 25 k - 1)) k (nUp (D.1 5) (D.2.2.2.2.1 (M.2 24 k))))) 32 (un (M.2 32) k 2)) := by
  have hI2 := rI_fin (i := k) (rI_dec (i := k) h.2.2.2.2 (by have := h.2.2.2.2.1; omega)) (by have := h.2.2.2.2.1; omega)
  obtain ⟨h1, h2, ⟨w1, w2, w3⟩, h7, hI⟩ := h
  have hf : rFin (rDec s k) k = (un s.1 6 0, uu (uu (rDec s k).2 2 (un (s.2 2) k 2)) 3 (un ((rDec s k).2 3) k (s.2 1 k))) := if_pos hd
  rw [hf] at hI2 ⊢
  have hne : ∀ p, p < s.1 1 → ¬ un (s.2 2) k 2 p = 1 := fun p hp q => by
    by_cases e : p = k
    · rw [e, un_s] at q; exact absurd q (by decide)
    · rw [un_n e] at q; exact e (w1 p k hp hk q hd)
  refine ⟨h1, fun p hp => ?_, ⟨fun p q hp hq e1 e2 => absurd e1 (hne p hp), fun q => absurd (show (0 : Nat) = 1 from q) (by decide), fun ⟨p, hp, q⟩ => absurd q (hne p hp)⟩, h7, hI2⟩
  obtain ⟨a1, a2, a3, a4, a5⟩ := h2 p hp
  refine ⟨a1, a2, ?_, ?_, ?_⟩
  · show un (un (M.2 25) k (M.2 25 k - 1)) k (nUp (D.1 5) (D.2.2.2.2.1 (M.2 24 k))) p = un (un (s.2 3) k (s.2 3 k - 1)) k (s.2 1 k) p
    rw [un_u, un_u]
    by_cases e : p = k
    · subst e; rw [un_s, un_s, a2]
    · rw [un_n e, un_n e, a3]
  · show un (M.2 32) k 2 p = un (s.2 2) k 2 p
    by_cases e : p = k
    · rw [e, un_s, un_s]
    · rw [un_n e, un_n e, a4]
  · show un (s.2 2) k 2 p = 1 ∨ un (s.2 2) k 2 p = 2 → M.2 26 p = s.2 4 p
    by_cases e : p = k
    · subst e; exact fun _ => a5 (Or.inl hd)
    · rw [un_n e]; exact a5
/-- he was going -/
theorem uR_f2 {D : zYd} {s M : zRs} {k : Nat} (h : uR D s M) (hk : k < s.1 1) (hd : s.2 2 k = 2) : uR D (rFin (rDec s k) k) (un M.1 39 (M.1 39 + (M.2 26 k + 1) / 2), uu (uu M.2 25 (un (un (M.2 25) k (M.2 25 k - 1)) k (nUp (D.1 5) (D.2.2.2.2.1 (M.2 24 k))))) 32 (un (M.2 32) k 3)) := by
  have hI2 := rI_fin (i := k) (rI_dec (i := k) h.2.2.2.2 (by have := h.2.2.2.2.1; omega)) (by have := h.2.2.2.2.1; omega)
  obtain ⟨⟨n33, n35, n39, n42⟩, h2, ⟨w1, w2, w3⟩, h7, hI⟩ := h
  have hf : rFin (rDec s k) k = (un s.1 8 (s.1 8 + nUp (s.2 4 k) 2), uu (uu (uu (rDec s k).2 4 (un (s.2 4) k 0)) 2 (un (s.2 2) k 3)) 3 (un ((rDec s k).2 3) k (s.2 1 k))) := by
    unfold rFin
    rw [if_neg (show ¬ (rDec s k).2 2 k = 1 by show ¬ s.2 2 k = 1; omega), if_pos (show (rDec s k).2 2 k = 2 from hd)]
    rfl
  rw [hf] at hI2 ⊢
  have hu : ∀ p, ¬ p = k → un (s.2 2) k 3 p = s.2 2 p := fun p e => un_n e
  have hk3 : un (s.2 2) k 3 k = 3 := un_s _ _ _
  have hiff : ∀ p, un (s.2 2) k 3 p = 1 ↔ s.2 2 p = 1 := fun p => by
    by_cases e : p = k
    · subst e; rw [hk3]; omega
    · rw [hu p e]
  refine ⟨⟨n33, n35, ?_, n42⟩, fun p hp => ?_, ⟨fun p q hp hq e1 e2 => w1 p q hp hq ((hiff p).mp e1) ((hiff q).mp e2), fun q => ?_, fun ⟨p, hp, q⟩ => w3 ⟨p, hp, (hiff p).mp q⟩⟩, h7, hI2⟩
  · show M.1 39 + (M.2 26 k + 1) / 2 = s.1 8 + nUp (s.2 4 k) 2
    rw [n39, (h2 k hk).2.2.2.2 (Or.inr hd)]
    rfl
  · obtain ⟨a1, a2, a3, a4, a5⟩ := h2 p hp
    refine ⟨a1, a2, ?_, ?_, ?_⟩
    · show un (un (M.2 25) k (M.2 25 k - 1)) k (nUp (D.1 5) (D.2.2.2.2.1 (M.2 24 k))) p = un (un (s.2 3) k (s.2 3 k - 1)) k (s.2 1 k) p
      rw [un_u, un_u]
      by_cases e : p = k
      · subst e; rw [un_s, un_s, a2]
      · rw [un_n e, un_n e, a3]
    · show un (M.2 32) k 3 p = un (s.2 2) k 3 p
      by_cases e : p = k
      · rw [e, un_s, un_s]
      · rw [un_n e, un_n e, a4]
    · show un (s.2 2) k 3 p = 1 ∨ un (s.2 2) k 3 p = 2 → M.2 26 p = un (s.2 4) k 0 p
      by_cases e : p = k
      · subst e; rw [hk3]; intro q; omega
      · rw [un_n e, un_n e]; exact a5
  · obtain ⟨p, hp, e⟩ := w2 q
    exact ⟨p, hp, (hiff p).mpr e⟩
/-- he was coming back, or waits -/
theorem uR_f3 {D : zYd} {s M : zRs} {k : Nat} (h : uR D s M) (hk : k < s.1 1) (hd1 : ¬ s.2 2 k = 1) (hd2 : ¬ s.2 2 k = 2) : uR D (rFin (rDec s k) k) (M.1, uu (uu M.2 25 (un (M.2 25) k (M.2 25 k - 1))) 32 (un (M.2 32) k 0)) := by
  have hI2 := rI_fin (i := k) (rI_dec (i := k) h.2.2.2.2 (by have := h.2.2.2.2.1; omega)) (by have := h.2.2.2.2.1; omega)
  obtain ⟨h1, h2, ⟨w1, w2, w3⟩, h7, hI⟩ := h
  have hf : rFin (rDec s k) k = (s.1, uu (rDec s k).2 2 (un (s.2 2) k 0)) := by
    unfold rFin
    rw [if_neg (show ¬ (rDec s k).2 2 k = 1 from hd1), if_neg (show ¬ (rDec s k).2 2 k = 2 from hd2)]
    rfl
  rw [hf] at hI2 ⊢
  have hk0 : un (s.2 2) k 0 k = 0 := un_s _ _ _
  have hiff : ∀ p, un (s.2 2) k 0 p = 1 ↔ s.2 2 p = 1 := fun p => by
    by_cases e : p = k
    · subst e; rw [hk0]; omega
    · rw [un_n e]
  refine ⟨h1, fun p hp => ?_, ⟨fun p q hp hq e1 e2 => w1 p q hp hq ((hiff p).mp e1) ((hiff q).mp e2), fun q => ?_, fun ⟨p, hp, q⟩ => w3 ⟨p, hp, (hiff p).mp q⟩⟩, h7, hI2⟩
  · obtain ⟨a1, a2, a3, a4, a5⟩ := h2 p hp
    refine ⟨a1, a2, ?_, ?_, ?_⟩
    · show un (M.2 25) k (M.2 25 k - 1) p = un (s.2 3) k (s.2 3 k - 1) p
      by_cases e : p = k
      · subst e; rw [un_s, un_s, a3]
      · rw [un_n e, un_n e, a3]
    · show un (M.2 32) k 0 p = un (s.2 2) k 0 p
      by_cases e : p = k
      · rw [e, un_s, un_s]
      · rw [un_n e, un_n e, a4]
    · show un (s.2 2) k 0 p = 1 ∨ un (s.2 2) k 0 p = 2 → M.2 26 p = s.2 4 p
      by_cases e : p = k
      · subst e; rw [hk0]; intro q; omega
      · rw [un_n e]; exact a5
  · obtain ⟨p, hp, e⟩ := w2 q
    exact ⟨p, hp, (hiff p).mpr e⟩
/-- he draws -/
def tmB (D : zYd) (M : zRs) (k : Nat) : zRs := ((tmDr (D.1 7) M).1, uu (uu (uu (tmDr (D.1 7) M).2 25 (un ((tmDr (D.1 7) M).2 25) k (D.1 8))) 26 (un ((tmDr (D.1 7) M).2 26) k (tV (D.1 7) M))) 32 (un ((tmDr (D.1 7) M).2 32) k 1))
theorem uR_dr {D : zYd} {s M : zRs} {k : Nat} (hD : yI D) (h : uR D s M) (hk : k < s.1 1) (h0 : s.2 2 k = 0) (h6 : s.1 6 = 0) (hw : ¬ s.1 7 = 0) : uR D (rB (D.1 7) (D.1 8) s k) (tmB D M k) := by
  have hI2 := rI_b (hold := D.1 7) (draw := D.1 8) (i := k) h.2.2.2.2 hD.2.2.2.2.2.2.2.2.2.2.2.1.2 (by have := hD.2.2.2.2.2.2.2.2.2.2.2.2.1.2; omega)
  obtain ⟨⟨n33, n35, n39, n42⟩, h2, ⟨w1, w2, w3⟩, h7, hI⟩ := h
  have hv : tV (D.1 7) M = min (D.1 7) (s.1 7) := by
    unfold tV
    rw [n35]
    by_cases q : s.1 7 < D.1 7
    · rw [if_pos q, Nat.min_eq_right (by omega)]
    · rw [if_neg q, Nat.min_eq_left (by omega)]
  have hf : rB (D.1 7) (D.1 8) s k = (un (un (un s.1 6 1) 7 (s.1 7 - min (D.1 7) (s.1 7))) 9 (s.1 9 + min (D.1 7) (s.1 7)), uu (uu (uu s.2 4 (un (s.2 4) k (min (D.1 7) (s.1 7)))) 2 (un (s.2 2) k 1)) 3 (un (s.2 3) k (D.1 8))) := by
    unfold rB
    rw [if_pos h0, if_pos h6, if_neg hw]
  rw [hf] at hI2 ⊢
  have hno : ∀ p, p < s.1 1 → ¬ s.2 2 p = 1 := fun p hp q => by have := w3 ⟨p, hp, q⟩; omega
  have hk1 : un (s.2 2) k 1 k = 1 := un_s _ _ _
  have hiff : ∀ p, p < s.1 1 → (un (s.2 2) k 1 p = 1 ↔ p = k) := fun p hp => by
    by_cases e : p = k
    · subst e; rw [hk1]; simp
    · rw [un_n e]; exact ⟨fun q => absurd q (hno p hp), fun q => absurd q e⟩
  refine ⟨⟨n33, ?_, n39, ?_⟩, fun p hp => ?_, ⟨fun p q hp hq e1 e2 => ((hiff p hp).mp e1).trans ((hiff q hq).mp e2).symm, fun _ => ⟨k, hk, hk1⟩, fun _ => rfl⟩, ?_, hI2⟩
  · show M.1 35 - tV (D.1 7) M = s.1 7 - min (D.1 7) (s.1 7)
    rw [hv, n35]
  · show M.1 42 + tV (D.1 7) M = s.1 9 + min (D.1 7) (s.1 7)
    rw [hv, n42]
  · obtain ⟨a1, a2, a3, a4, a5⟩ := h2 p hp
    refine ⟨a1, a2, ?_, ?_, ?_⟩
    · show un (M.2 25) k (D.1 8) p = un (s.2 3) k (D.1 8) p
      by_cases e : p = k
      · rw [e, un_s, un_s]
      · rw [un_n e, un_n e, a3]
    · show un (M.2 32) k 1 p = un (s.2 2) k 1 p
      by_cases e : p = k
      · rw [e, un_s, un_s]
      · rw [un_n e, un_n e, a4]
    · show un (s.2 2) k 1 p = 1 ∨ un (s.2 2) k 1 p = 2 → un (M.2 26) k (tV (D.1 7) M) p = un (s.2 4) k (min (D.1 7) (s.1 7)) p
      by_cases e : p = k
      · rw [e, un_s, un_s, un_s, hv]; exact fun _ => rfl
      · rw [un_n e, un_n e, un_n e]; exact a5
  · refine ⟨?_, h7.2⟩
    show s.1 7 - min (D.1 7) (s.1 7) ≤ 9999
    omega
/-- he doesn't -/
theorem uR_st {s : zRs} {hold draw k : Nat} (h : ¬ s.2 2 k = 0 ∨ s.1 7 = 0 ∨ ¬ s.1 6 = 0) : rB hold draw s k = s := by
  unfold rB
  by_cases h0 : s.2 2 k = 0
  · rw [if_pos h0]
    by_cases h6 : s.1 6 = 0
    · rw [if_pos h6, if_pos (by omega)]
    · rw [if_neg h6]
  · rw [if_neg h0]
/-- somebody draws -/
def uDn (M : zRs) (n : Nat) : Prop := ∃ p, p < n ∧ M.2 32 p = 1
theorem uR_dn {D : zYd} {s M : zRs} (h : uR D s M) : uDn M (s.1 1) ↔ s.1 6 = 1 := by
  obtain ⟨h1, h2, ⟨w1, w2, w3⟩, h7, hI⟩ := h
  refine ⟨fun ⟨p, hp, e⟩ => w3 ⟨p, hp, by rw [← (h2 p hp).2.2.2.1]; exact e⟩, fun q => ?_⟩
  obtain ⟨p, hp, e⟩ := w2 q
  exact ⟨p, hp, by rw [(h2 p hp).2.2.2.1]; exact e⟩
