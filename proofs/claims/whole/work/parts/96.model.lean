/-! ===== the reference: a plan read ===== -/
section
variable {b : Nat → Nat} {n L q e : Nat} {D : zYd} {τ : zTk} {tk : Nat} {P : zPl}
theorem pThs_s (h0 : ¬ τ.1 = 0) (h : (mTd b n L D e τ tk P).1 = 0) : pThs b n L D (q + 1) e τ tk P = pThs b n L D q (nxt b n L τ).2.2.2.1 (mTd b n L D e τ tk P).2.1 (mTd b n L D e τ tk P).2.2.1 (mTd b n L D e τ tk P).2.2.2 := by
  by_cases h1 : τ.2.2.2.2 = some 14
  · by_cases h2 : 20 ≤ P.1
    · rw [mTd_4 h1 h2] at h; exact absurd (show (4 : Nat) = 0 from h) (by decide)
    · by_cases h3 : tNu (nxt b n L τ) e 59 = 0
      · rw [pThs, if_neg h0, if_neg (fun z => z h1), if_neg h2, if_neg (fun z => z h3)]
        rw [mTd_t h1 h2 h3 rfl] at h ⊢
        by_cases h4 : (pThing b n L D (nxt b n L (nxt b n L τ)) (nxt b n L τ).2.2.2.1 (pWt P (nxt b n L τ).2.2.2.1)).1 = 0
        · rw [if_neg (fun z => z h4)] at h
          by_cases h5 : tAt (pThing b n L D (nxt b n L (nxt b n L τ)) (nxt b n L τ).2.2.2.1 (pWt P (nxt b n L τ).2.2.2.1)).2.1 59 = true
          · simp [h4, h5]
          · rw [if_neg h5] at h; exact absurd (show (1 : Nat) = 0 from h) (by decide)
        · rw [if_pos h4] at h; exact absurd h h4
      · rw [mTd_n h1 h2 h3] at h; exact absurd h h3
  · rw [mTd_1 h1] at h; exact absurd (show (1 : Nat) = 0 from h) (by decide)
theorem pThs_f (h0 : ¬ τ.1 = 0) (h : ¬ (mTd b n L D e τ tk P).1 = 0) : pThs b n L D (q + 1) e τ tk P = mTd b n L D e τ tk P := by
  by_cases h1 : τ.2.2.2.2 = some 14
  · by_cases h2 : 20 ≤ P.1
    · rw [pThs, if_neg h0, if_neg (fun z => z h1), if_pos h2, mTd_4 h1 h2]
    · by_cases h3 : tNu (nxt b n L τ) e 59 = 0
      · rw [pThs, if_neg h0, if_neg (fun z => z h1), if_neg h2, if_neg (fun z => z h3)]
        rw [mTd_t h1 h2 h3 rfl] at h ⊢
        by_cases h4 : (pThing b n L D (nxt b n L (nxt b n L τ)) (nxt b n L τ).2.2.2.1 (pWt P (nxt b n L τ).2.2.2.1)).1 = 0
        · rw [if_neg (fun z => z h4)] at h
          by_cases h5 : tAt (pThing b n L D (nxt b n L (nxt b n L τ)) (nxt b n L τ).2.2.2.1 (pWt P (nxt b n L τ).2.2.2.1)).2.1 59 = true
          · rw [if_pos h5] at h; exact absurd rfl h
          · simp [h4, h5]
        · simp [h4]
      · rw [pThs, if_neg h0, if_neg (fun z => z h1), if_neg h2, if_pos h3, mTd_n h1 h2 h3]
  · rw [pThs, if_neg h0, if_pos h1, mTd_1 h1]
theorem pThs_0 (h0 : τ.1 = 0) (h : n ≤ L) : pThs b n L D (q + 1) e τ tk P = (0, τ, tk, P) := by
  rw [pThs, if_pos h0, if_pos (show tEn n L τ = true by rw [tEn, decide_eq_true h0, decide_eq_true h]; rfl)]
theorem pThs_1 (h0 : τ.1 = 0) (h : L < n) : pThs b n L D (q + 1) e τ tk P = (1, τ, tk, P) := by
  rw [pThs, if_pos h0, if_neg (show ¬ tEn n L τ = true by rw [tEn, decide_eq_true h0, decide_eq_false (show ¬ n ≤ L by omega)]; decide)]
/-- the minute of the thing that was told -/
theorem mTd_m (h : (mTd b n L D e τ tk P).1 = 0) : ∃ T : zPp, pThing b n L D (nxt b n L (nxt b n L τ)) (nxt b n L τ).2.2.2.1 (pWt P (nxt b n L τ).2.2.2.1) = T ∧ τ.2.2.2.2 = some 14 ∧ ¬ 20 ≤ P.1 ∧ tNu (nxt b n L τ) e 59 = 0 ∧ T.1 = 0 ∧ mTd b n L D e τ tk P = (0, nxt b n L T.2.1, T.2.2.1, (P.1 + 1, T.2.2.2.2)) := by
  refine ⟨_, rfl, ?_⟩
  by_cases h1 : τ.2.2.2.2 = some 14
  · by_cases h2 : 20 ≤ P.1
    · rw [mTd_4 h1 h2] at h; exact absurd (show (4 : Nat) = 0 from h) (by decide)
    · by_cases h3 : tNu (nxt b n L τ) e 59 = 0
      · rw [mTd_t h1 h2 h3 rfl] at h ⊢
        by_cases h4 : (pThing b n L D (nxt b n L (nxt b n L τ)) (nxt b n L τ).2.2.2.1 (pWt P (nxt b n L τ).2.2.2.1)).1 = 0
        · rw [if_neg (fun z => z h4)] at h ⊢
          by_cases h5 : tAt (pThing b n L D (nxt b n L (nxt b n L τ)) (nxt b n L τ).2.2.2.1 (pWt P (nxt b n L τ).2.2.2.1)).2.1 59 = true
          · rw [if_pos h5]
            exact ⟨h1, h2, h3, h4, rfl⟩
          · rw [if_neg h5] at h; exact absurd (show (1 : Nat) = 0 from h) (by decide)
        · rw [if_pos h4] at h; exact absurd h h4
      · rw [mTd_n h1 h2 h3] at h; exact absurd h h3
  · rw [mTd_1 h1] at h; exact absurd (show (1 : Nat) = 0 from h) (by decide)
end
