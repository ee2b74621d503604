/-! ===== lines go on: each begins behind the one before ===== -/
/-- a token of the end, or one that begins behind the p-th byte -/
def mO (n L p : Nat) (τ : zTk) : Prop := tOK τ ∧ (τ.1 = 0 ∨ (p ≤ τ.2.1 ∧ τ.2.1 < τ.2.2.1 ∧ τ.2.1 < min n L))
def qM (n L p : Nat) (R : zPy) : Prop := R.1 = 0 → mO n L p R.2.1
section
variable {b : Nat → Nat} {n L p : Nat} {τ : zTk} {tk : Nat} {D : zYd}
theorem lTk_b {q e : Nat} : (lTk b q e).2.1 = q ∧ (lTk b q e).2.2.1 = e := by
  unfold lTk
  split
  · split <;> exact ⟨rfl, rfl⟩
  · split
    · split <;> exact ⟨rfl, rfl⟩
    · exact ⟨rfl, rfl⟩
theorem nxt_b (h : ¬ (nxt b n L τ).1 = 0) : τ.2.2.1 ≤ (nxt b n L τ).2.1 ∧ (nxt b n L τ).2.1 < (nxt b n L τ).2.2.1 ∧ (nxt b n L τ).2.1 < min n L := by
  have hs := (lSk_le (b := b) (st := min n L) (min n L - τ.2.2.1) τ.2.2.1).2
  unfold nxt at h ⊢
  generalize lSk b (min n L) (min n L - τ.2.2.1) τ.2.2.1 = q at h hs ⊢
  unfold lAt at h ⊢
  by_cases hq : min n L ≤ q
  · rw [if_pos hq] at h
    exact absurd rfl h
  · rw [if_neg hq]
    have hqn : q < n := by have := Nat.min_le_left n L; omega
    split
    · rename_i hl
      rw [lTk_b.1, lTk_b.2]
      exact ⟨hs, lRun_1 hqn (by rw [hl]; rfl), by omega⟩
    · split
      · rename_i hdg
        rw [lTk_b.1, lTk_b.2]
        exact ⟨hs, lRun_1 hqn (by rw [hdg, Bool.or_true]), by omega⟩
      · exact ⟨hs, Nat.lt_succ_self q, by show q < min n L; omega⟩
theorem mO_n (hb : ∀ j, b j < 256) (hn : n ≤ 740) (h : p ≤ τ.2.2.1) : mO n L p (nxt b n L τ) := by
  refine ⟨nxt_OK hb hn, ?_⟩
  by_cases h0 : (nxt b n L τ).1 = 0
  · exact Or.inl h0
  · have := nxt_b h0
    exact Or.inr ⟨by omega, this.2.1, this.2.2⟩
theorem mO_s (hb : ∀ j, b j < 256) (hn : n ≤ 740) (h : mO n L p τ) (h0 : ¬ τ.1 = 0) : mO n L p (nxt b n L τ) := by
  have h2 := h.2.resolve_left h0
  exact mO_n hb hn (by omega)
theorem qM_nu {lo hi : Nat} (hb : ∀ j, b j < 256) (hn : n ≤ 740) (h : mO n L p τ) : qM n L p (pNu b n L lo hi τ tk D) := by
  unfold pNu
  split
  · rename_i h1
    have := (tNu_r h1).1
    exact fun _ => mO_s hb hn h (by omega)
  · rename_i h1
    exact fun h2 => absurd h2 h1
theorem qM_bd {R : zPy} {f : zTk → Nat → zYd → zPy} (hR : qM n L p R) (hf : ∀ τ tk D, mO n L p τ → qM n L p (f τ tk D)) : qM n L p (pBd R f) := by
  unfold pBd
  split
  · rename_i h
    exact hf _ _ _ (hR h)
  · exact hR
theorem qM_e {k : Nat} {X : zTk × Nat × zYd} (hk : ¬ k = 0) : qM n L p (k, X) := fun h => absurd h hk
theorem qM_l (h : mO n L p τ) : qM n L p (0, τ, tk, D) := fun _ => h
theorem qM_on {bit : Nat} (hb : ∀ j, b j < 256) (hn : n ≤ 740) (h : p ≤ τ.2.2.1) : qM n L p (pOnce b n L bit τ tk D) := by
  unfold pOnce
  split
  · exact qM_l (mO_n hb hn h)
  · exact qM_e (by decide)
theorem mO_w {i : Nat} (hb : ∀ j, b j < 256) (hn : n ≤ 740) (h : mO n L p τ) (hw : τ.2.2.2.2 = some i) : mO n L p (nxt b n L τ) := mO_s hb hn h (by have := h.1.2.2.2.2.2.2.2.2 i hw; omega)
theorem qM_line (hb : ∀ j, b j < 256) (hn : n ≤ 740) (h : p ≤ τ.2.2.1) : qM n L p (pLine b n L τ tk D) := by
  have h1 : ∀ (bit lo hi fld : Nat), qM n L p (pOne b n L bit lo hi fld τ tk D) := fun bit lo hi fld => qM_bd (qM_on hb hn h) (fun τ tk D ho => qM_bd (qM_nu hb hn ho) (fun τ tk D ho => qM_l ho))
  have hT1 := mO_n (b := b) (n := n) (L := L) (τ := τ) hb hn h
  unfold pLine
  split
  · exact qM_e (by decide)
  · split
    · unfold pMan
      split
      · exact qM_e (by decide)
      · split
        · exact qM_e (by decide)
        · split
          · exact qM_e (by decide)
          · rename_i hnm _
            have hk : (nxt b n L τ).1 = 2 := (tNm_2 (by cases hq : tNm (nxt b n L τ) with | true => rfl | false => exact absurd hq hnm)).1
            exact qM_bd (qM_nu hb hn (mO_s hb hn hT1 (by omega))) (fun τ tk D ho => qM_bd (qM_nu hb hn ho) (fun τ tk D ho => qM_bd (qM_nu hb hn ho) (fun τ tk D ho => qM_l ho)))
    · split
      · unfold pCells
        split
        · exact qM_e (by decide)
        · split
          · exact qM_e (by decide)
          · rename_i hk
            have hk : (nxt b n L τ).1 = 3 := Decidable.byContradiction hk
            split
            · exact qM_e (by decide)
            · split
              · exact qM_l (mO_s hb hn hT1 (by omega))
              · split
                · exact qM_l (mO_s hb hn hT1 (by omega))
                · exact qM_e (by decide)
      · split
        · unfold pBurn
          split
          · rename_i h2
            exact qM_e h2
          · rename_i h2
            have hk := (tNuC_r (Decidable.byContradiction h2)).1
            have hT2 := mO_s (b := b) hb hn hT1 (by omega)
            split
            · exact qM_e (by decide)
            · rename_i hk2
              have hk2 : (nxt b n L (nxt b n L τ)).1 = 3 := Decidable.byContradiction hk2
              split
              · exact qM_e (by decide)
              · split
                · exact qM_e (by decide)
                · split
                  · exact qM_e (by decide)
                  · exact qM_l (mO_s hb hn hT2 (by omega))
        · split
          · refine qM_bd (qM_on hb hn h) (fun τ tk D ho => ?_)
            unfold pWi
            split
            · rename_i hw; exact qM_l (mO_w hb hn ho hw)
            · split
              · rename_i hw; exact qM_l (mO_w hb hn ho hw)
              · split
                · rename_i hw; exact qM_l (mO_w hb hn ho hw)
                · split
                  · rename_i hw; exact qM_l (mO_w hb hn ho hw)
                  · exact qM_e (by decide)
          · split
            · exact qM_bd (qM_on hb hn h) (fun τ tk D ho => qM_bd (qM_nu hb hn ho) (fun τ tk D ho => qM_bd (qM_nu hb hn ho) (fun τ tk D ho => qM_l ho)))
            · split
              · exact qM_bd (qM_on hb hn h) (fun τ tk D ho => qM_bd (qM_nu hb hn ho) (fun τ tk D ho => qM_bd (qM_nu hb hn ho) (fun τ tk D ho => qM_l ho)))
              · split
                · exact h1 _ _ _ _
                · split
                  · exact h1 _ _ _ _
                  · split
                    · exact h1 _ _ _ _
                    · split
                      · exact h1 _ _ _ _
                      · exact qM_e (by decide)
end
