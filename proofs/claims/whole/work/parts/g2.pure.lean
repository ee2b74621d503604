/-! ===== what reading keeps: what burns has wood; a plan's minutes, its aims ===== -/
/-- what burns is a cell of the barn, and has something to burn -/
def yX (D : zYd) : Prop := ∀ c, c < 64 → D.2.2.2.2.2.2.2 c = 1 → c < D.1 14 * D.1 15 ∧ 1 ≤ D.2.2.2.2.2.2.1 c
theorem yX.B {D : zYd} (h : yX D) (hC : D.1 14 ≤ 8) (hR : D.1 15 ≤ 8) : yB D := fun c hc hb => (h c (by have : D.1 14 * D.1 15 ≤ 64 := Nat.mul_le_mul hC hR; omega) hb).2
section
variable {b : Nat → Nat} {n L : Nat} {τ : zTk} {tk : Nat} {D : zYd}
theorem pBd_X {R : zPy} {f : zTk → Nat → zYd → zPy} (hR : yX R.2.2.2) (hf : ∀ τ v D', yX D' → yX (f τ v D').2.2.2) : yX (pBd R f).2.2.2 := by
  unfold pBd
  split
  · exact hf _ _ _ hR
  · exact hR
theorem pNu_X {lo hi : Nat} (h : yX D) : yX (pNu b n L lo hi τ tk D).2.2.2 := by
  unfold pNu
  split
  · exact h
  · exact h
theorem yX_u {k v : Nat} (h : yX D) (h1 : k ≠ 14) (h2 : k ≠ 15) : yX (un D.1 k v, D.2) := fun c hc hb => by
  have h3 := h c hc hb
  refine ⟨?_, h3.2⟩
  show c < un D.1 k v 14 * un D.1 k v 15
  rw [un_n (fun q => h1 q.symm), un_n (fun q => h2 q.symm)]
  exact h3.1
theorem pOnce_X {bit : Nat} (h : yX D) : yX (pOnce b n L bit τ tk D).2.2.2 := by
  unfold pOnce
  split
  · exact yX_u h (by decide) (by decide)
  · exact h
theorem pMan_X (h : yX D) : yX (pMan b n L τ tk D).2.2.2 := by
  unfold pMan
  split
  · exact h
  · split
    · exact h
    · split
      · exact h
      · refine pBd_X (pNu_X (D := (D.1, D.2.1, un D.2.2.1 (D.1 0) (nxt b n L τ).2.2.2.1, D.2.2.2)) h) (fun τ v E hE => pBd_X (pNu_X (D := (E.1, E.2.1, E.2.2.1, un E.2.2.2.1 (E.1 0) v, E.2.2.2.2)) hE) (fun τ v E hE => pBd_X (pNu_X (D := (E.1, E.2.1, E.2.2.1, E.2.2.2.1, un E.2.2.2.2.1 (E.1 0) v, E.2.2.2.2.2)) hE) (fun τ v E hE => yX_u (D := (E.1, E.2.1, E.2.2.1, E.2.2.2.1, E.2.2.2.2.1, un E.2.2.2.2.2.1 (E.1 0) v, E.2.2.2.2.2.2)) hE (by decide) (by decide))))
theorem pPails_X (h : yX D) : yX (pPails b n L τ tk D).2.2.2 := pBd_X (pNu_X h) (fun τ v E hE => pBd_X (pNu_X (yX_u hE (by decide) (by decide))) (fun τ v E hE => yX_u hE (by decide) (by decide)))
theorem pWell_X (h : yX D) : yX (pWell b n L τ tk D).2.2.2 := pBd_X (pNu_X h) (fun τ v E hE => pBd_X (pNu_X (yX_u hE (by decide) (by decide))) (fun τ v E hE => yX_u hE (by decide) (by decide)))
theorem pOne_X {bit lo hi fld : Nat} (h : yX D) (h1 : fld ≠ 14) (h2 : fld ≠ 15) : yX (pOne b n L bit lo hi fld τ tk D).2.2.2 := pBd_X (pOnce_X h) (fun τ v E hE => pBd_X (pNu_X hE) (fun τ v E hE => yX_u hE h1 h2))
theorem pWi_X (h : yX D) : yX (pWi b n L τ tk D).2.2.2 := by
  unfold pWi
  split
  · exact h
  · split
    · exact h
    · split
      · exact h
      · split
        · exact h
        · exact h
theorem dFu_lo {bg at0 : Nat} {fu : Nat → Nat} {c : Nat} (hc : c < at0) : ∀ k, dFu b bg at0 fu k c = fu c
  | 0 => rfl
  | k + 1 => (un_n (by omega)).trans (dFu_lo hc k)
theorem yX_c {w : Nat} {f : Nat → Nat} (h : yX D) (hw : D.1 15 = 0 ∨ w = D.1 14) (hf : ∀ c, c < D.1 15 * w → f c = D.2.2.2.2.2.2.1 c) : yX (un (un D.1 14 w) 15 (D.1 15 + 1), D.2.1, D.2.2.1, D.2.2.2.1, D.2.2.2.2.1, D.2.2.2.2.2.1, f, D.2.2.2.2.2.2.2) := fun c hc hb => by
  have h3 := h c hc hb
  rcases hw with hw | hw
  · rw [hw, Nat.mul_zero] at h3; omega
  · have h4 : c < D.1 15 * w := by rw [hw, Nat.mul_comm]; exact h3.1
    refine ⟨?_, by show 1 ≤ f c; rw [hf c h4]; exact h3.2⟩
    show c < w * (D.1 15 + 1)
    rw [Nat.mul_succ, Nat.mul_comm]
    omega
theorem pCells_X (h : yX D) : yX (pCells b n L τ tk D).2.2.2 := by
  unfold pCells
  split
  · exact h
  · split
    · exact h
    · split
      · exact h
      · split
        · rename_i h0
          exact yX_c h (Or.inl h0) (fun c hc => dFu_lo hc _)
        · split
          · rename_i h0
            exact yX_c h (Or.inr h0) (fun c hc => dFu_lo hc _)
          · exact h
theorem pBurn_X (h : yX D) : yX (pBurn b n L τ tk D).2.2.2 := by
  unfold pBurn
  split
  · exact h
  · rename_i hx
    split
    · exact h
    · split
      · exact h
      · rename_i hy
        split
        · exact h
        · rename_i hf
          split
          · exact h
          · intro c hc hb
            have hx2 : (nxt b n L τ).2.2.2.1 < D.1 14 := by
              have hx := Decidable.not_not.mp hx
              unfold tNuC at hx
              split at hx
              · split at hx
                · omega
                · omega
              · omega
            by_cases q : c = (nxt b n L (nxt b n L τ)).2.2.2.1 * D.1 14 + (nxt b n L τ).2.2.2.1
            · subst q
              exact ⟨yx_l hx2 (show (nxt b n L (nxt b n L τ)).2.2.2.1 < D.1 15 by omega), Nat.pos_of_ne_zero hf⟩
            · exact h c hc ((un_n q).symm.trans hb)
theorem pLine_X (h : yX D) : yX (pLine b n L τ tk D).2.2.2 := by
  unfold pLine
  split
  · exact h
  · split
    · exact pMan_X h
    · split
      · exact pCells_X h
      · split
        · exact pBurn_X h
        · split
          · exact pBd_X (pOnce_X h) (fun τ v E hE => pWi_X hE)
          · split
            · exact pBd_X (pOnce_X h) (fun τ v E hE => pPails_X hE)
            · split
              · exact pBd_X (pOnce_X h) (fun τ v E hE => pWell_X hE)
              · split
                · exact pOne_X h (by decide) (by decide)
                · split
                  · exact pOne_X h (by decide) (by decide)
                  · split
                    · exact pOne_X h (by decide) (by decide)
                    · split
                      · exact pOne_X h (by decide) (by decide)
                      · exact h
end
theorem pLines_X {b : Nat → Nat} {n L : Nat} : ∀ (q : Nat) (τ : zTk) (tk : Nat) (D : zYd) (i : Nat), yX D → yX (pLines b n L q τ tk D i).1.2.2.2
  | 0, τ, tk, D, i, h => by
    unfold pLines
    split
    · exact h
    · exact h
  | q + 1, τ, tk, D, i, h => by
    unfold pLines
    split
    · split
      · exact h
      · exact h
    · split
      · split
        · exact pLines_X q _ _ _ _ (pLine_X h)
        · exact pLine_X h
      · exact pLine_X h
theorem yX_clr {D : zYd} : yX (yClr D) := fun c hc hb => by
  have e : nCl (fun _ => 0) D.2.2.2.2.2.2.2 64 c = 0 := nCl_s hc
  have hb : nCl (fun _ => 0) D.2.2.2.2.2.2.2 64 c = 1 := hb
  omega
/-- a plan as it is read: its minutes do not go back, its aims may be told -/
def pXx (D : zYd) (e : Nat) (P : zPl) : Prop := pSo P ∧ (∀ i, i < P.1 → P.2.1 i ≤ e) ∧ pAi D P
section
variable {b : Nat → Nat} {n L : Nat} {D : zYd} {τ : zTk} {tk : Nat} {P : zPl}
theorem pAmP_3 (h : (pAmP b n L D τ tk P).1 = 0) : pTold (nI (D.1 14)) (nI (D.1 15)) (nI ((pAmP b n L D τ tk P).2.2.2.2.2.2.1 P.1)) = true := by
  unfold pAmP at h ⊢
  by_cases h1 : (nxt b n L τ).1 = 3 ∧ pTold (nI (D.1 14)) (nI (D.1 15)) (nI (nxt b n L τ).2.2.2.1) = false
  · rw [if_pos h1] at h; exact absurd h (show ¬ (2 : Nat) = 0 by decide)
  · rw [if_neg h1] at h ⊢
    by_cases h2 : tNu (nxt b n L τ) 0 2147483647 = 0
    · rw [if_pos h2]
      show pTold (nI (D.1 14)) (nI (D.1 15)) (nI (un P.2.2.2.1 P.1 (nxt b n L τ).2.2.2.1 P.1)) = true
      rw [un_s]
      cases q : pTold (nI (D.1 14)) (nI (D.1 15)) (nI (nxt b n L τ).2.2.2.1) with
      | true => rfl
      | false => exact absurd ⟨(tNu_r h2).1, q⟩ h1
    · rw [if_neg h2] at h; exact absurd h h2
theorem pThing_3 (hb : ∀ j, b j < 256) (hn : n ≤ 740) (hD : yI D) (hτ : tOK τ) (htk : tk ≤ 99999999) (hP : pGd P) (h : (pThing b n L D τ tk P).1 = 0) (hk : (pThing b n L D τ tk P).2.2.2.2.2.1 P.1 = 3) : pTold (nI (D.1 14)) (nI (D.1 15)) (nI ((pThing b n L D τ tk P).2.2.2.2.2.2.1 P.1)) = true := by
  unfold pThing at h hk ⊢
  by_cases h1 : τ.2.2.2.2 = some 15
  · rw [if_pos h1] at h hk
    have e := (pMs_I (L := L) (lst := 2) hb hn hD 13 0 (nxt b n L τ) (pWk P 0) rfl (nxt_OK hb hn) htk hP (fun i hi => absurd hi (Nat.not_lt_zero i))).2.1
    rw [e] at hk
    exact absurd ((un_s P.2.2.1 P.1 0).symm.trans hk) (by decide)
  · rw [if_neg h1] at h hk ⊢
    by_cases h2 : τ.2.2.2.2 = some 16
    · rw [if_pos h2] at h hk
      have e := (pMs_I (L := L) (lst := 1) hb hn hD 13 0 (nxt b n L τ) (pWk P 1) rfl (nxt_OK hb hn) htk hP (fun i hi => absurd hi (Nat.not_lt_zero i))).2.1
      rw [e] at hk
      exact absurd ((un_s P.2.2.1 P.1 1).symm.trans hk) (by decide)
    · rw [if_neg h2] at h hk ⊢
      by_cases h3 : τ.2.2.2.2 = some 18
      · rw [if_pos h3] at h hk ⊢
        exact pAmP_3 (P := pWk P 3) h
      · rw [if_neg h3] at h hk ⊢
        by_cases h4 : τ.2.2.2.2 = some 19
        · rw [if_pos h4] at h hk
          have e := (pGive_I (D := D) (τ := τ) (L := L) (tk := tk) (P := pWk P 4) hb hn htk hP).2.1
          rw [e] at hk
          exact absurd ((un_s P.2.2.1 P.1 4).symm.trans hk) (by decide)
        · rw [if_neg h4] at h hk ⊢
          by_cases h5 : τ.2.2.2.2 = some 17
          · rw [if_pos h5] at hk
            exact absurd ((un_s P.2.2.1 P.1 2).symm.trans hk) (by decide)
          · rw [if_neg h5] at h; exact absurd h (show ¬ (1 : Nat) = 0 by decide)
theorem pXx_s {e t : Nat} {τ' : zTk} {tk' : Nat} {Q : zPl} (h : pXx D e P) (he : e ≤ t) (hk : pKp τ' tk' (pWt P t) Q) (h3 : Q.2.2.1 P.1 = 3 → pTold (nI (D.1 14)) (nI (D.1 15)) (nI (Q.2.2.2.1 P.1)) = true) : pXx D t (P.1 + 1, Q.2) := by
  obtain ⟨a1, a2, a3⟩ := h
  obtain ⟨-, -, k1, k2, k3, -⟩ := hk
  have k2 : Q.2.1 = un P.2.1 P.1 t := k2
  have ht : ∀ i, i < P.1 + 1 → Q.2.1 i ≤ t := fun i hi => by
    rw [k2]
    by_cases q : i = P.1
    · rw [q, un_s]; exact Nat.le_refl _
    · rw [un_n q]; exact Nat.le_trans (a2 i (by omega)) he
  refine ⟨fun i j hij hj => ?_, ht, fun i hi hi3 => ?_⟩
  · have hj : j < P.1 + 1 := hj
    show Q.2.1 i ≤ Q.2.1 j
    by_cases q : j = P.1
    · rw [q, show Q.2.1 P.1 = t by rw [k2, un_s]]
      exact ht i (by omega)
    · rw [k2, un_n q, un_n (by omega)]
      exact a1 i j hij (by omega)
  · have hi : i < P.1 + 1 := hi
    by_cases q : i = P.1
    · subst q; exact h3 hi3
    · have k4 := k3 i q
      show pTold _ _ (nI (Q.2.2.2.1 i)) = true
      rw [k4.2]
      exact a3 i (by omega) (k4.1.symm.trans hi3)
end
theorem pThs_X {b : Nat → Nat} {n L : Nat} {D : zYd} (hb : ∀ j, b j < 256) (hn : n ≤ 740) (hD : yI D) : ∀ (q e : Nat) (τ : zTk) (tk : Nat) (P : zPl), tOK τ → tk ≤ 99999999 → pGd P → pXx D e P → (pThs b n L D q e τ tk P).1 = 0 → pSo (pThs b n L D q e τ tk P).2.2.2 ∧ pAi D (pThs b n L D q e τ tk P).2.2.2
  | 0, e, τ, tk, P, _, _, _, _, h => absurd h (by decide : ¬ (4 : Nat) = 0)
  | q + 1, e, τ, tk, P, hτ, htk, hP, hX, h => by
    unfold pThs at h ⊢
    split at h
    · rename_i c0
      rw [if_pos c0]
      split at h
      · rename_i c1; rw [if_pos c1]; exact ⟨hX.1, hX.2.2⟩
      · exact absurd h (by decide : ¬ (1 : Nat) = 0)
    · rename_i c0
      rw [if_neg c0]
      split at h
      · exact absurd h (by decide : ¬ (1 : Nat) = 0)
      · rename_i c1
        rw [if_neg c1]
        split at h
        · exact absurd h (by decide : ¬ (4 : Nat) = 0)
        · rename_i c2
          rw [if_neg c2]
          split at h
          · rename_i c3; exact absurd h c3
          · rename_i c3
            rw [if_neg c3]
            have c3 := Decidable.not_not.mp c3
            have hr := tNu_r c3
            have h8 := tNu_8 (τ := nxt b n L τ) (nxt_OK hb hn) c3
            have hT := pThing_I (L := L) (D := D) (P := pWt P (nxt b n L τ).2.2.2.1) hb hn hD (nxt_OK (L := L) (τ := nxt b n L τ) hb hn) h8 hP
            split at h
            · rename_i c4; exact absurd h c4
            · rename_i c4
              rw [if_neg c4]
              have c4 := Decidable.not_not.mp c4
              have hX2 := pXx_s (D := D) hX hr.2.1 hT.1 (pThing_3 (P := pWt P (nxt b n L τ).2.2.2.1) hb hn hD (nxt_OK (L := L) (τ := nxt b n L τ) hb hn) h8 hP c4)
              split at h
              · rename_i c5
                rw [if_pos c5]
                have hG : pGd (P.1 + 1, (pThing b n L D (nxt b n L (nxt b n L τ)) (nxt b n L τ).2.2.2.1 (pWt P (nxt b n L τ).2.2.2.1)).2.2.2.2) := ⟨hT.1.2.2.2.2.2.2.1, hT.1.2.2.2.2.2.2.2⟩
                exact pThs_X hb hn hD q _ _ _ _ (nxt_OK hb hn) hT.1.2.1 hG hX2 h
              · exact absurd h (by decide : ¬ (1 : Nat) = 0)
