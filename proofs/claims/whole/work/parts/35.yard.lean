/-! ===== a yard's text: what bounds the data; lines, the whole ===== -/
section
variable {b : Nat → Nat} {n L : Nat} {τ : zTk} {tk : Nat} {D : zYd}
theorem yI_18 {t : Nat} (h : yI D) (ht : t < 128) : yI (un D.1 18 t, D.2) := by
  obtain ⟨a1, a2, a3, a4, a5, a6, a7, a8, a9, a10, a11, a12, a13, a14, a15, a16, a17, a18, a19, a20⟩ := h
  exact ⟨a1, a2, a3, a4, a5, a6, ht, a8, a9, a10, a11, a12, a13, a14, a15, a16, a17, a18, a19, a20⟩
theorem pOnce_I {k : Nat} (h : yI D) (hk : k < 7) : yI (pOnce b n L (2 ^ k) τ tk D).2.2.2 := by
  unfold pOnce
  split
  · exact yI_18 h (nI_and7 (D.1 18) h.2.2.2.2.2.2.1 k hk).2.2
  · exact h
theorem pOnce_T {k : Nat} (hτ : tOK τ) (hb : ∀ j, b j < 256) (hn : n ≤ 740) : tOK (pOnce b n L k τ tk D).2.1 := by
  unfold pOnce
  split
  · exact nxt_OK hb hn
  · exact hτ
theorem pNu_D {lo hi : Nat} : (pNu b n L lo hi τ tk D).2.2.2 = D := by
  unfold pNu
  split <;> rfl
theorem pNu_T {lo hi : Nat} (hτ : tOK τ) (hb : ∀ j, b j < 256) (hn : n ≤ 740) : tOK (pNu b n L lo hi τ tk D).2.1 := by
  unfold pNu
  split
  · exact nxt_OK hb hn
  · exact hτ
/-- what a reader keeps -/
def pI (R : zPy) : Prop := tOK R.2.1 ∧ yI R.2.2.2
theorem pNu_B {lo hi : Nat} {f : zTk → Nat → zYd → zPy} (hb : ∀ j, b j < 256) (hn : n ≤ 740) (hτ : tOK τ) (hD : yI D) (hf : ∀ τ' v, tOK τ' → lo ≤ v → v ≤ hi → pI (f τ' v D)) : pI (pBd (pNu b n L lo hi τ tk D) f) := by
  by_cases h : tNu τ lo hi = 0
  · rw [pNu_bo h]
    have hr := tNu_r h
    exact hf _ _ (nxt_OK hb hn) hr.2.1 hr.2.2
  · rw [pNu_bn h]
    exact ⟨hτ, hD⟩
theorem pBd_I {R : zPy} {f : zTk → Nat → zYd → zPy} (hR : pI R) (hf : ∀ τ' v D', tOK τ' → yI D' → pI (f τ' v D')) : pI (pBd R f) := by
  unfold pBd
  split
  · exact hf _ _ _ hR.1 hR.2
  · exact hR
theorem yI_s5 (h : yI D) {v : Nat} (h1 : 10 ≤ v) (h2 : v ≤ 99) : yI (un D.1 5 v, D.2) := by
  obtain ⟨a1, a2, a3, a4, a5, a6, a7, a8, a9, a10, a11, a12, a13, a14, a15, a16, a17, a18, a19, a20⟩ := h
  exact ⟨a1, a2, a3, a4, a5, a6, a7, a8, a9, ⟨h1, h2⟩, a11, a12, a13, a14, a15, a16, a17, a18, a19, a20⟩
theorem yI_s6 (h : yI D) {v : Nat} (h1 : 1 ≤ v) (h2 : v ≤ 30) : yI (un D.1 6 v, D.2) := by
  obtain ⟨a1, a2, a3, a4, a5, a6, a7, a8, a9, a10, a11, a12, a13, a14, a15, a16, a17, a18, a19, a20⟩ := h
  exact ⟨a1, a2, a3, a4, a5, a6, a7, a8, a9, a10, ⟨h1, h2⟩, a12, a13, a14, a15, a16, a17, a18, a19, a20⟩
theorem yI_s7 (h : yI D) {v : Nat} (h1 : 1 ≤ v) (h2 : v ≤ 20) : yI (un D.1 7 v, D.2) := by
  obtain ⟨a1, a2, a3, a4, a5, a6, a7, a8, a9, a10, a11, a12, a13, a14, a15, a16, a17, a18, a19, a20⟩ := h
  exact ⟨a1, a2, a3, a4, a5, a6, a7, a8, a9, a10, a11, ⟨h1, h2⟩, a13, a14, a15, a16, a17, a18, a19, a20⟩
theorem yI_s8 (h : yI D) {v : Nat} (h1 : 1 ≤ v) (h2 : v ≤ 30) : yI (un D.1 8 v, D.2) := by
  obtain ⟨a1, a2, a3, a4, a5, a6, a7, a8, a9, a10, a11, a12, a13, a14, a15, a16, a17, a18, a19, a20⟩ := h
  exact ⟨a1, a2, a3, a4, a5, a6, a7, a8, a9, a10, a11, a12, ⟨h1, h2⟩, a14, a15, a16, a17, a18, a19, a20⟩
theorem yI_s9 (h : yI D) {v : Nat} (h2 : v ≤ 9999) : yI (un D.1 9 v, D.2) := by
  obtain ⟨a1, a2, a3, a4, a5, a6, a7, a8, a9, a10, a11, a12, a13, a14, a15, a16, a17, a18, a19, a20⟩ := h
  exact ⟨a1, a2, a3, a4, a5, a6, a7, a8, a9, a10, a11, a12, a13, h2, a15, a16, a17, a18, a19, a20⟩
theorem yI_s10 (h : yI D) {v : Nat} (h2 : v ≤ 99) : yI (un D.1 10 v, D.2) := by
  obtain ⟨a1, a2, a3, a4, a5, a6, a7, a8, a9, a10, a11, a12, a13, a14, a15, a16, a17, a18, a19, a20⟩ := h
  exact ⟨a1, a2, a3, a4, a5, a6, a7, a8, a9, a10, a11, a12, a13, a14, h2, a16, a17, a18, a19, a20⟩
theorem yI_s11 (h : yI D) {v : Nat} (h1 : 1 ≤ v) (h2 : v ≤ 99) : yI (un D.1 11 v, D.2) := by
  obtain ⟨a1, a2, a3, a4, a5, a6, a7, a8, a9, a10, a11, a12, a13, a14, a15, a16, a17, a18, a19, a20⟩ := h
  exact ⟨a1, a2, a3, a4, a5, a6, a7, a8, a9, a10, a11, a12, a13, a14, a15, ⟨h1, h2⟩, a17, a18, a19, a20⟩
theorem yI_s12 (h : yI D) {v : Nat} (h1 : 1 ≤ v) (h2 : v ≤ 9) : yI (un D.1 12 v, D.2) := by
  obtain ⟨a1, a2, a3, a4, a5, a6, a7, a8, a9, a10, a11, a12, a13, a14, a15, a16, a17, a18, a19, a20⟩ := h
  exact ⟨a1, a2, a3, a4, a5, a6, a7, a8, a9, a10, a11, a12, a13, a14, a15, a16, ⟨h1, h2⟩, a18, a19, a20⟩
theorem yI_wi (h : yI D) {w : Int32} (hw : w = -1 ∨ w = 0 ∨ w = 1 ∨ w = 2 ∨ w = 3) : yI (D.1, w, D.2.2) := by
  obtain ⟨a1, a2, a3, a4, a5, a6, a7, a8, a9, a10, a11, a12, a13, a14, a15, a16, a17, a18, a19, a20⟩ := h
  exact ⟨a1, a2, a3, a4, a5, a6, a7, a8, a9, a10, a11, a12, a13, a14, a15, a16, a17, hw, a19, a20⟩
theorem pPails_I (hb : ∀ j, b j < 256) (hn : n ≤ 740) (hτ : tOK τ) (hD : yI D) : pI (pPails b n L τ tk D) :=
  pNu_B hb hn hτ hD (fun _ _ h1 h2 h3 => pNu_B hb hn h1 (yI_s6 hD h2 h3) (fun _ _ g1 g2 g3 => ⟨g1, yI_s7 (yI_s6 hD h2 h3) g2 g3⟩))
theorem pWell_I (hb : ∀ j, b j < 256) (hn : n ≤ 740) (hτ : tOK τ) (hD : yI D) : pI (pWell b n L τ tk D) :=
  pNu_B hb hn hτ hD (fun _ _ h1 h2 h3 => pNu_B hb hn h1 (yI_s8 hD h2 h3) (fun _ _ g1 _ g3 => ⟨g1, yI_s9 (yI_s8 hD h2 h3) g3⟩))
theorem pWi_I (hb : ∀ j, b j < 256) (hn : n ≤ 740) (hτ : tOK τ) (hD : yI D) : pI (pWi b n L τ tk D) := by
  unfold pWi
  split
  · exact ⟨nxt_OK hb hn, yI_wi hD (Or.inr (Or.inl rfl))⟩
  · split
    · exact ⟨nxt_OK hb hn, yI_wi hD (Or.inr (Or.inr (Or.inl rfl)))⟩
    · split
      · exact ⟨nxt_OK hb hn, yI_wi hD (Or.inr (Or.inr (Or.inr (Or.inl rfl))))⟩
      · split
        · exact ⟨nxt_OK hb hn, yI_wi hD (Or.inr (Or.inr (Or.inr (Or.inr rfl))))⟩
        · exact ⟨hτ, hD⟩
theorem pOne_I {k lo hi fld : Nat} (hb : ∀ j, b j < 256) (hn : n ≤ 740) (hτ : tOK τ) (hD : yI D) (hk : k < 7) (hf : ∀ (D' : zYd) (v : Nat), yI D' → lo ≤ v → v ≤ hi → yI (un D'.1 fld v, D'.2)) : pI (pOne b n L (2 ^ k) lo hi fld τ tk D) :=
  pBd_I ⟨pOnce_T hτ hb hn, pOnce_I hD hk⟩ (fun _ _ D' h1 h2 => pNu_B hb hn h1 h2 (fun _ v g1 g2 g3 => ⟨g1, hf D' v h2 g2 g3⟩))
theorem yI_nm (h : yI D) {v : Nat} (hv : v < 400000000) : yI (D.1, D.2.1, un D.2.2.1 (D.1 0) v, D.2.2.2) := by
  obtain ⟨a1, a2, a3, a4, a5, a6, a7, a8, a9, a10, a11, a12, a13, a14, a15, a16, a17, a18, a19, a20⟩ := h
  exact ⟨a1, a2, a3, fun j => un_lt (a4 j) hv, a5, a6, a7, a8, a9, a10, a11, a12, a13, a14, a15, a16, a17, a18, a19, a20⟩
theorem yI_hd (h : yI D) {v : Nat} (hv : v ≤ 9) : yI (D.1, D.2.1, D.2.2.1, un D.2.2.2.1 (D.1 0) v, D.2.2.2.2) := by
  obtain ⟨a1, a2, a3, a4, a5, a6, a7, a8, a9, a10, a11, a12, a13, a14, a15, a16, a17, a18, a19, a20⟩ := h
  refine ⟨a1, a2, a3, a4, a5, a6, a7, fun j => ⟨un_le (a8 j).1 hv, (a8 j).2⟩, fun j hj => ⟨?_, (a9 j hj).2⟩, a10, a11, a12, a13, a14, a15, a16, a17, a18, a19, a20⟩
  show 1 ≤ un D.2.2.2.1 (D.1 0) v j
  rw [show un D.2.2.2.1 (D.1 0) v j = D.2.2.2.1 j from un_n (Nat.ne_of_lt hj)]
  exact (a9 j hj).1
theorem yI_pc (h : yI D) {v : Nat} (hv : v ≤ 9) : yI (D.1, D.2.1, D.2.2.1, D.2.2.2.1, un D.2.2.2.2.1 (D.1 0) v, D.2.2.2.2.2) := by
  obtain ⟨a1, a2, a3, a4, a5, a6, a7, a8, a9, a10, a11, a12, a13, a14, a15, a16, a17, a18, a19, a20⟩ := h
  refine ⟨a1, a2, a3, a4, a5, a6, a7, fun j => ⟨(a8 j).1, un_le (a8 j).2.1 hv, (a8 j).2.2⟩, fun j hj => ⟨(a9 j hj).1, ?_, (a9 j hj).2.2⟩, a10, a11, a12, a13, a14, a15, a16, a17, a18, a19, a20⟩
  show 1 ≤ un D.2.2.2.2.1 (D.1 0) v j
  rw [show un D.2.2.2.2.1 (D.1 0) v j = D.2.2.2.2.1 j from un_n (Nat.ne_of_lt hj)]
  exact (a9 j hj).2.1
theorem yI_man {D0 : zYd} (h0 : yI D0) (h12 : D0.1 0 < 12) {v1 v2 v3 v4 : Nat} (w1 : v1 < 400000000) (w2 : 1 ≤ v2 ∧ v2 ≤ 9) (w3 : 1 ≤ v3 ∧ v3 ≤ 9) (w4 : 1 ≤ v4 ∧ v4 ≤ 99) : yI (un D0.1 0 (D0.1 0 + 1), D0.2.1, un D0.2.2.1 (D0.1 0) v1, un D0.2.2.2.1 (D0.1 0) v2, un D0.2.2.2.2.1 (D0.1 0) v3, un D0.2.2.2.2.2.1 (D0.1 0) v4, D0.2.2.2.2.2.2) := by
  obtain ⟨a1, a2, a3, a4, a5, a6, a7, a8, a9, a10, a11, a12, a13, a14, a15, a16, a17, a18, a19, a20⟩ := h0
  refine ⟨h12, a2, a3, fun j => un_lt (a4 j) w1, a5, a6, a7, fun j => ⟨un_le (a8 j).1 w2.2, un_le (a8 j).2.1 w3.2, un_le (a8 j).2.2 w4.2⟩, fun j hj => ?_, a10, a11, a12, a13, a14, a15, a16, a17, a18, a19, a20⟩
  have hj : j < D0.1 0 + 1 := hj
  show 1 ≤ un D0.2.2.2.1 (D0.1 0) v2 j ∧ 1 ≤ un D0.2.2.2.2.1 (D0.1 0) v3 j ∧ 1 ≤ un D0.2.2.2.2.2.1 (D0.1 0) v4 j
  by_cases e : j = D0.1 0
  · rw [e, un_s, un_s, un_s]
    exact ⟨w2.1, w3.1, w4.1⟩
  · rw [un_n e, un_n e, un_n e]
    exact a9 j (by omega)
theorem pMan_I (hb : ∀ j, b j < 256) (hn : n ≤ 740) (hτ : tOK τ) (hD : yI D) : pI (pMan b n L τ tk D) := by
  unfold pMan
  split
  · exact ⟨hτ, hD⟩
  · rename_i h12
    split
    · exact ⟨nxt_OK hb hn, hD⟩
    · rename_i hname
      split
      · exact ⟨nxt_OK hb hn, hD⟩
      · have hname : tNm (nxt b n L τ) = true := by
          cases hq : tNm (nxt b n L τ)
          · exact absurd hq hname
          · rfl
        have hv := (nxt_OK (L := L) (τ := τ) hb hn).2.2.2.2.2.2.1 (tNm_2 hname).1
        have h1 := yI_nm hD hv
        refine pNu_B hb hn (nxt_OK hb hn) h1 (fun _ v1 g1 g2 g3 => ?_)
        have h2 := yI_hd h1 g3
        refine pNu_B hb hn g1 h2 (fun _ v2 k1 k2 k3 => ?_)
        have h3 := yI_pc h2 k3
        refine pNu_B hb hn k1 h3 (fun _ v3 m1 m2 m3 => ?_)
        exact ⟨m1, yI_man hD (by omega) hv ⟨g2, g3⟩ ⟨k2, k3⟩ ⟨m2, m3⟩⟩
theorem dFu_9 {bg at0 : Nat} {fu : Nat → Nat} (hf : ∀ j, fu j ≤ 9) : ∀ k, (∀ j, bg ≤ j → j < bg + k → b j ≤ 57) → ∀ j, dFu b bg at0 fu k j ≤ 9
  | 0, _, j => hf j
  | k + 1, h, j => un_le (dFu_9 hf k (fun i h1 h2 => h i h1 (by omega)) j) (by have := h (bg + k) (by omega) (by omega); omega)
theorem yI_cells (h : yI D) {len : Nat} {fu : Nat → Nat} (h15 : D.1 15 < 8) (h1 : 1 ≤ len) (h8 : len ≤ 8) (hf : ∀ j, fu j ≤ 9) : yI (un (un D.1 14 len) 15 (D.1 15 + 1), D.2.1, D.2.2.1, D.2.2.2.1, D.2.2.2.2.1, D.2.2.2.2.2.1, fu, D.2.2.2.2.2.2.2) := by
  obtain ⟨a1, a2, a3, a4, a5, a6, a7, a8, a9, a10, a11, a12, a13, a14, a15, a16, a17, a18, a19, a20⟩ := h
  exact ⟨a1, h8, h15, a4, hf, a6, a7, a8, a9, a10, a11, a12, a13, a14, a15, a16, a17, a18, fun e => absurd e (Nat.succ_ne_zero _), fun _ => h1⟩
theorem pCells_I (hb : ∀ j, b j < 256) (hn : n ≤ 740) (hτ : tOK τ) (hD : yI D) : pI (pCells b n L τ tk D) := by
  unfold pCells
  split
  · exact ⟨hτ, hD⟩
  · split
    · exact ⟨nxt_OK hb hn, hD⟩
    · rename_i h8 h3
      have h3 := Decidable.not_not.mp h3
      have hnum := nxt_num h3
      split
      · exact ⟨nxt_OK hb hn, hD⟩
      · have hfu := dFu_9 (b := b) (bg := (nxt b n L τ).2.1) (at0 := D.1 15 * ((nxt b n L τ).2.2.1 - (nxt b n L τ).2.1)) hD.2.2.2.2.1 ((nxt b n L τ).2.2.1 - (nxt b n L τ).2.1) (fun j h1 h2 => (hnum.2.1 j h1 (by omega)).2)
        split
        · exact ⟨nxt_OK hb hn, yI_cells hD (by omega) (by omega) (by omega) hfu⟩
        · split
          · exact ⟨nxt_OK hb hn, yI_cells hD (by omega) (by omega) (by omega) hfu⟩
          · exact ⟨nxt_OK hb hn, hD⟩
theorem yI_yb (h : yI D) {k : Nat} : yI (D.1, D.2.1, D.2.2.1, D.2.2.2.1, D.2.2.2.2.1, D.2.2.2.2.2.1, D.2.2.2.2.2.2.1, un D.2.2.2.2.2.2.2 k 1) := by
  obtain ⟨a1, a2, a3, a4, a5, a6, a7⟩ := h
  exact ⟨a1, a2, a3, a4, a5, fun j => un_le (a6 j) (Nat.le_refl 1), a7⟩
theorem pBurn_I (hb : ∀ j, b j < 256) (hn : n ≤ 740) (hτ : tOK τ) (hD : yI D) : pI (pBurn b n L τ tk D) := by
  unfold pBurn
  split
  · exact ⟨nxt_OK hb hn, hD⟩
  · split
    · exact ⟨nxt_OK hb hn, hD⟩
    · split
      · exact ⟨nxt_OK hb hn, hD⟩
      · split
        · exact ⟨nxt_OK hb hn, hD⟩
        · split
          · exact ⟨nxt_OK hb hn, hD⟩
          · exact ⟨nxt_OK hb hn, yI_yb hD⟩
theorem pLine_I (hb : ∀ j, b j < 256) (hn : n ≤ 740) (hτ : tOK τ) (hD : yI D) : pI (pLine b n L τ tk D) := by
  unfold pLine
  split
  · exact ⟨hτ, hD⟩
  · have hO : ∀ k, k < 7 → pI (pOnce b n L (2 ^ k) τ tk D) := fun k hk => ⟨pOnce_T hτ hb hn, pOnce_I hD hk⟩
    split
    · exact pMan_I hb hn hτ hD
    · split
      · exact pCells_I hb hn hτ hD
      · split
        · exact pBurn_I hb hn hτ hD
        · split
          · exact pBd_I (hO 0 (by decide)) (fun _ _ _ h1 h2 => pWi_I hb hn h1 h2)
          · split
            · exact pBd_I (hO 1 (by decide)) (fun _ _ _ h1 h2 => pPails_I hb hn h1 h2)
            · split
              · exact pBd_I (hO 2 (by decide)) (fun _ _ _ h1 h2 => pWell_I hb hn h1 h2)
              · split
                · exact pOne_I (k := 3) hb hn hτ hD (by decide) (fun _ _ h g1 g2 => yI_s5 h g1 g2)
                · split
                  · exact pOne_I (k := 4) hb hn hτ hD (by decide) (fun _ _ h _ g2 => yI_s10 h g2)
                  · split
                    · exact pOne_I (k := 5) hb hn hτ hD (by decide) (fun _ _ h g1 g2 => yI_s11 h g1 g2)
                    · split
                      · exact pOne_I (k := 6) hb hn hτ hD (by decide) (fun _ _ h g1 g2 => yI_s12 h g1 g2)
                      · exact ⟨hτ, hD⟩
end
theorem zSw_n : ∀ i, i < 29 → zSw.getD i 0 = nI (zSwN.getD i 0) ∧ zSwN.getD i 0 ≤ 10 := by decide
