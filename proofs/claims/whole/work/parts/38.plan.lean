/-! ===== a plan's text: what bounds the data; the whole ===== -/
/-- the thing that stands last fits the yard -/
def pEnt (D : zYd) (P : zPl) : Prop := P.2.2.1 P.1 ≤ 4 ∧ (P.2.2.1 P.1 = 0 → 2 ≤ P.2.2.2.1 P.1 ∧ P.2.2.2.1 P.1 ≤ 12) ∧ (P.2.2.1 P.1 = 1 → P.2.2.2.1 P.1 ≤ 12) ∧ (P.2.2.1 P.1 ≤ 1 → ∀ i, i < P.2.2.2.1 P.1 → P.2.2.2.2 (P.1 * 12 + i) < D.1 0) ∧ (P.2.2.1 P.1 = 4 → P.2.2.2.1 P.1 < D.1 14)
/-- what a reader of a thing keeps -/
def pKp (τ' : zTk) (tk' : Nat) (P Q : zPl) : Prop := tOK τ' ∧ tk' ≤ 99999999 ∧ Q.1 = P.1 ∧ Q.2.1 = P.2.1 ∧ (∀ j, j ≠ P.1 → Q.2.2.1 j = P.2.2.1 j ∧ Q.2.2.2.1 j = P.2.2.2.1 j) ∧ (∀ j, j < P.1 * 12 → Q.2.2.2.2 j = P.2.2.2.2 j) ∧ (∀ j, Q.2.2.2.2 j < 12) ∧ (∀ j, Q.2.2.2.1 j ≤ 99999999)
def pGd (P : zPl) : Prop := (∀ j, P.2.2.2.2 j < 12) ∧ (∀ j, P.2.2.2.1 j ≤ 99999999)
section
variable {b : Nat → Nat} {n L : Nat} {D : zYd} {τ : zTk} {tk : Nat} {P : zPl}
theorem pKp_r (hτ : tOK τ) (htk : tk ≤ 99999999) (hP : pGd P) : pKp τ tk P P := ⟨hτ, htk, rfl, rfl, fun _ _ => ⟨rfl, rfl⟩, fun _ _ => rfl, hP.1, hP.2⟩
theorem pKp_n {v : Nat} (hτ : tOK τ) (htk : tk ≤ 99999999) (hP : pGd P) (hv : v ≤ 99999999) : pKp τ tk P (pWn P v) := ⟨hτ, htk, rfl, rfl, fun j hj => ⟨rfl, un_n hj⟩, fun _ _ => rfl, hP.1, fun j => un_le (hP.2 j) hv⟩
theorem pKp_k {τ' : zTk} {tk' v : Nat} {Q : zPl} (h : pKp τ' tk' (pWk P v) Q) : pKp τ' tk' P Q := ⟨h.1, h.2.1, h.2.2.1, h.2.2.2.1, fun j hj => ⟨((h.2.2.2.2.1 j hj).1).trans (un_n hj), (h.2.2.2.2.1 j hj).2⟩, h.2.2.2.2.2⟩
theorem tNu_8 {lo hi : Nat} (hτ : tOK τ) (h : tNu τ lo hi = 0) : τ.2.2.2.1 ≤ 99999999 := hτ.2.2.2.2.1 (tNu_r h).1
theorem pMs_I (hb : ∀ j, b j < 256) (hn : n ≤ 740) (hD : yI D) {lst : Nat} : ∀ (q k : Nat) (τ : zTk) (P : zPl), k + q = 13 → tOK τ → tk ≤ 99999999 → pGd P → (∀ i, i < k → P.2.2.2.2 (P.1 * 12 + i) < D.1 0) →
    (pKp (pMs b n L D lst q k τ tk P).2.1 (pMs b n L D lst q k τ tk P).2.2.1 P (pMs b n L D lst q k τ tk P).2.2.2 ∧ (pMs b n L D lst q k τ tk P).2.2.2.2.2.1 = P.2.2.1 ∧
    ((pMs b n L D lst q k τ tk P).1 = 0 → lst ≤ (pMs b n L D lst q k τ tk P).2.2.2.2.2.2.1 P.1 ∧ (pMs b n L D lst q k τ tk P).2.2.2.2.2.2.1 P.1 ≤ 12 ∧ ∀ i, i < (pMs b n L D lst q k τ tk P).2.2.2.2.2.2.1 P.1 → (pMs b n L D lst q k τ tk P).2.2.2.2.2.2.2 (P.1 * 12 + i) < D.1 0))
  | 0, k, τ, P, hk, hτ, htk, hP, hm => ⟨pKp_r hτ htk hP, rfl, fun h => absurd (show (3 : Nat) = 0 from h) (by decide)⟩
  | q + 1, k, τ, P, hk, hτ, htk, hP, hm => by
    by_cases h1 : lst ≤ k ∧ tAt τ 59 = true
    · rw [pMs_e h1.1 h1.2]
      refine ⟨pKp_n hτ htk hP (by omega), rfl, fun _ => ?_⟩
      show lst ≤ un P.2.2.2.1 P.1 k P.1 ∧ un P.2.2.2.1 P.1 k P.1 ≤ 12 ∧ ∀ i, i < un P.2.2.2.1 P.1 k P.1 → _
      rw [un_s]
      exact ⟨h1.1, by omega, hm⟩
    · by_cases h2 : tNm τ = false
      · rw [pMs_1 h1 h2]
        exact ⟨pKp_r hτ htk hP, rfl, fun h => absurd (show (1 : Nat) = 0 from h) (by decide)⟩
      · cases hf : mFind D.2.2.1 τ.2.2.2.1 (D.1 0) 0 with
        | none =>
          rw [pMs_3 h1 h2 hf]
          exact ⟨pKp_r hτ htk hP, rfl, fun h => absurd (show (3 : Nat) = 0 from h) (by decide)⟩
        | some i =>
          by_cases h3 : 12 ≤ k
          · rw [pMs_4 h1 h2 hf h3]
            exact ⟨pKp_r hτ htk hP, rfl, fun h => absurd (show (3 : Nat) = 0 from h) (by decide)⟩
          · by_cases h4 : pSt P.2.2.2.2 (P.1 * 12) k i = true
            · rw [pMs_5 h1 h2 hf h3 h4]
              exact ⟨pKp_r hτ htk hP, rfl, fun h => absurd (show (3 : Nat) = 0 from h) (by decide)⟩
            · rw [pMs_s h1 h2 hf h3 h4]
              have hi := (mFind_lt _ _ _ hf).1
              have hd := hD.1
              have ih := pMs_I hb hn hD (lst := lst) q (k + 1) (nxt b n L τ) (pWm P k i) (by omega) (nxt_OK hb hn) htk ⟨fun j => un_lt (hP.1 j) (by omega), hP.2⟩ (fun j hj => by
                show un P.2.2.2.2 (P.1 * 12 + k) i (P.1 * 12 + j) < D.1 0
                by_cases hjk : j = k
                · rw [hjk, un_s]; omega
                · rw [un_n (by omega)]
                  exact hm j (by omega))
              refine ⟨⟨ih.1.1, ih.1.2.1, ih.1.2.2.1, ih.1.2.2.2.1, ih.1.2.2.2.2.1, fun j hj => (ih.1.2.2.2.2.2.1 j hj).trans (un_n (by omega)), ih.1.2.2.2.2.2.2⟩, ih.2.1, ih.2.2⟩
theorem pAmP_I (hb : ∀ j, b j < 256) (hn : n ≤ 740) (htk : tk ≤ 99999999) (hP : pGd P) : pKp (pAmP b n L D τ tk P).2.1 (pAmP b n L D τ tk P).2.2.1 P (pAmP b n L D τ tk P).2.2.2 ∧ (pAmP b n L D τ tk P).2.2.2.2.2.1 = P.2.2.1 := by
  unfold pAmP
  split
  · exact ⟨pKp_r (nxt_OK hb hn) htk hP, rfl⟩
  · split
    · rename_i h
      have h8 := tNu_8 (nxt_OK (L := L) (τ := τ) hb hn) h
      exact ⟨pKp_n (nxt_OK hb hn) h8 hP h8, rfl⟩
    · exact ⟨pKp_n (nxt_OK hb hn) htk hP htk, rfl⟩
theorem pGive_I (hb : ∀ j, b j < 256) (hn : n ≤ 740) (htk : tk ≤ 99999999) (hP : pGd P) : pKp (pGive b n L D τ tk P).2.1 (pGive b n L D τ tk P).2.2.1 P (pGive b n L D τ tk P).2.2.2 ∧ (pGive b n L D τ tk P).2.2.2.2.2.1 = P.2.2.1 ∧ ((pGive b n L D τ tk P).1 = 0 → (pGive b n L D τ tk P).2.2.2.2.2.2.1 P.1 < D.1 14) := by
  unfold pGive
  split
  · rename_i h
    have h8 := (nxt_OK (L := L) (τ := τ) hb hn).2.2.2.2.1 (tNuC_r h).1
    exact ⟨pKp_n (nxt_OK hb hn) h8 hP h8, rfl, fun _ => by
      show un P.2.2.2.1 P.1 _ P.1 < D.1 14
      rw [un_s]
      exact (tNuC_r h).2⟩
  · rename_i h
    exact ⟨pKp_n (nxt_OK hb hn) htk hP htk, rfl, fun h2 => absurd h2 h⟩
theorem pGd_k {v : Nat} (h : pGd P) : pGd (pWk P v) := h
theorem pThing_I (hb : ∀ j, b j < 256) (hn : n ≤ 740) (hD : yI D) (hτ : tOK τ) (htk : tk ≤ 99999999) (hP : pGd P) : pKp (pThing b n L D τ tk P).2.1 (pThing b n L D τ tk P).2.2.1 P (pThing b n L D τ tk P).2.2.2 ∧ ((pThing b n L D τ tk P).1 = 0 → pEnt D (pThing b n L D τ tk P).2.2.2) := by
  unfold pThing
  split
  · have h := pMs_I (b := b) (L := L) (tk := tk) hb hn hD (lst := 2) 13 0 (nxt b n L τ) (pWk P 0) rfl (nxt_OK hb hn) htk (pGd_k hP) (fun i hi => absurd hi (Nat.not_lt_zero i))
    generalize pMs b n L D 2 13 0 (nxt b n L τ) tk (pWk P 0) = R at h
    refine ⟨pKp_k h.1, fun h0 => ?_⟩
    have h2 := h.2.2 h0
    have hk : R.2.2.2.2.2.1 R.2.2.2.1 = 0 := by rw [h.1.2.2.1, h.2.1]; exact un_s _ _ _
    unfold pEnt
    rw [hk, h.1.2.2.1]
    exact ⟨by omega, fun _ => ⟨h2.1, h2.2.1⟩, fun h => absurd h (by decide), fun _ => h2.2.2, fun h => absurd h (by decide)⟩
  · split
    · have h := pMs_I (b := b) (L := L) (tk := tk) hb hn hD (lst := 1) 13 0 (nxt b n L τ) (pWk P 1) rfl (nxt_OK hb hn) htk (pGd_k hP) (fun i hi => absurd hi (Nat.not_lt_zero i))
      generalize pMs b n L D 1 13 0 (nxt b n L τ) tk (pWk P 1) = R at h
      refine ⟨pKp_k h.1, fun h0 => ?_⟩
      have h2 := h.2.2 h0
      have hk : R.2.2.2.2.2.1 R.2.2.2.1 = 1 := by rw [h.1.2.2.1, h.2.1]; exact un_s _ _ _
      unfold pEnt
      rw [hk, h.1.2.2.1]
      exact ⟨by omega, fun h => absurd h (by decide), fun _ => h2.2.1, fun _ => h2.2.2, fun h => absurd h (by decide)⟩
    · split
      · have h := pAmP_I (b := b) (n := n) (L := L) (D := D) (τ := τ) (tk := tk) (P := pWk P 3) hb hn htk (pGd_k hP)
        generalize pAmP b n L D τ tk (pWk P 3) = R at h
        refine ⟨pKp_k h.1, fun h0 => ?_⟩
        have hk : R.2.2.2.2.2.1 R.2.2.2.1 = 3 := by rw [h.1.2.2.1, h.2]; exact un_s _ _ _
        unfold pEnt
        rw [hk]
        exact ⟨by omega, fun h => absurd h (by decide), fun h => absurd h (by decide), fun h => absurd h (by decide), fun h => absurd h (by decide)⟩
      · split
        · have h := pGive_I (b := b) (n := n) (L := L) (D := D) (τ := τ) (tk := tk) (P := pWk P 4) hb hn htk (pGd_k hP)
          generalize pGive b n L D τ tk (pWk P 4) = R at h
          refine ⟨pKp_k h.1, fun h0 => ?_⟩
          have hk : R.2.2.2.2.2.1 R.2.2.2.1 = 4 := by rw [h.1.2.2.1, h.2.1]; exact un_s _ _ _
          unfold pEnt
          rw [hk, h.1.2.2.1]
          exact ⟨by omega, fun h => absurd h (by decide), fun h => absurd h (by decide), fun h => absurd h (by decide), fun _ => h.2.2 h0⟩
        · split
          · refine ⟨pKp_k (pKp_r (nxt_OK hb hn) htk (pGd_k hP)), fun _ => ?_⟩
            have hk : un P.2.2.1 P.1 2 P.1 = 2 := un_s _ _ _
            unfold pEnt
            show un P.2.2.1 P.1 2 P.1 ≤ 4 ∧ (un P.2.2.1 P.1 2 P.1 = 0 → _) ∧ (un P.2.2.1 P.1 2 P.1 = 1 → _) ∧ (un P.2.2.1 P.1 2 P.1 ≤ 1 → _) ∧ (un P.2.2.1 P.1 2 P.1 = 4 → _)
            rw [hk]
            exact ⟨by omega, fun h => absurd h (by decide), fun h => absurd h (by decide), fun h => absurd h (by decide), fun h => absurd h (by decide)⟩
          · exact ⟨pKp_r hτ htk hP, fun h => absurd (show (1 : Nat) = 0 from h) (by decide)⟩
/-- a plan's data fits the yard -/
def pFit (D : zYd) (P : zPl) : Prop := pOK (D.1 0) (D.1 14) P.1 P.2.1 P.2.2.1 P.2.2.2.1 P.2.2.2.2 ∧ pGd P
theorem pFit_s {t : Nat} {τ' : zTk} {tk' : Nat} {Q : zPl} (h : pFit D P) (ht : t ≤ 59) (h20 : P.1 < 20) (hk : pKp τ' tk' (pWt P t) Q) (he : pEnt D Q) : pFit D (P.1 + 1, Q.2) := by
  obtain ⟨h1, h2, h3, h4, h5, h6, h7, h8⟩ := hk
  refine ⟨⟨by omega, fun k hk => ?_⟩, h7, h8⟩
  have h3 : Q.1 = P.1 := h3
  have h4 : Q.2.1 = un P.2.1 P.1 t := h4
  by_cases hkp : k = P.1
  · rw [hkp, ← h3]
    refine ⟨?_, he.1, h8 _, he.2⟩
    show Q.2.1 Q.1 ≤ 60
    rw [h4, h3, un_s]
    omega
  · have hb := h.1.2 k (by have : k < P.1 + 1 := hk; omega)
    have h5 := h5 k hkp
    show Q.2.1 k ≤ 60 ∧ Q.2.2.1 k ≤ 4 ∧ Q.2.2.2.1 k ≤ 99999999 ∧ (Q.2.2.1 k = 0 → 2 ≤ Q.2.2.2.1 k ∧ Q.2.2.2.1 k ≤ 12) ∧ (Q.2.2.1 k = 1 → Q.2.2.2.1 k ≤ 12) ∧ (Q.2.2.1 k ≤ 1 → ∀ i, i < Q.2.2.2.1 k → Q.2.2.2.2 (k * 12 + i) < D.1 0) ∧ (Q.2.2.1 k = 4 → Q.2.2.2.1 k < D.1 14)
    rw [h4, un_n hkp, h5.1, h5.2]
    refine ⟨hb.1, hb.2.1, hb.2.2.1, hb.2.2.2.1, hb.2.2.2.2.1, fun hk1 i hi => ?_, hb.2.2.2.2.2.2⟩
    have hi12 : i < 12 := by
      by_cases h0 : P.2.2.1 k = 0
      · have := hb.2.2.2.1 h0
        have hi : i < P.2.2.2.1 k := hi
        omega
      · have hk1 : P.2.2.1 k ≤ 1 := hk1
        have := hb.2.2.2.2.1 (show P.2.2.1 k = 1 by omega)
        have hi : i < P.2.2.2.1 k := hi
        omega
    rw [h6 (k * 12 + i) (by have h3 : Q.1 = P.1 := h3; have : k < P.1 + 1 := hk; show k * 12 + i < P.1 * 12; omega)]
    exact hb.2.2.2.2.2.1 hk1 i hi
end
theorem dX4_read_0 : decode cX4_read 0 = .ok (.aload_n 0, 1) := by decide +kernel
theorem dX4_read_1 : decode cX4_read 1 = .ok (.invokevirtual 34, 3) := by decide +kernel
theorem dX4_read_4 : decode cX4_read 4 = .ok (.iconst 0, 1) := by decide +kernel
theorem dX4_read_5 : decode cX4_read 5 = .ok (.istore_n 3, 1) := by decide +kernel
theorem dX4_read_6 : decode cX4_read 6 = .ok (.iconst 0, 1) := by decide +kernel
theorem dX4_read_7 : decode cX4_read 7 = .ok (.istore 4, 2) := by decide +kernel
theorem dX4_read_9 : decode cX4_read 9 = .ok (.iload 4, 2) := by decide +kernel
theorem dX4_read_11 : decode cX4_read 11 = .ok (.bipush 20, 2) := by decide +kernel
theorem dX4_read_13 : decode cX4_read 13 = .ok (.if_icmp .gt 113, 3) := by decide +kernel
theorem dX4_read_16 : decode cX4_read 16 = .ok (.aload_n 1, 1) := by decide +kernel
theorem dX4_read_17 : decode cX4_read 17 = .ok (.getfield 37, 3) := by decide +kernel
theorem dX4_read_20 : decode cX4_read 20 = .ok (.ifCond .ne 8, 3) := by decide +kernel
theorem dX4_read_23 : decode cX4_read 23 = .ok (.aload_n 1, 1) := by decide +kernel
theorem dX4_read_24 : decode cX4_read 24 = .ok (.invokevirtual 41, 3) := by decide +kernel
theorem dX4_read_27 : decode cX4_read 27 = .ok (.ireturn, 1) := by decide +kernel
theorem dX4_read_28 : decode cX4_read 28 = .ok (.aload_n 1, 1) := by decide +kernel
theorem dX4_read_29 : decode cX4_read 29 = .ok (.getfield 45, 3) := by decide +kernel
theorem dX4_read_32 : decode cX4_read 32 = .ok (.getstatic 49, 3) := by decide +kernel
theorem dX4_read_35 : decode cX4_read 35 = .ok (.if_acmp .eq 9, 3) := by decide +kernel
theorem dX4_read_38 : decode cX4_read 38 = .ok (.aload_n 1, 1) := by decide +kernel
theorem dX4_read_39 : decode cX4_read 39 = .ok (.iconst 1, 1) := by decide +kernel
theorem dX4_read_40 : decode cX4_read 40 = .ok (.invokevirtual 54, 3) := by decide +kernel
theorem dX4_read_43 : decode cX4_read 43 = .ok (.ireturn, 1) := by decide +kernel
theorem dX4_read_44 : decode cX4_read 44 = .ok (.aload_n 0, 1) := by decide +kernel
theorem dX4_read_45 : decode cX4_read 45 = .ok (.getfield 24, 3) := by decide +kernel
theorem dX4_read_48 : decode cX4_read 48 = .ok (.bipush 20, 2) := by decide +kernel
theorem dX4_read_50 : decode cX4_read 50 = .ok (.if_icmp .lt 9, 3) := by decide +kernel
theorem dX4_read_53 : decode cX4_read 53 = .ok (.aload_n 1, 1) := by decide +kernel
theorem dX4_read_54 : decode cX4_read 54 = .ok (.iconst 4, 1) := by decide +kernel
theorem dX4_read_55 : decode cX4_read 55 = .ok (.invokevirtual 54, 3) := by decide +kernel
theorem dX4_read_58 : decode cX4_read 58 = .ok (.ireturn, 1) := by decide +kernel
theorem dX4_read_59 : decode cX4_read 59 = .ok (.aload_n 1, 1) := by decide +kernel
theorem dX4_read_60 : decode cX4_read 60 = .ok (.invokevirtual 58, 3) := by decide +kernel
theorem dX4_read_63 : decode cX4_read 63 = .ok (.aload_n 1, 1) := by decide +kernel
theorem dX4_read_64 : decode cX4_read 64 = .ok (.iload_n 3, 1) := by decide +kernel
theorem dX4_read_65 : decode cX4_read 65 = .ok (.bipush 59, 2) := by decide +kernel
theorem dX4_read_67 : decode cX4_read 67 = .ok (.invokevirtual 61, 3) := by decide +kernel
theorem dX4_read_70 : decode cX4_read 70 = .ok (.ifCond .ne 5, 3) := by decide +kernel
theorem dX4_read_73 : decode cX4_read 73 = .ok (.iconst 0, 1) := by decide +kernel
theorem dX4_read_74 : decode cX4_read 74 = .ok (.ireturn, 1) := by decide +kernel
theorem dX4_read_75 : decode cX4_read 75 = .ok (.aload_n 1, 1) := by decide +kernel
theorem dX4_read_76 : decode cX4_read 76 = .ok (.getfield 65, 3) := by decide +kernel
theorem dX4_read_79 : decode cX4_read 79 = .ok (.istore_n 3, 1) := by decide +kernel
theorem dX4_read_80 : decode cX4_read 80 = .ok (.aload_n 0, 1) := by decide +kernel
theorem dX4_read_81 : decode cX4_read 81 = .ok (.getfield 9, 3) := by decide +kernel
theorem dX4_read_84 : decode cX4_read 84 = .ok (.aload_n 0, 1) := by decide +kernel
theorem dX4_read_85 : decode cX4_read 85 = .ok (.getfield 24, 3) := by decide +kernel
theorem dX4_read_88 : decode cX4_read 88 = .ok (.iload_n 3, 1) := by decide +kernel
theorem dX4_read_89 : decode cX4_read 89 = .ok (.iastore, 1) := by decide +kernel
theorem dX4_read_90 : decode cX4_read 90 = .ok (.aload_n 0, 1) := by decide +kernel
theorem dX4_read_91 : decode cX4_read 91 = .ok (.aload_n 1, 1) := by decide +kernel
theorem dX4_read_92 : decode cX4_read 92 = .ok (.aload_n 2, 1) := by decide +kernel
theorem dX4_read_93 : decode cX4_read 93 = .ok (.invokevirtual 68, 3) := by decide +kernel
theorem dX4_read_96 : decode cX4_read 96 = .ok (.ifCond .eq 12, 3) := by decide +kernel
theorem dX4_read_99 : decode cX4_read 99 = .ok (.aload_n 1, 1) := by decide +kernel
theorem dX4_read_100 : decode cX4_read 100 = .ok (.bipush 59, 2) := by decide +kernel
theorem dX4_read_102 : decode cX4_read 102 = .ok (.invokevirtual 72, 3) := by decide +kernel
theorem dX4_read_105 : decode cX4_read 105 = .ok (.ifCond .ne 5, 3) := by decide +kernel
theorem dX4_read_108 : decode cX4_read 108 = .ok (.iconst 0, 1) := by decide +kernel
theorem dX4_read_109 : decode cX4_read 109 = .ok (.ireturn, 1) := by decide +kernel
theorem dX4_read_110 : decode cX4_read 110 = .ok (.aload_n 0, 1) := by decide +kernel
theorem dX4_read_111 : decode cX4_read 111 = .ok (.dup, 1) := by decide +kernel
theorem dX4_read_112 : decode cX4_read 112 = .ok (.getfield 24, 3) := by decide +kernel
theorem dX4_read_115 : decode cX4_read 115 = .ok (.iconst 1, 1) := by decide +kernel
theorem dX4_read_116 : decode cX4_read 116 = .ok (.iadd, 1) := by decide +kernel
theorem dX4_read_117 : decode cX4_read 117 = .ok (.putfield 24, 3) := by decide +kernel
theorem dX4_read_120 : decode cX4_read 120 = .ok (.iinc 4 1, 3) := by decide +kernel
theorem dX4_read_123 : decode cX4_read 123 = .ok (.goto (-114), 3) := by decide +kernel
theorem dX4_read_126 : decode cX4_read 126 = .ok (.aload_n 1, 1) := by decide +kernel
theorem dX4_read_127 : decode cX4_read 127 = .ok (.iconst 4, 1) := by decide +kernel
theorem dX4_read_128 : decode cX4_read 128 = .ok (.invokevirtual 54, 3) := by decide +kernel
theorem dX4_read_131 : decode cX4_read 131 = .ok (.ireturn, 1) := by decide +kernel
set_option maxRecDepth 100000 in
theorem lp_pread {l : Launch} {dd : Nat} {Po : zPo} {K0 : zK} {h0 : List va_E} {Xo : zK → Prop} {Gc : zG → Prop} (x b n L y p : Nat) (ay ap : Nat → Nat) (bt : Nat → Nat) (pl : Nat) (D : zYd) (hd : 7 ≤ dd) (hn : n ≤ 740) (hL : L ≤ 740) (hbt : ∀ j, bt j < 256) (hD : yI D) (G : zPp) (hP : ∀ r K', ((r = some (.int 1) ∧ G.1 = 0) ∨ (r = some (.int 0) ∧ ¬ G.1 = 0)) ∧ K' = kTx x b n L bt G.2.1 G.1 (if G.1 = 0 then pl else G.2.1.2.1) G.2.2.1 ++ kYd y ay D ++ kPl p ap G.2.2.2 → Po r K') : ∀ (q i e : Nat) (τ : zTk) (tk : Nat) (P : zPl), i + q = 21 → e ≤ 59 → tOK τ → tk ≤ 99999999 → pFit D P → pThs bt n L D q e τ tk P = G → zS (l, mX4_read, dd, Po, K0, h0, Xo, Gc) 0 0 9 [(0, .ref p), (1, .ref x), (2, .ref y), (3, .int (nI e)), (4, .int (nI i))] [] [(x, .inr (8, fTx b n L τ 0 pl (nI tk))), (b, .inl (0, 740, .inl (nF bt))), (y, .inr (9, fYard ay (ysN D.1 D.2.1))), (ay 1, .inl (0, 12, .inl (nF D.2.2.1))), (ay 2, .inl (0, 12, .inl (nF D.2.2.2.1))), (ay 3, .inl (0, 12, .inl (nF D.2.2.2.2.1))), (ay 4, .inl (0, 12, .inl (nF D.2.2.2.2.2.1))), (ay 5, .inl (0, 64, .inl (nF D.2.2.2.2.2.2.1))), (ay 6, .inl (1, 64, .inl (nF D.2.2.2.2.2.2.2))), (p, .inr (3, fPlan ap P.1)), (ap 1, .inl (0, 20, .inl (nF P.2.1))), (ap 2, .inl (0, 20, .inl (nF P.2.2.1))), (ap 3, .inl (0, 20, .inl (nF P.2.2.2.1))), (ap 4, .inl (0, 240, .inl (nF P.2.2.2.2)))] := by
  intro q
  induction q with
  | zero =>
    intro i e τ tk P hi he hτ htk hF hG
    refine zs_iload dX4_read_9 rfl ?_
    refine zs_bipush (v := nI 20) dX4_read_11 (by decide) ?_
    refine zs_icmp_gt (tgt := 126) dX4_read_13 (by decide) (fun c_1 => ?_) (fun c_1 => (c_1 (by rw [nI_lt' (by omega) (by omega)]; omega) : False).elim)
    refine zs_aload_n dX4_read_126 rfl rfl ?_
    refine zs_iconst (v := nI 4) dX4_read_127 (by decide) ?_
    refine zs_callV (M := mX9_refuse) (As := [.int (nI 4)]) (st := []) (Kc := [(x, .inr (8, fTx b n L τ 0 pl (nI tk)))]) (Kr := [(b, .inl (0, 740, .inl (nF bt))), (y, .inr (9, fYard ay (ysN D.1 D.2.1))), (ay 1, .inl (0, 12, .inl (nF D.2.2.1))), (ay 2, .inl (0, 12, .inl (nF D.2.2.2.1))), (ay 3, .inl (0, 12, .inl (nF D.2.2.2.2.1))), (ay 4, .inl (0, 12, .inl (nF D.2.2.2.2.2.1))), (ay 5, .inl (0, 64, .inl (nF D.2.2.2.2.2.2.1))), (ay 6, .inl (1, 64, .inl (nF D.2.2.2.2.2.2.2))), (p, .inr (3, fPlan ap P.1)), (ap 1, .inl (0, 20, .inl (nF P.2.1))), (ap 2, .inl (0, 20, .inl (nF P.2.2.1))), (ap 3, .inl (0, 20, .inl (nF P.2.2.2.1))), (ap 4, .inl (0, 240, .inl (nF P.2.2.2.2)))]) [0] [1, 2, 3, 4, 5, 6, 7, 8, 9, 10, 11, 12, 13] 0 dX4_read_128 zl_RX4_54 kX9_refuse rfl rfl rfl rfl rfl (by decide) rfl rfl (show dd - 1 + 1 ≤ dd by omega) (Nat.zero_le _) (Nat.zero_le _) (Nat.le_of_ble_eq_true rfl) (s_refuse l (dd - 1) x b n L τ pl 4 (nI tk)) (fun r K1 hr => ?_)
    obtain ⟨rfl, rfl⟩ := hr
    refine zs_K (K' := [(x, .inr (8, fTx b n L τ 4 τ.2.1 (nI tk))), (b, .inl (0, 740, .inl (nF bt))), (y, .inr (9, fYard ay (ysN D.1 D.2.1))), (ay 1, .inl (0, 12, .inl (nF D.2.2.1))), (ay 2, .inl (0, 12, .inl (nF D.2.2.2.1))), (ay 3, .inl (0, 12, .inl (nF D.2.2.2.2.1))), (ay 4, .inl (0, 12, .inl (nF D.2.2.2.2.2.1))), (ay 5, .inl (0, 64, .inl (nF D.2.2.2.2.2.2.1))), (ay 6, .inl (1, 64, .inl (nF D.2.2.2.2.2.2.2))), (p, .inr (3, fPlan ap P.1)), (ap 1, .inl (0, 20, .inl (nF P.2.1))), (ap 2, .inl (0, 20, .inl (nF P.2.2.1))), (ap 3, .inl (0, 20, .inl (nF P.2.2.2.1))), (ap 4, .inl (0, 240, .inl (nF P.2.2.2.2)))]) [13, 0, 1, 2, 3, 4, 5, 6, 7, 8, 9, 10, 11, 12] rfl (by decide) ?_
    have e : G = (4, τ, tk, P) := hG.symm
    have hz : ¬ G.1 = 0 := by rw [e]; exact (show ¬ 4 = 0 by decide)
    exact zs_zret dX4_read_131 rfl (Or.inl rfl) (hP _ _ ⟨Or.inr ⟨rfl, hz⟩, by rw [if_neg hz, e]; rfl⟩)
  | succ q ih =>
    intro i e τ tk P hi he hτ htk hF hG
    refine zs_iload dX4_read_9 rfl ?_
    refine zs_bipush (v := nI 20) dX4_read_11 (by decide) ?_
    refine zs_icmp_gt (tgt := 126) dX4_read_13 (by decide) (fun c_1 => (absurd c_1 (by rw [nI_lt' (by omega) (by omega)]; omega) : False).elim) (fun c_1 => ?_)
    have hk4 := hτ.1
    have hwd := hτ.2.2.2.2.2.2.2.1
    have h20 := hF.1.1
    have hPg := hF.2
    refine zs_aload_n dX4_read_16 rfl rfl ?_
    refine zs_get 0 dX4_read_17 zf_RX4_37 rfl (v := .int (nI τ.1)) rfl ?_
    refine zs_if_ne (tgt := 28) dX4_read_20 (by decide) (fun c_2 => ?_) (fun c_2 => ?_)
    · have c_2 : ¬ (τ.1 = 0) := by have hc := c_2; rw [show (0 : Int32) = nI 0 from rfl] at hc; rw [nI_eq' (by omega) (by omega)] at hc; exact hc
      refine zs_aload_n dX4_read_28 rfl rfl ?_
      refine zs_get 0 dX4_read_29 zf_RX4_45 rfl (v := (wV τ.2.2.2.2)) rfl ?_
      refine zs_getsW (u := 14) dX4_read_32 (by decide) zg_RX4_49 ?_
      refine zs_acmp_eq (tgt := 44) dX4_read_35 (by decide) (wV_w hwd) rfl (fun c_3 => ?_) (fun c_3 => ?_)
      · refine zs_aload_n dX4_read_44 rfl rfl ?_
        refine zs_get 9 dX4_read_45 zf_RX4_24 rfl (v := .int (nI P.1)) rfl ?_
        refine zs_bipush (v := nI 20) dX4_read_48 (by decide) ?_
        refine zs_icmp_lt (tgt := 59) dX4_read_50 (by decide) (fun c_4 => ?_) (fun c_4 => ?_)
        · have c_4 : P.1 < 20 := by have hc := c_4; rw [nI_lt' (by omega) (by omega)] at hc; exact hc
          refine zs_aload_n dX4_read_59 rfl rfl ?_
          refine zs_callV (M := mX9_next) (As := []) (st := []) (Kc := [(x, .inr (8, fTx b n L τ 0 pl (nI tk))), (b, .inl (0, 740, .inl (nF bt)))]) (Kr := [(y, .inr (9, fYard ay (ysN D.1 D.2.1))), (ay 1, .inl (0, 12, .inl (nF D.2.2.1))), (ay 2, .inl (0, 12, .inl (nF D.2.2.2.1))), (ay 3, .inl (0, 12, .inl (nF D.2.2.2.2.1))), (ay 4, .inl (0, 12, .inl (nF D.2.2.2.2.2.1))), (ay 5, .inl (0, 64, .inl (nF D.2.2.2.2.2.2.1))), (ay 6, .inl (1, 64, .inl (nF D.2.2.2.2.2.2.2))), (p, .inr (3, fPlan ap P.1)), (ap 1, .inl (0, 20, .inl (nF P.2.1))), (ap 2, .inl (0, 20, .inl (nF P.2.2.1))), (ap 3, .inl (0, 20, .inl (nF P.2.2.2.1))), (ap 4, .inl (0, 240, .inl (nF P.2.2.2.2)))]) [0, 1] [2, 3, 4, 5, 6, 7, 8, 9, 10, 11, 12, 13] 0 dX4_read_60 zl_RX4_58 kX9_next rfl rfl rfl rfl rfl (by decide) rfl rfl (show dd - 1 + 1 ≤ dd by omega) (Nat.zero_le _) (Nat.zero_le _) (Nat.le_of_ble_eq_true rfl) (s_next l (dd - 1) x b n L bt τ 0 pl (nI tk) (by omega) hn hL hbt hτ.2.2.1) (fun r K1 hr => ?_)
          obtain ⟨rfl, rfl⟩ := hr
          refine zs_K (K' := [(x, .inr (8, fTx b n L (nxt bt n L τ) 0 pl (nI tk))), (b, .inl (0, 740, .inl (nF bt))), (y, .inr (9, fYard ay (ysN D.1 D.2.1))), (ay 1, .inl (0, 12, .inl (nF D.2.2.1))), (ay 2, .inl (0, 12, .inl (nF D.2.2.2.1))), (ay 3, .inl (0, 12, .inl (nF D.2.2.2.2.1))), (ay 4, .inl (0, 12, .inl (nF D.2.2.2.2.2.1))), (ay 5, .inl (0, 64, .inl (nF D.2.2.2.2.2.2.1))), (ay 6, .inl (1, 64, .inl (nF D.2.2.2.2.2.2.2))), (p, .inr (3, fPlan ap P.1)), (ap 1, .inl (0, 20, .inl (nF P.2.1))), (ap 2, .inl (0, 20, .inl (nF P.2.2.1))), (ap 3, .inl (0, 20, .inl (nF P.2.2.2.1))), (ap 4, .inl (0, 240, .inl (nF P.2.2.2.2)))]) [12, 13, 0, 1, 2, 3, 4, 5, 6, 7, 8, 9, 10, 11] rfl (by decide) ?_
          refine zs_aload_n dX4_read_63 rfl rfl ?_
          refine zs_iload_n dX4_read_64 rfl ?_
          refine zs_bipush (v := nI 59) dX4_read_65 (by decide) ?_
          refine zs_callV (M := mX9_takeNumber) (As := [.int (nI e), .int (nI 59)]) (st := []) (Kc := [(x, .inr (8, fTx b n L (nxt bt n L τ) 0 pl (nI tk))), (b, .inl (0, 740, .inl (nF bt)))]) (Kr := [(y, .inr (9, fYard ay (ysN D.1 D.2.1))), (ay 1, .inl (0, 12, .inl (nF D.2.2.1))), (ay 2, .inl (0, 12, .inl (nF D.2.2.2.1))), (ay 3, .inl (0, 12, .inl (nF D.2.2.2.2.1))), (ay 4, .inl (0, 12, .inl (nF D.2.2.2.2.2.1))), (ay 5, .inl (0, 64, .inl (nF D.2.2.2.2.2.2.1))), (ay 6, .inl (1, 64, .inl (nF D.2.2.2.2.2.2.2))), (p, .inr (3, fPlan ap P.1)), (ap 1, .inl (0, 20, .inl (nF P.2.1))), (ap 2, .inl (0, 20, .inl (nF P.2.2.1))), (ap 3, .inl (0, 20, .inl (nF P.2.2.2.1))), (ap 4, .inl (0, 240, .inl (nF P.2.2.2.2)))]) [0, 1] [2, 3, 4, 5, 6, 7, 8, 9, 10, 11, 12, 13] 0 dX4_read_67 zl_RX4_61 kX9_takeNumber rfl rfl rfl rfl rfl (by decide) rfl rfl (show dd - 1 + 1 ≤ dd by omega) (Nat.zero_le _) (Nat.zero_le _) (Nat.le_of_ble_eq_true rfl) (s_takeNumber l (dd - 1) x b n L bt (nxt bt n L τ) pl (nI tk) e 59 (by omega) hn hL hbt (nxt_OK hbt hn) (by omega) (by omega)) (fun r K1 hr => ?_)
          rcases hr with ⟨hq67, rfl, rfl⟩ | ⟨hq67, rfl, rfl⟩
          · have hv8 := tNu_8 (nxt_OK (L := L) (τ := τ) hbt hn) hq67
            have hvr := tNu_r hq67
            refine zs_K (K' := [(x, .inr (8, fTx b n L (nxt bt n L (nxt bt n L τ)) 0 pl (nI (nxt bt n L τ).2.2.2.1))), (b, .inl (0, 740, .inl (nF bt))), (y, .inr (9, fYard ay (ysN D.1 D.2.1))), (ay 1, .inl (0, 12, .inl (nF D.2.2.1))), (ay 2, .inl (0, 12, .inl (nF D.2.2.2.1))), (ay 3, .inl (0, 12, .inl (nF D.2.2.2.2.1))), (ay 4, .inl (0, 12, .inl (nF D.2.2.2.2.2.1))), (ay 5, .inl (0, 64, .inl (nF D.2.2.2.2.2.2.1))), (ay 6, .inl (1, 64, .inl (nF D.2.2.2.2.2.2.2))), (p, .inr (3, fPlan ap P.1)), (ap 1, .inl (0, 20, .inl (nF P.2.1))), (ap 2, .inl (0, 20, .inl (nF P.2.2.1))), (ap 3, .inl (0, 20, .inl (nF P.2.2.2.1))), (ap 4, .inl (0, 240, .inl (nF P.2.2.2.2)))]) [12, 13, 0, 1, 2, 3, 4, 5, 6, 7, 8, 9, 10, 11] rfl (by decide) ?_
            refine zs_if_ne (tgt := 75) dX4_read_70 (by decide) (fun c_5 => ?_) (fun c_5 => (by first | exact absurd c_5 (by decide) | exact absurd (by decide) c_5 : False).elim)
            refine zs_aload_n dX4_read_75 rfl rfl ?_
            refine zs_get 0 dX4_read_76 zf_RX4_65 rfl (v := .int (nI (nxt bt n L τ).2.2.2.1)) rfl ?_
            refine zs_istore_n (lv' := [(3, .int (nI (nxt bt n L τ).2.2.2.1)), (0, .ref p), (1, .ref x), (2, .ref y), (4, .int (nI i))]) dX4_read_79 (Nat.le_of_ble_eq_true rfl) rfl ?_
            refine zs_aload_n dX4_read_80 rfl rfl ?_
            refine zs_get 9 dX4_read_81 zf_RX4_9 rfl (v := .ref (ap 1)) rfl ?_
            refine zs_aload_n dX4_read_84 rfl rfl ?_
            refine zs_get 9 dX4_read_85 zf_RX4_24 rfl (v := .int (nI P.1)) rfl ?_
            refine zs_iload_n dX4_read_88 rfl ?_
            refine zs_iast 10 dX4_read_89 rfl (vp_in_nI (by omega) (by omega)) ?_
            rw [nI_c (n := P.1) (by omega), nF_u]
            show zS _ _ _ _ _ _ [(x, .inr (8, fTx b n L (nxt bt n L (nxt bt n L τ)) 0 pl (nI (nxt bt n L τ).2.2.2.1))), (b, .inl (0, 740, .inl (nF bt))), (y, .inr (9, fYard ay (ysN D.1 D.2.1))), (ay 1, .inl (0, 12, .inl (nF D.2.2.1))), (ay 2, .inl (0, 12, .inl (nF D.2.2.2.1))), (ay 3, .inl (0, 12, .inl (nF D.2.2.2.2.1))), (ay 4, .inl (0, 12, .inl (nF D.2.2.2.2.2.1))), (ay 5, .inl (0, 64, .inl (nF D.2.2.2.2.2.2.1))), (ay 6, .inl (1, 64, .inl (nF D.2.2.2.2.2.2.2))), (p, .inr (3, fPlan ap P.1)), (ap 1, .inl (0, 20, .inl (nF (un P.2.1 P.1 ((nxt bt n L τ).2.2.2.1))))), (ap 2, .inl (0, 20, .inl (nF P.2.2.1))), (ap 3, .inl (0, 20, .inl (nF P.2.2.2.1))), (ap 4, .inl (0, 240, .inl (nF P.2.2.2.2)))]
            refine zs_aload_n dX4_read_90 rfl rfl ?_
            refine zs_aload_n dX4_read_91 rfl rfl ?_
            refine zs_aload_n dX4_read_92 rfl rfl ?_
            have hI := pThing_I (L := L) hbt hn hD (nxt_OK (L := L) (τ := (nxt bt n L τ)) hbt hn) hv8 (show pGd (pWt P (nxt bt n L τ).2.2.2.1) from hPg)
            refine zs_callV (M := mX4_readThing) (As := [.ref x, .ref y]) (st := []) (Kc := [(x, .inr (8, fTx b n L (nxt bt n L (nxt bt n L τ)) 0 pl (nI (nxt bt n L τ).2.2.2.1))), (b, .inl (0, 740, .inl (nF bt))), (y, .inr (9, fYard ay (ysN D.1 D.2.1))), (ay 1, .inl (0, 12, .inl (nF D.2.2.1))), (ay 2, .inl (0, 12, .inl (nF D.2.2.2.1))), (ay 3, .inl (0, 12, .inl (nF D.2.2.2.2.1))), (ay 4, .inl (0, 12, .inl (nF D.2.2.2.2.2.1))), (ay 5, .inl (0, 64, .inl (nF D.2.2.2.2.2.2.1))), (ay 6, .inl (1, 64, .inl (nF D.2.2.2.2.2.2.2))), (p, .inr (3, fPlan ap P.1)), (ap 1, .inl (0, 20, .inl (nF (un P.2.1 P.1 ((nxt bt n L τ).2.2.2.1))))), (ap 2, .inl (0, 20, .inl (nF P.2.2.1))), (ap 3, .inl (0, 20, .inl (nF P.2.2.2.1))), (ap 4, .inl (0, 240, .inl (nF P.2.2.2.2)))]) (Kr := []) [0, 1, 2, 3, 4, 5, 6, 7, 8, 9, 10, 11, 12, 13] [] 9 dX4_read_93 zl_RX4_68 kX4_readThing rfl rfl rfl rfl rfl (by decide) rfl rfl (show dd - 1 + 1 ≤ dd by omega) (Nat.zero_le _) (Nat.zero_le _) (Nat.le_of_ble_eq_true rfl) (s_readThing l (dd - 1) x b n L y p ay ap bt pl D (nxt bt n L (nxt bt n L τ)) (nxt bt n L τ).2.2.2.1 (pWt P (nxt bt n L τ).2.2.2.1) (by omega) hn hL hbt hD (nxt_OK hbt hn) (show P.1 < 20 by omega) hPg.1) (fun r K1 hr => ?_)
            rcases hr with ⟨hq93, rfl, rfl⟩ | ⟨hq93, rfl, rfl⟩
            · refine zs_K (K' := [(x, .inr (8, fTx b n L ((pThing bt n L D (nxt bt n L (nxt bt n L τ)) (nxt bt n L τ).2.2.2.1 (pWt P (nxt bt n L τ).2.2.2.1)).2.1) 0 pl (nI (pThing bt n L D (nxt bt n L (nxt bt n L τ)) (nxt bt n L τ).2.2.2.1 (pWt P (nxt bt n L τ).2.2.2.1)).2.2.1))), (b, .inl (0, 740, .inl (nF bt))), (y, .inr (9, fYard ay (ysN D.1 D.2.1))), (ay 1, .inl (0, 12, .inl (nF D.2.2.1))), (ay 2, .inl (0, 12, .inl (nF D.2.2.2.1))), (ay 3, .inl (0, 12, .inl (nF D.2.2.2.2.1))), (ay 4, .inl (0, 12, .inl (nF D.2.2.2.2.2.1))), (ay 5, .inl (0, 64, .inl (nF D.2.2.2.2.2.2.1))), (ay 6, .inl (1, 64, .inl (nF D.2.2.2.2.2.2.2))), (p, .inr (3, fPlan ap ((pThing bt n L D (nxt bt n L (nxt bt n L τ)) (nxt bt n L τ).2.2.2.1 (pWt P (nxt bt n L τ).2.2.2.1)).2.2.2.1))), (ap 1, .inl (0, 20, .inl (nF ((pThing bt n L D (nxt bt n L (nxt bt n L τ)) (nxt bt n L τ).2.2.2.1 (pWt P (nxt bt n L τ).2.2.2.1)).2.2.2.2.1)))), (ap 2, .inl (0, 20, .inl (nF ((pThing bt n L D (nxt bt n L (nxt bt n L τ)) (nxt bt n L τ).2.2.2.1 (pWt P (nxt bt n L τ).2.2.2.1)).2.2.2.2.2.1)))), (ap 3, .inl (0, 20, .inl (nF ((pThing bt n L D (nxt bt n L (nxt bt n L τ)) (nxt bt n L τ).2.2.2.1 (pWt P (nxt bt n L τ).2.2.2.1)).2.2.2.2.2.2.1)))), (ap 4, .inl (0, 240, .inl (nF ((pThing bt n L D (nxt bt n L (nxt bt n L τ)) (nxt bt n L τ).2.2.2.1 (pWt P (nxt bt n L τ).2.2.2.1)).2.2.2.2.2.2.2))))]) [0, 1, 2, 3, 4, 5, 6, 7, 8, 9, 10, 11, 12, 13] rfl (by decide) ?_
              refine zs_if_eq (tgt := 108) dX4_read_96 (by decide) (fun c_6 => (by first | exact absurd c_6 (by decide) | exact absurd (by decide) c_6 : False).elim) (fun c_6 => ?_)
              refine zs_aload_n dX4_read_99 rfl rfl ?_
              refine zs_bipush (v := nI 59) dX4_read_100 (by decide) ?_
              refine zs_callV (M := mX9_takeSign) (As := [.int (nI 59)]) (st := []) (Kc := [(x, .inr (8, fTx b n L ((pThing bt n L D (nxt bt n L (nxt bt n L τ)) (nxt bt n L τ).2.2.2.1 (pWt P (nxt bt n L τ).2.2.2.1)).2.1) 0 pl (nI (pThing bt n L D (nxt bt n L (nxt bt n L τ)) (nxt bt n L τ).2.2.2.1 (pWt P (nxt bt n L τ).2.2.2.1)).2.2.1))), (b, .inl (0, 740, .inl (nF bt)))]) (Kr := [(y, .inr (9, fYard ay (ysN D.1 D.2.1))), (ay 1, .inl (0, 12, .inl (nF D.2.2.1))), (ay 2, .inl (0, 12, .inl (nF D.2.2.2.1))), (ay 3, .inl (0, 12, .inl (nF D.2.2.2.2.1))), (ay 4, .inl (0, 12, .inl (nF D.2.2.2.2.2.1))), (ay 5, .inl (0, 64, .inl (nF D.2.2.2.2.2.2.1))), (ay 6, .inl (1, 64, .inl (nF D.2.2.2.2.2.2.2))), (p, .inr (3, fPlan ap ((pThing bt n L D (nxt bt n L (nxt bt n L τ)) (nxt bt n L τ).2.2.2.1 (pWt P (nxt bt n L τ).2.2.2.1)).2.2.2.1))), (ap 1, .inl (0, 20, .inl (nF ((pThing bt n L D (nxt bt n L (nxt bt n L τ)) (nxt bt n L τ).2.2.2.1 (pWt P (nxt bt n L τ).2.2.2.1)).2.2.2.2.1)))), (ap 2, .inl (0, 20, .inl (nF ((pThing bt n L D (nxt bt n L (nxt bt n L τ)) (nxt bt n L τ).2.2.2.1 (pWt P (nxt bt n L τ).2.2.2.1)).2.2.2.2.2.1)))), (ap 3, .inl (0, 20, .inl (nF ((pThing bt n L D (nxt bt n L (nxt bt n L τ)) (nxt bt n L τ).2.2.2.1 (pWt P (nxt bt n L τ).2.2.2.1)).2.2.2.2.2.2.1)))), (ap 4, .inl (0, 240, .inl (nF ((pThing bt n L D (nxt bt n L (nxt bt n L τ)) (nxt bt n L τ).2.2.2.1 (pWt P (nxt bt n L τ).2.2.2.1)).2.2.2.2.2.2.2))))]) [0, 1] [2, 3, 4, 5, 6, 7, 8, 9, 10, 11, 12, 13] 0 dX4_read_102 zl_RX4_72 kX9_takeSign rfl rfl rfl rfl rfl (by decide) rfl rfl (show dd - 1 + 1 ≤ dd by omega) (Nat.zero_le _) (Nat.zero_le _) (Nat.le_of_ble_eq_true rfl) (s_takeSign l (dd - 1) x b n L bt (pThing bt n L D (nxt bt n L (nxt bt n L τ)) (nxt bt n L τ).2.2.2.1 (pWt P (nxt bt n L τ).2.2.2.1)).2.1 pl (nI (pThing bt n L D (nxt bt n L (nxt bt n L τ)) (nxt bt n L τ).2.2.2.1 (pWt P (nxt bt n L τ).2.2.2.1)).2.2.1) 59 (by omega) hn hL hbt hI.1.1 (by decide)) (fun r K1 hr => ?_)
              rcases hr with ⟨hq102, rfl, rfl⟩ | ⟨hq102, rfl, rfl⟩
              · have hth : (pThing bt n L D (nxt bt n L (nxt bt n L τ)) (nxt bt n L τ).2.2.2.1 (pWt P (nxt bt n L τ).2.2.2.1)).2.2.2.1 = P.1 := hI.1.2.2.1
                refine zs_K (K' := [(x, .inr (8, fTx b n L (nxt bt n L (pThing bt n L D (nxt bt n L (nxt bt n L τ)) (nxt bt n L τ).2.2.2.1 (pWt P (nxt bt n L τ).2.2.2.1)).2.1) 0 pl (nI (pThing bt n L D (nxt bt n L (nxt bt n L τ)) (nxt bt n L τ).2.2.2.1 (pWt P (nxt bt n L τ).2.2.2.1)).2.2.1))), (b, .inl (0, 740, .inl (nF bt))), (y, .inr (9, fYard ay (ysN D.1 D.2.1))), (ay 1, .inl (0, 12, .inl (nF D.2.2.1))), (ay 2, .inl (0, 12, .inl (nF D.2.2.2.1))), (ay 3, .inl (0, 12, .inl (nF D.2.2.2.2.1))), (ay 4, .inl (0, 12, .inl (nF D.2.2.2.2.2.1))), (ay 5, .inl (0, 64, .inl (nF D.2.2.2.2.2.2.1))), (ay 6, .inl (1, 64, .inl (nF D.2.2.2.2.2.2.2))), (p, .inr (3, fPlan ap ((pThing bt n L D (nxt bt n L (nxt bt n L τ)) (nxt bt n L τ).2.2.2.1 (pWt P (nxt bt n L τ).2.2.2.1)).2.2.2.1))), (ap 1, .inl (0, 20, .inl (nF ((pThing bt n L D (nxt bt n L (nxt bt n L τ)) (nxt bt n L τ).2.2.2.1 (pWt P (nxt bt n L τ).2.2.2.1)).2.2.2.2.1)))), (ap 2, .inl (0, 20, .inl (nF ((pThing bt n L D (nxt bt n L (nxt bt n L τ)) (nxt bt n L τ).2.2.2.1 (pWt P (nxt bt n L τ).2.2.2.1)).2.2.2.2.2.1)))), (ap 3, .inl (0, 20, .inl (nF ((pThing bt n L D (nxt bt n L (nxt bt n L τ)) (nxt bt n L τ).2.2.2.1 (pWt P (nxt bt n L τ).2.2.2.1)).2.2.2.2.2.2.1)))), (ap 4, .inl (0, 240, .inl (nF ((pThing bt n L D (nxt bt n L (nxt bt n L τ)) (nxt bt n L τ).2.2.2.1 (pWt P (nxt bt n L τ).2.2.2.1)).2.2.2.2.2.2.2))))]) [12, 13, 0, 1, 2, 3, 4, 5, 6, 7, 8, 9, 10, 11] rfl (by decide) ?_
                refine zs_if_ne (tgt := 110) dX4_read_105 (by decide) (fun c_7 => ?_) (fun c_7 => (by first | exact absurd c_7 (by decide) | exact absurd (by decide) c_7 : False).elim)
                refine zs_aload_n dX4_read_110 rfl rfl ?_
                refine zs_dup dX4_read_111 rfl ?_
                refine zs_get 9 dX4_read_112 zf_RX4_24 rfl (v := .int (nI ((pThing bt n L D (nxt bt n L (nxt bt n L τ)) (nxt bt n L τ).2.2.2.1 (pWt P (nxt bt n L τ).2.2.2.1)).2.2.2.1))) rfl ?_
                refine zs_iconst (v := nI 1) dX4_read_115 (by decide) ?_
                refine zs_iadd dX4_read_116 ?_
                refine zs_as (y := nI (P.1 + 1)) (by rw [show (pThing bt n L D (nxt bt n L (nxt bt n L τ)) (nxt bt n L τ).2.2.2.1 (pWt P (nxt bt n L τ).2.2.2.1)).2.2.2.1 = P.1 from hI.1.2.2.1]; exact nI_add _ 1) ?_
                refine zs_put 9 dX4_read_117 zf_RX4_24 rfl (Nat.le_of_ble_eq_true rfl) (zPv_i _) ?_
                show zS _ _ _ _ _ _ [(x, .inr (8, fTx b n L (nxt bt n L (pThing bt n L D (nxt bt n L (nxt bt n L τ)) (nxt bt n L τ).2.2.2.1 (pWt P (nxt bt n L τ).2.2.2.1)).2.1) 0 pl (nI (pThing bt n L D (nxt bt n L (nxt bt n L τ)) (nxt bt n L τ).2.2.2.1 (pWt P (nxt bt n L τ).2.2.2.1)).2.2.1))), (b, .inl (0, 740, .inl (nF bt))), (y, .inr (9, fYard ay (ysN D.1 D.2.1))), (ay 1, .inl (0, 12, .inl (nF D.2.2.1))), (ay 2, .inl (0, 12, .inl (nF D.2.2.2.1))), (ay 3, .inl (0, 12, .inl (nF D.2.2.2.2.1))), (ay 4, .inl (0, 12, .inl (nF D.2.2.2.2.2.1))), (ay 5, .inl (0, 64, .inl (nF D.2.2.2.2.2.2.1))), (ay 6, .inl (1, 64, .inl (nF D.2.2.2.2.2.2.2))), (p, .inr (3, fPlan ap (P.1 + 1))), (ap 1, .inl (0, 20, .inl (nF ((pThing bt n L D (nxt bt n L (nxt bt n L τ)) (nxt bt n L τ).2.2.2.1 (pWt P (nxt bt n L τ).2.2.2.1)).2.2.2.2.1)))), (ap 2, .inl (0, 20, .inl (nF ((pThing bt n L D (nxt bt n L (nxt bt n L τ)) (nxt bt n L τ).2.2.2.1 (pWt P (nxt bt n L τ).2.2.2.1)).2.2.2.2.2.1)))), (ap 3, .inl (0, 20, .inl (nF ((pThing bt n L D (nxt bt n L (nxt bt n L τ)) (nxt bt n L τ).2.2.2.1 (pWt P (nxt bt n L τ).2.2.2.1)).2.2.2.2.2.2.1)))), (ap 4, .inl (0, 240, .inl (nF ((pThing bt n L D (nxt bt n L (nxt bt n L τ)) (nxt bt n L τ).2.2.2.1 (pWt P (nxt bt n L τ).2.2.2.1)).2.2.2.2.2.2.2))))]
                refine zs_iinc (v := (nI (i + 1))) (lv' := [(4, .int (nI (i + 1))), (3, .int (nI (nxt bt n L τ).2.2.2.1)), (0, .ref p), (1, .ref x), (2, .ref y)]) dX4_read_120 rfl (nI_add _ 1) (Nat.le_of_ble_eq_true rfl) rfl ?_
                refine zs_goto (tgt := 9) dX4_read_123 (by decide) ?_
                refine zs_lv [2, 3, 4, 1, 0] rfl ?_
                exact ih (i + 1) (nxt bt n L τ).2.2.2.1 (nxt bt n L (pThing bt n L D (nxt bt n L (nxt bt n L τ)) (nxt bt n L τ).2.2.2.1 (pWt P (nxt bt n L τ).2.2.2.1)).2.1) (pThing bt n L D (nxt bt n L (nxt bt n L τ)) (nxt bt n L τ).2.2.2.1 (pWt P (nxt bt n L τ).2.2.2.1)).2.2.1 (P.1 + 1, (pThing bt n L D (nxt bt n L (nxt bt n L τ)) (nxt bt n L τ).2.2.2.1 (pWt P (nxt bt n L τ).2.2.2.1)).2.2.2.2) (by omega) (by omega) (nxt_OK hbt hn) hI.1.2.1 (pFit_s hF (by omega) (by omega) hI.1 (hI.2 hq93)) (by rw [← hG, pThs, if_neg c_2, if_neg (fun h => h ((wV_e hwd (by decide : 14 < 29)).mp c_3)), if_neg (show ¬ 20 ≤ P.1 by omega), if_neg (fun h => h hq67), if_neg (fun h => h hq93), if_pos hq102])
              · refine zs_K (K' := [(x, .inr (8, fTx b n L ((pThing bt n L D (nxt bt n L (nxt bt n L τ)) (nxt bt n L τ).2.2.2.1 (pWt P (nxt bt n L τ).2.2.2.1)).2.1) 1 ((pThing bt n L D (nxt bt n L (nxt bt n L τ)) (nxt bt n L τ).2.2.2.1 (pWt P (nxt bt n L τ).2.2.2.1)).2.1.2.1) (nI (pThing bt n L D (nxt bt n L (nxt bt n L τ)) (nxt bt n L τ).2.2.2.1 (pWt P (nxt bt n L τ).2.2.2.1)).2.2.1))), (b, .inl (0, 740, .inl (nF bt))), (y, .inr (9, fYard ay (ysN D.1 D.2.1))), (ay 1, .inl (0, 12, .inl (nF D.2.2.1))), (ay 2, .inl (0, 12, .inl (nF D.2.2.2.1))), (ay 3, .inl (0, 12, .inl (nF D.2.2.2.2.1))), (ay 4, .inl (0, 12, .inl (nF D.2.2.2.2.2.1))), (ay 5, .inl (0, 64, .inl (nF D.2.2.2.2.2.2.1))), (ay 6, .inl (1, 64, .inl (nF D.2.2.2.2.2.2.2))), (p, .inr (3, fPlan ap ((pThing bt n L D (nxt bt n L (nxt bt n L τ)) (nxt bt n L τ).2.2.2.1 (pWt P (nxt bt n L τ).2.2.2.1)).2.2.2.1))), (ap 1, .inl (0, 20, .inl (nF ((pThing bt n L D (nxt bt n L (nxt bt n L τ)) (nxt bt n L τ).2.2.2.1 (pWt P (nxt bt n L τ).2.2.2.1)).2.2.2.2.1)))), (ap 2, .inl (0, 20, .inl (nF ((pThing bt n L D (nxt bt n L (nxt bt n L τ)) (nxt bt n L τ).2.2.2.1 (pWt P (nxt bt n L τ).2.2.2.1)).2.2.2.2.2.1)))), (ap 3, .inl (0, 20, .inl (nF ((pThing bt n L D (nxt bt n L (nxt bt n L τ)) (nxt bt n L τ).2.2.2.1 (pWt P (nxt bt n L τ).2.2.2.1)).2.2.2.2.2.2.1)))), (ap 4, .inl (0, 240, .inl (nF ((pThing bt n L D (nxt bt n L (nxt bt n L τ)) (nxt bt n L τ).2.2.2.1 (pWt P (nxt bt n L τ).2.2.2.1)).2.2.2.2.2.2.2))))]) [12, 13, 0, 1, 2, 3, 4, 5, 6, 7, 8, 9, 10, 11] rfl (by decide) ?_
                refine zs_if_ne (tgt := 110) dX4_read_105 (by decide) (fun c_8 => (by first | exact absurd c_8 (by decide) | exact absurd (by decide) c_8 : False).elim) (fun c_8 => ?_)
                refine zs_iconst (v := nI 0) dX4_read_108 (by decide) ?_
                have e : G = (1, (pThing bt n L D (nxt bt n L (nxt bt n L τ)) (nxt bt n L τ).2.2.2.1 (pWt P (nxt bt n L τ).2.2.2.1)).2) := by rw [← hG, pThs, if_neg c_2, if_neg (fun h => h ((wV_e hwd (by decide : 14 < 29)).mp c_3)), if_neg (show ¬ 20 ≤ P.1 by omega), if_neg (fun h => h hq67), if_neg (fun h => h hq93), if_neg (fun h => by rw [hq102] at h; exact absurd h (by decide))]
                have hz : ¬ G.1 = 0 := by rw [e]; exact (show ¬ 1 = 0 by decide)
                exact zs_zret dX4_read_109 rfl (Or.inl rfl) (hP _ _ ⟨Or.inr ⟨rfl, hz⟩, by rw [if_neg hz, e]; rfl⟩)
            · refine zs_K (K' := [(x, .inr (8, fTx b n L ((pThing bt n L D (nxt bt n L (nxt bt n L τ)) (nxt bt n L τ).2.2.2.1 (pWt P (nxt bt n L τ).2.2.2.1)).2.1) ((pThing bt n L D (nxt bt n L (nxt bt n L τ)) (nxt bt n L τ).2.2.2.1 (pWt P (nxt bt n L τ).2.2.2.1)).1) ((pThing bt n L D (nxt bt n L (nxt bt n L τ)) (nxt bt n L τ).2.2.2.1 (pWt P (nxt bt n L τ).2.2.2.1)).2.1.2.1) (nI (pThing bt n L D (nxt bt n L (nxt bt n L τ)) (nxt bt n L τ).2.2.2.1 (pWt P (nxt bt n L τ).2.2.2.1)).2.2.1))), (b, .inl (0, 740, .inl (nF bt))), (y, .inr (9, fYard ay (ysN D.1 D.2.1))), (ay 1, .inl (0, 12, .inl (nF D.2.2.1))), (ay 2, .inl (0, 12, .inl (nF D.2.2.2.1))), (ay 3, .inl (0, 12, .inl (nF D.2.2.2.2.1))), (ay 4, .inl (0, 12, .inl (nF D.2.2.2.2.2.1))), (ay 5, .inl (0, 64, .inl (nF D.2.2.2.2.2.2.1))), (ay 6, .inl (1, 64, .inl (nF D.2.2.2.2.2.2.2))), (p, .inr (3, fPlan ap ((pThing bt n L D (nxt bt n L (nxt bt n L τ)) (nxt bt n L τ).2.2.2.1 (pWt P (nxt bt n L τ).2.2.2.1)).2.2.2.1))), (ap 1, .inl (0, 20, .inl (nF ((pThing bt n L D (nxt bt n L (nxt bt n L τ)) (nxt bt n L τ).2.2.2.1 (pWt P (nxt bt n L τ).2.2.2.1)).2.2.2.2.1)))), (ap 2, .inl (0, 20, .inl (nF ((pThing bt n L D (nxt bt n L (nxt bt n L τ)) (nxt bt n L τ).2.2.2.1 (pWt P (nxt bt n L τ).2.2.2.1)).2.2.2.2.2.1)))), (ap 3, .inl (0, 20, .inl (nF ((pThing bt n L D (nxt bt n L (nxt bt n L τ)) (nxt bt n L τ).2.2.2.1 (pWt P (nxt bt n L τ).2.2.2.1)).2.2.2.2.2.2.1)))), (ap 4, .inl (0, 240, .inl (nF ((pThing bt n L D (nxt bt n L (nxt bt n L τ)) (nxt bt n L τ).2.2.2.1 (pWt P (nxt bt n L τ).2.2.2.1)).2.2.2.2.2.2.2))))]) [0, 1, 2, 3, 4, 5, 6, 7, 8, 9, 10, 11, 12, 13] rfl (by decide) ?_
              refine zs_if_eq (tgt := 108) dX4_read_96 (by decide) (fun c_9 => ?_) (fun c_9 => (by first | exact absurd c_9 (by decide) | exact absurd (by decide) c_9 : False).elim)
              refine zs_iconst (v := nI 0) dX4_read_108 (by decide) ?_
              have e : G = (pThing bt n L D (nxt bt n L (nxt bt n L τ)) (nxt bt n L τ).2.2.2.1 (pWt P (nxt bt n L τ).2.2.2.1)) := by rw [← hG, pThs, if_neg c_2, if_neg (fun h => h ((wV_e hwd (by decide : 14 < 29)).mp c_3)), if_neg (show ¬ 20 ≤ P.1 by omega), if_neg (fun h => h hq67), if_pos hq93]
              have hz : ¬ G.1 = 0 := by rw [e]; exact hq93
              exact zs_zret dX4_read_109 rfl (Or.inl rfl) (hP _ _ ⟨Or.inr ⟨rfl, hz⟩, by rw [if_neg hz, e]; rfl⟩)
          · refine zs_K (K' := [(x, .inr (8, fTx b n L (nxt bt n L τ) (tNu (nxt bt n L τ) e 59) ((nxt bt n L τ).2.1) (nI tk))), (b, .inl (0, 740, .inl (nF bt))), (y, .inr (9, fYard ay (ysN D.1 D.2.1))), (ay 1, .inl (0, 12, .inl (nF D.2.2.1))), (ay 2, .inl (0, 12, .inl (nF D.2.2.2.1))), (ay 3, .inl (0, 12, .inl (nF D.2.2.2.2.1))), (ay 4, .inl (0, 12, .inl (nF D.2.2.2.2.2.1))), (ay 5, .inl (0, 64, .inl (nF D.2.2.2.2.2.2.1))), (ay 6, .inl (1, 64, .inl (nF D.2.2.2.2.2.2.2))), (p, .inr (3, fPlan ap P.1)), (ap 1, .inl (0, 20, .inl (nF P.2.1))), (ap 2, .inl (0, 20, .inl (nF P.2.2.1))), (ap 3, .inl (0, 20, .inl (nF P.2.2.2.1))), (ap 4, .inl (0, 240, .inl (nF P.2.2.2.2)))]) [12, 13, 0, 1, 2, 3, 4, 5, 6, 7, 8, 9, 10, 11] rfl (by decide) ?_
            refine zs_if_ne (tgt := 75) dX4_read_70 (by decide) (fun c_10 => (by first | exact absurd c_10 (by decide) | exact absurd (by decide) c_10 : False).elim) (fun c_10 => ?_)
            refine zs_iconst (v := nI 0) dX4_read_73 (by decide) ?_
            have e : G = ((tNu (nxt bt n L τ) e 59), (nxt bt n L τ), tk, P) := by rw [← hG, pThs, if_neg c_2, if_neg (fun h => h ((wV_e hwd (by decide : 14 < 29)).mp c_3)), if_neg (show ¬ 20 ≤ P.1 by omega), if_pos hq67]
            have hz : ¬ G.1 = 0 := by rw [e]; exact hq67
            exact zs_zret dX4_read_74 rfl (Or.inl rfl) (hP _ _ ⟨Or.inr ⟨rfl, hz⟩, by rw [if_neg hz, e]; rfl⟩)
        · have c_4 : ¬ (P.1 < 20) := by have hc := c_4; rw [nI_lt' (by omega) (by omega)] at hc; exact hc
          refine zs_aload_n dX4_read_53 rfl rfl ?_
          refine zs_iconst (v := nI 4) dX4_read_54 (by decide) ?_
          refine zs_callV (M := mX9_refuse) (As := [.int (nI 4)]) (st := []) (Kc := [(x, .inr (8, fTx b n L τ 0 pl (nI tk)))]) (Kr := [(b, .inl (0, 740, .inl (nF bt))), (y, .inr (9, fYard ay (ysN D.1 D.2.1))), (ay 1, .inl (0, 12, .inl (nF D.2.2.1))), (ay 2, .inl (0, 12, .inl (nF D.2.2.2.1))), (ay 3, .inl (0, 12, .inl (nF D.2.2.2.2.1))), (ay 4, .inl (0, 12, .inl (nF D.2.2.2.2.2.1))), (ay 5, .inl (0, 64, .inl (nF D.2.2.2.2.2.2.1))), (ay 6, .inl (1, 64, .inl (nF D.2.2.2.2.2.2.2))), (p, .inr (3, fPlan ap P.1)), (ap 1, .inl (0, 20, .inl (nF P.2.1))), (ap 2, .inl (0, 20, .inl (nF P.2.2.1))), (ap 3, .inl (0, 20, .inl (nF P.2.2.2.1))), (ap 4, .inl (0, 240, .inl (nF P.2.2.2.2)))]) [0] [1, 2, 3, 4, 5, 6, 7, 8, 9, 10, 11, 12, 13] 0 dX4_read_55 zl_RX4_54 kX9_refuse rfl rfl rfl rfl rfl (by decide) rfl rfl (show dd - 1 + 1 ≤ dd by omega) (Nat.zero_le _) (Nat.zero_le _) (Nat.le_of_ble_eq_true rfl) (s_refuse l (dd - 1) x b n L τ pl 4 (nI tk)) (fun r K1 hr => ?_)
          obtain ⟨rfl, rfl⟩ := hr
          refine zs_K (K' := [(x, .inr (8, fTx b n L τ 4 τ.2.1 (nI tk))), (b, .inl (0, 740, .inl (nF bt))), (y, .inr (9, fYard ay (ysN D.1 D.2.1))), (ay 1, .inl (0, 12, .inl (nF D.2.2.1))), (ay 2, .inl (0, 12, .inl (nF D.2.2.2.1))), (ay 3, .inl (0, 12, .inl (nF D.2.2.2.2.1))), (ay 4, .inl (0, 12, .inl (nF D.2.2.2.2.2.1))), (ay 5, .inl (0, 64, .inl (nF D.2.2.2.2.2.2.1))), (ay 6, .inl (1, 64, .inl (nF D.2.2.2.2.2.2.2))), (p, .inr (3, fPlan ap P.1)), (ap 1, .inl (0, 20, .inl (nF P.2.1))), (ap 2, .inl (0, 20, .inl (nF P.2.2.1))), (ap 3, .inl (0, 20, .inl (nF P.2.2.2.1))), (ap 4, .inl (0, 240, .inl (nF P.2.2.2.2)))]) [13, 0, 1, 2, 3, 4, 5, 6, 7, 8, 9, 10, 11, 12] rfl (by decide) ?_
          have e : G = (4, τ, tk, P) := by rw [← hG, pThs, if_neg c_2, if_neg (fun h => h ((wV_e hwd (by decide : 14 < 29)).mp c_3)), if_pos (show 20 ≤ P.1 by omega)]
          have hz : ¬ G.1 = 0 := by rw [e]; exact (show ¬ 4 = 0 by decide)
          exact zs_zret dX4_read_58 rfl (Or.inl rfl) (hP _ _ ⟨Or.inr ⟨rfl, hz⟩, by rw [if_neg hz, e]; rfl⟩)
      · refine zs_aload_n dX4_read_38 rfl rfl ?_
        refine zs_iconst (v := nI 1) dX4_read_39 (by decide) ?_
        refine zs_callV (M := mX9_refuse) (As := [.int (nI 1)]) (st := []) (Kc := [(x, .inr (8, fTx b n L τ 0 pl (nI tk)))]) (Kr := [(b, .inl (0, 740, .inl (nF bt))), (y, .inr (9, fYard ay (ysN D.1 D.2.1))), (ay 1, .inl (0, 12, .inl (nF D.2.2.1))), (ay 2, .inl (0, 12, .inl (nF D.2.2.2.1))), (ay 3, .inl (0, 12, .inl (nF D.2.2.2.2.1))), (ay 4, .inl (0, 12, .inl (nF D.2.2.2.2.2.1))), (ay 5, .inl (0, 64, .inl (nF D.2.2.2.2.2.2.1))), (ay 6, .inl (1, 64, .inl (nF D.2.2.2.2.2.2.2))), (p, .inr (3, fPlan ap P.1)), (ap 1, .inl (0, 20, .inl (nF P.2.1))), (ap 2, .inl (0, 20, .inl (nF P.2.2.1))), (ap 3, .inl (0, 20, .inl (nF P.2.2.2.1))), (ap 4, .inl (0, 240, .inl (nF P.2.2.2.2)))]) [0] [1, 2, 3, 4, 5, 6, 7, 8, 9, 10, 11, 12, 13] 0 dX4_read_40 zl_RX4_54 kX9_refuse rfl rfl rfl rfl rfl (by decide) rfl rfl (show dd - 1 + 1 ≤ dd by omega) (Nat.zero_le _) (Nat.zero_le _) (Nat.le_of_ble_eq_true rfl) (s_refuse l (dd - 1) x b n L τ pl 1 (nI tk)) (fun r K1 hr => ?_)
        obtain ⟨rfl, rfl⟩ := hr
        refine zs_K (K' := [(x, .inr (8, fTx b n L τ 1 τ.2.1 (nI tk))), (b, .inl (0, 740, .inl (nF bt))), (y, .inr (9, fYard ay (ysN D.1 D.2.1))), (ay 1, .inl (0, 12, .inl (nF D.2.2.1))), (ay 2, .inl (0, 12, .inl (nF D.2.2.2.1))), (ay 3, .inl (0, 12, .inl (nF D.2.2.2.2.1))), (ay 4, .inl (0, 12, .inl (nF D.2.2.2.2.2.1))), (ay 5, .inl (0, 64, .inl (nF D.2.2.2.2.2.2.1))), (ay 6, .inl (1, 64, .inl (nF D.2.2.2.2.2.2.2))), (p, .inr (3, fPlan ap P.1)), (ap 1, .inl (0, 20, .inl (nF P.2.1))), (ap 2, .inl (0, 20, .inl (nF P.2.2.1))), (ap 3, .inl (0, 20, .inl (nF P.2.2.2.1))), (ap 4, .inl (0, 240, .inl (nF P.2.2.2.2)))]) [13, 0, 1, 2, 3, 4, 5, 6, 7, 8, 9, 10, 11, 12] rfl (by decide) ?_
        have e : G = (1, τ, tk, P) := by rw [← hG, pThs, if_neg c_2, if_pos (show ¬ τ.2.2.2.2 = some 14 from fun h => c_3 ((wV_e hwd (by decide : 14 < 29)).mpr h))]
        have hz : ¬ G.1 = 0 := by rw [e]; exact (show ¬ 1 = 0 by decide)
        exact zs_zret dX4_read_43 rfl (Or.inl rfl) (hP _ _ ⟨Or.inr ⟨rfl, hz⟩, by rw [if_neg hz, e]; rfl⟩)
    · have c_2 : τ.1 = 0 := by have hc := c_2; rw [show (0 : Int32) = nI 0 from rfl] at hc; rw [nI_eq' (by omega) (by omega)] at hc; exact hc
      refine zs_aload_n dX4_read_23 rfl rfl ?_
      refine zs_callV (M := mX9_takeEnd) (As := []) (st := []) (Kc := [(x, .inr (8, fTx b n L τ 0 pl (nI tk)))]) (Kr := [(b, .inl (0, 740, .inl (nF bt))), (y, .inr (9, fYard ay (ysN D.1 D.2.1))), (ay 1, .inl (0, 12, .inl (nF D.2.2.1))), (ay 2, .inl (0, 12, .inl (nF D.2.2.2.1))), (ay 3, .inl (0, 12, .inl (nF D.2.2.2.2.1))), (ay 4, .inl (0, 12, .inl (nF D.2.2.2.2.2.1))), (ay 5, .inl (0, 64, .inl (nF D.2.2.2.2.2.2.1))), (ay 6, .inl (1, 64, .inl (nF D.2.2.2.2.2.2.2))), (p, .inr (3, fPlan ap P.1)), (ap 1, .inl (0, 20, .inl (nF P.2.1))), (ap 2, .inl (0, 20, .inl (nF P.2.2.1))), (ap 3, .inl (0, 20, .inl (nF P.2.2.2.1))), (ap 4, .inl (0, 240, .inl (nF P.2.2.2.2)))]) [0] [1, 2, 3, 4, 5, 6, 7, 8, 9, 10, 11, 12, 13] 0 dX4_read_24 zl_RX4_41 kX9_takeEnd rfl rfl rfl rfl rfl (by decide) rfl rfl (show dd - 1 + 1 ≤ dd by omega) (Nat.zero_le _) (Nat.zero_le _) (Nat.le_of_ble_eq_true rfl) (s_takeEnd l (dd - 1) x b n L τ pl (nI tk) (by omega) hτ) (fun r K1 hr => ?_)
      rcases hr with ⟨hq24, rfl, rfl⟩ | ⟨hq24, rfl, rfl⟩
      · refine zs_K (K' := [(x, .inr (8, fTx b n L τ 0 pl (nI tk))), (b, .inl (0, 740, .inl (nF bt))), (y, .inr (9, fYard ay (ysN D.1 D.2.1))), (ay 1, .inl (0, 12, .inl (nF D.2.2.1))), (ay 2, .inl (0, 12, .inl (nF D.2.2.2.1))), (ay 3, .inl (0, 12, .inl (nF D.2.2.2.2.1))), (ay 4, .inl (0, 12, .inl (nF D.2.2.2.2.2.1))), (ay 5, .inl (0, 64, .inl (nF D.2.2.2.2.2.2.1))), (ay 6, .inl (1, 64, .inl (nF D.2.2.2.2.2.2.2))), (p, .inr (3, fPlan ap P.1)), (ap 1, .inl (0, 20, .inl (nF P.2.1))), (ap 2, .inl (0, 20, .inl (nF P.2.2.1))), (ap 3, .inl (0, 20, .inl (nF P.2.2.2.1))), (ap 4, .inl (0, 240, .inl (nF P.2.2.2.2)))]) [13, 0, 1, 2, 3, 4, 5, 6, 7, 8, 9, 10, 11, 12] rfl (by decide) ?_
        have e : G = (0, τ, tk, P) := by rw [← hG, pThs, if_pos c_2, if_pos hq24]
        exact zs_zret dX4_read_27 rfl (Or.inr rfl) (hP _ _ ⟨Or.inl ⟨rfl, by rw [e]⟩, by rw [e]; rfl⟩)
      · refine zs_K (K' := [(x, .inr (8, fTx b n L τ 1 τ.2.1 (nI tk))), (b, .inl (0, 740, .inl (nF bt))), (y, .inr (9, fYard ay (ysN D.1 D.2.1))), (ay 1, .inl (0, 12, .inl (nF D.2.2.1))), (ay 2, .inl (0, 12, .inl (nF D.2.2.2.1))), (ay 3, .inl (0, 12, .inl (nF D.2.2.2.2.1))), (ay 4, .inl (0, 12, .inl (nF D.2.2.2.2.2.1))), (ay 5, .inl (0, 64, .inl (nF D.2.2.2.2.2.2.1))), (ay 6, .inl (1, 64, .inl (nF D.2.2.2.2.2.2.2))), (p, .inr (3, fPlan ap P.1)), (ap 1, .inl (0, 20, .inl (nF P.2.1))), (ap 2, .inl (0, 20, .inl (nF P.2.2.1))), (ap 3, .inl (0, 20, .inl (nF P.2.2.2.1))), (ap 4, .inl (0, 240, .inl (nF P.2.2.2.2)))]) [13, 0, 1, 2, 3, 4, 5, 6, 7, 8, 9, 10, 11, 12] rfl (by decide) ?_
        have e : G = (1, τ, tk, P) := by rw [← hG, pThs, if_pos c_2, if_neg (fun h => by rw [hq24] at h; exact absurd h (by decide))]
        have hz : ¬ G.1 = 0 := by rw [e]; exact (show ¬ 1 = 0 by decide)
        exact zs_zret dX4_read_27 rfl (Or.inl rfl) (hP _ _ ⟨Or.inr ⟨rfl, hz⟩, by rw [if_neg hz, e]; rfl⟩)
set_option maxRecDepth 100000 in
theorem s_pRead (l : Launch) (dd : Nat) (x b n L y p : Nat) (ay ap : Nat → Nat) (bt : Nat → Nat) (pl : Nat) (D : zYd) (τ : zTk) (tk : Nat) (P : zPl) (hd : 7 ≤ dd) (hn : n ≤ 740) (hL : L ≤ 740) (hbt : ∀ j, bt j < 256) (hD : yI D) (hτ : tOK τ) (htk : tk ≤ 99999999) (hPg : pGd P) : zSp l mX4_read dd 0 0 [.ref p, .ref x, .ref y] [(x, .inr (8, fTx b n L τ 0 pl (nI tk))), (b, .inl (0, 740, .inl (nF bt))), (y, .inr (9, fYard ay (ysN D.1 D.2.1))), (ay 1, .inl (0, 12, .inl (nF D.2.2.1))), (ay 2, .inl (0, 12, .inl (nF D.2.2.2.1))), (ay 3, .inl (0, 12, .inl (nF D.2.2.2.2.1))), (ay 4, .inl (0, 12, .inl (nF D.2.2.2.2.2.1))), (ay 5, .inl (0, 64, .inl (nF D.2.2.2.2.2.2.1))), (ay 6, .inl (1, 64, .inl (nF D.2.2.2.2.2.2.2))), (p, .inr (3, fPlan ap P.1)), (ap 1, .inl (0, 20, .inl (nF P.2.1))), (ap 2, .inl (0, 20, .inl (nF P.2.2.1))), (ap 3, .inl (0, 20, .inl (nF P.2.2.2.1))), (ap 4, .inl (0, 240, .inl (nF P.2.2.2.2)))] (fun r K' => ((r = some (.int 1) ∧ (pThs bt n L D 21 0 τ tk (0, P.2)).1 = 0) ∨ (r = some (.int 0) ∧ ¬ (pThs bt n L D 21 0 τ tk (0, P.2)).1 = 0)) ∧ K' = kTx x b n L bt (pThs bt n L D 21 0 τ tk (0, P.2)).2.1 (pThs bt n L D 21 0 τ tk (0, P.2)).1 (if (pThs bt n L D 21 0 τ tk (0, P.2)).1 = 0 then pl else (pThs bt n L D 21 0 τ tk (0, P.2)).2.1.2.1) (pThs bt n L D 21 0 τ tk (0, P.2)).2.2.1 ++ kYd y ay D ++ kPl p ap (pThs bt n L D 21 0 τ tk (0, P.2)).2.2.2) := by
  refine zSp.of (by decide) (Nat.le_of_ble_eq_true rfl) (fun h0 => ?_)
  show zS _ 0 0 0 [(0, .ref p), (1, .ref x), (2, .ref y)] [] [(x, .inr (8, fTx b n L τ 0 pl (nI tk))), (b, .inl (0, 740, .inl (nF bt))), (y, .inr (9, fYard ay (ysN D.1 D.2.1))), (ay 1, .inl (0, 12, .inl (nF D.2.2.1))), (ay 2, .inl (0, 12, .inl (nF D.2.2.2.1))), (ay 3, .inl (0, 12, .inl (nF D.2.2.2.2.1))), (ay 4, .inl (0, 12, .inl (nF D.2.2.2.2.2.1))), (ay 5, .inl (0, 64, .inl (nF D.2.2.2.2.2.2.1))), (ay 6, .inl (1, 64, .inl (nF D.2.2.2.2.2.2.2))), (p, .inr (3, fPlan ap P.1)), (ap 1, .inl (0, 20, .inl (nF P.2.1))), (ap 2, .inl (0, 20, .inl (nF P.2.2.1))), (ap 3, .inl (0, 20, .inl (nF P.2.2.2.1))), (ap 4, .inl (0, 240, .inl (nF P.2.2.2.2)))]
  refine zs_aload_n dX4_read_0 rfl rfl ?_
  refine zs_callV (M := mX4_clear) (As := []) (st := []) (Kc := [(p, .inr (3, fPlan ap P.1))]) (Kr := [(x, .inr (8, fTx b n L τ 0 pl (nI tk))), (b, .inl (0, 740, .inl (nF bt))), (y, .inr (9, fYard ay (ysN D.1 D.2.1))), (ay 1, .inl (0, 12, .inl (nF D.2.2.1))), (ay 2, .inl (0, 12, .inl (nF D.2.2.2.1))), (ay 3, .inl (0, 12, .inl (nF D.2.2.2.2.1))), (ay 4, .inl (0, 12, .inl (nF D.2.2.2.2.2.1))), (ay 5, .inl (0, 64, .inl (nF D.2.2.2.2.2.2.1))), (ay 6, .inl (1, 64, .inl (nF D.2.2.2.2.2.2.2))), (ap 1, .inl (0, 20, .inl (nF P.2.1))), (ap 2, .inl (0, 20, .inl (nF P.2.2.1))), (ap 3, .inl (0, 20, .inl (nF P.2.2.2.1))), (ap 4, .inl (0, 240, .inl (nF P.2.2.2.2)))]) [9] [0, 1, 2, 3, 4, 5, 6, 7, 8, 10, 11, 12, 13] 0 dX4_read_1 zl_RX4_34 kX4_clear rfl rfl rfl rfl rfl (by decide) rfl rfl (show dd - 1 + 1 ≤ dd by omega) (Nat.zero_le _) (Nat.zero_le _) (Nat.le_of_ble_eq_true rfl) (s_pClear l (dd - 1) p ap P) (fun r K1 hr => ?_)
  obtain ⟨rfl, rfl⟩ := hr
  refine zs_K (K' := [(x, .inr (8, fTx b n L τ 0 pl (nI tk))), (b, .inl (0, 740, .inl (nF bt))), (y, .inr (9, fYard ay (ysN D.1 D.2.1))), (ay 1, .inl (0, 12, .inl (nF D.2.2.1))), (ay 2, .inl (0, 12, .inl (nF D.2.2.2.1))), (ay 3, .inl (0, 12, .inl (nF D.2.2.2.2.1))), (ay 4, .inl (0, 12, .inl (nF D.2.2.2.2.2.1))), (ay 5, .inl (0, 64, .inl (nF D.2.2.2.2.2.2.1))), (ay 6, .inl (1, 64, .inl (nF D.2.2.2.2.2.2.2))), (p, .inr (3, fPlan ap 0)), (ap 1, .inl (0, 20, .inl (nF P.2.1))), (ap 2, .inl (0, 20, .inl (nF P.2.2.1))), (ap 3, .inl (0, 20, .inl (nF P.2.2.2.1))), (ap 4, .inl (0, 240, .inl (nF P.2.2.2.2)))]) [0, 1, 2, 3, 4, 5, 6, 7, 8, 13, 9, 10, 11, 12] rfl (by decide) ?_
  refine zs_iconst (v := nI 0) dX4_read_4 (by decide) ?_
  refine zs_istore_n (lv' := [(3, .int (nI 0)), (0, .ref p), (1, .ref x), (2, .ref y)]) dX4_read_5 (Nat.le_of_ble_eq_true rfl) rfl ?_
  refine zs_iconst (v := nI 0) dX4_read_6 (by decide) ?_
  refine zs_istore (lv' := [(4, .int (nI 0)), (3, .int (nI 0)), (0, .ref p), (1, .ref x), (2, .ref y)]) dX4_read_7 (Nat.le_of_ble_eq_true rfl) rfl ?_
  refine zs_lv [2, 3, 4, 1, 0] rfl ?_
  exact lp_pread x b n L y p ay ap bt pl D hd hn hL hbt hD _ (fun r K1 h => h) 21 0 0 τ tk (0, P.2) rfl (Nat.zero_le _) hτ htk ⟨⟨Nat.zero_le _, fun k hk => absurd hk (Nat.not_lt_zero k)⟩, hPg⟩ rfl
theorem pThs_I {b : Nat → Nat} {n L : Nat} {D : zYd} (hb : ∀ j, b j < 256) (hn : n ≤ 740) (hD : yI D) : ∀ (q e : Nat) (τ : zTk) (tk : Nat) (P : zPl), tOK τ → tk ≤ 99999999 → pFit D P → tOK (pThs b n L D q e τ tk P).2.1 ∧ (pThs b n L D q e τ tk P).2.2.1 ≤ 99999999 ∧ pGd (pThs b n L D q e τ tk P).2.2.2 ∧ ((pThs b n L D q e τ tk P).1 = 0 → pFit D (pThs b n L D q e τ tk P).2.2.2)
  | 0, e, τ, tk, P, hτ, htk, hF => ⟨hτ, htk, hF.2, fun _ => hF⟩
  | q + 1, e, τ, tk, P, hτ, htk, hF => by
    rw [pThs]
    split
    · split
      · exact ⟨hτ, htk, hF.2, fun _ => hF⟩
      · exact ⟨hτ, htk, hF.2, fun _ => hF⟩
    · split
      · exact ⟨hτ, htk, hF.2, fun _ => hF⟩
      · split
        · exact ⟨hτ, htk, hF.2, fun _ => hF⟩
        · split
          · exact ⟨nxt_OK hb hn, htk, hF.2, fun _ => hF⟩
          · rename_i h20 h5
            have h5 : tNu (nxt b n L τ) e 59 = 0 := Decidable.byContradiction h5
            have hv := tNu_r h5
            have hI := pThing_I (b := b) (L := L) (D := D) hb hn hD (nxt_OK (L := L) (τ := nxt b n L τ) hb hn) (tNu_8 (nxt_OK (L := L) (τ := τ) hb hn) h5) (show pGd (pWt P (nxt b n L τ).2.2.2.1) from hF.2)
            generalize pThing b n L D (nxt b n L (nxt b n L τ)) (nxt b n L τ).2.2.2.1 (pWt P (nxt b n L τ).2.2.2.1) = R at hI
            split
            · rename_i hz
              exact ⟨hI.1.1, hI.1.2.1, ⟨hI.1.2.2.2.2.2.2.1, hI.1.2.2.2.2.2.2.2⟩, fun h => absurd h hz⟩
            · rename_i hz
              have hz : R.1 = 0 := Decidable.byContradiction hz
              split
              · exact pThs_I hb hn hD q _ _ _ _ (nxt_OK hb hn) hI.1.2.1 (pFit_s hF (by omega) (by omega) hI.1 (hI.2 hz))
              · exact ⟨hI.1.1, hI.1.2.1, ⟨hI.1.2.2.2.2.2.2.1, hI.1.2.2.2.2.2.2.2⟩, fun h => absurd (show (1 : Nat) = 0 from h) (by decide)⟩
