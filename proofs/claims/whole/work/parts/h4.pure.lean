/-! ===== what the law's cases keep ===== -/
theorem pOK_0 {D : zYd} {P : zPl} (hG : pGd P) : pFit D (0, P.2) := ⟨⟨Nat.zero_le _, fun k hk => absurd hk (Nat.not_lt_zero k)⟩, hG⟩
theorem pXx_0 {D : zYd} {P : zPl} : pXx D 0 (0, P.2) := ⟨fun i j _ hj => absurd hj (Nat.not_lt_zero j), fun i hi => absurd hi (Nat.not_lt_zero i), fun k hk => absurd hk (Nat.not_lt_zero k)⟩
theorem zKp_y {D : zYd} {P : zPl} {S : zSe} {nw : Nat → Int32} {nm : Nat → Int64} (hI : yI D) (hX : yX D) (hY : mYd D nw nm) (h200 : nw 200 = nI 0) (h540 : nw 540 = nI 0) (hG : pGd P) (hV : sV S) : zKp D (0, P.2) (0, 0, S.2.2) nw nm :=
  ⟨hI, hX, hY, pOK_0 hG, (pXx_0 (D := D)).1, (pXx_0 (D := D)).2.2, ⟨h200, fun i hi => absurd hi (Nat.not_lt_zero i)⟩, hV, ⟨Nat.zero_le _, Nat.zero_le _⟩, Nat.zero_le _, ⟨fun _ => h540, fun h => absurd rfl h⟩⟩
theorem mSn_o {S : zSe} {f f' : Nat → Int32} (h : mSn S f) (hf : ∀ j, 540 ≤ j → f' j = f j) : mSn S f' := by
  refine ⟨fun h0 => (hf 540 (by omega)).trans (h.1 h0), fun h0 => ?_⟩
  obtain ⟨a, b, c, d, q⟩ := h.2 h0
  exact ⟨(hf 540 (by omega)).trans a, (hf 541 (by omega)).trans b, c, d, sT_n (m := S.2.1) (fun j _ => hf (550 + j) (by omega)) (by omega) q⟩
theorem pOK_12 {men C th : Nat} {pt pk pn pm : Nat → Nat} (h : pOK men C th pt pk pn pm) {i : Nat} (hi : i < th) (hk : pk i ≤ 1) : pn i ≤ 12 := by
  obtain ⟨a1, a2, a3, a4, a5, a6, a7⟩ := h.2 i hi
  rcases Nat.eq_zero_or_pos (pk i) with h0 | h0
  · exact (a4 h0).2
  · exact a5 (by omega)
theorem mPl_o {D : zYd} {P : zPl} {f f' : Nat → Int32} (hF : pFit D P) (h : mPl P f) (hf : ∀ j, j < 540 → f' j = f j) : mPl P f' := by
  have h20 := hF.1.1
  refine ⟨(hf 200 (by omega)).trans h.1, fun i hi => ?_⟩
  exact pE_o (h.2 i hi) rfl rfl rfl (fun q => pOK_12 hF.1 hi q) (fun _ _ => rfl) (fun j h1 h2 => hf (210 + j) (by omega))
/-- a copy of what was read: all of it comes along -/
theorem zKp_c {D E : zYd} {P Q : zPl} {S T : zSe} {nw nw' : Nat → Int32} {nm nm' : Nat → Int64} (h : zKp E Q T nw nm) (hq : zKq D P S) (hw : ∀ j, j < 800 → nw' j = nw j) (hm : ∀ j, j < 12 → nm' j = nm j) : zKp (yCp D E) (pCp P Q) (sCp S T) nw' nm' := by
  obtain ⟨hI, hX, hY, hF, hSo, hA, hPl, hV, hB, h40, hSn⟩ := h
  obtain ⟨hI2, hG2, hV2⟩ := hq
  obtain ⟨y0, y1, y2, y3, y4, y5, y6, y7, y8, y9, y10, y11, ym, yc⟩ := hY.1
  have h12 := hI.1
  have hth : Q.1 ≤ 20 := hF.1.1
  have e1 : ∀ k, k < Q.1 → nCl Q.2.1 P.2.1 20 k = Q.2.1 k := fun k hk => nCl_s (by omega)
  have e2 : ∀ k, k < Q.1 → nCl Q.2.2.1 P.2.2.1 20 k = Q.2.2.1 k := fun k hk => nCl_s (by omega)
  have e3 : ∀ k, k < Q.1 → nCl Q.2.2.2.1 P.2.2.2.1 20 k = Q.2.2.2.1 k := fun k hk => nCl_s (by omega)
  refine ⟨yCp_I hI hI2.2.2.2.1 hI2.2.2.2.2.1 hI2.2.2.2.2.2.1 hI2.2.2.2.2.2.2.2.1, ?_, ⟨?_, ?_⟩, ⟨⟨hth, ?_⟩, ?_, ?_⟩, ?_, ?_, ⟨(hw 200 (by omega)).trans hPl.1, ?_⟩, ?_, hB, h40, ?_⟩
  · intro c hc hb
    have hb' : E.2.2.2.2.2.2.2 c = 1 := (nCl_s hc).symm.trans hb
    refine ⟨(hX c hc hb').1, ?_⟩
    show 1 ≤ nCl E.2.2.2.2.2.2.1 D.2.2.2.2.2.2.1 64 c
    rw [nCl_s hc]
    exact (hX c hc hb').2
  · refine ⟨(hw 0 (by omega)).trans y0, (hw 1 (by omega)).trans y1, (hw 2 (by omega)).trans y2, (hw 3 (by omega)).trans y3, (hw 4 (by omega)).trans y4, (hw 5 (by omega)).trans y5, (hw 6 (by omega)).trans y6, (hw 7 (by omega)).trans y7, (hw 8 (by omega)).trans y8, (hw 9 (by omega)).trans y9, (hw 10 (by omega)).trans y10, (hw 11 (by omega)).trans y11, fun m hm' => ?_, fun c hc => ?_⟩
    · have hm0 : m < E.1 0 := hm'
      have hm1 : m < 12 := by omega
      obtain ⟨q1, q2, q3⟩ := ym m hm0
      refine ⟨?_, ?_, ?_⟩
      · show nw' (20 + 3 * m) = nI (nCl E.2.2.2.1 D.2.2.2.1 12 m)
        rw [hw _ (by omega), nCl_s hm1]; exact q1
      · show nw' (20 + 3 * m + 1) = nI (nCl E.2.2.2.2.1 D.2.2.2.2.1 12 m)
        rw [hw _ (by omega), nCl_s hm1]; exact q2
      · show nw' (20 + 3 * m + 2) = nI (nCl E.2.2.2.2.2.1 D.2.2.2.2.2.1 12 m)
        rw [hw _ (by omega), nCl_s hm1]; exact q3
    · obtain ⟨q1, q2⟩ := yc c hc
      refine ⟨?_, ?_⟩
      · show nw' (60 + c) = nI (nCl E.2.2.2.2.2.2.1 D.2.2.2.2.2.2.1 64 c)
        rw [hw _ (by omega), nCl_s hc]; exact q1
      · show nw' (130 + c) = nI (nCl E.2.2.2.2.2.2.2 D.2.2.2.2.2.2.2 64 c)
        rw [hw _ (by omega), nCl_s hc]; exact q2
  · intro j hj
    have hj0 : j < E.1 0 := hj
    show nm' j = nL (nCl E.2.2.1 D.2.2.1 12 j)
    rw [hm j (by omega), nCl_s (by omega)]
    exact hY.2 j hj0
  · intro k hk
    obtain ⟨a1, a2, a3, a4, a5, a6, a7⟩ := hF.1.2 k hk
    have hk0 : k < Q.1 := hk
    refine ⟨?_, ?_, ?_, ?_, ?_, ?_, ?_⟩
    · show nCl Q.2.1 P.2.1 20 k ≤ 60
      rw [e1 k hk]; exact a1
    · show nCl Q.2.2.1 P.2.2.1 20 k ≤ 4
      rw [e2 k hk]; exact a2
    · show nCl Q.2.2.2.1 P.2.2.2.1 20 k ≤ 99999999
      rw [e3 k hk]; exact a3
    · show nCl Q.2.2.1 P.2.2.1 20 k = 0 → 2 ≤ nCl Q.2.2.2.1 P.2.2.2.1 20 k ∧ nCl Q.2.2.2.1 P.2.2.2.1 20 k ≤ 12
      rw [e2 k hk, e3 k hk]; exact a4
    · show nCl Q.2.2.1 P.2.2.1 20 k = 1 → nCl Q.2.2.2.1 P.2.2.2.1 20 k ≤ 12
      rw [e2 k hk, e3 k hk]; exact a5
    · show nCl Q.2.2.1 P.2.2.1 20 k ≤ 1 → ∀ i, i < nCl Q.2.2.2.1 P.2.2.2.1 20 k → nCl Q.2.2.2.2 P.2.2.2.2 240 (k * 12 + i) < E.1 0
      rw [e2 k hk, e3 k hk]
      intro h1 i hi
      have := pOK_12 hF.1 hk h1
      rw [nCl_s (by omega)]
      exact a6 h1 i hi
    · show nCl Q.2.2.1 P.2.2.1 20 k = 4 → nCl Q.2.2.2.1 P.2.2.2.1 20 k < E.1 14
      rw [e2 k hk, e3 k hk]; exact a7
  · intro j
    exact nCl_lt (hF.2.1 j) (hG2.1 j)
  · intro j
    exact nCl_le (fun _ => hF.2.2 j) (hG2.2 j)
  · intro i j hij hj
    have hj0 : j < Q.1 := hj
    show nCl Q.2.1 P.2.1 20 i ≤ nCl Q.2.1 P.2.1 20 j
    rw [e1 i (by omega), e1 j hj]
    exact hSo i j hij hj
  · intro k hk h3
    have h4 : nCl Q.2.2.1 P.2.2.1 20 k = 3 := h3
    rw [e2 k hk] at h4
    show pTold (nI (E.1 14)) (nI (E.1 15)) (nI (nCl Q.2.2.2.1 P.2.2.2.1 20 k)) = true
    rw [e3 k hk]
    exact hA k hk h4
  · intro i hi
    have hi0 : i < Q.1 := hi
    exact pE_o (Q := pCp P Q) (hPl.2 i hi) (e1 i hi).symm (e2 i hi).symm (e3 i hi).symm (fun q => pOK_12 hF.1 hi q) (fun j hj => (nCl_s (by omega)).symm) (fun j h1 h2 => hw (210 + j) (by omega))
  · intro j
    exact ⟨nCl_le (fun _ => (hV j).1) (hV2 j).1, nCl_lt (hV j).2.1 (hV2 j).2.1, nCl_le (fun _ => (hV j).2.2) (hV2 j).2.2⟩
  · refine ⟨fun h0 => (hw 540 (by omega)).trans (hSn.1 h0), fun h0 => ?_⟩
    obtain ⟨a, b, c, d, q⟩ := hSn.2 h0
    refine ⟨(hw 540 (by omega)).trans a, (hw 541 (by omega)).trans b, c, d, ?_⟩
    refine sT_o (S := T) (S' := sCp S T) (k := T.2.1 - 1) ⟨Nat.le_refl _, fun j hj => hw (550 + j) (by omega), fun i hi => ⟨nCl_s (by omega), nCl_s (by omega), nCl_s (by omega)⟩⟩ (by omega) q
theorem zKp_q {D : zYd} {P : zPl} {S : zSe} {nw : Nat → Int32} {nm : Nat → Int64} (h : zKp D P S nw nm) : zKq D P S := ⟨h.1, h.2.2.2.1.2, h.2.2.2.2.2.2.2.1⟩
theorem sOv_in {b : Nat} {x old : Nat → Int32} {k j : Nat} (hj : j < k) : sOv b x old k (b + j) = x j := by
  unfold sOv
  rw [if_pos (by omega), show b + j - b = j by omega]
theorem sOw_in {b : Nat} {x old : Nat → Int64} {k j : Nat} (hj : j < k) : sOw b x old k (b + j) = x j := by
  unfold sOw
  rw [if_pos (by omega), show b + j - b = j by omega]
theorem sOv_out {b : Nat} {x old : Nat → Int32} {k j : Nat} (h : j < b ∨ b + k ≤ j) : sOv b x old k j = old j := if_neg (by omega)
theorem sOw_out {b : Nat} {x old : Nat → Int64} {k j : Nat} (h : j < b ∨ b + k ≤ j) : sOw b x old k j = old j := if_neg (by omega)
theorem sB_40 {S : zSe} (h : sB S) : S.2.1 ≤ 40 := by
  have h1 := h.1
  have h2 := h.2
  omega
theorem zKp_o {D : zYd} {P : zPl} {S : zSe} {nw nw' : Nat → Int32} {nm nm' : Nat → Int64} (h : zKp D P S nw nm) (hw : ∀ j, j < 800 → nw' j = nw j) (hm : ∀ j, j < 12 → nm' j = nm j) : zKp D P S nw' nm' := by
  obtain ⟨hI, hX, hY, hF, hSo, hA, hPl, hV, hB, h40, hSn⟩ := h
  have h12 := hI.1
  refine ⟨hI, hX, ⟨yR_o hI.1 hY.1 (fun j hj => hw j (by omega)), fun j hj => (hm j (by omega)).trans (hY.2 j hj)⟩, hF, hSo, hA, mPl_o hF hPl (fun j hj => hw j (by omega)), hV, hB, h40, ?_⟩
  refine ⟨fun h0 => (hw 540 (by omega)).trans (hSn.1 h0), fun h0 => ?_⟩
  obtain ⟨a, b, c, d, q⟩ := hSn.2 h0
  exact ⟨(hw 540 (by omega)).trans a, (hw 541 (by omega)).trans b, c, d, sT_n (m := S.2.1) (fun j _ => hw (550 + j) (by omega)) (by omega) q⟩
theorem sCt_ag {f g : Nat → Bool} {n : Nat} : ∀ m, m ≤ n → (∀ j, j < n → f j = g j) → sCt f m = sCt g m
  | 0, _, _ => rfl
  | m + 1, hm, h => by
    show sCt f m + bN (f m) = sCt g m + bN (g m)
    rw [sCt_ag m (by omega) h, h m (by omega)]
theorem sdL_ag {f g : Nat → Bool} {k : Int32} {n : Nat} (h : ∀ j, j < n → f j = g j) : ∀ q m, m + q ≤ n → sdL f k q m = sdL g k q m
  | 0, _, _ => rfl
  | q + 1, m, hm => by
    show (if f m = true ∧ nI (sCt f m) = k then some m else sdL f k q (m + 1)) = if g m = true ∧ nI (sCt g m) = k then some m else sdL g k q (m + 1)
    rw [h m (by omega), sCt_ag m (show m ≤ n by omega) h, sdL_ag h q (m + 1) (by omega)]
theorem pSd_ag {f g : Nat → Bool} {k : Int32} (h : ∀ j, j < 60 → f j = g j) : pSd f k = pSd g k := by
  unfold pSd
  rw [sdL_ag h 60 0 (by omega), sCt_ag 60 (Nat.le_refl _) h]
theorem hHo_ag {o1 o2 o3 o4 p1 p2 p3 p4 : Nat → Int32} {S : zSe} {m : Nat} (h : o1 m = p1 m ∧ o2 m = p2 m ∧ o3 m = p3 m ∧ o4 m = p4 m) : hHo o1 o2 o3 o4 S m = hHo p1 p2 p3 p4 S m := by
  have hs : sSo o1 o2 o3 o4 m S = sSo p1 p2 p3 p4 m S := by
    funext i
    unfold sSo sMe
    rw [h.1, h.2.1, h.2.2.1, h.2.2.2]
  unfold hHo
  rw [hs]
theorem nAt_ag {o1 o2 o3 o4 p1 p2 p3 p4 : Nat → Int32} {m : Nat} {q : Int32} (h : o1 m = p1 m ∧ o2 m = p2 m ∧ o3 m = p3 m ∧ o4 m = p4 m) : nAt o1 o2 o3 o4 m q = nAt p1 p2 p3 p4 m q := by
  unfold nAt
  rw [h.1, h.2.1, h.2.2.1, h.2.2.2]
