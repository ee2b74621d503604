/-! ===== the law: its helpers ===== -/
def oP (ol : Nat → Int64) (v : Int32) : Nat → Int64 := vp_updL ol (0 : Int32).toNatClampNeg v.toInt64
theorem lg_cmp_s (x : Int64) : lg_cmp x x = 0 := by
  unfold lg_cmp
  simp
theorem oP_c {ol : Nat → Int64} {v w : Int32} (h : v = w) : lg_cmp (oP ol v (0 : Int32).toNatClampNeg) w.toInt64 = 0 := by
  subst h
  rw [show oP ol v (0 : Int32).toNatClampNeg = v.toInt64 by unfold oP vp_updL; exact if_pos rfl]
  exact lg_cmp_s _
theorem cst_W {D : zYd} {b : Nat → Nat} {n m t : Nat} {ro ru : zRs} (hD : yI D) (hT : pTdP b n (D.1 0) 2 12) (ht : 60 * m ≤ t ∧ t ≤ 3600) (hW : cW ro) : cW (rwB D (nCl b (fun _ => 0) n) n ((rnB D (nCl b (fun _ => 0) n) n (60 * m) ru).1 7) (t - 60 * m) (rwB D (nCl b (fun _ => 0) n) n (D.1 9) t ro)) := by
  have h9 := hD.2.2.2.2.2.2.2.2.2.2.2.2.2.1
  have hC := rnB_C (D := D) (f := (nCl b (fun _ => 0) n)) (n := n) (k := 60 * m) (s := ru)
  exact (rwB_W hD ⟨hT.1, hT.2.1⟩ (nCl_f hT.2.2.1) (by omega) (by omega) (rwB_W hD ⟨hT.1, hT.2.1⟩ (nCl_f hT.2.2.1) h9 ht.2 hW).1.w).1.w
theorem dL_man_0 : decode cL_man 0 = .ok (.aload_n 3, 1) := by decide +kernel
theorem dL_man_1 : decode cL_man 1 = .ok (.iconst 0, 1) := by decide +kernel
theorem dL_man_2 : decode cL_man 2 = .ok (.aload_n 0, 1) := by decide +kernel
theorem dL_man_3 : decode cL_man 3 = .ok (.iload_n 1, 1) := by decide +kernel
theorem dL_man_4 : decode cL_man 4 = .ok (.iload_n 2, 1) := by decide +kernel
theorem dL_man_5 : decode cL_man 5 = .ok (.invokevirtual 7, 3) := by decide +kernel
theorem dL_man_8 : decode cL_man 8 = .ok (.i2l, 1) := by decide +kernel
theorem dL_man_9 : decode cL_man 9 = .ok (.lastore, 1) := by decide +kernel
theorem dL_man_10 : decode cL_man 10 = .ok (.goto 7, 3) := by decide +kernel
theorem dL_man_13 : decode cL_man 13 = .ok (.astore 4, 2) := by decide +kernel
theorem dL_man_15 : decode cL_man 15 = .ok (.iconst 1, 1) := by decide +kernel
theorem dL_man_16 : decode cL_man 16 = .ok (.ireturn, 1) := by decide +kernel
theorem dL_man_17 : decode cL_man 17 = .ok (.iconst 0, 1) := by decide +kernel
theorem dL_man_18 : decode cL_man 18 = .ok (.ireturn, 1) := by decide +kernel
abbrev mL_man : zM := (yL_man, cL_man, 5, some .int)
theorem kL_man : Cond.codeWith mL_man.1 mL_man.2.1 mL_man.2.2.1 mL_man.2.2.2 [(0, 10, 13, 13)] ∈ zTs ∧ mL_man.2.2.1 ≤ 40 := ⟨(zIt5 209 rfl rfl), by decide⟩
set_option maxRecDepth 100000 in
theorem s_Lman (l : Launch) (dd : Nat) (hl : l.stackTraces = false) (z : Nat) (a : Nat → Nat) (sz : Nat) (fa : Nat) (nk : Nat) (oo : Nat) (be : Nat) (ho : Nat) (y : Nat) (p : Nat) (s : Nat) (ay : Nat → Nat) (D : zYd) (x : Int32) (q : Int32) (hd : 7 ≤ dd) (hD : yI D) (oq : Nat) (ol : Nat → Int64) : zSpW l mL_man [(0, 10, 13, 13)] dd 1 6 [.ref z, .int x, .int q, .ref oq] [(oq, .inl (2, 1, .inr (.inl ol))), (z, .inr (10, fPR a sz fa nk oo be ho)), ((a 4), .inr (7, fSta y p s)), (y, .inr (9, fYard ay (ysN D.1 D.2.1))), (ay 2, .inl (0, 12, .inl (nF D.2.2.2.1))), (ay 3, .inl (0, 12, .inl (nF D.2.2.2.2.1))), (ay 4, .inl (0, 12, .inl (nF D.2.2.2.2.2.1)))] (fun r K' => (∃ k, k < D.1 0 ∧ x = nI k ∧ (¬ x < 0 ∧ x < nI (D.1 0) ∧ ¬ q < 0 ∧ ¬ nI 2 < q) ∧ r = some (.int 0) ∧ K' = [(oq, .inl (2, 1, .inr (.inl (oP ol ((pMa D k q)))))), (z, .inr (10, fPR a sz fa nk oo be ho)), ((a 4), .inr (7, fSta y p s)), (y, .inr (9, fYard ay (ysN D.1 D.2.1))), (ay 2, .inl (0, 12, .inl (nF D.2.2.2.1))), (ay 3, .inl (0, 12, .inl (nF D.2.2.2.2.1))), (ay 4, .inl (0, 12, .inl (nF D.2.2.2.2.2.1)))]) ∨ (¬ (¬ x < 0 ∧ x < nI (D.1 0) ∧ ¬ q < 0 ∧ ¬ nI 2 < q) ∧ r = some (.int 1) ∧ K' = [(oq, .inl (2, 1, .inr (.inl ol))), (z, .inr (10, fPR a sz fa nk oo be ho)), ((a 4), .inr (7, fSta y p s)), (y, .inr (9, fYard ay (ysN D.1 D.2.1))), (ay 2, .inl (0, 12, .inl (nF D.2.2.2.1))), (ay 3, .inl (0, 12, .inl (nF D.2.2.2.2.1))), (ay 4, .inl (0, 12, .inl (nF D.2.2.2.2.2.1)))])) := by
  refine zSpW.of rfl (by decide) (Nat.le_of_ble_eq_true rfl) (fun h0 => ?_)
  show zS1 [⟨0, 10, 13, 13⟩] _ 1 6 0 [(0, .ref z), (1, .int x), (2, .int q), (3, .ref oq)] [] [(oq, .inl (2, 1, .inr (.inl ol))), (z, .inr (10, fPR a sz fa nk oo be ho)), ((a 4), .inr (7, fSta y p s)), (y, .inr (9, fYard ay (ysN D.1 D.2.1))), (ay 2, .inl (0, 12, .inl (nF D.2.2.2.1))), (ay 3, .inl (0, 12, .inl (nF D.2.2.2.2.1))), (ay 4, .inl (0, 12, .inl (nF D.2.2.2.2.2.1)))]
  refine zt_aload_n dL_man_0 rfl ?_
  refine zt_iconst dL_man_1 rfl ?_
  refine zt_aload_n dL_man_2 rfl ?_
  refine zt_iload_n dL_man_3 rfl ?_
  refine zt_iload_n dL_man_4 rfl ?_
  refine zt_tryV (M := mX12_man) (As := [.int x, .int q]) (st := [.int 0, .ref oq]) (x := ⟨0, 10, 13, 13⟩) (hp := 12) (dd' := dd - 1) (Kc := [(z, .inr (10, fPR a sz fa nk oo be ho)), ((a 4), .inr (7, fSta y p s)), (y, .inr (9, fYard ay (ysN D.1 D.2.1))), (ay 2, .inl (0, 12, .inl (nF D.2.2.2.1))), (ay 3, .inl (0, 12, .inl (nF D.2.2.2.2.1))), (ay 4, .inl (0, 12, .inl (nF D.2.2.2.2.2.1)))]) (Kr := [(oq, .inl (2, 1, .inr (.inl ol)))]) [1, 2, 3, 4, 5, 6] [0] 0 dL_man_5 zl_RL_7 kX12_man rfl rfl rfl rfl rfl (by decide) rfl rfl (show dd - 1 + 1 ≤ dd by omega) (Nat.le_refl _) (Nat.le_refl _) (Nat.le_of_ble_eq_true rfl) rfl (by decide) (zIt5 210 rfl rfl) dL_man_13 (Nat.le_of_ble_eq_true rfl) rfl (s_man l (dd - 1) hl z a sz fa nk oo be ho y p s ay D x q (by omega) hD) (fun r K1 hr => ?_) (fun K1 hr => ?_)
  · obtain ⟨k, h0a, h0b, h0c, rfl, rfl⟩ := hr
    refine zs_i2l dL_man_8 rfl ?_
    refine zs_last 0 dL_man_9 rfl (show ¬ ((0 : Int32) < 0 ∨ 1 ≤ (0 : Int32).toNatClampNeg) by decide) ?_
    refine zs_goto (tgt := 17) dL_man_10 (by decide) ?_
    refine zs_iconst dL_man_17 rfl ?_
    exact zs_iret dL_man_18 rfl (Or.inl ⟨k, h0a, h0b, h0c, rfl, rfl⟩)
  · obtain ⟨hx, rfl⟩ := hr
    refine zs_iconst dL_man_15 rfl ?_
    exact zs_iret dL_man_16 rfl (Or.inr ⟨hx, rfl, rfl⟩)
theorem dL_cell_0 : decode cL_cell 0 = .ok (.aload 4, 2) := by decide +kernel
theorem dL_cell_2 : decode cL_cell 2 = .ok (.iconst 0, 1) := by decide +kernel
theorem dL_cell_3 : decode cL_cell 3 = .ok (.aload_n 0, 1) := by decide +kernel
theorem dL_cell_4 : decode cL_cell 4 = .ok (.iload_n 1, 1) := by decide +kernel
theorem dL_cell_5 : decode cL_cell 5 = .ok (.iload_n 2, 1) := by decide +kernel
theorem dL_cell_6 : decode cL_cell 6 = .ok (.iload_n 3, 1) := by decide +kernel
theorem dL_cell_7 : decode cL_cell 7 = .ok (.invokevirtual 15, 3) := by decide +kernel
theorem dL_cell_10 : decode cL_cell 10 = .ok (.i2l, 1) := by decide +kernel
theorem dL_cell_11 : decode cL_cell 11 = .ok (.lastore, 1) := by decide +kernel
theorem dL_cell_12 : decode cL_cell 12 = .ok (.goto 7, 3) := by decide +kernel
theorem dL_cell_15 : decode cL_cell 15 = .ok (.astore 5, 2) := by decide +kernel
theorem dL_cell_17 : decode cL_cell 17 = .ok (.iconst 1, 1) := by decide +kernel
theorem dL_cell_18 : decode cL_cell 18 = .ok (.ireturn, 1) := by decide +kernel
theorem dL_cell_19 : decode cL_cell 19 = .ok (.iconst 0, 1) := by decide +kernel
theorem dL_cell_20 : decode cL_cell 20 = .ok (.ireturn, 1) := by decide +kernel
abbrev mL_cell : zM := (yL_cell, cL_cell, 6, some .int)
theorem kL_cell : Cond.codeWith mL_cell.1 mL_cell.2.1 mL_cell.2.2.1 mL_cell.2.2.2 [(0, 12, 15, 13)] ∈ zTs ∧ mL_cell.2.2.1 ≤ 40 := ⟨(zIt6 38 rfl rfl), by decide⟩
set_option maxRecDepth 100000 in
theorem s_Lcell (l : Launch) (dd : Nat) (hl : l.stackTraces = false) (z : Nat) (a : Nat → Nat) (sz : Nat) (fa : Nat) (nk : Nat) (oo : Nat) (be : Nat) (ho : Nat) (y : Nat) (p : Nat) (s : Nat) (ay : Nat → Nat) (D : zYd) (x1 : Int32) (x2 : Int32) (q : Int32) (hd : 7 ≤ dd) (hD : yI D) (oq : Nat) (ol : Nat → Int64) : zSpW l mL_cell [(0, 12, 15, 13)] dd 1 6 [.ref z, .int x1, .int x2, .int q, .ref oq] [(oq, .inl (2, 1, .inr (.inl ol))), (z, .inr (10, fPR a sz fa nk oo be ho)), ((a 4), .inr (7, fSta y p s)), (y, .inr (9, fYard ay (ysN D.1 D.2.1))), (ay 5, .inl (0, 64, .inl (nF D.2.2.2.2.2.2.1))), (ay 6, .inl (1, 64, .inl (nF D.2.2.2.2.2.2.2)))] (fun r K' => (∃ i j, i < D.1 14 ∧ j < D.1 15 ∧ x1 = nI i ∧ x2 = nI j ∧ (¬ x1 < 0 ∧ x1 < nI (D.1 14) ∧ ¬ x2 < 0 ∧ x2 < nI (D.1 15) ∧ ¬ q < 0 ∧ ¬ nI 1 < q) ∧ r = some (.int 0) ∧ K' = [(oq, .inl (2, 1, .inr (.inl (oP ol ((pCe D (j * D.1 14 + i) q)))))), (z, .inr (10, fPR a sz fa nk oo be ho)), ((a 4), .inr (7, fSta y p s)), (y, .inr (9, fYard ay (ysN D.1 D.2.1))), (ay 5, .inl (0, 64, .inl (nF D.2.2.2.2.2.2.1))), (ay 6, .inl (1, 64, .inl (nF D.2.2.2.2.2.2.2)))]) ∨ (¬ (¬ x1 < 0 ∧ x1 < nI (D.1 14) ∧ ¬ x2 < 0 ∧ x2 < nI (D.1 15) ∧ ¬ q < 0 ∧ ¬ nI 1 < q) ∧ r = some (.int 1) ∧ K' = [(oq, .inl (2, 1, .inr (.inl ol))), (z, .inr (10, fPR a sz fa nk oo be ho)), ((a 4), .inr (7, fSta y p s)), (y, .inr (9, fYard ay (ysN D.1 D.2.1))), (ay 5, .inl (0, 64, .inl (nF D.2.2.2.2.2.2.1))), (ay 6, .inl (1, 64, .inl (nF D.2.2.2.2.2.2.2)))])) := by
  refine zSpW.of rfl (by decide) (Nat.le_of_ble_eq_true rfl) (fun h0 => ?_)
  show zS1 [⟨0, 12, 15, 13⟩] _ 1 6 0 [(0, .ref z), (1, .int x1), (2, .int x2), (3, .int q), (4, .ref oq)] [] [(oq, .inl (2, 1, .inr (.inl ol))), (z, .inr (10, fPR a sz fa nk oo be ho)), ((a 4), .inr (7, fSta y p s)), (y, .inr (9, fYard ay (ysN D.1 D.2.1))), (ay 5, .inl (0, 64, .inl (nF D.2.2.2.2.2.2.1))), (ay 6, .inl (1, 64, .inl (nF D.2.2.2.2.2.2.2)))]
  refine zt_aload dL_cell_0 rfl ?_
  refine zt_iconst dL_cell_2 rfl ?_
  refine zt_aload_n dL_cell_3 rfl ?_
  refine zt_iload_n dL_cell_4 rfl ?_
  refine zt_iload_n dL_cell_5 rfl ?_
  refine zt_iload_n dL_cell_6 rfl ?_
  refine zt_tryV (M := mX12_cell) (As := [.int x1, .int x2, .int q]) (st := [.int 0, .ref oq]) (x := ⟨0, 12, 15, 13⟩) (hp := 14) (dd' := dd - 1) (Kc := [(z, .inr (10, fPR a sz fa nk oo be ho)), ((a 4), .inr (7, fSta y p s)), (y, .inr (9, fYard ay (ysN D.1 D.2.1))), (ay 5, .inl (0, 64, .inl (nF D.2.2.2.2.2.2.1))), (ay 6, .inl (1, 64, .inl (nF D.2.2.2.2.2.2.2)))]) (Kr := [(oq, .inl (2, 1, .inr (.inl ol)))]) [1, 2, 3, 4, 5] [0] 0 dL_cell_7 zl_RL_15 kX12_cell rfl rfl rfl rfl rfl (by decide) rfl rfl (show dd - 1 + 1 ≤ dd by omega) (Nat.le_refl _) (Nat.le_refl _) (Nat.le_of_ble_eq_true rfl) rfl (by decide) (zIt5 210 rfl rfl) dL_cell_15 (Nat.le_of_ble_eq_true rfl) rfl (s_cell l (dd - 1) hl z a sz fa nk oo be ho y p s ay D x1 x2 q (by omega) hD) (fun r K1 hr => ?_) (fun K1 hr => ?_)
  · obtain ⟨i, j, h0a, h0b, h0c, h0d, h0e, rfl, rfl⟩ := hr
    refine zs_i2l dL_cell_10 rfl ?_
    refine zs_last 0 dL_cell_11 rfl (show ¬ ((0 : Int32) < 0 ∨ 1 ≤ (0 : Int32).toNatClampNeg) by decide) ?_
    refine zs_goto (tgt := 19) dL_cell_12 (by decide) ?_
    refine zs_iconst dL_cell_19 rfl ?_
    exact zs_iret dL_cell_20 rfl (Or.inl ⟨i, j, h0a, h0b, h0c, h0d, h0e, rfl, rfl⟩)
  · obtain ⟨hx, rfl⟩ := hr
    refine zs_iconst dL_cell_17 rfl ?_
    exact zs_iret dL_cell_18 rfl (Or.inr ⟨hx, rfl, rfl⟩)
theorem dL_cost_0 : decode cL_cost 0 = .ok (.aload_n 3, 1) := by decide +kernel
theorem dL_cost_1 : decode cL_cost 1 = .ok (.iconst 0, 1) := by decide +kernel
theorem dL_cost_2 : decode cL_cost 2 = .ok (.aload_n 0, 1) := by decide +kernel
theorem dL_cost_3 : decode cL_cost 3 = .ok (.iload_n 1, 1) := by decide +kernel
theorem dL_cost_4 : decode cL_cost 4 = .ok (.iload_n 2, 1) := by decide +kernel
theorem dL_cost_5 : decode cL_cost 5 = .ok (.invokevirtual 19, 3) := by decide +kernel
theorem dL_cost_8 : decode cL_cost 8 = .ok (.i2l, 1) := by decide +kernel
theorem dL_cost_9 : decode cL_cost 9 = .ok (.lastore, 1) := by decide +kernel
theorem dL_cost_10 : decode cL_cost 10 = .ok (.goto 7, 3) := by decide +kernel
theorem dL_cost_13 : decode cL_cost 13 = .ok (.astore 4, 2) := by decide +kernel
theorem dL_cost_15 : decode cL_cost 15 = .ok (.iconst 1, 1) := by decide +kernel
theorem dL_cost_16 : decode cL_cost 16 = .ok (.ireturn, 1) := by decide +kernel
theorem dL_cost_17 : decode cL_cost 17 = .ok (.iconst 0, 1) := by decide +kernel
theorem dL_cost_18 : decode cL_cost 18 = .ok (.ireturn, 1) := by decide +kernel
abbrev mL_cost : zM := (yL_cost, cL_cost, 5, some .int)
theorem kL_cost : Cond.codeWith mL_cost.1 mL_cost.2.1 mL_cost.2.2.1 mL_cost.2.2.2 [(0, 10, 13, 13)] ∈ zTs ∧ mL_cost.2.2.1 ≤ 40 := ⟨(zIt6 45 rfl rfl), by decide⟩
set_option maxRecDepth 100000 in
theorem s_Lcost (l : Launch) (dd : Nat) (hl : l.stackTraces = false) (z : Nat) (a : Nat → Nat) (sz : Nat) (fa : Nat) (nk : Nat) (oo : Nat) (be : Nat) (ho : Nat) (y : Nat) (p : Nat) (s : Nat) (ay : Nat → Nat) (ar : Nat → Nat) (au : Nat → Nat) (D : zYd) (bt : Nat → Nat) (ro : zRs) (ru : zRs) (yr : Value) (yu : Value) (x1 : Int32) (x2 : Int32) (hd : 7 ≤ dd) (hsz : sz ≤ 740) (hbt : ∀ j, bt j < 256) (hD : yI D) (hW : cW ro) (hI : rI ru) (oq : Nat) (ol : Nat → Int64) : zSpW l mL_cost [(0, 10, 13, 13)] dd 1 (sz + 6) [.ref z, .int x1, .int x2, .ref oq] [(oq, .inl (2, 1, .inr (.inl ol))), (z, .inr (10, fPR a sz fa nk oo be ho)), (a 0, .inl (0, 740, .inl (nF bt))), ((a 4), .inr (7, fSta y p s)), (y, .inr (9, fYard ay (ysN D.1 D.2.1))), (ay 1, .inl (0, 12, .inl (nF D.2.2.1))), (ay 2, .inl (0, 12, .inl (nF D.2.2.2.1))), (ay 3, .inl (0, 12, .inl (nF D.2.2.2.2.1))), (ay 4, .inl (0, 12, .inl (nF D.2.2.2.2.2.1))), (ay 5, .inl (0, 64, .inl (nF D.2.2.2.2.2.2.1))), (ay 6, .inl (1, 64, .inl (nF D.2.2.2.2.2.2.2))), ((a 9), .inr (4, fRow ar (nF ro.1) yr)), (ar 1, .inl (0, 12, .inl (nF (ro.2 1)))), (ar 2, .inl (0, 12, .inl (nF (ro.2 2)))), (ar 3, .inl (0, 12, .inl (nF (ro.2 3)))), (ar 4, .inl (0, 12, .inl (nF (ro.2 4)))), (ar 5, .inl (0, 12, .inl (nF (ro.2 5)))), (ar 6, .inl (0, 360, .inl (nF (ro.2 6)))), (ar 7, .inl (0, 12, .inl (nF (ro.2 7)))), (ar 8, .inl (0, 12, .inl (nF (ro.2 8)))), (ar 9, .inl (0, 12, .inl (nF (ro.2 9)))), (ar 10, .inl (0, 100, .inl (nF (ro.2 10)))), ((a 10), .inr (5, fRun au (nF ru.1) yu)), (au 1, .inl (0, 12, .inl (nF (ru.2 1)))), (au 2, .inl (0, 12, .inl (nF (ru.2 2)))), (au 3, .inl (0, 12, .inl (nF (ru.2 3)))), (au 4, .inl (0, 12, .inl (nF (ru.2 4))))] (fun r K' => (∃ m t, m ≤ 60 ∧ (60 * m ≤ t ∧ t ≤ 3600) ∧ x1 = nI m ∧ x2 = nI t ∧ (¬ x1 < 0 ∧ ¬ nI 60 < x1 ∧ ¬ x2 < nI 60 * x1 ∧ ¬ nI 3600 < x2 ∧ pTdP bt sz (D.1 0) 2 12) ∧ r = some (.int 0) ∧ K' = [(oq, .inl (2, 1, .inr (.inl (oP ol ((nI ((rwB D (nCl bt (fun _ => 0) sz) sz (D.1 9) t ro).1 15) - nI ((rnB D (nCl bt (fun _ => 0) sz) sz (60 * m) ru).1 8) - nI ((rwB D (nCl bt (fun _ => 0) sz) sz ((rnB D (nCl bt (fun _ => 0) sz) sz (60 * m) ru).1 7) (t - 60 * m) (rwB D (nCl bt (fun _ => 0) sz) sz (D.1 9) t ro)).1 15))))))), (z, .inr (10, fPR a 0 fa nk oo be ho)), (a 0, .inl (0, 740, .inl (nF bt))), ((a 4), .inr (7, fSta y p s)), (y, .inr (9, fYard ay (ysN D.1 D.2.1))), (ay 1, .inl (0, 12, .inl (nF D.2.2.1))), (ay 2, .inl (0, 12, .inl (nF D.2.2.2.1))), (ay 3, .inl (0, 12, .inl (nF D.2.2.2.2.1))), (ay 4, .inl (0, 12, .inl (nF D.2.2.2.2.2.1))), (ay 5, .inl (0, 64, .inl (nF D.2.2.2.2.2.2.1))), (ay 6, .inl (1, 64, .inl (nF D.2.2.2.2.2.2.2))), ((a 9), .inr (4, fRow ar (nF (rwB D (nCl bt (fun _ => 0) sz) sz ((rnB D (nCl bt (fun _ => 0) sz) sz (60 * m) ru).1 7) (t - 60 * m) (rwB D (nCl bt (fun _ => 0) sz) sz (D.1 9) t ro)).1) (.ref y))), (ar 1, .inl (0, 12, .inl (nF ((rwB D (nCl bt (fun _ => 0) sz) sz ((rnB D (nCl bt (fun _ => 0) sz) sz (60 * m) ru).1 7) (t - 60 * m) (rwB D (nCl bt (fun _ => 0) sz) sz (D.1 9) t ro)).2 1)))), (ar 2, .inl (0, 12, .inl (nF ((rwB D (nCl bt (fun _ => 0) sz) sz ((rnB D (nCl bt (fun _ => 0) sz) sz (60 * m) ru).1 7) (t - 60 * m) (rwB D (nCl bt (fun _ => 0) sz) sz (D.1 9) t ro)).2 2)))), (ar 3, .inl (0, 12, .inl (nF ((rwB D (nCl bt (fun _ => 0) sz) sz ((rnB D (nCl bt (fun _ => 0) sz) sz (60 * m) ru).1 7) (t - 60 * m) (rwB D (nCl bt (fun _ => 0) sz) sz (D.1 9) t ro)).2 3)))), (ar 4, .inl (0, 12, .inl (nF ((rwB D (nCl bt (fun _ => 0) sz) sz ((rnB D (nCl bt (fun _ => 0) sz) sz (60 * m) ru).1 7) (t - 60 * m) (rwB D (nCl bt (fun _ => 0) sz) sz (D.1 9) t ro)).2 4)))), (ar 5, .inl (0, 12, .inl (nF ((rwB D (nCl bt (fun _ => 0) sz) sz ((rnB D (nCl bt (fun _ => 0) sz) sz (60 * m) ru).1 7) (t - 60 * m) (rwB D (nCl bt (fun _ => 0) sz) sz (D.1 9) t ro)).2 5)))), (ar 6, .inl (0, 360, .inl (nF ((rwB D (nCl bt (fun _ => 0) sz) sz ((rnB D (nCl bt (fun _ => 0) sz) sz (60 * m) ru).1 7) (t - 60 * m) (rwB D (nCl bt (fun _ => 0) sz) sz (D.1 9) t ro)).2 6)))), (ar 7, .inl (0, 12, .inl (nF ((rwB D (nCl bt (fun _ => 0) sz) sz ((rnB D (nCl bt (fun _ => 0) sz) sz (60 * m) ru).1 7) (t - 60 * m) (rwB D (nCl bt (fun _ => 0) sz) sz (D.1 9) t ro)).2 7)))), (ar 8, .inl (0, 12, .inl (nF ((rwB D (nCl bt (fun _ => 0) sz) sz ((rnB D (nCl bt (fun _ => 0) sz) sz (60 * m) ru).1 7) (t - 60 * m) (rwB D (nCl bt (fun _ => 0) sz) sz (D.1 9) t ro)).2 8)))), (ar 9, .inl (0, 12, .inl (nF ((rwB D (nCl bt (fun _ => 0) sz) sz ((rnB D (nCl bt (fun _ => 0) sz) sz (60 * m) ru).1 7) (t - 60 * m) (rwB D (nCl bt (fun _ => 0) sz) sz (D.1 9) t ro)).2 9)))), (ar 10, .inl (0, 100, .inl (nF ((rwB D (nCl bt (fun _ => 0) sz) sz ((rnB D (nCl bt (fun _ => 0) sz) sz (60 * m) ru).1 7) (t - 60 * m) (rwB D (nCl bt (fun _ => 0) sz) sz (D.1 9) t ro)).2 10)))), ((a 10), .inr (5, fRun au (nF (rnB D (nCl bt (fun _ => 0) sz) sz (60 * m) ru).1) (.ref y))), (au 1, .inl (0, 12, .inl (nF ((rnB D (nCl bt (fun _ => 0) sz) sz (60 * m) ru).2 1)))), (au 2, .inl (0, 12, .inl (nF ((rnB D (nCl bt (fun _ => 0) sz) sz (60 * m) ru).2 2)))), (au 3, .inl (0, 12, .inl (nF ((rnB D (nCl bt (fun _ => 0) sz) sz (60 * m) ru).2 3)))), (au 4, .inl (0, 12, .inl (nF ((rnB D (nCl bt (fun _ => 0) sz) sz (60 * m) ru).2 4))))]) ∨ (¬ (¬ x1 < 0 ∧ ¬ nI 60 < x1 ∧ ¬ x2 < nI 60 * x1 ∧ ¬ nI 3600 < x2 ∧ pTdP bt sz (D.1 0) 2 12) ∧ r = some (.int 1) ∧ K' = [(oq, .inl (2, 1, .inr (.inl ol))), (z, .inr (10, fPR a sz fa nk oo be ho)), (a 0, .inl (0, 740, .inl (nF bt))), ((a 4), .inr (7, fSta y p s)), (y, .inr (9, fYard ay (ysN D.1 D.2.1))), (ay 1, .inl (0, 12, .inl (nF D.2.2.1))), (ay 2, .inl (0, 12, .inl (nF D.2.2.2.1))), (ay 3, .inl (0, 12, .inl (nF D.2.2.2.2.1))), (ay 4, .inl (0, 12, .inl (nF D.2.2.2.2.2.1))), (ay 5, .inl (0, 64, .inl (nF D.2.2.2.2.2.2.1))), (ay 6, .inl (1, 64, .inl (nF D.2.2.2.2.2.2.2))), ((a 9), .inr (4, fRow ar (nF ro.1) yr)), (ar 1, .inl (0, 12, .inl (nF (ro.2 1)))), (ar 2, .inl (0, 12, .inl (nF (ro.2 2)))), (ar 3, .inl (0, 12, .inl (nF (ro.2 3)))), (ar 4, .inl (0, 12, .inl (nF (ro.2 4)))), (ar 5, .inl (0, 12, .inl (nF (ro.2 5)))), (ar 6, .inl (0, 360, .inl (nF (ro.2 6)))), (ar 7, .inl (0, 12, .inl (nF (ro.2 7)))), (ar 8, .inl (0, 12, .inl (nF (ro.2 8)))), (ar 9, .inl (0, 12, .inl (nF (ro.2 9)))), (ar 10, .inl (0, 100, .inl (nF (ro.2 10)))), ((a 10), .inr (5, fRun au (nF ru.1) yu)), (au 1, .inl (0, 12, .inl (nF (ru.2 1)))), (au 2, .inl (0, 12, .inl (nF (ru.2 2)))), (au 3, .inl (0, 12, .inl (nF (ru.2 3)))), (au 4, .inl (0, 12, .inl (nF (ru.2 4))))])) := by
  refine zSpW.of rfl (by decide) (Nat.le_of_ble_eq_true rfl) (fun h0 => ?_)
  show zS1 [⟨0, 10, 13, 13⟩] _ 1 (sz + 6) 0 [(0, .ref z), (1, .int x1), (2, .int x2), (3, .ref oq)] [] [(oq, .inl (2, 1, .inr (.inl ol))), (z, .inr (10, fPR a sz fa nk oo be ho)), (a 0, .inl (0, 740, .inl (nF bt))), ((a 4), .inr (7, fSta y p s)), (y, .inr (9, fYard ay (ysN D.1 D.2.1))), (ay 1, .inl (0, 12, .inl (nF D.2.2.1))), (ay 2, .inl (0, 12, .inl (nF D.2.2.2.1))), (ay 3, .inl (0, 12, .inl (nF D.2.2.2.2.1))), (ay 4, .inl (0, 12, .inl (nF D.2.2.2.2.2.1))), (ay 5, .inl (0, 64, .inl (nF D.2.2.2.2.2.2.1))), (ay 6, .inl (1, 64, .inl (nF D.2.2.2.2.2.2.2))), ((a 9), .inr (4, fRow ar (nF ro.1) yr)), (ar 1, .inl (0, 12, .inl (nF (ro.2 1)))), (ar 2, .inl (0, 12, .inl (nF (ro.2 2)))), (ar 3, .inl (0, 12, .inl (nF (ro.2 3)))), (ar 4, .inl (0, 12, .inl (nF (ro.2 4)))), (ar 5, .inl (0, 12, .inl (nF (ro.2 5)))), (ar 6, .inl (0, 360, .inl (nF (ro.2 6)))), (ar 7, .inl (0, 12, .inl (nF (ro.2 7)))), (ar 8, .inl (0, 12, .inl (nF (ro.2 8)))), (ar 9, .inl (0, 12, .inl (nF (ro.2 9)))), (ar 10, .inl (0, 100, .inl (nF (ro.2 10)))), ((a 10), .inr (5, fRun au (nF ru.1) yu)), (au 1, .inl (0, 12, .inl (nF (ru.2 1)))), (au 2, .inl (0, 12, .inl (nF (ru.2 2)))), (au 3, .inl (0, 12, .inl (nF (ru.2 3)))), (au 4, .inl (0, 12, .inl (nF (ru.2 4))))]
  refine zt_aload_n dL_cost_0 rfl ?_
  refine zt_iconst dL_cost_1 rfl ?_
  refine zt_aload_n dL_cost_2 rfl ?_
  refine zt_iload_n dL_cost_3 rfl ?_
  refine zt_iload_n dL_cost_4 rfl ?_
  refine zt_tryV (M := mX12_cost) (As := [.int x1, .int x2]) (st := [.int 0, .ref oq]) (x := ⟨0, 10, 13, 13⟩) (hp := 12) (dd' := dd - 1) (Kc := [(z, .inr (10, fPR a sz fa nk oo be ho)), (a 0, .inl (0, 740, .inl (nF bt))), ((a 4), .inr (7, fSta y p s)), (y, .inr (9, fYard ay (ysN D.1 D.2.1))), (ay 1, .inl (0, 12, .inl (nF D.2.2.1))), (ay 2, .inl (0, 12, .inl (nF D.2.2.2.1))), (ay 3, .inl (0, 12, .inl (nF D.2.2.2.2.1))), (ay 4, .inl (0, 12, .inl (nF D.2.2.2.2.2.1))), (ay 5, .inl (0, 64, .inl (nF D.2.2.2.2.2.2.1))), (ay 6, .inl (1, 64, .inl (nF D.2.2.2.2.2.2.2))), ((a 9), .inr (4, fRow ar (nF ro.1) yr)), (ar 1, .inl (0, 12, .inl (nF (ro.2 1)))), (ar 2, .inl (0, 12, .inl (nF (ro.2 2)))), (ar 3, .inl (0, 12, .inl (nF (ro.2 3)))), (ar 4, .inl (0, 12, .inl (nF (ro.2 4)))), (ar 5, .inl (0, 12, .inl (nF (ro.2 5)))), (ar 6, .inl (0, 360, .inl (nF (ro.2 6)))), (ar 7, .inl (0, 12, .inl (nF (ro.2 7)))), (ar 8, .inl (0, 12, .inl (nF (ro.2 8)))), (ar 9, .inl (0, 12, .inl (nF (ro.2 9)))), (ar 10, .inl (0, 100, .inl (nF (ro.2 10)))), ((a 10), .inr (5, fRun au (nF ru.1) yu)), (au 1, .inl (0, 12, .inl (nF (ru.2 1)))), (au 2, .inl (0, 12, .inl (nF (ru.2 2)))), (au 3, .inl (0, 12, .inl (nF (ru.2 3)))), (au 4, .inl (0, 12, .inl (nF (ru.2 4))))]) (Kr := [(oq, .inl (2, 1, .inr (.inl ol)))]) [1, 2, 3, 4, 5, 6, 7, 8, 9, 10, 11, 12, 13, 14, 15, 16, 17, 18, 19, 20, 21, 22, 23, 24, 25, 26] [0] 0 dL_cost_5 zl_RL_19 kX12_cost rfl rfl rfl rfl rfl (by decide) rfl rfl (show dd - 1 + 1 ≤ dd by omega) (Nat.le_refl _) (Nat.le_refl _) (Nat.le_of_ble_eq_true rfl) rfl (by decide) (zIt5 210 rfl rfl) dL_cost_13 (Nat.le_of_ble_eq_true rfl) rfl (s_cost l (dd - 1) hl z a sz fa nk oo be ho y p s ay ar au D bt ro ru yr yu x1 x2 (by omega) hsz hbt hD hW hI) (fun r K1 hr => ?_) (fun K1 hr => ?_)
  · obtain ⟨m, t, h0a, h0b, h0c, h0d, h0e, rfl, rfl⟩ := hr
    refine zs_i2l dL_cost_8 rfl ?_
    refine zs_last 0 dL_cost_9 rfl (show ¬ ((0 : Int32) < 0 ∨ 1 ≤ (0 : Int32).toNatClampNeg) by decide) ?_
    refine zs_goto (tgt := 17) dL_cost_10 (by decide) ?_
    refine zs_iconst dL_cost_17 rfl ?_
    exact zs_iret dL_cost_18 rfl (Or.inl ⟨m, t, h0a, h0b, h0c, h0d, h0e, rfl, rfl⟩)
  · obtain ⟨hx, rfl⟩ := hr
    refine zs_iconst dL_cost_15 rfl ?_
    exact zs_iret dL_cost_16 rfl (Or.inr ⟨hx, rfl, rfl⟩)
