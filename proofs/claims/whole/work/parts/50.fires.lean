/-! ===== the class itself: fires ===== -/
section
variable {C R : Nat} {wi a v : Int32} {late : Nat} {s t : zFs} {se sf : Nat → Int32}
theorem fS_ag (hn : C * R ≤ 64) (h : zAgF (C * R) s t) : ∀ i, zAgF (C * R) (fS C R wi a v late s se i).1 (fS C R wi a v late t sf i).1 ∧ ∀ j, j < i → (fS C R wi a v late s se i).2 j = (fS C R wi a v late t sf i).2 j
  | 0 => ⟨h, fun j hj => absurd hj (Nat.not_lt_zero j)⟩
  | i + 1 => by
    have ih := fS_ag hn h i
    have hs : ∀ j, j < i + 1 → upd (fS C R wi a v late s se i).2 i (mAim C R wi (fS C R wi a v late s se i).1 a) j = upd (fS C R wi a v late t sf i).2 i (mAim C R wi (fS C R wi a v late t sf i).1 a) j := fun j hj => by
      unfold upd
      split
      · exact mAim_ag ih.1
      · exact ih.2 j (by omega)
    refine ⟨?_, hs⟩
    show zAgF (C * R) (mMin C R wi _ _ v) (mMin C R wi _ _ v)
    rw [hs (i - late) (by omega)]
    exact mMin_ag hn ih.1
theorem fC_ag (hn : C * R ≤ 64) (h : zAgF (C * R) s t) (i : Nat) : fC C R wi a v late s se i = fC C R wi a v late t sf i := (fS_ag hn h (i + 1)).2 (i - late) (by omega)
theorem fL_ag (hn : C * R ≤ 64) (h : zAgF (C * R) s t) {l0 : Int32} : ∀ i, fL C R wi a v late s se l0 i = fL C R wi a v late t sf l0 i
  | 0 => rfl
  | i + 1 => by
    rw [fL, fL, fL_ag hn h i, fC_ag (sf := sf) hn h i, mLs_ag hn (fS_ag (sf := sf) hn h i).1]
theorem fO_ag (hn : C * R ≤ 64) (h : zAgF (C * R) s t) {o0 : Int32} : ∀ i, fO C R wi a v late s se o0 i = fO C R wi a v late t sf o0 i
  | 0 => rfl
  | i + 1 => by
    rw [fO, fO, fO_ag hn h i, fC_ag (sf := sf) hn h i, mBn_ag hn (fS_ag (sf := sf) hn h i).1]
theorem fB_ag (hn : C * R ≤ 64) (h : zAgF (C * R) s t) {b0 : Int32} : ∀ i, fB C R wi a v late s se b0 i = fB C R wi a v late t sf b0 i
  | 0 => rfl
  | i + 1 => by
    rw [fB, fB, fC_ag (sf := sf) hn h i, mBn_ag hn (fS_ag (sf := sf) hn h i).1]
theorem gF_ag {x : Nat} {f g : Nat → Int32} {n : Nat} (h : zAg n f g) : ∀ y, zAg n (gF C x f y) (gF C x g y)
  | 0 => h
  | y + 1 => upd_ag (gF_ag h y) _ (fun _ => rfl)
theorem gT_ag {x : Nat} {f g : Nat → Int32} (hx : x < C) (h : zAg (C * R) f g) : ∀ y, y ≤ R → gT C x f y = gT C x g y
  | 0, _ => rfl
  | y + 1, hy => by
    rw [gT, gT, gT_ag hx h y (by omega), gF_ag h y (y * C + x) (by
      have := Nat.mul_le_mul_right C hy
      rw [Nat.add_mul, Nat.one_mul, Nat.mul_comm R C] at this
      omega)]
end
/-- a yard's fire before it burns -/
def sc0 (D : zYd) : zFs := (nF D.2.2.2.2.2.2.1, z0, nF D.2.2.2.2.2.2.2)
theorem sc0_ag {D : zYd} {n : Nat} {fu we bu : Nat → Int32} : zAgF n (pCl (nF D.2.2.2.2.2.2.1) fu n, pCl (fun _ => 0) we n, pCl (nF D.2.2.2.2.2.2.2) bu n) (sc0 D) := ⟨fun j hj => if_pos hj, fun j hj => if_pos hj, fun j hj => if_pos hj⟩
theorem nF_01 {f : Nat → Nat} {j : Nat} (h : f j ≤ 1) : nF f j = 0 ∨ nF f j = 1 := by
  unfold nF
  by_cases h0 : f j = 0
  · exact Or.inl (by rw [h0]; rfl)
  · exact Or.inr (by rw [show f j = 1 by omega]; rfl)
theorem yI_n {D : zYd} (hD : yI D) : D.1 14 * D.1 15 ≤ 64 := Nat.mul_le_mul hD.2.1 hD.2.2.1
def lTd (v : Int32) : Bool := decide (¬ v < 0 ∧ ¬ nI 999 < v)
theorem dX12_litresTold_0 : decode cX12_litresTold 0 = .ok (.iload_n 0, 1) := by decide +kernel
theorem dX12_litresTold_1 : decode cX12_litresTold 1 = .ok (.ifCond .lt 14, 3) := by decide +kernel
theorem dX12_litresTold_4 : decode cX12_litresTold 4 = .ok (.iload_n 0, 1) := by decide +kernel
theorem dX12_litresTold_5 : decode cX12_litresTold 5 = .ok (.sipush 999, 3) := by decide +kernel
theorem dX12_litresTold_8 : decode cX12_litresTold 8 = .ok (.if_icmp .gt 7, 3) := by decide +kernel
theorem dX12_litresTold_11 : decode cX12_litresTold 11 = .ok (.iconst 1, 1) := by decide +kernel
theorem dX12_litresTold_12 : decode cX12_litresTold 12 = .ok (.goto 4, 3) := by decide +kernel
theorem dX12_litresTold_15 : decode cX12_litresTold 15 = .ok (.iconst 0, 1) := by decide +kernel
theorem dX12_litresTold_16 : decode cX12_litresTold 16 = .ok (.ireturn, 1) := by decide +kernel
set_option maxRecDepth 100000 in
theorem s_litres (l : Launch) (dd : Nat) (v : Int32)  : zSp l mX12_litresTold dd 0 0 [.int v] [] (fun r K' => r = some (.int (nI (bN (lTd v)))) ∧ K' = []) := by
  refine zSp.of (by decide) (Nat.le_of_ble_eq_true rfl) (fun h0 => ?_)
  show zS _ 0 0 0 [(0, .int v)] [] []
  refine zs_iload_n dX12_litresTold_0 rfl ?_
  refine zs_if_lt (tgt := 15) dX12_litresTold_1 (by decide) (fun c_1 => ?_) (fun c_1 => ?_)
  · refine zs_iconst (v := nI 0) dX12_litresTold_15 (by decide) ?_
    exact zs_zret dX12_litresTold_16 rfl (Or.inl rfl) ⟨by rw [lTd, bN_f (show ¬ (¬ v < 0 ∧ ¬ nI 999 < v) from fun h => h.1 c_1)], rfl⟩
  · refine zs_iload_n dX12_litresTold_4 rfl ?_
    refine zs_sipush (v := nI 999) dX12_litresTold_5 (by decide) ?_
    refine zs_icmp_gt (tgt := 15) dX12_litresTold_8 (by decide) (fun c_2 => ?_) (fun c_2 => ?_)
    · refine zs_iconst (v := nI 0) dX12_litresTold_15 (by decide) ?_
      exact zs_zret dX12_litresTold_16 rfl (Or.inl rfl) ⟨by rw [lTd, bN_f (show ¬ (¬ v < 0 ∧ ¬ nI 999 < v) from fun h => h.2 c_2)], rfl⟩
    · refine zs_iconst (v := nI 1) dX12_litresTold_11 (by decide) ?_
      refine zs_goto (tgt := 16) dX12_litresTold_12 (by decide) ?_
      exact zs_zret dX12_litresTold_16 rfl (Or.inr rfl) ⟨by rw [lTd, bN_t (show ¬ v < 0 ∧ ¬ nI 999 < v from ⟨c_1, c_2⟩)], rfl⟩
theorem dX12_fire_0 : decode cX12_fire 0 = .ok (.iload_n 1, 1) := by decide +kernel
theorem dX12_fire_1 : decode cX12_fire 1 = .ok (.ifCond .lt 42, 3) := by decide +kernel
theorem dX12_fire_4 : decode cX12_fire 4 = .ok (.iload_n 1, 1) := by decide +kernel
theorem dX12_fire_5 : decode cX12_fire 5 = .ok (.bipush 60, 2) := by decide +kernel
theorem dX12_fire_7 : decode cX12_fire 7 = .ok (.if_icmp .gt 36, 3) := by decide +kernel
theorem dX12_fire_10 : decode cX12_fire 10 = .ok (.iload_n 2, 1) := by decide +kernel
theorem dX12_fire_11 : decode cX12_fire 11 = .ok (.invokestatic 314, 3) := by decide +kernel
theorem dX12_fire_14 : decode cX12_fire 14 = .ok (.ifCond .eq 29, 3) := by decide +kernel
theorem dX12_fire_17 : decode cX12_fire 17 = .ok (.aload_n 0, 1) := by decide +kernel
theorem dX12_fire_18 : decode cX12_fire 18 = .ok (.getfield 23, 3) := by decide +kernel
theorem dX12_fire_21 : decode cX12_fire 21 = .ok (.getfield 96, 3) := by decide +kernel
theorem dX12_fire_24 : decode cX12_fire 24 = .ok (.iload_n 3, 1) := by decide +kernel
theorem dX12_fire_25 : decode cX12_fire 25 = .ok (.invokevirtual 317, 3) := by decide +kernel
theorem dX12_fire_28 : decode cX12_fire 28 = .ok (.ifCond .eq 15, 3) := by decide +kernel
theorem dX12_fire_31 : decode cX12_fire 31 = .ok (.iload 4, 2) := by decide +kernel
theorem dX12_fire_33 : decode cX12_fire 33 = .ok (.ifCond .lt 10, 3) := by decide +kernel
theorem dX12_fire_36 : decode cX12_fire 36 = .ok (.iload 4, 2) := by decide +kernel
theorem dX12_fire_38 : decode cX12_fire 38 = .ok (.bipush 20, 2) := by decide +kernel
theorem dX12_fire_40 : decode cX12_fire 40 = .ok (.if_icmp .le 5, 3) := by decide +kernel
theorem dX12_fire_43 : decode cX12_fire 43 = .ok (.iconst (-1), 1) := by decide +kernel
theorem dX12_fire_44 : decode cX12_fire 44 = .ok (.ireturn, 1) := by decide +kernel
theorem dX12_fire_45 : decode cX12_fire 45 = .ok (.aload_n 0, 1) := by decide +kernel
theorem dX12_fire_46 : decode cX12_fire 46 = .ok (.getfield 58, 3) := by decide +kernel
theorem dX12_fire_49 : decode cX12_fire 49 = .ok (.aload_n 0, 1) := by decide +kernel
theorem dX12_fire_50 : decode cX12_fire 50 = .ok (.getfield 23, 3) := by decide +kernel
theorem dX12_fire_53 : decode cX12_fire 53 = .ok (.getfield 96, 3) := by decide +kernel
theorem dX12_fire_56 : decode cX12_fire 56 = .ok (.invokevirtual 320, 3) := by decide +kernel
theorem dX12_fire_59 : decode cX12_fire 59 = .ok (.aload_n 0, 1) := by decide +kernel
theorem dX12_fire_60 : decode cX12_fire 60 = .ok (.getfield 58, 3) := by decide +kernel
theorem dX12_fire_63 : decode cX12_fire 63 = .ok (.iload_n 1, 1) := by decide +kernel
theorem dX12_fire_64 : decode cX12_fire 64 = .ok (.iload_n 2, 1) := by decide +kernel
theorem dX12_fire_65 : decode cX12_fire 65 = .ok (.iload_n 3, 1) := by decide +kernel
theorem dX12_fire_66 : decode cX12_fire 66 = .ok (.iload 4, 2) := by decide +kernel
theorem dX12_fire_68 : decode cX12_fire 68 = .ok (.invokevirtual 323, 3) := by decide +kernel
theorem dX12_fire_71 : decode cX12_fire 71 = .ok (.aload_n 0, 1) := by decide +kernel
theorem dX12_fire_72 : decode cX12_fire 72 = .ok (.getfield 58, 3) := by decide +kernel
theorem dX12_fire_75 : decode cX12_fire 75 = .ok (.getfield 327, 3) := by decide +kernel
theorem dX12_fire_78 : decode cX12_fire 78 = .ok (.ireturn, 1) := by decide +kernel
set_option maxRecDepth 100000 in
theorem s_fire (l : Launch) (dd : Nat) (z : Nat) (a : Nat → Nat) (sz fa nk oo be ho : Nat) (y p s : Nat) (ay ad : Nat → Nat) (D : zYd) (sc fu we bu he se : Nat → Int32) (x1 v x3 x4 : Int32) (hd : 5 ≤ dd) (hD : yI D) : zSp l mX12_fire dd 0 0 [.ref z, .int x1, .int v, .int x3, .int x4] [(z, .inr (10, fPR a sz fa nk oo be ho)), ((a 4), .inr (7, fSta y p s)), (y, .inr (9, fYard ay (ysN D.1 D.2.1))), (ay 1, .inl (0, 12, .inl (nF D.2.2.1))), (ay 2, .inl (0, 12, .inl (nF D.2.2.2.1))), (ay 3, .inl (0, 12, .inl (nF D.2.2.2.2.1))), (ay 4, .inl (0, 12, .inl (nF D.2.2.2.2.2.1))), (ay 5, .inl (0, 64, .inl (nF D.2.2.2.2.2.2.1))), (ay 6, .inl (1, 64, .inl (nF D.2.2.2.2.2.2.2))), ((a 11), .inr (1, fFire ad sc)), (ad 1, .inl (0, 64, .inl fu)), (ad 2, .inl (0, 64, .inl we)), (ad 3, .inl (1, 64, .inl bu)), (ad 4, .inl (0, 64, .inl he)), (ad 5, .inl (0, 60, .inl se))] (fun r K' => (¬ (¬ x1 < 0 ∧ ¬ nI 60 < x1 ∧ lTd v = true ∧ pTold (nI (D.1 14)) (nI (D.1 15)) x3 = true ∧ ¬ x4 < 0 ∧ ¬ nI 20 < x4) ∧ r = some (.int (-1)) ∧ K' = [(z, .inr (10, fPR a sz fa nk oo be ho)), ((a 4), .inr (7, fSta y p s)), (y, .inr (9, fYard ay (ysN D.1 D.2.1))), (ay 1, .inl (0, 12, .inl (nF D.2.2.1))), (ay 2, .inl (0, 12, .inl (nF D.2.2.2.1))), (ay 3, .inl (0, 12, .inl (nF D.2.2.2.2.1))), (ay 4, .inl (0, 12, .inl (nF D.2.2.2.2.2.1))), (ay 5, .inl (0, 64, .inl (nF D.2.2.2.2.2.2.1))), (ay 6, .inl (1, 64, .inl (nF D.2.2.2.2.2.2.2))), ((a 11), .inr (1, fFire ad sc)), (ad 1, .inl (0, 64, .inl fu)), (ad 2, .inl (0, 64, .inl we)), (ad 3, .inl (1, 64, .inl bu)), (ad 4, .inl (0, 64, .inl he)), (ad 5, .inl (0, 60, .inl se))]) ∨ (∃ (M late : Nat) (sc' : Nat → Int32) (S' : zFs) (he' se' : Nat → Int32), M ≤ 60 ∧ x1 = nI M ∧ late ≤ 20 ∧ x4 = nI late ∧ (¬ x1 < 0 ∧ ¬ nI 60 < x1 ∧ lTd v = true ∧ pTold (nI (D.1 14)) (nI (D.1 15)) x3 = true ∧ ¬ x4 < 0 ∧ ¬ nI 20 < x4) ∧ zFh (D.1 14) (D.1 15) sc' ∧ zAgF (D.1 14 * D.1 15) S' (fS (D.1 14) (D.1 15) D.2.1 x3 v late (sc0 D) z0 M).1 ∧ sc' 10 = fL (D.1 14) (D.1 15) D.2.1 x3 v late (sc0 D) z0 0 M ∧ sc' 11 = fO (D.1 14) (D.1 15) D.2.1 x3 v late (sc0 D) z0 (if pCnt (nF D.2.2.2.2.2.2.2) (D.1 14 * D.1 15) = 0 then 0 else -1) M ∧ r = some (.int (sc' 10)) ∧ K' = [(z, .inr (10, fPR a sz fa nk oo be ho)), ((a 4), .inr (7, fSta y p s)), (y, .inr (9, fYard ay (ysN D.1 D.2.1))), (ay 1, .inl (0, 12, .inl (nF D.2.2.1))), (ay 2, .inl (0, 12, .inl (nF D.2.2.2.1))), (ay 3, .inl (0, 12, .inl (nF D.2.2.2.2.1))), (ay 4, .inl (0, 12, .inl (nF D.2.2.2.2.2.1))), (ay 5, .inl (0, 64, .inl (nF D.2.2.2.2.2.2.1))), (ay 6, .inl (1, 64, .inl (nF D.2.2.2.2.2.2.2))), ((a 11), .inr (1, fFire ad sc')), (ad 1, .inl (0, 64, .inl (S'.1))), (ad 2, .inl (0, 64, .inl (S'.2.1))), (ad 3, .inl (1, 64, .inl (S'.2.2))), (ad 4, .inl (0, 64, .inl (he'))), (ad 5, .inl (0, 60, .inl (se')))])) := by
  refine zSp.of (by decide) (Nat.le_of_ble_eq_true rfl) (fun h0 => ?_)
  show zS _ 0 0 0 [(0, .ref z), (1, .int x1), (2, .int v), (3, .int x3), (4, .int x4)] [] [(z, .inr (10, fPR a sz fa nk oo be ho)), ((a 4), .inr (7, fSta y p s)), (y, .inr (9, fYard ay (ysN D.1 D.2.1))), (ay 1, .inl (0, 12, .inl (nF D.2.2.1))), (ay 2, .inl (0, 12, .inl (nF D.2.2.2.1))), (ay 3, .inl (0, 12, .inl (nF D.2.2.2.2.1))), (ay 4, .inl (0, 12, .inl (nF D.2.2.2.2.2.1))), (ay 5, .inl (0, 64, .inl (nF D.2.2.2.2.2.2.1))), (ay 6, .inl (1, 64, .inl (nF D.2.2.2.2.2.2.2))), ((a 11), .inr (1, fFire ad sc)), (ad 1, .inl (0, 64, .inl fu)), (ad 2, .inl (0, 64, .inl we)), (ad 3, .inl (1, 64, .inl bu)), (ad 4, .inl (0, 64, .inl he)), (ad 5, .inl (0, 60, .inl se))]
  obtain ⟨y1, y2, y3, y4, y5, y6, y7, y8, y9, y10, y11, y12, y13, y14, y15, y16, y17, y18, y19, y20⟩ := id hD
  have hbl := bN_1 (lTd v)
  refine zs_iload_n dX12_fire_0 rfl ?_
  refine zs_if_lt (tgt := 43) dX12_fire_1 (by decide) (fun c_1 => ?_) (fun c_1 => ?_)
  · refine zs_iconst (v := (-1)) dX12_fire_43 (by decide) ?_
    exact zs_iret dX12_fire_44 rfl (Or.inl ⟨(fun h => h.1 c_1), rfl, rfl⟩)
  · refine zs_iload_n dX12_fire_4 rfl ?_
    refine zs_bipush (v := nI 60) dX12_fire_5 (by decide) ?_
    refine zs_icmp_gt (tgt := 43) dX12_fire_7 (by decide) (fun c_2 => ?_) (fun c_2 => ?_)
    · refine zs_iconst (v := (-1)) dX12_fire_43 (by decide) ?_
      exact zs_iret dX12_fire_44 rfl (Or.inl ⟨(fun h => absurd c_2 h.2.1), rfl, rfl⟩)
    · refine zs_iload_n dX12_fire_10 rfl ?_
      refine zs_callS (M := mX12_litresTold) (As := [.int v]) (st := []) (Kc := []) (Kr := [(z, .inr (10, fPR a sz fa nk oo be ho)), ((a 4), .inr (7, fSta y p s)), (y, .inr (9, fYard ay (ysN D.1 D.2.1))), (ay 1, .inl (0, 12, .inl (nF D.2.2.1))), (ay 2, .inl (0, 12, .inl (nF D.2.2.2.1))), (ay 3, .inl (0, 12, .inl (nF D.2.2.2.2.1))), (ay 4, .inl (0, 12, .inl (nF D.2.2.2.2.2.1))), (ay 5, .inl (0, 64, .inl (nF D.2.2.2.2.2.2.1))), (ay 6, .inl (1, 64, .inl (nF D.2.2.2.2.2.2.2))), ((a 11), .inr (1, fFire ad sc)), (ad 1, .inl (0, 64, .inl fu)), (ad 2, .inl (0, 64, .inl we)), (ad 3, .inl (1, 64, .inl bu)), (ad 4, .inl (0, 64, .inl he)), (ad 5, .inl (0, 60, .inl se))]) [] [0, 1, 2, 3, 4, 5, 6, 7, 8, 9, 10, 11, 12, 13, 14] dX12_fire_11 zl_RX12_314 kX12_litresTold rfl rfl rfl rfl rfl (by decide) (show dd - 1 + 1 ≤ dd by omega) (Nat.zero_le _) (Nat.zero_le _) (Nat.le_of_ble_eq_true rfl) (s_litres l (dd - 1) v) (fun r K1 hr => ?_)
      obtain ⟨rfl, rfl⟩ := hr
      refine zs_K (K' := [(z, .inr (10, fPR a sz fa nk oo be ho)), ((a 4), .inr (7, fSta y p s)), (y, .inr (9, fYard ay (ysN D.1 D.2.1))), (ay 1, .inl (0, 12, .inl (nF D.2.2.1))), (ay 2, .inl (0, 12, .inl (nF D.2.2.2.1))), (ay 3, .inl (0, 12, .inl (nF D.2.2.2.2.1))), (ay 4, .inl (0, 12, .inl (nF D.2.2.2.2.2.1))), (ay 5, .inl (0, 64, .inl (nF D.2.2.2.2.2.2.1))), (ay 6, .inl (1, 64, .inl (nF D.2.2.2.2.2.2.2))), ((a 11), .inr (1, fFire ad sc)), (ad 1, .inl (0, 64, .inl fu)), (ad 2, .inl (0, 64, .inl we)), (ad 3, .inl (1, 64, .inl bu)), (ad 4, .inl (0, 64, .inl he)), (ad 5, .inl (0, 60, .inl se))]) [0, 1, 2, 3, 4, 5, 6, 7, 8, 9, 10, 11, 12, 13, 14] rfl (by decide) ?_
      refine zs_if_eq (tgt := 43) dX12_fire_14 (by decide) (fun c_3 => ?_) (fun c_3 => ?_)
      · have c_3 : (bN (lTd v)) = 0 := by have hc := c_3; rw [show (0 : Int32) = nI 0 from rfl] at hc; rw [nI_eq' (by omega) (by omega)] at hc; exact hc
        refine zs_iconst (v := (-1)) dX12_fire_43 (by decide) ?_
        exact zs_iret dX12_fire_44 rfl (Or.inl ⟨(fun h => bN_f0 c_3 h.2.2.1), rfl, rfl⟩)
      · have c_3 : ¬ ((bN (lTd v)) = 0) := by have hc := c_3; rw [show (0 : Int32) = nI 0 from rfl] at hc; rw [nI_eq' (by omega) (by omega)] at hc; exact hc
        refine zs_aload_n dX12_fire_17 rfl rfl ?_
        refine zs_get 0 dX12_fire_18 zf_RX12_23 rfl (v := .ref (a 4)) rfl ?_
        refine zs_get 1 dX12_fire_21 zf_RX12_96 rfl (v := .ref y) rfl ?_
        refine zs_iload_n dX12_fire_24 rfl ?_
        refine zs_callV (M := mX11_aimTold) (As := [.int x3]) (st := []) (Kc := [(y, .inr (9, fYard ay (ysN D.1 D.2.1)))]) (Kr := [(z, .inr (10, fPR a sz fa nk oo be ho)), ((a 4), .inr (7, fSta y p s)), (ay 1, .inl (0, 12, .inl (nF D.2.2.1))), (ay 2, .inl (0, 12, .inl (nF D.2.2.2.1))), (ay 3, .inl (0, 12, .inl (nF D.2.2.2.2.1))), (ay 4, .inl (0, 12, .inl (nF D.2.2.2.2.2.1))), (ay 5, .inl (0, 64, .inl (nF D.2.2.2.2.2.2.1))), (ay 6, .inl (1, 64, .inl (nF D.2.2.2.2.2.2.2))), ((a 11), .inr (1, fFire ad sc)), (ad 1, .inl (0, 64, .inl fu)), (ad 2, .inl (0, 64, .inl we)), (ad 3, .inl (1, 64, .inl bu)), (ad 4, .inl (0, 64, .inl he)), (ad 5, .inl (0, 60, .inl se))]) [2] [0, 1, 3, 4, 5, 6, 7, 8, 9, 10, 11, 12, 13, 14] 0 dX12_fire_25 zl_RX12_317 kX11_aimTold rfl rfl rfl rfl rfl (by decide) rfl rfl (show dd - 1 + 1 ≤ dd by omega) (Nat.zero_le _) (Nat.zero_le _) (Nat.le_of_ble_eq_true rfl) (s_aimTold l (dd - 1) y ay (ysN D.1 D.2.1) x3 (by omega)) (fun r K1 hr => ?_)
        obtain ⟨rfl, rfl⟩ := hr
        refine zs_K (K' := [(z, .inr (10, fPR a sz fa nk oo be ho)), ((a 4), .inr (7, fSta y p s)), (y, .inr (9, fYard ay (ysN D.1 D.2.1))), (ay 1, .inl (0, 12, .inl (nF D.2.2.1))), (ay 2, .inl (0, 12, .inl (nF D.2.2.2.1))), (ay 3, .inl (0, 12, .inl (nF D.2.2.2.2.1))), (ay 4, .inl (0, 12, .inl (nF D.2.2.2.2.2.1))), (ay 5, .inl (0, 64, .inl (nF D.2.2.2.2.2.2.1))), (ay 6, .inl (1, 64, .inl (nF D.2.2.2.2.2.2.2))), ((a 11), .inr (1, fFire ad sc)), (ad 1, .inl (0, 64, .inl fu)), (ad 2, .inl (0, 64, .inl we)), (ad 3, .inl (1, 64, .inl bu)), (ad 4, .inl (0, 64, .inl he)), (ad 5, .inl (0, 60, .inl se))]) [0, 1, 14, 2, 3, 4, 5, 6, 7, 8, 9, 10, 11, 12, 13] rfl (by decide) ?_
        refine zs_if_eq (tgt := 43) dX12_fire_28 (by decide) (fun c_4 => ?_) (fun c_4 => ?_)
        · refine zs_iconst (v := (-1)) dX12_fire_43 (by decide) ?_
          exact zs_iret dX12_fire_44 rfl (Or.inl ⟨(fun h => absurd ((bI_f c_4).symm.trans h.2.2.2.1) (by decide)), rfl, rfl⟩)
        · refine zs_iload dX12_fire_31 rfl ?_
          refine zs_if_lt (tgt := 43) dX12_fire_33 (by decide) (fun c_5 => ?_) (fun c_5 => ?_)
          · refine zs_iconst (v := (-1)) dX12_fire_43 (by decide) ?_
            exact zs_iret dX12_fire_44 rfl (Or.inl ⟨(fun h => h.2.2.2.2.1 c_5), rfl, rfl⟩)
          · refine zs_iload dX12_fire_36 rfl ?_
            refine zs_bipush (v := nI 20) dX12_fire_38 (by decide) ?_
            refine zs_icmp_le (tgt := 45) dX12_fire_40 (by decide) (fun c_6 => ?_) (fun c_6 => ?_)
            · have hcond : (¬ x1 < 0 ∧ ¬ nI 60 < x1 ∧ lTd v = true ∧ pTold (nI (D.1 14)) (nI (D.1 15)) x3 = true ∧ ¬ x4 < 0 ∧ ¬ nI 20 < x4) := ⟨c_1, c_2, bN_e c_3, bI_t c_4, c_5, fun h => absurd c_6 (Int32.not_le.mpr h)⟩
              obtain ⟨M, hM, rfl⟩ := zi_nn c_1
              obtain ⟨late, hla, rfl⟩ := zi_nn c_5
              have hM60 : M ≤ 60 := by have h := hcond.2.1; rw [nI_lt' (by omega) (by omega)] at h; omega
              have hl20 : late ≤ 20 := by have h := hcond.2.2.2.2.2; rw [nI_lt' (by omega) (by omega)] at h; omega
              refine zs_aload_n dX12_fire_45 rfl rfl ?_
              refine zs_get 0 dX12_fire_46 zf_RX12_58 rfl (v := .ref (a 11)) rfl ?_
              refine zs_aload_n dX12_fire_49 rfl rfl ?_
              refine zs_get 0 dX12_fire_50 zf_RX12_23 rfl (v := .ref (a 4)) rfl ?_
              refine zs_get 1 dX12_fire_53 zf_RX12_96 rfl (v := .ref y) rfl ?_
              refine zs_callV (M := mX2_begin) (As := [.ref y]) (st := []) (Kc := [((a 11), .inr (1, fFire ad sc)), (ad 1, .inl (0, 64, .inl fu)), (ad 2, .inl (0, 64, .inl we)), (ad 3, .inl (1, 64, .inl bu)), (ad 4, .inl (0, 64, .inl he)), (ad 5, .inl (0, 60, .inl se)), (y, .inr (9, fYard ay (ysN D.1 D.2.1))), (ay 1, .inl (0, 12, .inl (nF D.2.2.1))), (ay 2, .inl (0, 12, .inl (nF D.2.2.2.1))), (ay 3, .inl (0, 12, .inl (nF D.2.2.2.2.1))), (ay 4, .inl (0, 12, .inl (nF D.2.2.2.2.2.1))), (ay 5, .inl (0, 64, .inl (nF D.2.2.2.2.2.2.1))), (ay 6, .inl (1, 64, .inl (nF D.2.2.2.2.2.2.2)))]) (Kr := [(z, .inr (10, fPR a sz fa nk oo be ho)), ((a 4), .inr (7, fSta y p s))]) [9, 10, 11, 12, 13, 14, 2, 3, 4, 5, 6, 7, 8] [0, 1] 0 dX12_fire_56 zl_RX12_320 kX2_begin rfl rfl rfl rfl rfl (by decide) rfl rfl (show dd - 1 + 1 ≤ dd by omega) (Nat.zero_le _) (Nat.zero_le _) (Nat.le_of_ble_eq_true rfl) (s_begin l (dd - 1) (a 11) ad (D.1 14 * D.1 15) sc fu we bu he se y ay (ysN D.1 D.2.1) (nF D.2.2.1) (nF D.2.2.2.1) (nF D.2.2.2.2.1) (nF D.2.2.2.2.2.1) (nF D.2.2.2.2.2.2.1) (nF D.2.2.2.2.2.2.2) (yI_n hD) (nI_mul _ _) (fun j _ => nF_01 (y6 j))) (fun r K1 hr => ?_)
              obtain ⟨rfl, sc1, q0, q1, q2, q3, q9, q10, q11, rfl⟩ := hr
              have hfh : zFh (D.1 14) (D.1 15) sc1 := ⟨by omega, yI_n hD, q0, q1, q2.trans (nI_mul _ _)⟩
              refine zs_K (K' := [(z, .inr (10, fPR a sz fa nk oo be ho)), ((a 4), .inr (7, fSta y p s)), (y, .inr (9, fYard ay (ysN D.1 D.2.1))), (ay 1, .inl (0, 12, .inl (nF D.2.2.1))), (ay 2, .inl (0, 12, .inl (nF D.2.2.2.1))), (ay 3, .inl (0, 12, .inl (nF D.2.2.2.2.1))), (ay 4, .inl (0, 12, .inl (nF D.2.2.2.2.2.1))), (ay 5, .inl (0, 64, .inl (nF D.2.2.2.2.2.2.1))), (ay 6, .inl (1, 64, .inl (nF D.2.2.2.2.2.2.2))), ((a 11), .inr (1, fFire ad sc1)), (ad 1, .inl (0, 64, .inl ((pCl (nF D.2.2.2.2.2.2.1) fu (D.1 14 * D.1 15), pCl (fun _ => 0) we (D.1 14 * D.1 15), pCl (nF D.2.2.2.2.2.2.2) bu (D.1 14 * D.1 15)).1))), (ad 2, .inl (0, 64, .inl ((pCl (nF D.2.2.2.2.2.2.1) fu (D.1 14 * D.1 15), pCl (fun _ => 0) we (D.1 14 * D.1 15), pCl (nF D.2.2.2.2.2.2.2) bu (D.1 14 * D.1 15)).2.1))), (ad 3, .inl (1, 64, .inl ((pCl (nF D.2.2.2.2.2.2.1) fu (D.1 14 * D.1 15), pCl (fun _ => 0) we (D.1 14 * D.1 15), pCl (nF D.2.2.2.2.2.2.2) bu (D.1 14 * D.1 15)).2.2))), (ad 4, .inl (0, 64, .inl he)), (ad 5, .inl (0, 60, .inl se))]) [0, 1, 8, 9, 10, 11, 12, 13, 14, 2, 3, 4, 5, 6, 7] rfl (by decide) ?_
              refine zs_aload_n dX12_fire_59 rfl rfl ?_
              refine zs_get 0 dX12_fire_60 zf_RX12_58 rfl (v := .ref (a 11)) rfl ?_
              refine zs_iload_n dX12_fire_63 rfl ?_
              refine zs_iload_n dX12_fire_64 rfl ?_
              refine zs_iload_n dX12_fire_65 rfl ?_
              refine zs_iload dX12_fire_66 rfl ?_
              refine zs_callV (M := mX2_burnFor) (As := [.int (nI M), .int v, .int x3, .int (nI late)]) (st := []) (Kc := [((a 11), .inr (1, fFire ad sc1)), (ad 1, .inl (0, 64, .inl ((pCl (nF D.2.2.2.2.2.2.1) fu (D.1 14 * D.1 15), pCl (fun _ => 0) we (D.1 14 * D.1 15), pCl (nF D.2.2.2.2.2.2.2) bu (D.1 14 * D.1 15)).1))), (ad 2, .inl (0, 64, .inl ((pCl (nF D.2.2.2.2.2.2.1) fu (D.1 14 * D.1 15), pCl (fun _ => 0) we (D.1 14 * D.1 15), pCl (nF D.2.2.2.2.2.2.2) bu (D.1 14 * D.1 15)).2.1))), (ad 3, .inl (1, 64, .inl ((pCl (nF D.2.2.2.2.2.2.1) fu (D.1 14 * D.1 15), pCl (fun _ => 0) we (D.1 14 * D.1 15), pCl (nF D.2.2.2.2.2.2.2) bu (D.1 14 * D.1 15)).2.2))), (ad 4, .inl (0, 64, .inl he)), (ad 5, .inl (0, 60, .inl se))]) (Kr := [(z, .inr (10, fPR a sz fa nk oo be ho)), ((a 4), .inr (7, fSta y p s)), (y, .inr (9, fYard ay (ysN D.1 D.2.1))), (ay 1, .inl (0, 12, .inl (nF D.2.2.1))), (ay 2, .inl (0, 12, .inl (nF D.2.2.2.1))), (ay 3, .inl (0, 12, .inl (nF D.2.2.2.2.1))), (ay 4, .inl (0, 12, .inl (nF D.2.2.2.2.2.1))), (ay 5, .inl (0, 64, .inl (nF D.2.2.2.2.2.2.1))), (ay 6, .inl (1, 64, .inl (nF D.2.2.2.2.2.2.2)))]) [9, 10, 11, 12, 13, 14] [0, 1, 2, 3, 4, 5, 6, 7, 8] 0 dX12_fire_68 zl_RX12_323 kX2_burnFor rfl rfl rfl rfl rfl (by decide) rfl rfl (show dd - 1 + 1 ≤ dd by omega) (Nat.zero_le _) (Nat.zero_le _) (Nat.le_of_ble_eq_true rfl) (s_burnFor l (dd - 1) (a 11) ad (D.1 14) (D.1 15) M late D.2.1 x3 v (pCl (nF D.2.2.2.2.2.2.1) fu (D.1 14 * D.1 15), pCl (fun _ => 0) we (D.1 14 * D.1 15), pCl (nF D.2.2.2.2.2.2.2) bu (D.1 14 * D.1 15)) sc1 he se (by omega) (by omega) (by omega) hfh q3) (fun r K1 hr => ?_)
              obtain ⟨rfl, sc2, he2, b0, b1, b9, b10, b11, rfl⟩ := hr
              refine zs_K (K' := [(z, .inr (10, fPR a sz fa nk oo be ho)), ((a 4), .inr (7, fSta y p s)), (y, .inr (9, fYard ay (ysN D.1 D.2.1))), (ay 1, .inl (0, 12, .inl (nF D.2.2.1))), (ay 2, .inl (0, 12, .inl (nF D.2.2.2.1))), (ay 3, .inl (0, 12, .inl (nF D.2.2.2.2.1))), (ay 4, .inl (0, 12, .inl (nF D.2.2.2.2.2.1))), (ay 5, .inl (0, 64, .inl (nF D.2.2.2.2.2.2.1))), (ay 6, .inl (1, 64, .inl (nF D.2.2.2.2.2.2.2))), ((a 11), .inr (1, fFire ad sc2)), (ad 1, .inl (0, 64, .inl ((fS (D.1 14) (D.1 15) D.2.1 x3 v late (pCl (nF D.2.2.2.2.2.2.1) fu (D.1 14 * D.1 15), pCl (fun _ => 0) we (D.1 14 * D.1 15), pCl (nF D.2.2.2.2.2.2.2) bu (D.1 14 * D.1 15)) se M).1.1))), (ad 2, .inl (0, 64, .inl ((fS (D.1 14) (D.1 15) D.2.1 x3 v late (pCl (nF D.2.2.2.2.2.2.1) fu (D.1 14 * D.1 15), pCl (fun _ => 0) we (D.1 14 * D.1 15), pCl (nF D.2.2.2.2.2.2.2) bu (D.1 14 * D.1 15)) se M).1.2.1))), (ad 3, .inl (1, 64, .inl ((fS (D.1 14) (D.1 15) D.2.1 x3 v late (pCl (nF D.2.2.2.2.2.2.1) fu (D.1 14 * D.1 15), pCl (fun _ => 0) we (D.1 14 * D.1 15), pCl (nF D.2.2.2.2.2.2.2) bu (D.1 14 * D.1 15)) se M).1.2.2))), (ad 4, .inl (0, 64, .inl he2)), (ad 5, .inl (0, 60, .inl (fS (D.1 14) (D.1 15) D.2.1 x3 v late (pCl (nF D.2.2.2.2.2.2.1) fu (D.1 14 * D.1 15), pCl (fun _ => 0) we (D.1 14 * D.1 15), pCl (nF D.2.2.2.2.2.2.2) bu (D.1 14 * D.1 15)) se M).2))]) [0, 1, 2, 3, 4, 5, 6, 7, 8, 9, 10, 11, 12, 13, 14] rfl (by decide) ?_
              refine zs_aload_n dX12_fire_71 rfl rfl ?_
              refine zs_get 0 dX12_fire_72 zf_RX12_58 rfl (v := .ref (a 11)) rfl ?_
              refine zs_get 9 dX12_fire_75 zf_RX12_327 rfl (v := .int (sc2 10)) rfl ?_
              exact zs_iret dX12_fire_78 rfl (Or.inr ⟨M, late, sc2, (fS (D.1 14) (D.1 15) D.2.1 x3 v late (pCl (nF D.2.2.2.2.2.2.1) fu (D.1 14 * D.1 15), pCl (fun _ => 0) we (D.1 14 * D.1 15), pCl (nF D.2.2.2.2.2.2.2) bu (D.1 14 * D.1 15)) se M).1, he2, (fS (D.1 14) (D.1 15) D.2.1 x3 v late (pCl (nF D.2.2.2.2.2.2.1) fu (D.1 14 * D.1 15), pCl (fun _ => 0) we (D.1 14 * D.1 15), pCl (nF D.2.2.2.2.2.2.2) bu (D.1 14 * D.1 15)) se M).2, hM60, rfl, hl20, rfl, hcond, b0, (fS_ag (sf := z0) (yI_n hD) sc0_ag M).1, b10.trans (by rw [q10]; exact (fL_ag (sf := z0) (yI_n hD) sc0_ag M)), b11.trans (by rw [q11]; exact fO_ag (sf := z0) (yI_n hD) sc0_ag M), rfl, rfl⟩)
            · refine zs_iconst (v := (-1)) dX12_fire_43 (by decide) ?_
              exact zs_iret dX12_fire_44 rfl (Or.inl ⟨(fun h => h.2.2.2.2.2 (Int32.not_le.mp c_6)), rfl, rfl⟩)
theorem dX12_out_0 : decode cX12_out 0 = .ok (.aload_n 0, 1) := by decide +kernel
theorem dX12_out_1 : decode cX12_out 1 = .ok (.getfield 58, 3) := by decide +kernel
theorem dX12_out_4 : decode cX12_out 4 = .ok (.getfield 337, 3) := by decide +kernel
theorem dX12_out_7 : decode cX12_out 7 = .ok (.ireturn, 1) := by decide +kernel
set_option maxRecDepth 100000 in
theorem s_out (l : Launch) (dd : Nat) (z : Nat) (a : Nat → Nat) (sz fa nk oo be ho : Nat) (ad : Nat → Nat) (sc : Nat → Int32)  : zSp l mX12_out dd 0 0 [.ref z] [(z, .inr (10, fPR a sz fa nk oo be ho)), ((a 11), .inr (1, fFire ad sc))] (fun r K' => r = some (.int (sc 11)) ∧ K' = [(z, .inr (10, fPR a sz fa nk oo be ho)), ((a 11), .inr (1, fFire ad sc))]) := by
  refine zSp.of (by decide) (Nat.le_of_ble_eq_true rfl) (fun h0 => ?_)
  show zS _ 0 0 0 [(0, .ref z)] [] [(z, .inr (10, fPR a sz fa nk oo be ho)), ((a 11), .inr (1, fFire ad sc))]
  refine zs_aload_n dX12_out_0 rfl rfl ?_
  refine zs_get 0 dX12_out_1 zf_RX12_58 rfl (v := .ref (a 11)) rfl ?_
  refine zs_get 1 dX12_out_4 zf_RX12_337 rfl (v := .int (sc 11)) rfl ?_
  exact zs_iret dX12_out_7 rfl ⟨rfl, rfl⟩
theorem dX12_fireAt_0 : decode cX12_fireAt 0 = .ok (.iload_n 1, 1) := by decide +kernel
theorem dX12_fireAt_1 : decode cX12_fireAt 1 = .ok (.ifCond .lt 29, 3) := by decide +kernel
theorem dX12_fireAt_4 : decode cX12_fireAt 4 = .ok (.iload_n 1, 1) := by decide +kernel
theorem dX12_fireAt_5 : decode cX12_fireAt 5 = .ok (.aload_n 0, 1) := by decide +kernel
theorem dX12_fireAt_6 : decode cX12_fireAt 6 = .ok (.getfield 58, 3) := by decide +kernel
theorem dX12_fireAt_9 : decode cX12_fireAt 9 = .ok (.getfield 330, 3) := by decide +kernel
theorem dX12_fireAt_12 : decode cX12_fireAt 12 = .ok (.if_icmp .ge 18, 3) := by decide +kernel
theorem dX12_fireAt_15 : decode cX12_fireAt 15 = .ok (.iload_n 2, 1) := by decide +kernel
theorem dX12_fireAt_16 : decode cX12_fireAt 16 = .ok (.ifCond .lt 14, 3) := by decide +kernel
theorem dX12_fireAt_19 : decode cX12_fireAt 19 = .ok (.iload_n 2, 1) := by decide +kernel
theorem dX12_fireAt_20 : decode cX12_fireAt 20 = .ok (.aload_n 0, 1) := by decide +kernel
theorem dX12_fireAt_21 : decode cX12_fireAt 21 = .ok (.getfield 58, 3) := by decide +kernel
theorem dX12_fireAt_24 : decode cX12_fireAt 24 = .ok (.getfield 331, 3) := by decide +kernel
theorem dX12_fireAt_27 : decode cX12_fireAt 27 = .ok (.if_icmp .lt 5, 3) := by decide +kernel
theorem dX12_fireAt_30 : decode cX12_fireAt 30 = .ok (.iconst (-1), 1) := by decide +kernel
theorem dX12_fireAt_31 : decode cX12_fireAt 31 = .ok (.ireturn, 1) := by decide +kernel
theorem dX12_fireAt_32 : decode cX12_fireAt 32 = .ok (.iload_n 2, 1) := by decide +kernel
theorem dX12_fireAt_33 : decode cX12_fireAt 33 = .ok (.aload_n 0, 1) := by decide +kernel
theorem dX12_fireAt_34 : decode cX12_fireAt 34 = .ok (.getfield 58, 3) := by decide +kernel
theorem dX12_fireAt_37 : decode cX12_fireAt 37 = .ok (.getfield 330, 3) := by decide +kernel
theorem dX12_fireAt_40 : decode cX12_fireAt 40 = .ok (.imul, 1) := by decide +kernel
theorem dX12_fireAt_41 : decode cX12_fireAt 41 = .ok (.iload_n 1, 1) := by decide +kernel
theorem dX12_fireAt_42 : decode cX12_fireAt 42 = .ok (.iadd, 1) := by decide +kernel
theorem dX12_fireAt_43 : decode cX12_fireAt 43 = .ok (.istore 4, 2) := by decide +kernel
theorem dX12_fireAt_45 : decode cX12_fireAt 45 = .ok (.iload_n 3, 1) := by decide +kernel
theorem dX12_fireAt_46 : decode cX12_fireAt 46 = .ok (.tableswitch 67 0 2 #[26, 37, 56], 26) := by decide +kernel
theorem dX12_fireAt_72 : decode cX12_fireAt 72 = .ok (.aload_n 0, 1) := by decide +kernel
theorem dX12_fireAt_73 : decode cX12_fireAt 73 = .ok (.getfield 58, 3) := by decide +kernel
theorem dX12_fireAt_76 : decode cX12_fireAt 76 = .ok (.getfield 332, 3) := by decide +kernel
theorem dX12_fireAt_79 : decode cX12_fireAt 79 = .ok (.iload 4, 2) := by decide +kernel
theorem dX12_fireAt_81 : decode cX12_fireAt 81 = .ok (.iaload, 1) := by decide +kernel
theorem dX12_fireAt_82 : decode cX12_fireAt 82 = .ok (.ireturn, 1) := by decide +kernel
theorem dX12_fireAt_83 : decode cX12_fireAt 83 = .ok (.aload_n 0, 1) := by decide +kernel
theorem dX12_fireAt_84 : decode cX12_fireAt 84 = .ok (.getfield 58, 3) := by decide +kernel
theorem dX12_fireAt_87 : decode cX12_fireAt 87 = .ok (.getfield 333, 3) := by decide +kernel
theorem dX12_fireAt_90 : decode cX12_fireAt 90 = .ok (.iload 4, 2) := by decide +kernel
theorem dX12_fireAt_92 : decode cX12_fireAt 92 = .ok (.baload, 1) := by decide +kernel
theorem dX12_fireAt_93 : decode cX12_fireAt 93 = .ok (.ifCond .eq 7, 3) := by decide +kernel
theorem dX12_fireAt_96 : decode cX12_fireAt 96 = .ok (.iconst 1, 1) := by decide +kernel
theorem dX12_fireAt_97 : decode cX12_fireAt 97 = .ok (.goto 4, 3) := by decide +kernel
theorem dX12_fireAt_100 : decode cX12_fireAt 100 = .ok (.iconst 0, 1) := by decide +kernel
theorem dX12_fireAt_101 : decode cX12_fireAt 101 = .ok (.ireturn, 1) := by decide +kernel
theorem dX12_fireAt_102 : decode cX12_fireAt 102 = .ok (.aload_n 0, 1) := by decide +kernel
theorem dX12_fireAt_103 : decode cX12_fireAt 103 = .ok (.getfield 58, 3) := by decide +kernel
theorem dX12_fireAt_106 : decode cX12_fireAt 106 = .ok (.getfield 334, 3) := by decide +kernel
theorem dX12_fireAt_109 : decode cX12_fireAt 109 = .ok (.iload 4, 2) := by decide +kernel
theorem dX12_fireAt_111 : decode cX12_fireAt 111 = .ok (.iaload, 1) := by decide +kernel
theorem dX12_fireAt_112 : decode cX12_fireAt 112 = .ok (.ireturn, 1) := by decide +kernel
theorem dX12_fireAt_113 : decode cX12_fireAt 113 = .ok (.iconst (-1), 1) := by decide +kernel
theorem dX12_fireAt_114 : decode cX12_fireAt 114 = .ok (.ireturn, 1) := by decide +kernel
def fAt (C R : Nat) (S : zFs) (x y q : Int32) : Int32 :=
  if x < 0 then -1 else if ¬ x < nI C then -1 else if y < 0 then -1 else if ¬ y < nI R then -1 else
  if q = nI 0 then S.1 (y * nI C + x).toNatClampNeg else if q = nI 1 then (if S.2.2 (y * nI C + x).toNatClampNeg = 0 then 0 else 1) else if q = nI 2 then S.2.1 (y * nI C + x).toNatClampNeg else -1
set_option maxRecDepth 100000 in
theorem s_fireAt (l : Launch) (dd : Nat) (z : Nat) (a : Nat → Nat) (sz fa nk oo be ho : Nat) (C R : Nat) (ad : Nat → Nat) (sc : Nat → Int32) (S : zFs) (he se : Nat → Int32) (x y q : Int32) (hf : zFh C R sc) (hC : C ≤ 64) : zSp l mX12_fireAt dd 0 0 [.ref z, .int x, .int y, .int q] [(z, .inr (10, fPR a sz fa nk oo be ho)), ((a 11), .inr (1, fFire ad sc)), (ad 1, .inl (0, 64, .inl (S.1))), (ad 2, .inl (0, 64, .inl (S.2.1))), (ad 3, .inl (1, 64, .inl (S.2.2))), (ad 4, .inl (0, 64, .inl he)), (ad 5, .inl (0, 60, .inl se))] (fun r K' => r = some (.int (fAt C R S x y q)) ∧ K' = [(z, .inr (10, fPR a sz fa nk oo be ho)), ((a 11), .inr (1, fFire ad sc)), (ad 1, .inl (0, 64, .inl (S.1))), (ad 2, .inl (0, 64, .inl (S.2.1))), (ad 3, .inl (1, 64, .inl (S.2.2))), (ad 4, .inl (0, 64, .inl he)), (ad 5, .inl (0, 60, .inl se))]) := by
  refine zSp.of (by decide) (Nat.le_of_ble_eq_true rfl) (fun h0 => ?_)
  show zS _ 0 0 0 [(0, .ref z), (1, .int x), (2, .int y), (3, .int q)] [] [(z, .inr (10, fPR a sz fa nk oo be ho)), ((a 11), .inr (1, fFire ad sc)), (ad 1, .inl (0, 64, .inl (S.1))), (ad 2, .inl (0, 64, .inl (S.2.1))), (ad 3, .inl (1, 64, .inl (S.2.2))), (ad 4, .inl (0, 64, .inl he)), (ad 5, .inl (0, 60, .inl se))]
  refine zs_iload_n dX12_fireAt_0 rfl ?_
  refine zs_if_lt (tgt := 30) dX12_fireAt_1 (by decide) (fun c_1 => ?_) (fun c_1 => ?_)
  · refine zs_iconst (v := (-1)) dX12_fireAt_30 (by decide) ?_
    exact zs_iret dX12_fireAt_31 rfl ⟨by rw [fAt, if_pos c_1], rfl⟩
  · refine zs_iload_n dX12_fireAt_4 rfl ?_
    refine zs_aload_n dX12_fireAt_5 rfl rfl ?_
    refine zs_get 0 dX12_fireAt_6 zf_RX12_58 rfl (v := .ref (a 11)) rfl ?_
    refine zs_get 1 dX12_fireAt_9 zf_RX12_330 rfl (v := .int (sc 0)) rfl ?_
    refine zs_icmp_ge (tgt := 30) dX12_fireAt_12 (by decide) (fun c_2 => ?_) (fun c_2 => ?_)
    · refine zs_iconst (v := (-1)) dX12_fireAt_30 (by decide) ?_
      exact zs_iret dX12_fireAt_31 rfl ⟨by rw [fAt, if_neg c_1, if_pos (show ¬ x < nI C from fun h => absurd (hf.2.2.1.symm ▸ h : x < sc 0) (Int32.not_lt.mpr c_2))], rfl⟩
    · have c_2 := Int32.not_le.mp c_2
      refine zs_iload_n dX12_fireAt_15 rfl ?_
      refine zs_if_lt (tgt := 30) dX12_fireAt_16 (by decide) (fun c_3 => ?_) (fun c_3 => ?_)
      · refine zs_iconst (v := (-1)) dX12_fireAt_30 (by decide) ?_
        exact zs_iret dX12_fireAt_31 rfl ⟨by rw [fAt, if_neg c_1, if_neg (fun h => h (show _ < nI C from hf.2.2.1 ▸ c_2)), if_pos c_3], rfl⟩
      · refine zs_iload_n dX12_fireAt_19 rfl ?_
        refine zs_aload_n dX12_fireAt_20 rfl rfl ?_
        refine zs_get 0 dX12_fireAt_21 zf_RX12_58 rfl (v := .ref (a 11)) rfl ?_
        refine zs_get 1 dX12_fireAt_24 zf_RX12_331 rfl (v := .int (sc 1)) rfl ?_
        refine zs_icmp_lt (tgt := 32) dX12_fireAt_27 (by decide) (fun c_4 => ?_) (fun c_4 => ?_)
        · have c_4 := c_4
          have hR64 := hf.1
          obtain ⟨i, hi, rfl⟩ := zi_nn c_1
          obtain ⟨j, hj, rfl⟩ := zi_nn c_3
          have hiC : i < C := by have h := c_2; rw [hf.2.2.1] at h; first | omega | (rw [nI_lt' (by omega) (by omega)] at h; exact h)
          have hjR : j < R := by have h := c_4; rw [hf.2.2.2.1] at h; first | omega | (rw [nI_lt' (by omega) (by omega)] at h; exact h)
          have hin : j * C + i < C * R := by
            have h1 := Nat.mul_le_mul_right C (show j + 1 ≤ R by omega)
            rw [Nat.add_mul, Nat.one_mul, Nat.mul_comm R C] at h1
            omega
          have hn64 := hf.2.1
          refine zs_iload_n dX12_fireAt_32 rfl ?_
          refine zs_aload_n dX12_fireAt_33 rfl rfl ?_
          refine zs_get 0 dX12_fireAt_34 zf_RX12_58 rfl (v := .ref (a 11)) rfl ?_
          refine zs_get 1 dX12_fireAt_37 zf_RX12_330 rfl (v := .int (sc 0)) rfl ?_
          refine zs_imul dX12_fireAt_40 ?_
          refine zs_as (y := nI (j * C)) (by rw [hf.2.2.1, nI_mul]) ?_
          refine zs_iload_n dX12_fireAt_41 rfl ?_
          refine zs_iadd dX12_fireAt_42 ?_
          refine zs_as (y := nI ((j * C) + i)) (nI_add _ _) ?_
          refine zs_istore (lv' := [(4, .int (nI ((j * C) + i))), (0, .ref z), (1, .int (nI i)), (2, .int (nI j)), (3, .int q)]) dX12_fireAt_43 (Nat.le_of_ble_eq_true rfl) rfl ?_
          refine zs_iload_n dX12_fireAt_45 rfl ?_
          by_cases h46_0 : q = nI 0
          · refine zs_as (y := nI 0) h46_0 ?_
            refine zs_tableIn (off := 26) (tgt := 72) dX12_fireAt_46 (by decide) (by decide) rfl (by decide) ?_
            refine zs_aload_n dX12_fireAt_72 rfl rfl ?_
            refine zs_get 0 dX12_fireAt_73 zf_RX12_58 rfl (v := .ref (a 11)) rfl ?_
            refine zs_get 1 dX12_fireAt_76 zf_RX12_332 rfl (v := .ref (ad 1)) rfl ?_
            refine zs_iload dX12_fireAt_79 rfl ?_
            refine zs_iald 2 dX12_fireAt_81 rfl (vp_in_nI (by omega) (by omega)) ?_
            refine zs_as (y := S.1 (j * C + i)) (by rw [nI_c (n := (j * C + i)) (by omega)]) ?_
            exact zs_iret dX12_fireAt_82 rfl ⟨by rw [fAt, if_neg c_1, if_neg (fun h => h (show _ < nI C from hf.2.2.1 ▸ c_2)), if_neg c_3, if_neg (fun h => h (show _ < nI R from hf.2.2.2.1 ▸ c_4)), if_pos h46_0, show nI j * nI C + nI i = nI (j * C + i) from by rw [nI_mul, nI_add], nI_c (n := (j * C + i)) (by omega)] <;> rfl, rfl⟩
          by_cases h46_1 : q = nI 1
          · refine zs_as (y := nI 1) h46_1 ?_
            refine zs_tableIn (off := 37) (tgt := 83) dX12_fireAt_46 (by decide) (by decide) rfl (by decide) ?_
            refine zs_aload_n dX12_fireAt_83 rfl rfl ?_
            refine zs_get 0 dX12_fireAt_84 zf_RX12_58 rfl (v := .ref (a 11)) rfl ?_
            refine zs_get 1 dX12_fireAt_87 zf_RX12_333 rfl (v := .ref (ad 3)) rfl ?_
            refine zs_iload dX12_fireAt_90 rfl ?_
            refine zs_zald 4 dX12_fireAt_92 rfl (vp_in_nI (by omega) (by omega)) ?_
            refine zs_as (y := S.2.2 (j * C + i)) (by rw [nI_c (n := (j * C + i)) (by omega)]) ?_
            refine zs_if_eq (tgt := 100) dX12_fireAt_93 (by decide) (fun c_5 => ?_) (fun c_5 => ?_)
            · refine zs_iconst (v := nI 0) dX12_fireAt_100 (by decide) ?_
              exact zs_iret dX12_fireAt_101 rfl ⟨by rw [fAt, if_neg c_1, if_neg (fun h => h (show _ < nI C from hf.2.2.1 ▸ c_2)), if_neg c_3, if_neg (fun h => h (show _ < nI R from hf.2.2.2.1 ▸ c_4)), if_neg h46_0, if_pos h46_1, show nI j * nI C + nI i = nI (j * C + i) from by rw [nI_mul, nI_add], nI_c (n := (j * C + i)) (by omega), if_pos c_5] <;> rfl, rfl⟩
            · refine zs_iconst (v := nI 1) dX12_fireAt_96 (by decide) ?_
              refine zs_goto (tgt := 101) dX12_fireAt_97 (by decide) ?_
              exact zs_iret dX12_fireAt_101 rfl ⟨by rw [fAt, if_neg c_1, if_neg (fun h => h (show _ < nI C from hf.2.2.1 ▸ c_2)), if_neg c_3, if_neg (fun h => h (show _ < nI R from hf.2.2.2.1 ▸ c_4)), if_neg h46_0, if_pos h46_1, show nI j * nI C + nI i = nI (j * C + i) from by rw [nI_mul, nI_add], nI_c (n := (j * C + i)) (by omega), if_neg c_5] <;> rfl, rfl⟩
          by_cases h46_2 : q = nI 2
          · refine zs_as (y := nI 2) h46_2 ?_
            refine zs_tableIn (off := 56) (tgt := 102) dX12_fireAt_46 (by decide) (by decide) rfl (by decide) ?_
            refine zs_aload_n dX12_fireAt_102 rfl rfl ?_
            refine zs_get 0 dX12_fireAt_103 zf_RX12_58 rfl (v := .ref (a 11)) rfl ?_
            refine zs_get 1 dX12_fireAt_106 zf_RX12_334 rfl (v := .ref (ad 2)) rfl ?_
            refine zs_iload dX12_fireAt_109 rfl ?_
            refine zs_iald 3 dX12_fireAt_111 rfl (vp_in_nI (by omega) (by omega)) ?_
            refine zs_as (y := S.2.1 (j * C + i)) (by rw [nI_c (n := (j * C + i)) (by omega)]) ?_
            exact zs_iret dX12_fireAt_112 rfl ⟨by rw [fAt, if_neg c_1, if_neg (fun h => h (show _ < nI C from hf.2.2.1 ▸ c_2)), if_neg c_3, if_neg (fun h => h (show _ < nI R from hf.2.2.2.1 ▸ c_4)), if_neg h46_0, if_neg h46_1, if_pos h46_2, show nI j * nI C + nI i = nI (j * C + i) from by rw [nI_mul, nI_add], nI_c (n := (j * C + i)) (by omega)] <;> rfl, rfl⟩
          refine zs_tableOut (tgt := 113) dX12_fireAt_46 (by have q0 := zi_nk (k := 0) (by decide) h46_0; have q1 := zi_nk (k := 1) (by decide) h46_1; have q2 := zi_nk (k := 2) (by decide) h46_2; omega) (by decide) ?_
          refine zs_iconst (v := (-1)) dX12_fireAt_113 (by decide) ?_
          exact zs_iret dX12_fireAt_114 rfl ⟨by rw [fAt, if_neg c_1, if_neg (fun h => h (show _ < nI C from hf.2.2.1 ▸ c_2)), if_neg c_3, if_neg (fun h => h (show _ < nI R from hf.2.2.2.1 ▸ c_4)), if_neg h46_0, if_neg h46_1, if_neg h46_2], rfl⟩
        · refine zs_iconst (v := (-1)) dX12_fireAt_30 (by decide) ?_
          exact zs_iret dX12_fireAt_31 rfl ⟨by rw [fAt, if_neg c_1, if_neg (fun h => h (show _ < nI C from hf.2.2.1 ▸ c_2)), if_neg c_3, if_pos (show ¬ y < nI R from fun h => c_4 (hf.2.2.2.1.symm ▸ h))], rfl⟩
