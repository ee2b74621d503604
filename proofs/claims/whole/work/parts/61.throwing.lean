/-! ===== the class itself: man, cell, cost, which may throw ===== -/
theorem dX12_man_0 : decode cX12_man 0 = .ok (.aload_n 0, 1) := by decide +kernel
theorem dX12_man_1 : decode cX12_man 1 = .ok (.getfield 23, 3) := by decide +kernel
theorem dX12_man_4 : decode cX12_man 4 = .ok (.getfield 96, 3) := by decide +kernel
theorem dX12_man_7 : decode cX12_man 7 = .ok (.astore_n 3, 1) := by decide +kernel
theorem dX12_man_8 : decode cX12_man 8 = .ok (.iload_n 1, 1) := by decide +kernel
theorem dX12_man_9 : decode cX12_man 9 = .ok (.ifCond .lt 20, 3) := by decide +kernel
theorem dX12_man_12 : decode cX12_man 12 = .ok (.iload_n 1, 1) := by decide +kernel
theorem dX12_man_13 : decode cX12_man 13 = .ok (.aload_n 3, 1) := by decide +kernel
theorem dX12_man_14 : decode cX12_man 14 = .ok (.getfield 100, 3) := by decide +kernel
theorem dX12_man_17 : decode cX12_man 17 = .ok (.if_icmp .ge 12, 3) := by decide +kernel
theorem dX12_man_20 : decode cX12_man 20 = .ok (.iload_n 2, 1) := by decide +kernel
theorem dX12_man_21 : decode cX12_man 21 = .ok (.ifCond .lt 8, 3) := by decide +kernel
theorem dX12_man_24 : decode cX12_man 24 = .ok (.iload_n 2, 1) := by decide +kernel
theorem dX12_man_25 : decode cX12_man 25 = .ok (.iconst 2, 1) := by decide +kernel
theorem dX12_man_26 : decode cX12_man 26 = .ok (.if_icmp .le 11, 3) := by decide +kernel
theorem dX12_man_29 : decode cX12_man 29 = .ok (.new 163, 3) := by decide +kernel
theorem dX12_man_32 : decode cX12_man 32 = .ok (.dup, 1) := by decide +kernel
theorem dX12_man_33 : decode cX12_man 33 = .ok (.invokespecial 165, 3) := by decide +kernel
theorem dX12_man_36 : decode cX12_man 36 = .ok (.athrow, 1) := by decide +kernel
theorem dX12_man_37 : decode cX12_man 37 = .ok (.iload_n 2, 1) := by decide +kernel
theorem dX12_man_38 : decode cX12_man 38 = .ok (.ifCond .ne 10, 3) := by decide +kernel
theorem dX12_man_41 : decode cX12_man 41 = .ok (.aload_n 3, 1) := by decide +kernel
theorem dX12_man_42 : decode cX12_man 42 = .ok (.getfield 166, 3) := by decide +kernel
theorem dX12_man_45 : decode cX12_man 45 = .ok (.iload_n 1, 1) := by decide +kernel
theorem dX12_man_46 : decode cX12_man 46 = .ok (.iaload, 1) := by decide +kernel
theorem dX12_man_47 : decode cX12_man 47 = .ok (.ireturn, 1) := by decide +kernel
theorem dX12_man_48 : decode cX12_man 48 = .ok (.iload_n 2, 1) := by decide +kernel
theorem dX12_man_49 : decode cX12_man 49 = .ok (.iconst 1, 1) := by decide +kernel
theorem dX12_man_50 : decode cX12_man 50 = .ok (.if_icmp .ne 12, 3) := by decide +kernel
theorem dX12_man_53 : decode cX12_man 53 = .ok (.aload_n 3, 1) := by decide +kernel
theorem dX12_man_54 : decode cX12_man 54 = .ok (.getfield 169, 3) := by decide +kernel
theorem dX12_man_57 : decode cX12_man 57 = .ok (.iload_n 1, 1) := by decide +kernel
theorem dX12_man_58 : decode cX12_man 58 = .ok (.iaload, 1) := by decide +kernel
theorem dX12_man_59 : decode cX12_man 59 = .ok (.goto 9, 3) := by decide +kernel
theorem dX12_man_62 : decode cX12_man 62 = .ok (.aload_n 3, 1) := by decide +kernel
theorem dX12_man_63 : decode cX12_man 63 = .ok (.getfield 172, 3) := by decide +kernel
theorem dX12_man_66 : decode cX12_man 66 = .ok (.iload_n 1, 1) := by decide +kernel
theorem dX12_man_67 : decode cX12_man 67 = .ok (.iaload, 1) := by decide +kernel
theorem dX12_man_68 : decode cX12_man 68 = .ok (.ireturn, 1) := by decide +kernel
def pMa (D : zYd) (k : Nat) (q : Int32) : Int32 := if q = 0 then nI (D.2.2.2.1 k) else if q = nI 1 then nI (D.2.2.2.2.1 k) else nI (D.2.2.2.2.2.1 k)
def pCe (D : zYd) (i : Nat) (q : Int32) : Int32 := if q = 0 then nI (D.2.2.2.2.2.2.1 i) else if D.2.2.2.2.2.2.2 i = 0 then 0 else 1
set_option maxRecDepth 100000 in
theorem s_man (l : Launch) (dd : Nat) (hl : l.stackTraces = false) (z : Nat) (a : Nat → Nat) (sz fa nk oo be ho : Nat) (y p s : Nat) (ay : Nat → Nat) (D : zYd) (x q : Int32) (hd : 6 ≤ dd) (hD : yI D) : zSpX l mX12_man dd 1 6 [.ref z, .int x, .int q] [(z, .inr (10, fPR a sz fa nk oo be ho)), ((a 4), .inr (7, fSta y p s)), (y, .inr (9, fYard ay (ysN D.1 D.2.1))), (ay 2, .inl (0, 12, .inl (nF D.2.2.2.1))), (ay 3, .inl (0, 12, .inl (nF D.2.2.2.2.1))), (ay 4, .inl (0, 12, .inl (nF D.2.2.2.2.2.1)))] (fun r K' => ∃ k, k < D.1 0 ∧ x = nI k ∧ (¬ x < 0 ∧ x < nI (D.1 0) ∧ ¬ q < 0 ∧ ¬ nI 2 < q) ∧ r = some (.int (pMa D k q)) ∧ K' = [(z, .inr (10, fPR a sz fa nk oo be ho)), ((a 4), .inr (7, fSta y p s)), (y, .inr (9, fYard ay (ysN D.1 D.2.1))), (ay 2, .inl (0, 12, .inl (nF D.2.2.2.1))), (ay 3, .inl (0, 12, .inl (nF D.2.2.2.2.1))), (ay 4, .inl (0, 12, .inl (nF D.2.2.2.2.2.1)))]) (fun K' => ¬ (¬ x < 0 ∧ x < nI (D.1 0) ∧ ¬ q < 0 ∧ ¬ nI 2 < q) ∧ K' = [(z, .inr (10, fPR a sz fa nk oo be ho)), ((a 4), .inr (7, fSta y p s)), (y, .inr (9, fYard ay (ysN D.1 D.2.1))), (ay 2, .inl (0, 12, .inl (nF D.2.2.2.1))), (ay 3, .inl (0, 12, .inl (nF D.2.2.2.2.1))), (ay 4, .inl (0, 12, .inl (nF D.2.2.2.2.2.1)))]) := by
  refine zSpX.of (by decide) (Nat.le_of_ble_eq_true rfl) (fun h0 => ?_)
  show zS _ 1 6 0 [(0, .ref z), (1, .int x), (2, .int q)] [] [(z, .inr (10, fPR a sz fa nk oo be ho)), ((a 4), .inr (7, fSta y p s)), (y, .inr (9, fYard ay (ysN D.1 D.2.1))), (ay 2, .inl (0, 12, .inl (nF D.2.2.2.1))), (ay 3, .inl (0, 12, .inl (nF D.2.2.2.2.1))), (ay 4, .inl (0, 12, .inl (nF D.2.2.2.2.2.1)))]
  obtain ⟨y1, y2, y3, y4, y5, y6, y7, y8, y9, y10, y11, y12, y13, y14, y15, y16, y17, y18, y19, y20⟩ := id hD
  refine zs_aload_n dX12_man_0 rfl rfl ?_
  refine zs_get 0 dX12_man_1 zf_RX12_23 rfl (v := .ref (a 4)) rfl ?_
  refine zs_get 1 dX12_man_4 zf_RX12_96 rfl (v := .ref y) rfl ?_
  refine zs_astore_n (lv' := [(3, .ref y), (0, .ref z), (1, .int x), (2, .int q)]) dX12_man_7 (Nat.le_of_ble_eq_true rfl) rfl rfl ?_
  refine zs_iload_n dX12_man_8 rfl ?_
  refine zs_if_lt (tgt := 29) dX12_man_9 (by decide) (fun c_1 => ?_) (fun c_1 => ?_)
  · exact zs_throw0 hl rfl dX12_man_29 dX12_man_32 dX12_man_33 dX12_man_36 (show 6 ≤ dd by omega) (Nat.le_of_ble_eq_true rfl) (by omega) (by omega) ⟨(fun h => h.1 c_1), rfl⟩
  · have d9 := c_1
    refine zs_iload_n dX12_man_12 rfl ?_
    refine zs_aload_n dX12_man_13 rfl rfl ?_
    refine zs_get 2 dX12_man_14 zf_RX12_100 rfl (v := .int (nI (D.1 0))) rfl ?_
    refine zs_icmp_ge (tgt := 29) dX12_man_17 (by decide) (fun c_2 => ?_) (fun c_2 => ?_)
    · exact zs_throw0 hl rfl dX12_man_29 dX12_man_32 dX12_man_33 dX12_man_36 (show 6 ≤ dd by omega) (Nat.le_of_ble_eq_true rfl) (by omega) (by omega) ⟨(fun h => absurd h.2.1 (Int32.not_lt.mpr c_2)), rfl⟩
    · have d17 := Int32.not_le.mp c_2
      refine zs_iload_n dX12_man_20 rfl ?_
      refine zs_if_lt (tgt := 29) dX12_man_21 (by decide) (fun c_3 => ?_) (fun c_3 => ?_)
      · exact zs_throw0 hl rfl dX12_man_29 dX12_man_32 dX12_man_33 dX12_man_36 (show 6 ≤ dd by omega) (Nat.le_of_ble_eq_true rfl) (by omega) (by omega) ⟨(fun h => h.2.2.1 c_3), rfl⟩
      · have d21 := c_3
        refine zs_iload_n dX12_man_24 rfl ?_
        refine zs_iconst (v := nI 2) dX12_man_25 (by decide) ?_
        refine zs_icmp_le (tgt := 37) dX12_man_26 (by decide) (fun c_4 => ?_) (fun c_4 => ?_)
        · have d26 := Int32.not_lt.mpr c_4
          have hcond : (¬ x < 0 ∧ x < nI (D.1 0) ∧ ¬ q < 0 ∧ ¬ nI 2 < q) := ⟨d9, d17, d21, d26⟩
          obtain ⟨k, hk, rfl⟩ := zi_nn d9
          have hkm : k < D.1 0 := by have h := d17; rw [nI_lt' (by omega) (by omega)] at h; exact h
          refine zs_iload_n dX12_man_37 rfl ?_
          refine zs_if_ne (tgt := 48) dX12_man_38 (by decide) (fun c_5 => ?_) (fun c_5 => ?_)
          · refine zs_iload_n dX12_man_48 rfl ?_
            refine zs_iconst (v := nI 1) dX12_man_49 (by decide) ?_
            refine zs_icmp_ne (tgt := 62) dX12_man_50 (by decide) (fun c_6 => ?_) (fun c_6 => ?_)
            · refine zs_aload_n dX12_man_62 rfl rfl ?_
              refine zs_get 2 dX12_man_63 zf_RX12_172 rfl (v := .ref (ay 4)) rfl ?_
              refine zs_iload_n dX12_man_66 rfl ?_
              refine zs_iald 5 dX12_man_67 rfl (vp_in_nI (by omega) (by omega)) ?_
              refine zs_as (y := nI (D.2.2.2.2.2.1 k)) (by rw [nI_c (n := k) (by omega)]; rfl) ?_
              exact zs_iret dX12_man_68 rfl ⟨k, hkm, rfl, hcond, by rw [pMa, if_neg c_5, if_neg c_6], rfl⟩
            · refine zs_aload_n dX12_man_53 rfl rfl ?_
              refine zs_get 2 dX12_man_54 zf_RX12_169 rfl (v := .ref (ay 3)) rfl ?_
              refine zs_iload_n dX12_man_57 rfl ?_
              refine zs_iald 4 dX12_man_58 rfl (vp_in_nI (by omega) (by omega)) ?_
              refine zs_as (y := nI (D.2.2.2.2.1 k)) (by rw [nI_c (n := k) (by omega)]; rfl) ?_
              refine zs_goto (tgt := 68) dX12_man_59 (by decide) ?_
              exact zs_iret dX12_man_68 rfl ⟨k, hkm, rfl, hcond, by rw [pMa, if_neg c_5, if_pos c_6], rfl⟩
          · refine zs_aload_n dX12_man_41 rfl rfl ?_
            refine zs_get 2 dX12_man_42 zf_RX12_166 rfl (v := .ref (ay 2)) rfl ?_
            refine zs_iload_n dX12_man_45 rfl ?_
            refine zs_iald 3 dX12_man_46 rfl (vp_in_nI (by omega) (by omega)) ?_
            refine zs_as (y := nI (D.2.2.2.1 k)) (by rw [nI_c (n := k) (by omega)]; rfl) ?_
            exact zs_iret dX12_man_47 rfl ⟨k, hkm, rfl, hcond, by rw [pMa, if_pos c_5], rfl⟩
        · exact zs_throw0 hl rfl dX12_man_29 dX12_man_32 dX12_man_33 dX12_man_36 (show 6 ≤ dd by omega) (Nat.le_of_ble_eq_true rfl) (by omega) (by omega) ⟨(fun h => h.2.2.2 (Int32.not_le.mp c_4)), rfl⟩
theorem dX12_cell_0 : decode cX12_cell 0 = .ok (.aload_n 0, 1) := by decide +kernel
theorem dX12_cell_1 : decode cX12_cell 1 = .ok (.getfield 23, 3) := by decide +kernel
theorem dX12_cell_4 : decode cX12_cell 4 = .ok (.getfield 96, 3) := by decide +kernel
theorem dX12_cell_7 : decode cX12_cell 7 = .ok (.astore 4, 2) := by decide +kernel
theorem dX12_cell_9 : decode cX12_cell 9 = .ok (.iload_n 1, 1) := by decide +kernel
theorem dX12_cell_10 : decode cX12_cell 10 = .ok (.ifCond .lt 34, 3) := by decide +kernel
theorem dX12_cell_13 : decode cX12_cell 13 = .ok (.iload_n 1, 1) := by decide +kernel
theorem dX12_cell_14 : decode cX12_cell 14 = .ok (.aload 4, 2) := by decide +kernel
theorem dX12_cell_16 : decode cX12_cell 16 = .ok (.getfield 175, 3) := by decide +kernel
theorem dX12_cell_19 : decode cX12_cell 19 = .ok (.if_icmp .ge 25, 3) := by decide +kernel
theorem dX12_cell_22 : decode cX12_cell 22 = .ok (.iload_n 2, 1) := by decide +kernel
theorem dX12_cell_23 : decode cX12_cell 23 = .ok (.ifCond .lt 21, 3) := by decide +kernel
theorem dX12_cell_26 : decode cX12_cell 26 = .ok (.iload_n 2, 1) := by decide +kernel
theorem dX12_cell_27 : decode cX12_cell 27 = .ok (.aload 4, 2) := by decide +kernel
theorem dX12_cell_29 : decode cX12_cell 29 = .ok (.getfield 178, 3) := by decide +kernel
theorem dX12_cell_32 : decode cX12_cell 32 = .ok (.if_icmp .ge 12, 3) := by decide +kernel
theorem dX12_cell_35 : decode cX12_cell 35 = .ok (.iload_n 3, 1) := by decide +kernel
theorem dX12_cell_36 : decode cX12_cell 36 = .ok (.ifCond .lt 8, 3) := by decide +kernel
theorem dX12_cell_39 : decode cX12_cell 39 = .ok (.iload_n 3, 1) := by decide +kernel
theorem dX12_cell_40 : decode cX12_cell 40 = .ok (.iconst 1, 1) := by decide +kernel
theorem dX12_cell_41 : decode cX12_cell 41 = .ok (.if_icmp .le 11, 3) := by decide +kernel
theorem dX12_cell_44 : decode cX12_cell 44 = .ok (.new 163, 3) := by decide +kernel
theorem dX12_cell_47 : decode cX12_cell 47 = .ok (.dup, 1) := by decide +kernel
theorem dX12_cell_48 : decode cX12_cell 48 = .ok (.invokespecial 165, 3) := by decide +kernel
theorem dX12_cell_51 : decode cX12_cell 51 = .ok (.athrow, 1) := by decide +kernel
theorem dX12_cell_52 : decode cX12_cell 52 = .ok (.iload_n 2, 1) := by decide +kernel
theorem dX12_cell_53 : decode cX12_cell 53 = .ok (.aload 4, 2) := by decide +kernel
theorem dX12_cell_55 : decode cX12_cell 55 = .ok (.getfield 175, 3) := by decide +kernel
theorem dX12_cell_58 : decode cX12_cell 58 = .ok (.imul, 1) := by decide +kernel
theorem dX12_cell_59 : decode cX12_cell 59 = .ok (.iload_n 1, 1) := by decide +kernel
theorem dX12_cell_60 : decode cX12_cell 60 = .ok (.iadd, 1) := by decide +kernel
theorem dX12_cell_61 : decode cX12_cell 61 = .ok (.istore 5, 2) := by decide +kernel
theorem dX12_cell_63 : decode cX12_cell 63 = .ok (.iload_n 3, 1) := by decide +kernel
theorem dX12_cell_64 : decode cX12_cell 64 = .ok (.ifCond .ne 12, 3) := by decide +kernel
theorem dX12_cell_67 : decode cX12_cell 67 = .ok (.aload 4, 2) := by decide +kernel
theorem dX12_cell_69 : decode cX12_cell 69 = .ok (.getfield 181, 3) := by decide +kernel
theorem dX12_cell_72 : decode cX12_cell 72 = .ok (.iload 5, 2) := by decide +kernel
theorem dX12_cell_74 : decode cX12_cell 74 = .ok (.iaload, 1) := by decide +kernel
theorem dX12_cell_75 : decode cX12_cell 75 = .ok (.ireturn, 1) := by decide +kernel
theorem dX12_cell_76 : decode cX12_cell 76 = .ok (.aload 4, 2) := by decide +kernel
theorem dX12_cell_78 : decode cX12_cell 78 = .ok (.getfield 184, 3) := by decide +kernel
theorem dX12_cell_81 : decode cX12_cell 81 = .ok (.iload 5, 2) := by decide +kernel
theorem dX12_cell_83 : decode cX12_cell 83 = .ok (.baload, 1) := by decide +kernel
theorem dX12_cell_84 : decode cX12_cell 84 = .ok (.ifCond .eq 7, 3) := by decide +kernel
theorem dX12_cell_87 : decode cX12_cell 87 = .ok (.iconst 1, 1) := by decide +kernel
theorem dX12_cell_88 : decode cX12_cell 88 = .ok (.goto 4, 3) := by decide +kernel
theorem dX12_cell_91 : decode cX12_cell 91 = .ok (.iconst 0, 1) := by decide +kernel
theorem dX12_cell_92 : decode cX12_cell 92 = .ok (.ireturn, 1) := by decide +kernel
set_option maxRecDepth 100000 in
theorem s_cell (l : Launch) (dd : Nat) (hl : l.stackTraces = false) (z : Nat) (a : Nat → Nat) (sz fa nk oo be ho : Nat) (y p s : Nat) (ay : Nat → Nat) (D : zYd) (x1 x2 q : Int32) (hd : 6 ≤ dd) (hD : yI D) : zSpX l mX12_cell dd 1 6 [.ref z, .int x1, .int x2, .int q] [(z, .inr (10, fPR a sz fa nk oo be ho)), ((a 4), .inr (7, fSta y p s)), (y, .inr (9, fYard ay (ysN D.1 D.2.1))), (ay 5, .inl (0, 64, .inl (nF D.2.2.2.2.2.2.1))), (ay 6, .inl (1, 64, .inl (nF D.2.2.2.2.2.2.2)))] (fun r K' => ∃ i j, i < D.1 14 ∧ j < D.1 15 ∧ x1 = nI i ∧ x2 = nI j ∧ (¬ x1 < 0 ∧ x1 < nI (D.1 14) ∧ ¬ x2 < 0 ∧ x2 < nI (D.1 15) ∧ ¬ q < 0 ∧ ¬ nI 1 < q) ∧ r = some (.int (pCe D (j * D.1 14 + i) q)) ∧ K' = [(z, .inr (10, fPR a sz fa nk oo be ho)), ((a 4), .inr (7, fSta y p s)), (y, .inr (9, fYard ay (ysN D.1 D.2.1))), (ay 5, .inl (0, 64, .inl (nF D.2.2.2.2.2.2.1))), (ay 6, .inl (1, 64, .inl (nF D.2.2.2.2.2.2.2)))]) (fun K' => ¬ (¬ x1 < 0 ∧ x1 < nI (D.1 14) ∧ ¬ x2 < 0 ∧ x2 < nI (D.1 15) ∧ ¬ q < 0 ∧ ¬ nI 1 < q) ∧ K' = [(z, .inr (10, fPR a sz fa nk oo be ho)), ((a 4), .inr (7, fSta y p s)), (y, .inr (9, fYard ay (ysN D.1 D.2.1))), (ay 5, .inl (0, 64, .inl (nF D.2.2.2.2.2.2.1))), (ay 6, .inl (1, 64, .inl (nF D.2.2.2.2.2.2.2)))]) := by
  refine zSpX.of (by decide) (Nat.le_of_ble_eq_true rfl) (fun h0 => ?_)
  show zS _ 1 6 0 [(0, .ref z), (1, .int x1), (2, .int x2), (3, .int q)] [] [(z, .inr (10, fPR a sz fa nk oo be ho)), ((a 4), .inr (7, fSta y p s)), (y, .inr (9, fYard ay (ysN D.1 D.2.1))), (ay 5, .inl (0, 64, .inl (nF D.2.2.2.2.2.2.1))), (ay 6, .inl (1, 64, .inl (nF D.2.2.2.2.2.2.2)))]
  obtain ⟨y1, y2, y3, y4, y5, y6, y7, y8, y9, y10, y11, y12, y13, y14, y15, y16, y17, y18, y19, y20⟩ := id hD
  refine zs_aload_n dX12_cell_0 rfl rfl ?_
  refine zs_get 0 dX12_cell_1 zf_RX12_23 rfl (v := .ref (a 4)) rfl ?_
  refine zs_get 1 dX12_cell_4 zf_RX12_96 rfl (v := .ref y) rfl ?_
  refine zs_astore (lv' := [(4, .ref y), (0, .ref z), (1, .int x1), (2, .int x2), (3, .int q)]) dX12_cell_7 (Nat.le_of_ble_eq_true rfl) rfl rfl ?_
  refine zs_iload_n dX12_cell_9 rfl ?_
  refine zs_if_lt (tgt := 44) dX12_cell_10 (by decide) (fun c_1 => ?_) (fun c_1 => ?_)
  · exact zs_throw0 hl rfl dX12_cell_44 dX12_cell_47 dX12_cell_48 dX12_cell_51 (show 6 ≤ dd by omega) (Nat.le_of_ble_eq_true rfl) (by omega) (by omega) ⟨(fun h => h.1 c_1), rfl⟩
  · have d10 := c_1
    refine zs_iload_n dX12_cell_13 rfl ?_
    refine zs_aload dX12_cell_14 rfl rfl ?_
    refine zs_get 2 dX12_cell_16 zf_RX12_175 rfl (v := .int (nI (D.1 14))) rfl ?_
    refine zs_icmp_ge (tgt := 44) dX12_cell_19 (by decide) (fun c_2 => ?_) (fun c_2 => ?_)
    · exact zs_throw0 hl rfl dX12_cell_44 dX12_cell_47 dX12_cell_48 dX12_cell_51 (show 6 ≤ dd by omega) (Nat.le_of_ble_eq_true rfl) (by omega) (by omega) ⟨(fun h => absurd h.2.1 (Int32.not_lt.mpr c_2)), rfl⟩
    · have d19 := Int32.not_le.mp c_2
      refine zs_iload_n dX12_cell_22 rfl ?_
      refine zs_if_lt (tgt := 44) dX12_cell_23 (by decide) (fun c_3 => ?_) (fun c_3 => ?_)
      · exact zs_throw0 hl rfl dX12_cell_44 dX12_cell_47 dX12_cell_48 dX12_cell_51 (show 6 ≤ dd by omega) (Nat.le_of_ble_eq_true rfl) (by omega) (by omega) ⟨(fun h => h.2.2.1 c_3), rfl⟩
      · have d23 := c_3
        refine zs_iload_n dX12_cell_26 rfl ?_
        refine zs_aload dX12_cell_27 rfl rfl ?_
        refine zs_get 2 dX12_cell_29 zf_RX12_178 rfl (v := .int (nI (D.1 15))) rfl ?_
        refine zs_icmp_ge (tgt := 44) dX12_cell_32 (by decide) (fun c_4 => ?_) (fun c_4 => ?_)
        · exact zs_throw0 hl rfl dX12_cell_44 dX12_cell_47 dX12_cell_48 dX12_cell_51 (show 6 ≤ dd by omega) (Nat.le_of_ble_eq_true rfl) (by omega) (by omega) ⟨(fun h => absurd h.2.2.2.1 (Int32.not_lt.mpr c_4)), rfl⟩
        · have d32 := Int32.not_le.mp c_4
          refine zs_iload_n dX12_cell_35 rfl ?_
          refine zs_if_lt (tgt := 44) dX12_cell_36 (by decide) (fun c_5 => ?_) (fun c_5 => ?_)
          · exact zs_throw0 hl rfl dX12_cell_44 dX12_cell_47 dX12_cell_48 dX12_cell_51 (show 6 ≤ dd by omega) (Nat.le_of_ble_eq_true rfl) (by omega) (by omega) ⟨(fun h => h.2.2.2.2.1 c_5), rfl⟩
          · have d36 := c_5
            refine zs_iload_n dX12_cell_39 rfl ?_
            refine zs_iconst (v := nI 1) dX12_cell_40 (by decide) ?_
            refine zs_icmp_le (tgt := 52) dX12_cell_41 (by decide) (fun c_6 => ?_) (fun c_6 => ?_)
            · have d41 := Int32.not_lt.mpr c_6
              have hcond : (¬ x1 < 0 ∧ x1 < nI (D.1 14) ∧ ¬ x2 < 0 ∧ x2 < nI (D.1 15) ∧ ¬ q < 0 ∧ ¬ nI 1 < q) := ⟨d10, d19, d23, d32, d36, d41⟩
              obtain ⟨i, hi, rfl⟩ := zi_nn d10
              obtain ⟨j, hj, rfl⟩ := zi_nn d23
              have hiC : i < D.1 14 := by have h := d19; rw [nI_lt' (by omega) (by omega)] at h; exact h
              have hjR : j < D.1 15 := by have h := d32; rw [nI_lt' (by omega) (by omega)] at h; exact h
              have hin : (j * D.1 14 + i) < D.1 14 * D.1 15 := by
                have h1 := Nat.mul_le_mul_right (D.1 14) (show j + 1 ≤ D.1 15 by omega)
                rw [Nat.add_mul, Nat.one_mul, Nat.mul_comm (D.1 15) (D.1 14)] at h1
                omega
              have hn64 := Nat.mul_le_mul y2 y3
              have hb1 := y6 (j * D.1 14 + i)
              refine zs_iload_n dX12_cell_52 rfl ?_
              refine zs_aload dX12_cell_53 rfl rfl ?_
              refine zs_get 2 dX12_cell_55 zf_RX12_175 rfl (v := .int (nI (D.1 14))) rfl ?_
              refine zs_imul dX12_cell_58 ?_
              refine zs_as (y := nI (j * (D.1 14))) (nI_mul _ _) ?_
              refine zs_iload_n dX12_cell_59 rfl ?_
              refine zs_iadd dX12_cell_60 ?_
              refine zs_as (y := nI ((j * (D.1 14)) + i)) (nI_add _ _) ?_
              refine zs_istore (lv' := [(5, .int (nI ((j * (D.1 14)) + i))), (4, .ref y), (0, .ref z), (1, .int (nI i)), (2, .int (nI j)), (3, .int q)]) dX12_cell_61 (Nat.le_of_ble_eq_true rfl) rfl ?_
              refine zs_iload_n dX12_cell_63 rfl ?_
              refine zs_if_ne (tgt := 76) dX12_cell_64 (by decide) (fun c_7 => ?_) (fun c_7 => ?_)
              · refine zs_aload dX12_cell_76 rfl rfl ?_
                refine zs_get 2 dX12_cell_78 zf_RX12_184 rfl (v := .ref (ay 6)) rfl ?_
                refine zs_iload dX12_cell_81 rfl ?_
                refine zs_zald 4 dX12_cell_83 rfl (vp_in_nI (by omega) (by omega)) ?_
                refine zs_as (y := nI (D.2.2.2.2.2.2.2 ((j * (D.1 14)) + i))) (by rw [nI_c (n := (j * (D.1 14)) + i) (by omega)]; rfl) ?_
                refine zs_if_eq (tgt := 91) dX12_cell_84 (by decide) (fun c_8 => ?_) (fun c_8 => ?_)
                · have c_8 : (D.2.2.2.2.2.2.2 ((j * (D.1 14)) + i)) = 0 := by have hc := c_8; rw [show (0 : Int32) = nI 0 from rfl] at hc; rw [nI_eq' (by omega) (by omega)] at hc; exact hc
                  refine zs_iconst (v := nI 0) dX12_cell_91 (by decide) ?_
                  exact zs_iret dX12_cell_92 rfl ⟨i, j, hiC, hjR, rfl, rfl, hcond, by rw [pCe, if_neg c_7, if_pos c_8] <;> rfl, rfl⟩
                · have c_8 : ¬ ((D.2.2.2.2.2.2.2 ((j * (D.1 14)) + i)) = 0) := by have hc := c_8; rw [show (0 : Int32) = nI 0 from rfl] at hc; rw [nI_eq' (by omega) (by omega)] at hc; exact hc
                  refine zs_iconst (v := nI 1) dX12_cell_87 (by decide) ?_
                  refine zs_goto (tgt := 92) dX12_cell_88 (by decide) ?_
                  exact zs_iret dX12_cell_92 rfl ⟨i, j, hiC, hjR, rfl, rfl, hcond, by rw [pCe, if_neg c_7, if_neg c_8] <;> rfl, rfl⟩
              · refine zs_aload dX12_cell_67 rfl rfl ?_
                refine zs_get 2 dX12_cell_69 zf_RX12_181 rfl (v := .ref (ay 5)) rfl ?_
                refine zs_iload dX12_cell_72 rfl ?_
                refine zs_iald 3 dX12_cell_74 rfl (vp_in_nI (by omega) (by omega)) ?_
                refine zs_as (y := nI (D.2.2.2.2.2.2.1 ((j * (D.1 14)) + i))) (by rw [nI_c (n := (j * (D.1 14)) + i) (by omega)]; rfl) ?_
                exact zs_iret dX12_cell_75 rfl ⟨i, j, hiC, hjR, rfl, rfl, hcond, by rw [pCe, if_pos c_7] <;> rfl, rfl⟩
            · exact zs_throw0 hl rfl dX12_cell_44 dX12_cell_47 dX12_cell_48 dX12_cell_51 (show 6 ≤ dd by omega) (Nat.le_of_ble_eq_true rfl) (by omega) (by omega) ⟨(fun h => h.2.2.2.2.2 (Int32.not_le.mp c_6)), rfl⟩
set_option maxRecDepth 100000 in
theorem s_cost (l : Launch) (dd : Nat) (hl : l.stackTraces = false) (z : Nat) (a : Nat → Nat) (sz fa nk oo be ho : Nat) (y p s : Nat) (ay ar au : Nat → Nat) (D : zYd) (bt : Nat → Nat) (ro ru : zRs) (yr yu : Value) (x1 x2 : Int32) (hd : 6 ≤ dd) (hsz : sz ≤ 740) (hbt : ∀ j, bt j < 256) (hD : yI D) (hW : cW ro) (hI : rI ru) : zSpX l mX12_cost dd 1 (sz + 6) [.ref z, .int x1, .int x2] [(z, .inr (10, fPR a sz fa nk oo be ho)), (a 0, .inl (0, 740, .inl (nF bt))), ((a 4), .inr (7, fSta y p s)), (y, .inr (9, fYard ay (ysN D.1 D.2.1))), (ay 1, .inl (0, 12, .inl (nF D.2.2.1))), (ay 2, .inl (0, 12, .inl (nF D.2.2.2.1))), (ay 3, .inl (0, 12, .inl (nF D.2.2.2.2.1))), (ay 4, .inl (0, 12, .inl (nF D.2.2.2.2.2.1))), (ay 5, .inl (0, 64, .inl (nF D.2.2.2.2.2.2.1))), (ay 6, .inl (1, 64, .inl (nF D.2.2.2.2.2.2.2))), ((a 9), .inr (4, fRow ar (nF ro.1) yr)), (ar 1, .inl (0, 12, .inl (nF (ro.2 1)))), (ar 2, .inl (0, 12, .inl (nF (ro.2 2)))), (ar 3, .inl (0, 12, .inl (nF (ro.2 3)))), (ar 4, .inl (0, 12, .inl (nF (ro.2 4)))), (ar 5, .inl (0, 12, .inl (nF (ro.2 5)))), (ar 6, .inl (0, 360, .inl (nF (ro.2 6)))), (ar 7, .inl (0, 12, .inl (nF (ro.2 7)))), (ar 8, .inl (0, 12, .inl (nF (ro.2 8)))), (ar 9, .inl (0, 12, .inl (nF (ro.2 9)))), (ar 10, .inl (0, 100, .inl (nF (ro.2 10)))), ((a 10), .inr (5, fRun au (nF ru.1) yu)), (au 1, .inl (0, 12, .inl (nF (ru.2 1)))), (au 2, .inl (0, 12, .inl (nF (ru.2 2)))), (au 3, .inl (0, 12, .inl (nF (ru.2 3)))), (au 4, .inl (0, 12, .inl (nF (ru.2 4))))] (fun r K' => ∃ m t, m ≤ 60 ∧ (60 * m ≤ t ∧ t ≤ 3600) ∧ x1 = nI m ∧ x2 = nI t ∧ (¬ x1 < 0 ∧ ¬ nI 60 < x1 ∧ ¬ x2 < nI 60 * x1 ∧ ¬ nI 3600 < x2 ∧ pTdP bt sz (D.1 0) 2 12) ∧ r = some (.int (nI ((rwB D (nCl bt (fun _ => 0) sz) sz (D.1 9) t ro).1 15) - nI ((rnB D (nCl bt (fun _ => 0) sz) sz (60 * m) ru).1 8) - nI ((rwB D (nCl bt (fun _ => 0) sz) sz ((rnB D (nCl bt (fun _ => 0) sz) sz (60 * m) ru).1 7) (t - 60 * m) (rwB D (nCl bt (fun _ => 0) sz) sz (D.1 9) t ro)).1 15))) ∧ K' = [(z, .inr (10, fPR a 0 fa nk oo be ho)), (a 0, .inl (0, 740, .inl (nF bt))), ((a 4), .inr (7, fSta y p s)), (y, .inr (9, fYard ay (ysN D.1 D.2.1))), (ay 1, .inl (0, 12, .inl (nF D.2.2.1))), (ay 2, .inl (0, 12, .inl (nF D.2.2.2.1))), (ay 3, .inl (0, 12, .inl (nF D.2.2.2.2.1))), (ay 4, .inl (0, 12, .inl (nF D.2.2.2.2.2.1))), (ay 5, .inl (0, 64, .inl (nF D.2.2.2.2.2.2.1))), (ay 6, .inl (1, 64, .inl (nF D.2.2.2.2.2.2.2))), ((a 9), .inr (4, fRow ar (nF (rwB D (nCl bt (fun _ => 0) sz) sz ((rnB D (nCl bt (fun _ => 0) sz) sz (60 * m) ru).1 7) (t - 60 * m) (rwB D (nCl bt (fun _ => 0) sz) sz (D.1 9) t ro)).1) (.ref y))), (ar 1, .inl (0, 12, .inl (nF ((rwB D (nCl bt (fun _ => 0) sz) sz ((rnB D (nCl bt (fun _ => 0) sz) sz (60 * m) ru).1 7) (t - 60 * m) (rwB D (nCl bt (fun _ => 0) sz) sz (D.1 9) t ro)).2 1)))), (ar 2, .inl (0, 12, .inl (nF ((rwB D (nCl bt (fun _ => 0) sz) sz ((rnB D (nCl bt (fun _ => 0) sz) sz (60 * m) ru).1 7) (t - 60 * m) (rwB D (nCl bt (fun _ => 0) sz) sz (D.1 9) t ro)).2 2)))), (ar 3, .inl (0, 12, .inl (nF ((rwB D (nCl bt (fun _ => 0) sz) sz ((rnB D (nCl bt (fun _ => 0) sz) sz (60 * m) ru).1 7) (t - 60 * m) (rwB D (nCl bt (fun _ => 0) sz) sz (D.1 9) t ro)).2 3)))), (ar 4, .inl (0, 12, .inl (nF ((rwB D (nCl bt (fun _ => 0) sz) sz ((rnB D (nCl bt (fun _ => 0) sz) sz (60 * m) ru).1 7) (t - 60 * m) (rwB D (nCl bt (fun _ => 0) sz) sz (D.1 9) t ro)).2 4)))), (ar 5, .inl (0, 12, .inl (nF ((rwB D (nCl bt (fun _ => 0) sz) sz ((rnB D (nCl bt (fun _ => 0) sz) sz (60 * m) ru).1 7) (t - 60 * m) (rwB D (nCl bt (fun _ => 0) sz) sz (D.1 9) t ro)).2 5)))), (ar 6, .inl (0, 360, .inl (nF ((rwB D (nCl bt (fun _ => 0) sz) sz ((rnB D (nCl bt (fun _ => 0) sz) sz (60 * m) ru).1 7) (t - 60 * m) (rwB D (nCl bt (fun _ => 0) sz) sz (D.1 9) t ro)).2 6)))), (ar 7, .inl (0, 12, .inl (nF ((rwB D (nCl bt (fun _ => 0) sz) sz ((rnB D (nCl bt (fun _ => 0) sz) sz (60 * m) ru).1 7) (t - 60 * m) (rwB D (nCl bt (fun _ => 0) sz) sz (D.1 9) t ro)).2 7)))), (ar 8, .inl (0, 12, .inl (nF ((rwB D (nCl bt (fun _ => 0) sz) sz ((rnB D (nCl bt (fun _ => 0) sz) sz (60 * m) ru).1 7) (t - 60 * m) (rwB D (nCl bt (fun _ => 0) sz) sz (D.1 9) t ro)).2 8)))), (ar 9, .inl (0, 12, .inl (nF ((rwB D (nCl bt (fun _ => 0) sz) sz ((rnB D (nCl bt (fun _ => 0) sz) sz (60 * m) ru).1 7) (t - 60 * m) (rwB D (nCl bt (fun _ => 0) sz) sz (D.1 9) t ro)).2 9)))), (ar 10, .inl (0, 100, .inl (nF ((rwB D (nCl bt (fun _ => 0) sz) sz ((rnB D (nCl bt (fun _ => 0) sz) sz (60 * m) ru).1 7) (t - 60 * m) (rwB D (nCl bt (fun _ => 0) sz) sz (D.1 9) t ro)).2 10)))), ((a 10), .inr (5, fRun au (nF (rnB D (nCl bt (fun _ => 0) sz) sz (60 * m) ru).1) (.ref y))), (au 1, .inl (0, 12, .inl (nF ((rnB D (nCl bt (fun _ => 0) sz) sz (60 * m) ru).2 1)))), (au 2, .inl (0, 12, .inl (nF ((rnB D (nCl bt (fun _ => 0) sz) sz (60 * m) ru).2 2)))), (au 3, .inl (0, 12, .inl (nF ((rnB D (nCl bt (fun _ => 0) sz) sz (60 * m) ru).2 3)))), (au 4, .inl (0, 12, .inl (nF ((rnB D (nCl bt (fun _ => 0) sz) sz (60 * m) ru).2 4))))]) (fun K' => ¬ (¬ x1 < 0 ∧ ¬ nI 60 < x1 ∧ ¬ x2 < nI 60 * x1 ∧ ¬ nI 3600 < x2 ∧ pTdP bt sz (D.1 0) 2 12) ∧ K' = [(z, .inr (10, fPR a sz fa nk oo be ho)), (a 0, .inl (0, 740, .inl (nF bt))), ((a 4), .inr (7, fSta y p s)), (y, .inr (9, fYard ay (ysN D.1 D.2.1))), (ay 1, .inl (0, 12, .inl (nF D.2.2.1))), (ay 2, .inl (0, 12, .inl (nF D.2.2.2.1))), (ay 3, .inl (0, 12, .inl (nF D.2.2.2.2.1))), (ay 4, .inl (0, 12, .inl (nF D.2.2.2.2.2.1))), (ay 5, .inl (0, 64, .inl (nF D.2.2.2.2.2.2.1))), (ay 6, .inl (1, 64, .inl (nF D.2.2.2.2.2.2.2))), ((a 9), .inr (4, fRow ar (nF ro.1) yr)), (ar 1, .inl (0, 12, .inl (nF (ro.2 1)))), (ar 2, .inl (0, 12, .inl (nF (ro.2 2)))), (ar 3, .inl (0, 12, .inl (nF (ro.2 3)))), (ar 4, .inl (0, 12, .inl (nF (ro.2 4)))), (ar 5, .inl (0, 12, .inl (nF (ro.2 5)))), (ar 6, .inl (0, 360, .inl (nF (ro.2 6)))), (ar 7, .inl (0, 12, .inl (nF (ro.2 7)))), (ar 8, .inl (0, 12, .inl (nF (ro.2 8)))), (ar 9, .inl (0, 12, .inl (nF (ro.2 9)))), (ar 10, .inl (0, 100, .inl (nF (ro.2 10)))), ((a 10), .inr (5, fRun au (nF ru.1) yu)), (au 1, .inl (0, 12, .inl (nF (ru.2 1)))), (au 2, .inl (0, 12, .inl (nF (ru.2 2)))), (au 3, .inl (0, 12, .inl (nF (ru.2 3)))), (au 4, .inl (0, 12, .inl (nF (ru.2 4))))]) := by
  refine zSpX.of (by decide) (Nat.le_of_ble_eq_true rfl) (fun h0 => ?_)
  show zS _ 1 (sz + 6) 0 [(0, .ref z), (1, .int x1), (2, .int x2)] [] [(z, .inr (10, fPR a sz fa nk oo be ho)), (a 0, .inl (0, 740, .inl (nF bt))), ((a 4), .inr (7, fSta y p s)), (y, .inr (9, fYard ay (ysN D.1 D.2.1))), (ay 1, .inl (0, 12, .inl (nF D.2.2.1))), (ay 2, .inl (0, 12, .inl (nF D.2.2.2.1))), (ay 3, .inl (0, 12, .inl (nF D.2.2.2.2.1))), (ay 4, .inl (0, 12, .inl (nF D.2.2.2.2.2.1))), (ay 5, .inl (0, 64, .inl (nF D.2.2.2.2.2.2.1))), (ay 6, .inl (1, 64, .inl (nF D.2.2.2.2.2.2.2))), ((a 9), .inr (4, fRow ar (nF ro.1) yr)), (ar 1, .inl (0, 12, .inl (nF (ro.2 1)))), (ar 2, .inl (0, 12, .inl (nF (ro.2 2)))), (ar 3, .inl (0, 12, .inl (nF (ro.2 3)))), (ar 4, .inl (0, 12, .inl (nF (ro.2 4)))), (ar 5, .inl (0, 12, .inl (nF (ro.2 5)))), (ar 6, .inl (0, 360, .inl (nF (ro.2 6)))), (ar 7, .inl (0, 12, .inl (nF (ro.2 7)))), (ar 8, .inl (0, 12, .inl (nF (ro.2 8)))), (ar 9, .inl (0, 12, .inl (nF (ro.2 9)))), (ar 10, .inl (0, 100, .inl (nF (ro.2 10)))), ((a 10), .inr (5, fRun au (nF ru.1) yu)), (au 1, .inl (0, 12, .inl (nF (ru.2 1)))), (au 2, .inl (0, 12, .inl (nF (ru.2 2)))), (au 3, .inl (0, 12, .inl (nF (ru.2 3)))), (au 4, .inl (0, 12, .inl (nF (ru.2 4))))]
  obtain ⟨y1, y2, y3, y4, y5, y6, y7, y8, y9, y10, y11, y12, y13, y14, y15, y16, y17, y18, y19, y20⟩ := id hD
  refine zs_iload_n dX12_cost_0 rfl ?_
  refine zs_if_lt (tgt := 35) dX12_cost_1 (by decide) (fun c_1 => ?_) (fun c_1 => ?_)
  · exact zs_throw0 hl rfl dX12_cost_35 dX12_cost_38 dX12_cost_39 dX12_cost_42 (show 6 ≤ dd by omega) (Nat.le_of_ble_eq_true rfl) (by omega) (by omega) ⟨(fun h => h.1 c_1), rfl⟩
  · have d1 := c_1
    refine zs_iload_n dX12_cost_4 rfl ?_
    refine zs_bipush (v := nI 60) dX12_cost_5 (by decide) ?_
    refine zs_icmp_gt (tgt := 35) dX12_cost_7 (by decide) (fun c_2 => ?_) (fun c_2 => ?_)
    · exact zs_throw0 hl rfl dX12_cost_35 dX12_cost_38 dX12_cost_39 dX12_cost_42 (show 6 ≤ dd by omega) (Nat.le_of_ble_eq_true rfl) (by omega) (by omega) ⟨(fun h => h.2.1 c_2), rfl⟩
    · have d7 := c_2
      refine zs_iload_n dX12_cost_10 rfl ?_
      refine zs_bipush (v := nI 60) dX12_cost_11 (by decide) ?_
      refine zs_iload_n dX12_cost_13 rfl ?_
      refine zs_imul dX12_cost_14 ?_
      refine zs_icmp_lt (tgt := 35) dX12_cost_15 (by decide) (fun c_3 => ?_) (fun c_3 => ?_)
      · exact zs_throw0 hl rfl dX12_cost_35 dX12_cost_38 dX12_cost_39 dX12_cost_42 (show 6 ≤ dd by omega) (Nat.le_of_ble_eq_true rfl) (by omega) (by omega) ⟨(fun h => h.2.2.1 c_3), rfl⟩
      · have d15 := c_3
        refine zs_iload_n dX12_cost_18 rfl ?_
        refine zs_sipush (v := nI 3600) dX12_cost_19 (by decide) ?_
        refine zs_icmp_gt (tgt := 35) dX12_cost_22 (by decide) (fun c_4 => ?_) (fun c_4 => ?_)
        · exact zs_throw0 hl rfl dX12_cost_35 dX12_cost_38 dX12_cost_39 dX12_cost_42 (show 6 ≤ dd by omega) (Nat.le_of_ble_eq_true rfl) (by omega) (by omega) ⟨(fun h => h.2.2.2.1 c_4), rfl⟩
        · have d22 := c_4
          refine zs_aload_n dX12_cost_25 rfl rfl ?_
          refine zs_iconst (v := nI 2) dX12_cost_26 (by decide) ?_
          refine zs_bipush (v := nI 12) dX12_cost_27 (by decide) ?_
          have hbT := bN_1 (pTd bt sz (D.1 0) 2 12)
          refine zs_callV (M := mX12_menTold) (As := [.int (nI 2), .int (nI 12)]) (st := []) (Kc := [(z, .inr (10, fPR a sz fa nk oo be ho)), (a 0, .inl (0, 740, .inl (nF bt))), ((a 4), .inr (7, fSta y p s)), (y, .inr (9, fYard ay (ysN D.1 D.2.1)))]) (Kr := [(ay 1, .inl (0, 12, .inl (nF D.2.2.1))), (ay 2, .inl (0, 12, .inl (nF D.2.2.2.1))), (ay 3, .inl (0, 12, .inl (nF D.2.2.2.2.1))), (ay 4, .inl (0, 12, .inl (nF D.2.2.2.2.2.1))), (ay 5, .inl (0, 64, .inl (nF D.2.2.2.2.2.2.1))), (ay 6, .inl (1, 64, .inl (nF D.2.2.2.2.2.2.2))), ((a 9), .inr (4, fRow ar (nF ro.1) yr)), (ar 1, .inl (0, 12, .inl (nF (ro.2 1)))), (ar 2, .inl (0, 12, .inl (nF (ro.2 2)))), (ar 3, .inl (0, 12, .inl (nF (ro.2 3)))), (ar 4, .inl (0, 12, .inl (nF (ro.2 4)))), (ar 5, .inl (0, 12, .inl (nF (ro.2 5)))), (ar 6, .inl (0, 360, .inl (nF (ro.2 6)))), (ar 7, .inl (0, 12, .inl (nF (ro.2 7)))), (ar 8, .inl (0, 12, .inl (nF (ro.2 8)))), (ar 9, .inl (0, 12, .inl (nF (ro.2 9)))), (ar 10, .inl (0, 100, .inl (nF (ro.2 10)))), ((a 10), .inr (5, fRun au (nF ru.1) yu)), (au 1, .inl (0, 12, .inl (nF (ru.2 1)))), (au 2, .inl (0, 12, .inl (nF (ru.2 2)))), (au 3, .inl (0, 12, .inl (nF (ru.2 3)))), (au 4, .inl (0, 12, .inl (nF (ru.2 4))))]) [0, 1, 2, 3] [4, 5, 6, 7, 8, 9, 10, 11, 12, 13, 14, 15, 16, 17, 18, 19, 20, 21, 22, 23, 24, 25] 0 dX12_cost_29 zl_RX12_105 kX12_menTold rfl rfl rfl rfl rfl (by decide) rfl rfl (show dd - 1 + 1 ≤ dd by omega) (Nat.zero_le _) (Nat.zero_le _) (Nat.le_of_ble_eq_true rfl) (s_menTold l (dd - 1) z a sz fa nk oo be ho bt y p s ay D 2 12 hsz (by omega) (by omega) (by omega) hbt) (fun r K1 hr => ?_)
          obtain ⟨rfl, rfl⟩ := hr
          refine zs_K (K' := [(z, .inr (10, fPR a sz fa nk oo be ho)), (a 0, .inl (0, 740, .inl (nF bt))), ((a 4), .inr (7, fSta y p s)), (y, .inr (9, fYard ay (ysN D.1 D.2.1))), (ay 1, .inl (0, 12, .inl (nF D.2.2.1))), (ay 2, .inl (0, 12, .inl (nF D.2.2.2.1))), (ay 3, .inl (0, 12, .inl (nF D.2.2.2.2.1))), (ay 4, .inl (0, 12, .inl (nF D.2.2.2.2.2.1))), (ay 5, .inl (0, 64, .inl (nF D.2.2.2.2.2.2.1))), (ay 6, .inl (1, 64, .inl (nF D.2.2.2.2.2.2.2))), ((a 9), .inr (4, fRow ar (nF ro.1) yr)), (ar 1, .inl (0, 12, .inl (nF (ro.2 1)))), (ar 2, .inl (0, 12, .inl (nF (ro.2 2)))), (ar 3, .inl (0, 12, .inl (nF (ro.2 3)))), (ar 4, .inl (0, 12, .inl (nF (ro.2 4)))), (ar 5, .inl (0, 12, .inl (nF (ro.2 5)))), (ar 6, .inl (0, 360, .inl (nF (ro.2 6)))), (ar 7, .inl (0, 12, .inl (nF (ro.2 7)))), (ar 8, .inl (0, 12, .inl (nF (ro.2 8)))), (ar 9, .inl (0, 12, .inl (nF (ro.2 9)))), (ar 10, .inl (0, 100, .inl (nF (ro.2 10)))), ((a 10), .inr (5, fRun au (nF ru.1) yu)), (au 1, .inl (0, 12, .inl (nF (ru.2 1)))), (au 2, .inl (0, 12, .inl (nF (ru.2 2)))), (au 3, .inl (0, 12, .inl (nF (ru.2 3)))), (au 4, .inl (0, 12, .inl (nF (ru.2 4))))]) [22, 23, 24, 25, 0, 1, 2, 3, 4, 5, 6, 7, 8, 9, 10, 11, 12, 13, 14, 15, 16, 17, 18, 19, 20, 21] rfl (by decide) ?_
          refine zs_if_ne (tgt := 43) dX12_cost_32 (by decide) (fun c_5 => ?_) (fun c_5 => ?_)
          · have c_5 : ¬ ((bN (pTd bt sz (D.1 0) 2 12)) = 0) := by have hc := c_5; rw [show (0 : Int32) = nI 0 from rfl] at hc; rw [nI_eq' (by omega) (by omega)] at hc; exact hc
            have d32 := c_5
            have hT : pTdP bt sz (D.1 0) 2 12 := of_decide_eq_true (bN_e d32)
            have hcond : (¬ x1 < 0 ∧ ¬ nI 60 < x1 ∧ ¬ x2 < nI 60 * x1 ∧ ¬ nI 3600 < x2 ∧ pTdP bt sz (D.1 0) 2 12) := ⟨d1, d7, d15, d22, hT⟩
            obtain ⟨m, hm0, rfl⟩ := zi_nn d1
            have hm : m ≤ 60 := by have h := d7; rw [nI_lt' (by omega) (by omega)] at h; omega
            obtain ⟨t, ht0, rfl⟩ := zi_nn (x := x2) (fun h => d15 (Int32.lt_of_lt_of_le h (by rw [nI_mul, show (0 : Int32) = nI 0 from rfl, nI_le' (by omega) (by omega)]; omega)))
            have ht : 60 * m ≤ t ∧ t ≤ 3600 := ⟨by have h := d15; rw [nI_mul, nI_lt' (by omega) (by omega)] at h; omega, by have h := d22; rw [nI_lt' (by omega) (by omega)] at h; omega⟩
            have hW1 := (rwB_W (n := sz) (w := D.1 9) (k := t) (f := (nCl bt (fun _ => 0) sz)) hD ⟨hT.1, hT.2.1⟩ (nCl_f hT.2.2.1) (by omega) (by omega) hW).1.w
            have hC := rnB_C (D := D) (f := (nCl bt (fun _ => 0) sz)) (n := sz) (k := 60 * m) (s := ru)
            refine zs_aload_n dX12_cost_43 rfl rfl ?_
            refine zs_callV (M := mX12_takeBytes) (As := []) (st := []) (Kc := [(z, .inr (10, fPR a sz fa nk oo be ho)), (a 0, .inl (0, 740, .inl (nF bt)))]) (Kr := [((a 4), .inr (7, fSta y p s)), (y, .inr (9, fYard ay (ysN D.1 D.2.1))), (ay 1, .inl (0, 12, .inl (nF D.2.2.1))), (ay 2, .inl (0, 12, .inl (nF D.2.2.2.1))), (ay 3, .inl (0, 12, .inl (nF D.2.2.2.2.1))), (ay 4, .inl (0, 12, .inl (nF D.2.2.2.2.2.1))), (ay 5, .inl (0, 64, .inl (nF D.2.2.2.2.2.2.1))), (ay 6, .inl (1, 64, .inl (nF D.2.2.2.2.2.2.2))), ((a 9), .inr (4, fRow ar (nF ro.1) yr)), (ar 1, .inl (0, 12, .inl (nF (ro.2 1)))), (ar 2, .inl (0, 12, .inl (nF (ro.2 2)))), (ar 3, .inl (0, 12, .inl (nF (ro.2 3)))), (ar 4, .inl (0, 12, .inl (nF (ro.2 4)))), (ar 5, .inl (0, 12, .inl (nF (ro.2 5)))), (ar 6, .inl (0, 360, .inl (nF (ro.2 6)))), (ar 7, .inl (0, 12, .inl (nF (ro.2 7)))), (ar 8, .inl (0, 12, .inl (nF (ro.2 8)))), (ar 9, .inl (0, 12, .inl (nF (ro.2 9)))), (ar 10, .inl (0, 100, .inl (nF (ro.2 10)))), ((a 10), .inr (5, fRun au (nF ru.1) yu)), (au 1, .inl (0, 12, .inl (nF (ru.2 1)))), (au 2, .inl (0, 12, .inl (nF (ru.2 2)))), (au 3, .inl (0, 12, .inl (nF (ru.2 3)))), (au 4, .inl (0, 12, .inl (nF (ru.2 4))))]) [0, 1] [2, 3, 4, 5, 6, 7, 8, 9, 10, 11, 12, 13, 14, 15, 16, 17, 18, 19, 20, 21, 22, 23, 24, 25] 0 dX12_cost_44 zl_RX12_109 kX12_takeBytes rfl rfl rfl rfl rfl (by decide) rfl rfl (show dd - 1 + 1 ≤ dd by omega) (by omega) (by omega) (Nat.le_of_ble_eq_true rfl) (s_takeBytes l (dd - 1) z a sz fa nk oo be ho bt hsz) (fun r K1 hr => ?_)
            obtain ⟨q, rfl, rfl⟩ := hr
            refine zs_K (K' := [(z, .inr (10, fPR a 0 fa nk oo be ho)), (a 0, .inl (0, 740, .inl (nF bt))), ((a 4), .inr (7, fSta y p s)), (y, .inr (9, fYard ay (ysN D.1 D.2.1))), (ay 1, .inl (0, 12, .inl (nF D.2.2.1))), (ay 2, .inl (0, 12, .inl (nF D.2.2.2.1))), (ay 3, .inl (0, 12, .inl (nF D.2.2.2.2.1))), (ay 4, .inl (0, 12, .inl (nF D.2.2.2.2.2.1))), (ay 5, .inl (0, 64, .inl (nF D.2.2.2.2.2.2.1))), (ay 6, .inl (1, 64, .inl (nF D.2.2.2.2.2.2.2))), ((a 9), .inr (4, fRow ar (nF ro.1) yr)), (ar 1, .inl (0, 12, .inl (nF (ro.2 1)))), (ar 2, .inl (0, 12, .inl (nF (ro.2 2)))), (ar 3, .inl (0, 12, .inl (nF (ro.2 3)))), (ar 4, .inl (0, 12, .inl (nF (ro.2 4)))), (ar 5, .inl (0, 12, .inl (nF (ro.2 5)))), (ar 6, .inl (0, 360, .inl (nF (ro.2 6)))), (ar 7, .inl (0, 12, .inl (nF (ro.2 7)))), (ar 8, .inl (0, 12, .inl (nF (ro.2 8)))), (ar 9, .inl (0, 12, .inl (nF (ro.2 9)))), (ar 10, .inl (0, 100, .inl (nF (ro.2 10)))), ((a 10), .inr (5, fRun au (nF ru.1) yu)), (au 1, .inl (0, 12, .inl (nF (ru.2 1)))), (au 2, .inl (0, 12, .inl (nF (ru.2 2)))), (au 3, .inl (0, 12, .inl (nF (ru.2 3)))), (au 4, .inl (0, 12, .inl (nF (ru.2 4)))), (q, .inl (0, sz, .inl (nF (nCl bt (fun _ => 0) sz))))]) [24, 25, 0, 1, 2, 3, 4, 5, 6, 7, 8, 9, 10, 11, 12, 13, 14, 15, 16, 17, 18, 19, 20, 21, 22, 23, 26] rfl (by decide) ?_
            refine zs_astore_n (lv' := [(3, .ref q), (0, .ref z), (1, .int (nI m)), (2, .int (nI t))]) dX12_cost_47 (Nat.le_of_ble_eq_true rfl) rfl rfl ?_
            refine zs_aload_n dX12_cost_48 rfl rfl ?_
            refine zs_aload_n dX12_cost_49 rfl rfl ?_
            refine zs_aload_n dX12_cost_50 rfl rfl ?_
            refine zs_alen (v := (nI sz)) 26 dX12_cost_51 rfl (by decide) rfl ?_
            refine zs_aload_n dX12_cost_52 rfl rfl ?_
            refine zs_get 0 dX12_cost_53 zf_RX12_23 rfl (v := .ref (a 4)) rfl ?_
            refine zs_get 2 dX12_cost_56 zf_RX12_96 rfl (v := .ref y) rfl ?_
            refine zs_get 3 dX12_cost_59 zf_RX12_201 rfl (v := .int (nI (D.1 9))) rfl ?_
            refine zs_iload_n dX12_cost_62 rfl ?_
            refine zs_callV (M := mX12_thrownInRow) (As := [.ref q, .int (nI sz), .int (nI (D.1 9)), .int (nI t)]) (st := []) (Kc := [(z, .inr (10, fPR a 0 fa nk oo be ho)), ((a 4), .inr (7, fSta y p s)), (y, .inr (9, fYard ay (ysN D.1 D.2.1))), (ay 1, .inl (0, 12, .inl (nF D.2.2.1))), (ay 2, .inl (0, 12, .inl (nF D.2.2.2.1))), (ay 3, .inl (0, 12, .inl (nF D.2.2.2.2.1))), (ay 4, .inl (0, 12, .inl (nF D.2.2.2.2.2.1))), (ay 5, .inl (0, 64, .inl (nF D.2.2.2.2.2.2.1))), (ay 6, .inl (1, 64, .inl (nF D.2.2.2.2.2.2.2))), ((a 9), .inr (4, fRow ar (nF ro.1) yr)), (ar 1, .inl (0, 12, .inl (nF (ro.2 1)))), (ar 2, .inl (0, 12, .inl (nF (ro.2 2)))), (ar 3, .inl (0, 12, .inl (nF (ro.2 3)))), (ar 4, .inl (0, 12, .inl (nF (ro.2 4)))), (ar 5, .inl (0, 12, .inl (nF (ro.2 5)))), (ar 6, .inl (0, 360, .inl (nF (ro.2 6)))), (ar 7, .inl (0, 12, .inl (nF (ro.2 7)))), (ar 8, .inl (0, 12, .inl (nF (ro.2 8)))), (ar 9, .inl (0, 12, .inl (nF (ro.2 9)))), (ar 10, .inl (0, 100, .inl (nF (ro.2 10)))), (q, .inl (0, sz, .inl (nF (nCl bt (fun _ => 0) sz))))]) (Kr := [(a 0, .inl (0, 740, .inl (nF bt))), ((a 10), .inr (5, fRun au (nF ru.1) yu)), (au 1, .inl (0, 12, .inl (nF (ru.2 1)))), (au 2, .inl (0, 12, .inl (nF (ru.2 2)))), (au 3, .inl (0, 12, .inl (nF (ru.2 3)))), (au 4, .inl (0, 12, .inl (nF (ru.2 4))))]) [0, 2, 3, 4, 5, 6, 7, 8, 9, 10, 11, 12, 13, 14, 15, 16, 17, 18, 19, 20, 26] [1, 21, 22, 23, 24, 25] 0 dX12_cost_63 zl_RX12_276 kX12_thrownInRow rfl rfl rfl rfl rfl (by decide) rfl rfl (show dd - 1 + 1 ≤ dd by omega) (Nat.zero_le _) (Nat.zero_le _) (Nat.le_of_ble_eq_true rfl) (s_thrownInRow l (dd - 1) z a 0 fa nk oo be ho y p s sz ay ar q D (nCl bt (fun _ => 0) sz) sz (D.1 9) t yr ro (by omega) hD ⟨hT.1, hT.2.1⟩ (by omega) (by omega) (nCl_f hT.2.2.1) (by omega) (by omega) hW) (fun r K1 hr => ?_)
            obtain ⟨rfl, rfl⟩ := hr
            refine zs_K (K' := [(z, .inr (10, fPR a 0 fa nk oo be ho)), (a 0, .inl (0, 740, .inl (nF bt))), ((a 4), .inr (7, fSta y p s)), (y, .inr (9, fYard ay (ysN D.1 D.2.1))), (ay 1, .inl (0, 12, .inl (nF D.2.2.1))), (ay 2, .inl (0, 12, .inl (nF D.2.2.2.1))), (ay 3, .inl (0, 12, .inl (nF D.2.2.2.2.1))), (ay 4, .inl (0, 12, .inl (nF D.2.2.2.2.2.1))), (ay 5, .inl (0, 64, .inl (nF D.2.2.2.2.2.2.1))), (ay 6, .inl (1, 64, .inl (nF D.2.2.2.2.2.2.2))), ((a 9), .inr (4, fRow ar (nF (rwB D (nCl bt (fun _ => 0) sz) sz (D.1 9) t ro).1) (.ref y))), (ar 1, .inl (0, 12, .inl (nF ((rwB D (nCl bt (fun _ => 0) sz) sz (D.1 9) t ro).2 1)))), (ar 2, .inl (0, 12, .inl (nF ((rwB D (nCl bt (fun _ => 0) sz) sz (D.1 9) t ro).2 2)))), (ar 3, .inl (0, 12, .inl (nF ((rwB D (nCl bt (fun _ => 0) sz) sz (D.1 9) t ro).2 3)))), (ar 4, .inl (0, 12, .inl (nF ((rwB D (nCl bt (fun _ => 0) sz) sz (D.1 9) t ro).2 4)))), (ar 5, .inl (0, 12, .inl (nF ((rwB D (nCl bt (fun _ => 0) sz) sz (D.1 9) t ro).2 5)))), (ar 6, .inl (0, 360, .inl (nF ((rwB D (nCl bt (fun _ => 0) sz) sz (D.1 9) t ro).2 6)))), (ar 7, .inl (0, 12, .inl (nF ((rwB D (nCl bt (fun _ => 0) sz) sz (D.1 9) t ro).2 7)))), (ar 8, .inl (0, 12, .inl (nF ((rwB D (nCl bt (fun _ => 0) sz) sz (D.1 9) t ro).2 8)))), (ar 9, .inl (0, 12, .inl (nF ((rwB D (nCl bt (fun _ => 0) sz) sz (D.1 9) t ro).2 9)))), (ar 10, .inl (0, 100, .inl (nF ((rwB D (nCl bt (fun _ => 0) sz) sz (D.1 9) t ro).2 10)))), ((a 10), .inr (5, fRun au (nF ru.1) yu)), (au 1, .inl (0, 12, .inl (nF (ru.2 1)))), (au 2, .inl (0, 12, .inl (nF (ru.2 2)))), (au 3, .inl (0, 12, .inl (nF (ru.2 3)))), (au 4, .inl (0, 12, .inl (nF (ru.2 4)))), (q, .inl (0, sz, .inl (nF (nCl bt (fun _ => 0) sz))))]) [6, 0, 7, 8, 9, 10, 11, 12, 13, 14, 15, 16, 17, 18, 19, 20, 21, 22, 23, 24, 25, 1, 2, 3, 4, 5, 26] rfl (by decide) ?_
            refine zs_istore (lv' := [(4, .int (nI ((rwB D (nCl bt (fun _ => 0) sz) sz (D.1 9) t ro).1 15))), (3, .ref q), (0, .ref z), (1, .int (nI m)), (2, .int (nI t))]) dX12_cost_66 (Nat.le_of_ble_eq_true rfl) rfl ?_
            refine zs_aload_n dX12_cost_68 rfl rfl ?_
            refine zs_aload_n dX12_cost_69 rfl rfl ?_
            refine zs_aload_n dX12_cost_70 rfl rfl ?_
            refine zs_alen (v := (nI sz)) 26 dX12_cost_71 rfl (by decide) rfl ?_
            refine zs_bipush (v := nI 60) dX12_cost_72 (by decide) ?_
            refine zs_iload_n dX12_cost_74 rfl ?_
            refine zs_imul dX12_cost_75 ?_
            refine zs_as (y := nI (60 * m)) (nI_mul _ _) ?_
            refine zs_callV (M := mX12_thrownRunning) (As := [.ref q, .int (nI sz), .int (nI (60 * m))]) (st := []) (Kc := [(z, .inr (10, fPR a 0 fa nk oo be ho)), ((a 4), .inr (7, fSta y p s)), (y, .inr (9, fYard ay (ysN D.1 D.2.1))), (ay 3, .inl (0, 12, .inl (nF D.2.2.2.2.1))), ((a 10), .inr (5, fRun au (nF ru.1) yu)), (au 1, .inl (0, 12, .inl (nF (ru.2 1)))), (au 2, .inl (0, 12, .inl (nF (ru.2 2)))), (au 3, .inl (0, 12, .inl (nF (ru.2 3)))), (au 4, .inl (0, 12, .inl (nF (ru.2 4)))), (q, .inl (0, sz, .inl (nF (nCl bt (fun _ => 0) sz))))]) (Kr := [(a 0, .inl (0, 740, .inl (nF bt))), (ay 1, .inl (0, 12, .inl (nF D.2.2.1))), (ay 2, .inl (0, 12, .inl (nF D.2.2.2.1))), (ay 4, .inl (0, 12, .inl (nF D.2.2.2.2.2.1))), (ay 5, .inl (0, 64, .inl (nF D.2.2.2.2.2.2.1))), (ay 6, .inl (1, 64, .inl (nF D.2.2.2.2.2.2.2))), ((a 9), .inr (4, fRow ar (nF (rwB D (nCl bt (fun _ => 0) sz) sz (D.1 9) t ro).1) (.ref y))), (ar 1, .inl (0, 12, .inl (nF ((rwB D (nCl bt (fun _ => 0) sz) sz (D.1 9) t ro).2 1)))), (ar 2, .inl (0, 12, .inl (nF ((rwB D (nCl bt (fun _ => 0) sz) sz (D.1 9) t ro).2 2)))), (ar 3, .inl (0, 12, .inl (nF ((rwB D (nCl bt (fun _ => 0) sz) sz (D.1 9) t ro).2 3)))), (ar 4, .inl (0, 12, .inl (nF ((rwB D (nCl bt (fun _ => 0) sz) sz (D.1 9) t ro).2 4)))), (ar 5, .inl (0, 12, .inl (nF ((rwB D (nCl bt (fun _ => 0) sz) sz (D.1 9) t ro).2 5)))), (ar 6, .inl (0, 360, .inl (nF ((rwB D (nCl bt (fun _ => 0) sz) sz (D.1 9) t ro).2 6)))), (ar 7, .inl (0, 12, .inl (nF ((rwB D (nCl bt (fun _ => 0) sz) sz (D.1 9) t ro).2 7)))), (ar 8, .inl (0, 12, .inl (nF ((rwB D (nCl bt (fun _ => 0) sz) sz (D.1 9) t ro).2 8)))), (ar 9, .inl (0, 12, .inl (nF ((rwB D (nCl bt (fun _ => 0) sz) sz (D.1 9) t ro).2 9)))), (ar 10, .inl (0, 100, .inl (nF ((rwB D (nCl bt (fun _ => 0) sz) sz (D.1 9) t ro).2 10))))]) [0, 2, 3, 6, 21, 22, 23, 24, 25, 26] [1, 4, 5, 7, 8, 9, 10, 11, 12, 13, 14, 15, 16, 17, 18, 19, 20] 0 dX12_cost_76 zl_RX12_269 kX12_thrownRunning rfl rfl rfl rfl rfl (by decide) rfl rfl (show dd - 1 + 1 ≤ dd by omega) (Nat.zero_le _) (Nat.zero_le _) (Nat.le_of_ble_eq_true rfl) (s_thrownRunning l (dd - 1) z a 0 fa nk oo be ho y p s sz ay au q D (nCl bt (fun _ => 0) sz) sz (60 * m) yu ru (by omega) hD hT.2.1 (by omega) (by omega) (nCl_f hT.2.2.1) (by omega) hI) (fun r K1 hr => ?_)
            obtain ⟨rfl, rfl⟩ := hr
            refine zs_K (K' := [(z, .inr (10, fPR a 0 fa nk oo be ho)), (a 0, .inl (0, 740, .inl (nF bt))), ((a 4), .inr (7, fSta y p s)), (y, .inr (9, fYard ay (ysN D.1 D.2.1))), (ay 1, .inl (0, 12, .inl (nF D.2.2.1))), (ay 2, .inl (0, 12, .inl (nF D.2.2.2.1))), (ay 3, .inl (0, 12, .inl (nF D.2.2.2.2.1))), (ay 4, .inl (0, 12, .inl (nF D.2.2.2.2.2.1))), (ay 5, .inl (0, 64, .inl (nF D.2.2.2.2.2.2.1))), (ay 6, .inl (1, 64, .inl (nF D.2.2.2.2.2.2.2))), ((a 9), .inr (4, fRow ar (nF (rwB D (nCl bt (fun _ => 0) sz) sz (D.1 9) t ro).1) (.ref y))), (ar 1, .inl (0, 12, .inl (nF ((rwB D (nCl bt (fun _ => 0) sz) sz (D.1 9) t ro).2 1)))), (ar 2, .inl (0, 12, .inl (nF ((rwB D (nCl bt (fun _ => 0) sz) sz (D.1 9) t ro).2 2)))), (ar 3, .inl (0, 12, .inl (nF ((rwB D (nCl bt (fun _ => 0) sz) sz (D.1 9) t ro).2 3)))), (ar 4, .inl (0, 12, .inl (nF ((rwB D (nCl bt (fun _ => 0) sz) sz (D.1 9) t ro).2 4)))), (ar 5, .inl (0, 12, .inl (nF ((rwB D (nCl bt (fun _ => 0) sz) sz (D.1 9) t ro).2 5)))), (ar 6, .inl (0, 360, .inl (nF ((rwB D (nCl bt (fun _ => 0) sz) sz (D.1 9) t ro).2 6)))), (ar 7, .inl (0, 12, .inl (nF ((rwB D (nCl bt (fun _ => 0) sz) sz (D.1 9) t ro).2 7)))), (ar 8, .inl (0, 12, .inl (nF ((rwB D (nCl bt (fun _ => 0) sz) sz (D.1 9) t ro).2 8)))), (ar 9, .inl (0, 12, .inl (nF ((rwB D (nCl bt (fun _ => 0) sz) sz (D.1 9) t ro).2 9)))), (ar 10, .inl (0, 100, .inl (nF ((rwB D (nCl bt (fun _ => 0) sz) sz (D.1 9) t ro).2 10)))), ((a 10), .inr (5, fRun au (nF (rnB D (nCl bt (fun _ => 0) sz) sz (60 * m) ru).1) (.ref y))), (au 1, .inl (0, 12, .inl (nF ((rnB D (nCl bt (fun _ => 0) sz) sz (60 * m) ru).2 1)))), (au 2, .inl (0, 12, .inl (nF ((rnB D (nCl bt (fun _ => 0) sz) sz (60 * m) ru).2 2)))), (au 3, .inl (0, 12, .inl (nF ((rnB D (nCl bt (fun _ => 0) sz) sz (60 * m) ru).2 3)))), (au 4, .inl (0, 12, .inl (nF ((rnB D (nCl bt (fun _ => 0) sz) sz (60 * m) ru).2 4)))), (q, .inl (0, sz, .inl (nF (nCl bt (fun _ => 0) sz))))]) [17, 0, 18, 19, 1, 2, 20, 3, 4, 5, 6, 7, 8, 9, 10, 11, 12, 13, 14, 15, 16, 21, 22, 23, 24, 25, 26] rfl (by decide) ?_
            refine zs_istore (lv' := [(5, .int (nI ((rnB D (nCl bt (fun _ => 0) sz) sz (60 * m) ru).1 8))), (4, .int (nI ((rwB D (nCl bt (fun _ => 0) sz) sz (D.1 9) t ro).1 15))), (3, .ref q), (0, .ref z), (1, .int (nI m)), (2, .int (nI t))]) dX12_cost_79 (Nat.le_of_ble_eq_true rfl) rfl ?_
            refine zs_aload_n dX12_cost_81 rfl rfl ?_
            refine zs_get 0 dX12_cost_82 zf_RX12_23 rfl (v := .ref (a 4)) rfl ?_
            refine zs_get 2 dX12_cost_85 zf_RX12_96 rfl (v := .ref y) rfl ?_
            refine zs_get 3 dX12_cost_88 zf_RX12_201 rfl (v := .int (nI (D.1 9))) rfl ?_
            refine zs_aload_n dX12_cost_91 rfl rfl ?_
            refine zs_get 0 dX12_cost_92 zf_RX12_51 rfl (v := .ref (a 10)) rfl ?_
            refine zs_get 21 dX12_cost_95 zf_RX12_280 rfl (v := .int (nI ((rnB D (nCl bt (fun _ => 0) sz) sz (60 * m) ru).1 9))) rfl ?_
            refine zs_isub dX12_cost_98 ?_
            refine zs_as (y := nI ((rnB D (nCl bt (fun _ => 0) sz) sz (60 * m) ru).1 7)) (by rw [nI_sub (by omega)]; exact congrArg nI (by omega)) ?_
            refine zs_istore (lv' := [(6, .int (nI ((rnB D (nCl bt (fun _ => 0) sz) sz (60 * m) ru).1 7))), (5, .int (nI ((rnB D (nCl bt (fun _ => 0) sz) sz (60 * m) ru).1 8))), (4, .int (nI ((rwB D (nCl bt (fun _ => 0) sz) sz (D.1 9) t ro).1 15))), (3, .ref q), (0, .ref z), (1, .int (nI m)), (2, .int (nI t))]) dX12_cost_99 (Nat.le_of_ble_eq_true rfl) rfl ?_
            refine zs_aload_n dX12_cost_101 rfl rfl ?_
            refine zs_aload_n dX12_cost_102 rfl rfl ?_
            refine zs_aload_n dX12_cost_103 rfl rfl ?_
            refine zs_alen (v := (nI sz)) 26 dX12_cost_104 rfl (by decide) rfl ?_
            refine zs_iload dX12_cost_105 rfl ?_
            refine zs_iload_n dX12_cost_107 rfl ?_
            refine zs_bipush (v := nI 60) dX12_cost_108 (by decide) ?_
            refine zs_iload_n dX12_cost_110 rfl ?_
            refine zs_imul dX12_cost_111 ?_
            refine zs_as (y := nI (60 * m)) (nI_mul _ _) ?_
            refine zs_isub dX12_cost_112 ?_
            refine zs_as (y := nI (t - (60 * m))) (nI_sub (by omega)) ?_
            refine zs_callV (M := mX12_thrownInRow) (As := [.ref q, .int (nI sz), .int (nI ((rnB D (nCl bt (fun _ => 0) sz) sz (60 * m) ru).1 7)), .int (nI (t - (60 * m)))]) (st := []) (Kc := [(z, .inr (10, fPR a 0 fa nk oo be ho)), ((a 4), .inr (7, fSta y p s)), (y, .inr (9, fYard ay (ysN D.1 D.2.1))), (ay 1, .inl (0, 12, .inl (nF D.2.2.1))), (ay 2, .inl (0, 12, .inl (nF D.2.2.2.1))), (ay 3, .inl (0, 12, .inl (nF D.2.2.2.2.1))), (ay 4, .inl (0, 12, .inl (nF D.2.2.2.2.2.1))), (ay 5, .inl (0, 64, .inl (nF D.2.2.2.2.2.2.1))), (ay 6, .inl (1, 64, .inl (nF D.2.2.2.2.2.2.2))), ((a 9), .inr (4, fRow ar (nF (rwB D (nCl bt (fun _ => 0) sz) sz (D.1 9) t ro).1) (.ref y))), (ar 1, .inl (0, 12, .inl (nF ((rwB D (nCl bt (fun _ => 0) sz) sz (D.1 9) t ro).2 1)))), (ar 2, .inl (0, 12, .inl (nF ((rwB D (nCl bt (fun _ => 0) sz) sz (D.1 9) t ro).2 2)))), (ar 3, .inl (0, 12, .inl (nF ((rwB D (nCl bt (fun _ => 0) sz) sz (D.1 9) t ro).2 3)))), (ar 4, .inl (0, 12, .inl (nF ((rwB D (nCl bt (fun _ => 0) sz) sz (D.1 9) t ro).2 4)))), (ar 5, .inl (0, 12, .inl (nF ((rwB D (nCl bt (fun _ => 0) sz) sz (D.1 9) t ro).2 5)))), (ar 6, .inl (0, 360, .inl (nF ((rwB D (nCl bt (fun _ => 0) sz) sz (D.1 9) t ro).2 6)))), (ar 7, .inl (0, 12, .inl (nF ((rwB D (nCl bt (fun _ => 0) sz) sz (D.1 9) t ro).2 7)))), (ar 8, .inl (0, 12, .inl (nF ((rwB D (nCl bt (fun _ => 0) sz) sz (D.1 9) t ro).2 8)))), (ar 9, .inl (0, 12, .inl (nF ((rwB D (nCl bt (fun _ => 0) sz) sz (D.1 9) t ro).2 9)))), (ar 10, .inl (0, 100, .inl (nF ((rwB D (nCl bt (fun _ => 0) sz) sz (D.1 9) t ro).2 10)))), (q, .inl (0, sz, .inl (nF (nCl bt (fun _ => 0) sz))))]) (Kr := [(a 0, .inl (0, 740, .inl (nF bt))), ((a 10), .inr (5, fRun au (nF (rnB D (nCl bt (fun _ => 0) sz) sz (60 * m) ru).1) (.ref y))), (au 1, .inl (0, 12, .inl (nF ((rnB D (nCl bt (fun _ => 0) sz) sz (60 * m) ru).2 1)))), (au 2, .inl (0, 12, .inl (nF ((rnB D (nCl bt (fun _ => 0) sz) sz (60 * m) ru).2 2)))), (au 3, .inl (0, 12, .inl (nF ((rnB D (nCl bt (fun _ => 0) sz) sz (60 * m) ru).2 3)))), (au 4, .inl (0, 12, .inl (nF ((rnB D (nCl bt (fun _ => 0) sz) sz (60 * m) ru).2 4))))]) [0, 2, 3, 4, 5, 6, 7, 8, 9, 10, 11, 12, 13, 14, 15, 16, 17, 18, 19, 20, 26] [1, 21, 22, 23, 24, 25] 0 dX12_cost_113 zl_RX12_276 kX12_thrownInRow rfl rfl rfl rfl rfl (by decide) rfl rfl (show dd - 1 + 1 ≤ dd by omega) (Nat.zero_le _) (Nat.zero_le _) (Nat.le_of_ble_eq_true rfl) (s_thrownInRow l (dd - 1) z a 0 fa nk oo be ho y p s sz ay ar q D (nCl bt (fun _ => 0) sz) sz ((rnB D (nCl bt (fun _ => 0) sz) sz (60 * m) ru).1 7) (t - 60 * m) (.ref y) (rwB D (nCl bt (fun _ => 0) sz) sz (D.1 9) t ro) (by omega) hD ⟨hT.1, hT.2.1⟩ (by omega) (by omega) (nCl_f hT.2.2.1) (by omega) (by omega) hW1) (fun r K1 hr => ?_)
            obtain ⟨rfl, rfl⟩ := hr
            refine zs_K (K' := [(z, .inr (10, fPR a 0 fa nk oo be ho)), (a 0, .inl (0, 740, .inl (nF bt))), ((a 4), .inr (7, fSta y p s)), (y, .inr (9, fYard ay (ysN D.1 D.2.1))), (ay 1, .inl (0, 12, .inl (nF D.2.2.1))), (ay 2, .inl (0, 12, .inl (nF D.2.2.2.1))), (ay 3, .inl (0, 12, .inl (nF D.2.2.2.2.1))), (ay 4, .inl (0, 12, .inl (nF D.2.2.2.2.2.1))), (ay 5, .inl (0, 64, .inl (nF D.2.2.2.2.2.2.1))), (ay 6, .inl (1, 64, .inl (nF D.2.2.2.2.2.2.2))), ((a 9), .inr (4, fRow ar (nF (rwB D (nCl bt (fun _ => 0) sz) sz ((rnB D (nCl bt (fun _ => 0) sz) sz (60 * m) ru).1 7) (t - 60 * m) (rwB D (nCl bt (fun _ => 0) sz) sz (D.1 9) t ro)).1) (.ref y))), (ar 1, .inl (0, 12, .inl (nF ((rwB D (nCl bt (fun _ => 0) sz) sz ((rnB D (nCl bt (fun _ => 0) sz) sz (60 * m) ru).1 7) (t - 60 * m) (rwB D (nCl bt (fun _ => 0) sz) sz (D.1 9) t ro)).2 1)))), (ar 2, .inl (0, 12, .inl (nF ((rwB D (nCl bt (fun _ => 0) sz) sz ((rnB D (nCl bt (fun _ => 0) sz) sz (60 * m) ru).1 7) (t - 60 * m) (rwB D (nCl bt (fun _ => 0) sz) sz (D.1 9) t ro)).2 2)))), (ar 3, .inl (0, 12, .inl (nF ((rwB D (nCl bt (fun _ => 0) sz) sz ((rnB D (nCl bt (fun _ => 0) sz) sz (60 * m) ru).1 7) (t - 60 * m) (rwB D (nCl bt (fun _ => 0) sz) sz (D.1 9) t ro)).2 3)))), (ar 4, .inl (0, 12, .inl (nF ((rwB D (nCl bt (fun _ => 0) sz) sz ((rnB D (nCl bt (fun _ => 0) sz) sz (60 * m) ru).1 7) (t - 60 * m) (rwB D (nCl bt (fun _ => 0) sz) sz (D.1 9) t ro)).2 4)))), (ar 5, .inl (0, 12, .inl (nF ((rwB D (nCl bt (fun _ => 0) sz) sz ((rnB D (nCl bt (fun _ => 0) sz) sz (60 * m) ru).1 7) (t - 60 * m) (rwB D (nCl bt (fun _ => 0) sz) sz (D.1 9) t ro)).2 5)))), (ar 6, .inl (0, 360, .inl (nF ((rwB D (nCl bt (fun _ => 0) sz) sz ((rnB D (nCl bt (fun _ => 0) sz) sz (60 * m) ru).1 7) (t - 60 * m) (rwB D (nCl bt (fun _ => 0) sz) sz (D.1 9) t ro)).2 6)))), (ar 7, .inl (0, 12, .inl (nF ((rwB D (nCl bt (fun _ => 0) sz) sz ((rnB D (nCl bt (fun _ => 0) sz) sz (60 * m) ru).1 7) (t - 60 * m) (rwB D (nCl bt (fun _ => 0) sz) sz (D.1 9) t ro)).2 7)))), (ar 8, .inl (0, 12, .inl (nF ((rwB D (nCl bt (fun _ => 0) sz) sz ((rnB D (nCl bt (fun _ => 0) sz) sz (60 * m) ru).1 7) (t - 60 * m) (rwB D (nCl bt (fun _ => 0) sz) sz (D.1 9) t ro)).2 8)))), (ar 9, .inl (0, 12, .inl (nF ((rwB D (nCl bt (fun _ => 0) sz) sz ((rnB D (nCl bt (fun _ => 0) sz) sz (60 * m) ru).1 7) (t - 60 * m) (rwB D (nCl bt (fun _ => 0) sz) sz (D.1 9) t ro)).2 9)))), (ar 10, .inl (0, 100, .inl (nF ((rwB D (nCl bt (fun _ => 0) sz) sz ((rnB D (nCl bt (fun _ => 0) sz) sz (60 * m) ru).1 7) (t - 60 * m) (rwB D (nCl bt (fun _ => 0) sz) sz (D.1 9) t ro)).2 10)))), ((a 10), .inr (5, fRun au (nF (rnB D (nCl bt (fun _ => 0) sz) sz (60 * m) ru).1) (.ref y))), (au 1, .inl (0, 12, .inl (nF ((rnB D (nCl bt (fun _ => 0) sz) sz (60 * m) ru).2 1)))), (au 2, .inl (0, 12, .inl (nF ((rnB D (nCl bt (fun _ => 0) sz) sz (60 * m) ru).2 2)))), (au 3, .inl (0, 12, .inl (nF ((rnB D (nCl bt (fun _ => 0) sz) sz (60 * m) ru).2 3)))), (au 4, .inl (0, 12, .inl (nF ((rnB D (nCl bt (fun _ => 0) sz) sz (60 * m) ru).2 4)))), (q, .inl (0, sz, .inl (nF (nCl bt (fun _ => 0) sz))))]) [6, 0, 7, 8, 9, 10, 11, 12, 13, 14, 15, 16, 17, 18, 19, 20, 21, 22, 23, 24, 25, 1, 2, 3, 4, 5, 26] rfl (by decide) ?_
            refine zs_istore (lv' := [(7, .int (nI ((rwB D (nCl bt (fun _ => 0) sz) sz ((rnB D (nCl bt (fun _ => 0) sz) sz (60 * m) ru).1 7) (t - 60 * m) (rwB D (nCl bt (fun _ => 0) sz) sz (D.1 9) t ro)).1 15))), (6, .int (nI ((rnB D (nCl bt (fun _ => 0) sz) sz (60 * m) ru).1 7))), (5, .int (nI ((rnB D (nCl bt (fun _ => 0) sz) sz (60 * m) ru).1 8))), (4, .int (nI ((rwB D (nCl bt (fun _ => 0) sz) sz (D.1 9) t ro).1 15))), (3, .ref q), (0, .ref z), (1, .int (nI m)), (2, .int (nI t))]) dX12_cost_116 (Nat.le_of_ble_eq_true rfl) rfl ?_
            refine zs_iload dX12_cost_118 rfl ?_
            refine zs_iload dX12_cost_120 rfl ?_
            refine zs_isub dX12_cost_122 ?_
            refine zs_iload dX12_cost_123 rfl ?_
            refine zs_isub dX12_cost_125 ?_
            refine zs_K (K' := [(z, .inr (10, fPR a 0 fa nk oo be ho)), (a 0, .inl (0, 740, .inl (nF bt))), ((a 4), .inr (7, fSta y p s)), (y, .inr (9, fYard ay (ysN D.1 D.2.1))), (ay 1, .inl (0, 12, .inl (nF D.2.2.1))), (ay 2, .inl (0, 12, .inl (nF D.2.2.2.1))), (ay 3, .inl (0, 12, .inl (nF D.2.2.2.2.1))), (ay 4, .inl (0, 12, .inl (nF D.2.2.2.2.2.1))), (ay 5, .inl (0, 64, .inl (nF D.2.2.2.2.2.2.1))), (ay 6, .inl (1, 64, .inl (nF D.2.2.2.2.2.2.2))), ((a 9), .inr (4, fRow ar (nF (rwB D (nCl bt (fun _ => 0) sz) sz ((rnB D (nCl bt (fun _ => 0) sz) sz (60 * m) ru).1 7) (t - 60 * m) (rwB D (nCl bt (fun _ => 0) sz) sz (D.1 9) t ro)).1) (.ref y))), (ar 1, .inl (0, 12, .inl (nF ((rwB D (nCl bt (fun _ => 0) sz) sz ((rnB D (nCl bt (fun _ => 0) sz) sz (60 * m) ru).1 7) (t - 60 * m) (rwB D (nCl bt (fun _ => 0) sz) sz (D.1 9) t ro)).2 1)))), (ar 2, .inl (0, 12, .inl (nF ((rwB D (nCl bt (fun _ => 0) sz) sz ((rnB D (nCl bt (fun _ => 0) sz) sz (60 * m) ru).1 7) (t - 60 * m) (rwB D (nCl bt (fun _ => 0) sz) sz (D.1 9) t ro)).2 2)))), (ar 3, .inl (0, 12, .inl (nF ((rwB D (nCl bt (fun _ => 0) sz) sz ((rnB D (nCl bt (fun _ => 0) sz) sz (60 * m) ru).1 7) (t - 60 * m) (rwB D (nCl bt (fun _ => 0) sz) sz (D.1 9) t ro)).2 3)))), (ar 4, .inl (0, 12, .inl (nF ((rwB D (nCl bt (fun _ => 0) sz) sz ((rnB D (nCl bt (fun _ => 0) sz) sz (60 * m) ru).1 7) (t - 60 * m) (rwB D (nCl bt (fun _ => 0) sz) sz (D.1 9) t ro)).2 4)))), (ar 5, .inl (0, 12, .inl (nF ((rwB D (nCl bt (fun _ => 0) sz) sz ((rnB D (nCl bt (fun _ => 0) sz) sz (60 * m) ru).1 7) (t - 60 * m) (rwB D (nCl bt (fun _ => 0) sz) sz (D.1 9) t ro)).2 5)))), (ar 6, .inl (0, 360, .inl (nF ((rwB D (nCl bt (fun _ => 0) sz) sz ((rnB D (nCl bt (fun _ => 0) sz) sz (60 * m) ru).1 7) (t - 60 * m) (rwB D (nCl bt (fun _ => 0) sz) sz (D.1 9) t ro)).2 6)))), (ar 7, .inl (0, 12, .inl (nF ((rwB D (nCl bt (fun _ => 0) sz) sz ((rnB D (nCl bt (fun _ => 0) sz) sz (60 * m) ru).1 7) (t - 60 * m) (rwB D (nCl bt (fun _ => 0) sz) sz (D.1 9) t ro)).2 7)))), (ar 8, .inl (0, 12, .inl (nF ((rwB D (nCl bt (fun _ => 0) sz) sz ((rnB D (nCl bt (fun _ => 0) sz) sz (60 * m) ru).1 7) (t - 60 * m) (rwB D (nCl bt (fun _ => 0) sz) sz (D.1 9) t ro)).2 8)))), (ar 9, .inl (0, 12, .inl (nF ((rwB D (nCl bt (fun _ => 0) sz) sz ((rnB D (nCl bt (fun _ => 0) sz) sz (60 * m) ru).1 7) (t - 60 * m) (rwB D (nCl bt (fun _ => 0) sz) sz (D.1 9) t ro)).2 9)))), (ar 10, .inl (0, 100, .inl (nF ((rwB D (nCl bt (fun _ => 0) sz) sz ((rnB D (nCl bt (fun _ => 0) sz) sz (60 * m) ru).1 7) (t - 60 * m) (rwB D (nCl bt (fun _ => 0) sz) sz (D.1 9) t ro)).2 10)))), ((a 10), .inr (5, fRun au (nF (rnB D (nCl bt (fun _ => 0) sz) sz (60 * m) ru).1) (.ref y))), (au 1, .inl (0, 12, .inl (nF ((rnB D (nCl bt (fun _ => 0) sz) sz (60 * m) ru).2 1)))), (au 2, .inl (0, 12, .inl (nF ((rnB D (nCl bt (fun _ => 0) sz) sz (60 * m) ru).2 2)))), (au 3, .inl (0, 12, .inl (nF ((rnB D (nCl bt (fun _ => 0) sz) sz (60 * m) ru).2 3)))), (au 4, .inl (0, 12, .inl (nF ((rnB D (nCl bt (fun _ => 0) sz) sz (60 * m) ru).2 4))))]) [0, 1, 2, 3, 4, 5, 6, 7, 8, 9, 10, 11, 12, 13, 14, 15, 16, 17, 18, 19, 20, 21, 22, 23, 24, 25] rfl (by decide) ?_
            exact zs_iret dX12_cost_126 rfl ⟨m, t, hm, ht, rfl, rfl, hcond, rfl, rfl⟩
          · have c_5 : (bN (pTd bt sz (D.1 0) 2 12)) = 0 := by have hc := c_5; rw [show (0 : Int32) = nI 0 from rfl] at hc; rw [nI_eq' (by omega) (by omega)] at hc; exact hc
            exact zs_throw0 hl rfl dX12_cost_35 dX12_cost_38 dX12_cost_39 dX12_cost_42 (show 6 ≤ dd by omega) (Nat.le_of_ble_eq_true rfl) (by omega) (by omega) ⟨(fun h => bN_f0 c_5 (pTd_y h.2.2.2.2)), rfl⟩
