/-! ===== PailRow.cutUp; Yard.timeAt, aimedCell, aimTold; Fire: made, copied, a column given up ===== -/
def pUp (x y : Int32) : Int32 := if 0 < y then (x + y - 1) / y else 0
theorem dX12_cutUp_0 : decode cX12_cutUp 0 = .ok (.iload_n 1, 1) := by decide +kernel
theorem dX12_cutUp_1 : decode cX12_cutUp 1 = .ok (.ifCond .le 13, 3) := by decide +kernel
theorem dX12_cutUp_4 : decode cX12_cutUp 4 = .ok (.iload_n 0, 1) := by decide +kernel
theorem dX12_cutUp_5 : decode cX12_cutUp 5 = .ok (.iload_n 1, 1) := by decide +kernel
theorem dX12_cutUp_6 : decode cX12_cutUp 6 = .ok (.iadd, 1) := by decide +kernel
theorem dX12_cutUp_7 : decode cX12_cutUp 7 = .ok (.iconst 1, 1) := by decide +kernel
theorem dX12_cutUp_8 : decode cX12_cutUp 8 = .ok (.isub, 1) := by decide +kernel
theorem dX12_cutUp_9 : decode cX12_cutUp 9 = .ok (.iload_n 1, 1) := by decide +kernel
theorem dX12_cutUp_10 : decode cX12_cutUp 10 = .ok (.idiv, 1) := by decide +kernel
theorem dX12_cutUp_11 : decode cX12_cutUp 11 = .ok (.goto 4, 3) := by decide +kernel
theorem dX12_cutUp_14 : decode cX12_cutUp 14 = .ok (.iconst 0, 1) := by decide +kernel
theorem dX12_cutUp_15 : decode cX12_cutUp 15 = .ok (.ireturn, 1) := by decide +kernel
set_option maxRecDepth 100000 in
theorem s_cutUp (l : Launch) (dd : Nat) (x y : Int32)  : zSp l mX12_cutUp dd 0 0 [.int x, .int y] [] (fun r K' => r = some (.int (pUp x y)) ∧ K' = []) := by
  refine zSp.of (by decide) (Nat.le_of_ble_eq_true rfl) (fun h0 => ?_)
  show zS _ 0 0 0 [(0, .int x), (1, .int y)] [] []
  refine zs_iload_n dX12_cutUp_0 rfl ?_
  refine zs_if_le (tgt := 14) dX12_cutUp_1 (by decide) (fun c_1 => ?_) (fun c_1 => ?_)
  · refine zs_iconst (v := 0) dX12_cutUp_14 (by decide) ?_
    exact zs_iret dX12_cutUp_15 rfl ⟨congrArg (fun z => some (Value.int z)) (by unfold pUp; grind), rfl⟩
  · refine zs_iload_n dX12_cutUp_4 rfl ?_
    refine zs_iload_n dX12_cutUp_5 rfl ?_
    refine zs_iadd dX12_cutUp_6 ?_
    refine zs_iconst (v := 1) dX12_cutUp_7 (by decide) ?_
    refine zs_isub dX12_cutUp_8 ?_
    refine zs_iload_n dX12_cutUp_9 rfl ?_
    refine zs_idiv dX12_cutUp_10 (fun hz => by grind) ?_
    refine zs_goto (tgt := 15) dX12_cutUp_11 (by decide) ?_
    exact zs_iret dX12_cutUp_15 rfl ⟨congrArg (fun z => some (Value.int z)) (by unfold pUp; grind), rfl⟩
theorem dX11_aimedCell_0 : decode cX11_aimedCell 0 = .ok (.iload_n 1, 1) := by decide +kernel
theorem dX11_aimedCell_1 : decode cX11_aimedCell 1 = .ok (.bipush 100, 2) := by decide +kernel
theorem dX11_aimedCell_3 : decode cX11_aimedCell 3 = .ok (.if_icmp .ge 5, 3) := by decide +kernel
theorem dX11_aimedCell_6 : decode cX11_aimedCell 6 = .ok (.iconst (-1), 1) := by decide +kernel
theorem dX11_aimedCell_7 : decode cX11_aimedCell 7 = .ok (.ireturn, 1) := by decide +kernel
theorem dX11_aimedCell_8 : decode cX11_aimedCell 8 = .ok (.iload_n 1, 1) := by decide +kernel
theorem dX11_aimedCell_9 : decode cX11_aimedCell 9 = .ok (.bipush 100, 2) := by decide +kernel
theorem dX11_aimedCell_11 : decode cX11_aimedCell 11 = .ok (.isub, 1) := by decide +kernel
theorem dX11_aimedCell_12 : decode cX11_aimedCell 12 = .ok (.bipush 10, 2) := by decide +kernel
theorem dX11_aimedCell_14 : decode cX11_aimedCell 14 = .ok (.irem, 1) := by decide +kernel
theorem dX11_aimedCell_15 : decode cX11_aimedCell 15 = .ok (.istore_n 2, 1) := by decide +kernel
theorem dX11_aimedCell_16 : decode cX11_aimedCell 16 = .ok (.iload_n 1, 1) := by decide +kernel
theorem dX11_aimedCell_17 : decode cX11_aimedCell 17 = .ok (.bipush 100, 2) := by decide +kernel
theorem dX11_aimedCell_19 : decode cX11_aimedCell 19 = .ok (.isub, 1) := by decide +kernel
theorem dX11_aimedCell_20 : decode cX11_aimedCell 20 = .ok (.bipush 10, 2) := by decide +kernel
theorem dX11_aimedCell_22 : decode cX11_aimedCell 22 = .ok (.idiv, 1) := by decide +kernel
theorem dX11_aimedCell_23 : decode cX11_aimedCell 23 = .ok (.istore_n 3, 1) := by decide +kernel
theorem dX11_aimedCell_24 : decode cX11_aimedCell 24 = .ok (.iload_n 2, 1) := by decide +kernel
theorem dX11_aimedCell_25 : decode cX11_aimedCell 25 = .ok (.aload_n 0, 1) := by decide +kernel
theorem dX11_aimedCell_26 : decode cX11_aimedCell 26 = .ok (.getfield 65, 3) := by decide +kernel
theorem dX11_aimedCell_29 : decode cX11_aimedCell 29 = .ok (.if_icmp .ge 22, 3) := by decide +kernel
theorem dX11_aimedCell_32 : decode cX11_aimedCell 32 = .ok (.iload_n 3, 1) := by decide +kernel
theorem dX11_aimedCell_33 : decode cX11_aimedCell 33 = .ok (.aload_n 0, 1) := by decide +kernel
theorem dX11_aimedCell_34 : decode cX11_aimedCell 34 = .ok (.getfield 68, 3) := by decide +kernel
theorem dX11_aimedCell_37 : decode cX11_aimedCell 37 = .ok (.if_icmp .ge 14, 3) := by decide +kernel
theorem dX11_aimedCell_40 : decode cX11_aimedCell 40 = .ok (.iload_n 3, 1) := by decide +kernel
theorem dX11_aimedCell_41 : decode cX11_aimedCell 41 = .ok (.aload_n 0, 1) := by decide +kernel
theorem dX11_aimedCell_42 : decode cX11_aimedCell 42 = .ok (.getfield 65, 3) := by decide +kernel
theorem dX11_aimedCell_45 : decode cX11_aimedCell 45 = .ok (.imul, 1) := by decide +kernel
theorem dX11_aimedCell_46 : decode cX11_aimedCell 46 = .ok (.iload_n 2, 1) := by decide +kernel
theorem dX11_aimedCell_47 : decode cX11_aimedCell 47 = .ok (.iadd, 1) := by decide +kernel
theorem dX11_aimedCell_48 : decode cX11_aimedCell 48 = .ok (.goto 4, 3) := by decide +kernel
theorem dX11_aimedCell_51 : decode cX11_aimedCell 51 = .ok (.iconst (-1), 1) := by decide +kernel
theorem dX11_aimedCell_52 : decode cX11_aimedCell 52 = .ok (.ireturn, 1) := by decide +kernel
def pAc (C R : Int32) (a : Int32) : Int32 := if 100 ≤ a then (if C ≤ a - 100 - (a - 100) / 10 * 10 then -1 else if R ≤ (a - 100) / 10 then -1 else (a - 100) / 10 * C + (a - 100 - (a - 100) / 10 * 10)) else -1
set_option maxRecDepth 100000 in
theorem s_aimedCell (l : Launch) (dd : Nat) (y : Nat) (ay : Nat → Nat) (ys : Nat → Int32) (a : Int32)  : zSp l mX11_aimedCell dd 0 0 [.ref y, .int a] [(y, .inr (9, fYard ay ys))] (fun r K' => r = some (.int (pAc (ys 14) (ys 15) a)) ∧ K' = [(y, .inr (9, fYard ay ys))]) := by
  refine zSp.of (by decide) (Nat.le_of_ble_eq_true rfl) (fun h0 => ?_)
  show zS _ 0 0 0 [(0, .ref y), (1, .int a)] [] [(y, .inr (9, fYard ay ys))]
  refine zs_iload_n dX11_aimedCell_0 rfl ?_
  refine zs_bipush (v := 100) dX11_aimedCell_1 (by decide) ?_
  refine zs_icmp_ge (tgt := 8) dX11_aimedCell_3 (by decide) (fun c_1 => ?_) (fun c_1 => ?_)
  · refine zs_iload_n dX11_aimedCell_8 rfl ?_
    refine zs_bipush (v := 100) dX11_aimedCell_9 (by decide) ?_
    refine zs_isub dX11_aimedCell_11 ?_
    refine zs_bipush (v := 10) dX11_aimedCell_12 (by decide) ?_
    refine zs_irem dX11_aimedCell_14 (by decide) ?_
    refine zs_istore_n (lv' := [(2, .int ((a - 100) - (a - 100) / 10 * 10)), (0, .ref y), (1, .int a)]) dX11_aimedCell_15 (Nat.le_of_ble_eq_true rfl) rfl ?_
    refine zs_iload_n dX11_aimedCell_16 rfl ?_
    refine zs_bipush (v := 100) dX11_aimedCell_17 (by decide) ?_
    refine zs_isub dX11_aimedCell_19 ?_
    refine zs_bipush (v := 10) dX11_aimedCell_20 (by decide) ?_
    refine zs_idiv dX11_aimedCell_22 (by decide) ?_
    refine zs_istore_n (lv' := [(3, .int ((a - 100) / 10)), (2, .int ((a - 100) - (a - 100) / 10 * 10)), (0, .ref y), (1, .int a)]) dX11_aimedCell_23 (Nat.le_of_ble_eq_true rfl) rfl ?_
    refine zs_iload_n dX11_aimedCell_24 rfl ?_
    refine zs_aload_n dX11_aimedCell_25 rfl rfl ?_
    refine zs_get 0 dX11_aimedCell_26 zf_RX11_65 rfl (v := .int (ys 14)) rfl ?_
    refine zs_icmp_ge (tgt := 51) dX11_aimedCell_29 (by decide) (fun c_2 => ?_) (fun c_2 => ?_)
    · refine zs_iconst (v := (-1)) dX11_aimedCell_51 (by decide) ?_
      exact zs_iret dX11_aimedCell_52 rfl ⟨congrArg (fun z => some (Value.int z)) (by unfold pAc; simp only [if_pos c_1, if_pos c_2]), rfl⟩
    · refine zs_iload_n dX11_aimedCell_32 rfl ?_
      refine zs_aload_n dX11_aimedCell_33 rfl rfl ?_
      refine zs_get 0 dX11_aimedCell_34 zf_RX11_68 rfl (v := .int (ys 15)) rfl ?_
      refine zs_icmp_ge (tgt := 51) dX11_aimedCell_37 (by decide) (fun c_3 => ?_) (fun c_3 => ?_)
      · refine zs_iconst (v := (-1)) dX11_aimedCell_51 (by decide) ?_
        exact zs_iret dX11_aimedCell_52 rfl ⟨congrArg (fun z => some (Value.int z)) (by unfold pAc; simp only [if_pos c_1, if_neg c_2, if_pos c_3]), rfl⟩
      · refine zs_iload_n dX11_aimedCell_40 rfl ?_
        refine zs_aload_n dX11_aimedCell_41 rfl rfl ?_
        refine zs_get 0 dX11_aimedCell_42 zf_RX11_65 rfl (v := .int (ys 14)) rfl ?_
        refine zs_imul dX11_aimedCell_45 ?_
        refine zs_iload_n dX11_aimedCell_46 rfl ?_
        refine zs_iadd dX11_aimedCell_47 ?_
        refine zs_goto (tgt := 52) dX11_aimedCell_48 (by decide) ?_
        exact zs_iret dX11_aimedCell_52 rfl ⟨congrArg (fun z => some (Value.int z)) (by unfold pAc; simp only [if_pos c_1, if_neg c_2, if_neg c_3]), rfl⟩
  · refine zs_iconst (v := (-1)) dX11_aimedCell_6 (by decide) ?_
    exact zs_iret dX11_aimedCell_7 rfl ⟨congrArg (fun z => some (Value.int z)) (by unfold pAc; simp only [if_neg c_1]), rfl⟩
theorem dX11_aimTold_0 : decode cX11_aimTold 0 = .ok (.iload_n 1, 1) := by decide +kernel
theorem dX11_aimTold_1 : decode cX11_aimTold 1 = .ok (.ifCond .lt 8, 3) := by decide +kernel
theorem dX11_aimTold_4 : decode cX11_aimTold 4 = .ok (.iload_n 1, 1) := by decide +kernel
theorem dX11_aimTold_5 : decode cX11_aimTold 5 = .ok (.iconst 3, 1) := by decide +kernel
theorem dX11_aimTold_6 : decode cX11_aimTold 6 = .ok (.if_icmp .le 12, 3) := by decide +kernel
theorem dX11_aimTold_9 : decode cX11_aimTold 9 = .ok (.aload_n 0, 1) := by decide +kernel
theorem dX11_aimTold_10 : decode cX11_aimTold 10 = .ok (.iload_n 1, 1) := by decide +kernel
theorem dX11_aimTold_11 : decode cX11_aimTold 11 = .ok (.invokevirtual 179, 3) := by decide +kernel
theorem dX11_aimTold_14 : decode cX11_aimTold 14 = .ok (.iconst (-1), 1) := by decide +kernel
theorem dX11_aimTold_15 : decode cX11_aimTold 15 = .ok (.if_icmp .eq 7, 3) := by decide +kernel
theorem dX11_aimTold_18 : decode cX11_aimTold 18 = .ok (.iconst 1, 1) := by decide +kernel
theorem dX11_aimTold_19 : decode cX11_aimTold 19 = .ok (.goto 4, 3) := by decide +kernel
theorem dX11_aimTold_22 : decode cX11_aimTold 22 = .ok (.iconst 0, 1) := by decide +kernel
theorem dX11_aimTold_23 : decode cX11_aimTold 23 = .ok (.ireturn, 1) := by decide +kernel
def pTold (C R a : Int32) : Bool := decide (0 ≤ a ∧ a ≤ 3) || decide (¬ pAc C R a = -1)
def bI (b : Bool) : Int32 := if b = true then 1 else 0
set_option maxRecDepth 100000 in
theorem s_aimTold (l : Launch) (dd : Nat) (y : Nat) (ay : Nat → Nat) (ys : Nat → Int32) (a : Int32) (hd : 1 ≤ dd) : zSp l mX11_aimTold dd 0 0 [.ref y, .int a] [(y, .inr (9, fYard ay ys))] (fun r K' => r = some (.int (bI (pTold (ys 14) (ys 15) a))) ∧ K' = [(y, .inr (9, fYard ay ys))]) := by
  refine zSp.of (by decide) (Nat.le_of_ble_eq_true rfl) (fun h0 => ?_)
  show zS _ 0 0 0 [(0, .ref y), (1, .int a)] [] [(y, .inr (9, fYard ay ys))]
  refine zs_iload_n dX11_aimTold_0 rfl ?_
  refine zs_if_lt (tgt := 9) dX11_aimTold_1 (by decide) (fun c_1 => ?_) (fun c_1 => ?_)
  · refine zs_aload_n dX11_aimTold_9 rfl rfl ?_
    refine zs_iload_n dX11_aimTold_10 rfl ?_
    refine zs_callV (M := mX11_aimedCell) (As := [.int a]) (st := []) (Kc := [(y, .inr (9, fYard ay ys))]) (Kr := []) [0] [] 0 dX11_aimTold_11 zl_RX11_179 kX11_aimedCell rfl rfl rfl rfl rfl (by decide) rfl rfl (show dd - 1 + 1 ≤ dd by omega) (Nat.zero_le _) (Nat.zero_le _) (Nat.le_of_ble_eq_true rfl) (s_aimedCell l (dd - 1) y ay ys a) (fun r K1 hr => ?_)
    obtain ⟨rfl, rfl⟩ := hr
    refine zs_K (K' := [(y, .inr (9, fYard ay ys))]) [0] rfl (by decide) ?_
    refine zs_iconst (v := (-1)) dX11_aimTold_14 (by decide) ?_
    refine zs_icmp_eq (tgt := 22) dX11_aimTold_15 (by decide) (fun c_2 => ?_) (fun c_2 => ?_)
    · refine zs_iconst (v := 0) dX11_aimTold_22 (by decide) ?_
      exact zs_zret dX11_aimTold_23 rfl (by first | exact Or.inl rfl | exact Or.inr rfl) ⟨congrArg (fun z => some (Value.int z)) (by unfold bI pTold; grind), rfl⟩
    · refine zs_iconst (v := 1) dX11_aimTold_18 (by decide) ?_
      refine zs_goto (tgt := 23) dX11_aimTold_19 (by decide) ?_
      exact zs_zret dX11_aimTold_23 rfl (by first | exact Or.inl rfl | exact Or.inr rfl) ⟨congrArg (fun z => some (Value.int z)) (by unfold bI pTold; grind), rfl⟩
  · refine zs_iload_n dX11_aimTold_4 rfl ?_
    refine zs_iconst (v := 3) dX11_aimTold_5 (by decide) ?_
    refine zs_icmp_le (tgt := 18) dX11_aimTold_6 (by decide) (fun c_3 => ?_) (fun c_3 => ?_)
    · refine zs_iconst (v := 1) dX11_aimTold_18 (by decide) ?_
      refine zs_goto (tgt := 23) dX11_aimTold_19 (by decide) ?_
      exact zs_zret dX11_aimTold_23 rfl (by first | exact Or.inl rfl | exact Or.inr rfl) ⟨congrArg (fun z => some (Value.int z)) (by unfold bI pTold; grind), rfl⟩
    · refine zs_aload_n dX11_aimTold_9 rfl rfl ?_
      refine zs_iload_n dX11_aimTold_10 rfl ?_
      refine zs_callV (M := mX11_aimedCell) (As := [.int a]) (st := []) (Kc := [(y, .inr (9, fYard ay ys))]) (Kr := []) [0] [] 0 dX11_aimTold_11 zl_RX11_179 kX11_aimedCell rfl rfl rfl rfl rfl (by decide) rfl rfl (show dd - 1 + 1 ≤ dd by omega) (Nat.zero_le _) (Nat.zero_le _) (Nat.le_of_ble_eq_true rfl) (s_aimedCell l (dd - 1) y ay ys a) (fun r K1 hr => ?_)
      obtain ⟨rfl, rfl⟩ := hr
      refine zs_K (K' := [(y, .inr (9, fYard ay ys))]) [0] rfl (by decide) ?_
      refine zs_iconst (v := (-1)) dX11_aimTold_14 (by decide) ?_
      refine zs_icmp_eq (tgt := 22) dX11_aimTold_15 (by decide) (fun c_4 => ?_) (fun c_4 => ?_)
      · refine zs_iconst (v := 0) dX11_aimTold_22 (by decide) ?_
        exact zs_zret dX11_aimTold_23 rfl (by first | exact Or.inl rfl | exact Or.inr rfl) ⟨congrArg (fun z => some (Value.int z)) (by unfold bI pTold; grind), rfl⟩
      · refine zs_iconst (v := 1) dX11_aimTold_18 (by decide) ?_
        refine zs_goto (tgt := 23) dX11_aimTold_19 (by decide) ?_
        exact zs_zret dX11_aimTold_23 rfl (by first | exact Or.inl rfl | exact Or.inr rfl) ⟨congrArg (fun z => some (Value.int z)) (by unfold bI pTold; grind), rfl⟩
theorem dX11_timeAt_0 : decode cX11_timeAt 0 = .ok (.iload_n 1, 1) := by decide +kernel
theorem dX11_timeAt_1 : decode cX11_timeAt 1 = .ok (.ifCond .lt 11, 3) := by decide +kernel
theorem dX11_timeAt_4 : decode cX11_timeAt 4 = .ok (.iload_n 1, 1) := by decide +kernel
theorem dX11_timeAt_5 : decode cX11_timeAt 5 = .ok (.aload_n 0, 1) := by decide +kernel
theorem dX11_timeAt_6 : decode cX11_timeAt 6 = .ok (.getfield 34, 3) := by decide +kernel
theorem dX11_timeAt_9 : decode cX11_timeAt 9 = .ok (.if_icmp .lt 5, 3) := by decide +kernel
theorem dX11_timeAt_12 : decode cX11_timeAt 12 = .ok (.iconst 0, 1) := by decide +kernel
theorem dX11_timeAt_13 : decode cX11_timeAt 13 = .ok (.ireturn, 1) := by decide +kernel
theorem dX11_timeAt_14 : decode cX11_timeAt 14 = .ok (.iload_n 2, 1) := by decide +kernel
theorem dX11_timeAt_15 : decode cX11_timeAt 15 = .ok (.iload_n 3, 1) := by decide +kernel
theorem dX11_timeAt_16 : decode cX11_timeAt 16 = .ok (.iconst 1, 1) := by decide +kernel
theorem dX11_timeAt_17 : decode cX11_timeAt 17 = .ok (.isub, 1) := by decide +kernel
theorem dX11_timeAt_18 : decode cX11_timeAt 18 = .ok (.if_icmp .ne 15, 3) := by decide +kernel
theorem dX11_timeAt_21 : decode cX11_timeAt 21 = .ok (.aload_n 0, 1) := by decide +kernel
theorem dX11_timeAt_22 : decode cX11_timeAt 22 = .ok (.getfield 59, 3) := by decide +kernel
theorem dX11_timeAt_25 : decode cX11_timeAt 25 = .ok (.aload_n 0, 1) := by decide +kernel
theorem dX11_timeAt_26 : decode cX11_timeAt 26 = .ok (.getfield 15, 3) := by decide +kernel
theorem dX11_timeAt_29 : decode cX11_timeAt 29 = .ok (.iload_n 1, 1) := by decide +kernel
theorem dX11_timeAt_30 : decode cX11_timeAt 30 = .ok (.iaload, 1) := by decide +kernel
theorem dX11_timeAt_31 : decode cX11_timeAt 31 = .ok (.iadd, 1) := by decide +kernel
theorem dX11_timeAt_32 : decode cX11_timeAt 32 = .ok (.ireturn, 1) := by decide +kernel
theorem dX11_timeAt_33 : decode cX11_timeAt 33 = .ok (.aload_n 0, 1) := by decide +kernel
theorem dX11_timeAt_34 : decode cX11_timeAt 34 = .ok (.getfield 15, 3) := by decide +kernel
theorem dX11_timeAt_37 : decode cX11_timeAt 37 = .ok (.iload_n 1, 1) := by decide +kernel
theorem dX11_timeAt_38 : decode cX11_timeAt 38 = .ok (.iaload, 1) := by decide +kernel
theorem dX11_timeAt_39 : decode cX11_timeAt 39 = .ok (.aload_n 0, 1) := by decide +kernel
theorem dX11_timeAt_40 : decode cX11_timeAt 40 = .ok (.getfield 38, 3) := by decide +kernel
theorem dX11_timeAt_43 : decode cX11_timeAt 43 = .ok (.iload_n 3, 1) := by decide +kernel
theorem dX11_timeAt_44 : decode cX11_timeAt 44 = .ok (.iconst 1, 1) := by decide +kernel
theorem dX11_timeAt_45 : decode cX11_timeAt 45 = .ok (.isub, 1) := by decide +kernel
theorem dX11_timeAt_46 : decode cX11_timeAt 46 = .ok (.invokestatic 175, 3) := by decide +kernel
theorem dX11_timeAt_49 : decode cX11_timeAt 49 = .ok (.iconst 4, 1) := by decide +kernel
theorem dX11_timeAt_50 : decode cX11_timeAt 50 = .ok (.idiv, 1) := by decide +kernel
theorem dX11_timeAt_51 : decode cX11_timeAt 51 = .ok (.iadd, 1) := by decide +kernel
theorem dX11_timeAt_52 : decode cX11_timeAt 52 = .ok (.istore 4, 2) := by decide +kernel
theorem dX11_timeAt_54 : decode cX11_timeAt 54 = .ok (.iload_n 2, 1) := by decide +kernel
theorem dX11_timeAt_55 : decode cX11_timeAt 55 = .ok (.ifCond .ne 13, 3) := by decide +kernel
theorem dX11_timeAt_58 : decode cX11_timeAt 58 = .ok (.aload_n 0, 1) := by decide +kernel
theorem dX11_timeAt_59 : decode cX11_timeAt 59 = .ok (.getfield 47, 3) := by decide +kernel
theorem dX11_timeAt_62 : decode cX11_timeAt 62 = .ok (.iload 4, 2) := by decide +kernel
theorem dX11_timeAt_64 : decode cX11_timeAt 64 = .ok (.iadd, 1) := by decide +kernel
theorem dX11_timeAt_65 : decode cX11_timeAt 65 = .ok (.goto 5, 3) := by decide +kernel
theorem dX11_timeAt_68 : decode cX11_timeAt 68 = .ok (.iload 4, 2) := by decide +kernel
theorem dX11_timeAt_70 : decode cX11_timeAt 70 = .ok (.ireturn, 1) := by decide +kernel
/-- how long a man who is not tired takes at place p of n -/
def pTime (ys hdd : Nat → Int32) (m : Nat) (p n : Int32) : Int32 := if p = n - 1 then ys 12 + hdd m else if p = 0 then ys 8 + (hdd m + pUp (ys 5) (n - 1) / 4) else hdd m + pUp (ys 5) (n - 1) / 4
set_option maxRecDepth 100000 in
theorem s_timeAt (l : Launch) (dd : Nat) (y : Nat) (ay : Nat → Nat) (ys nm hdd pcc pww yf yb : Nat → Int32) (m men : Nat) (p n : Int32) (hd : 1 ≤ dd) (hm : m < men) (hmen : men ≤ 12) (hy : ys 0 = nI men) : zSp l mX11_timeAt dd 0 0 [.ref y, .int (nI m), .int p, .int n] [(y, .inr (9, fYard ay ys)), (ay 1, .inl (0, 12, .inl nm)), (ay 2, .inl (0, 12, .inl hdd)), (ay 3, .inl (0, 12, .inl pcc)), (ay 4, .inl (0, 12, .inl pww)), (ay 5, .inl (0, 64, .inl yf)), (ay 6, .inl (1, 64, .inl yb))] (fun r K' => r = some (.int (pTime ys hdd m p n)) ∧ K' = kYard y ay ys nm hdd pcc pww yf yb) := by
  refine zSp.of (by decide) (Nat.le_of_ble_eq_true rfl) (fun h0 => ?_)
  show zS _ 0 0 0 [(0, .ref y), (1, .int (nI m)), (2, .int p), (3, .int n)] [] [(y, .inr (9, fYard ay ys)), (ay 1, .inl (0, 12, .inl nm)), (ay 2, .inl (0, 12, .inl hdd)), (ay 3, .inl (0, 12, .inl pcc)), (ay 4, .inl (0, 12, .inl pww)), (ay 5, .inl (0, 64, .inl yf)), (ay 6, .inl (1, 64, .inl yb))]
  refine zs_iload_n dX11_timeAt_0 rfl ?_
  refine zs_if_lt (tgt := 12) dX11_timeAt_1 (by decide) (fun c_1 => (nI_pos (show m < 2147483648 by omega) c_1 : False).elim) (fun c_1 => ?_)
  refine zs_iload_n dX11_timeAt_4 rfl ?_
  refine zs_aload_n dX11_timeAt_5 rfl rfl ?_
  refine zs_get 0 dX11_timeAt_6 zf_RX11_34 rfl (v := .int (ys 0)) rfl ?_
  refine zs_icmp_lt (tgt := 14) dX11_timeAt_9 (by decide) (fun c_2 => ?_) (fun c_2 => (c_2 (by rw [hy]; exact nI_lt (by omega) (by omega)) : False).elim)
  refine zs_iload_n dX11_timeAt_14 rfl ?_
  refine zs_iload_n dX11_timeAt_15 rfl ?_
  refine zs_iconst (v := 1) dX11_timeAt_16 (by decide) ?_
  refine zs_isub dX11_timeAt_17 ?_
  refine zs_icmp_ne (tgt := 33) dX11_timeAt_18 (by decide) (fun c_3 => ?_) (fun c_3 => ?_)
  · refine zs_aload_n dX11_timeAt_33 rfl rfl ?_
    refine zs_get 0 dX11_timeAt_34 zf_RX11_15 rfl (v := .ref (ay 2)) rfl ?_
    refine zs_iload_n dX11_timeAt_37 rfl ?_
    refine zs_iald 2 dX11_timeAt_38 rfl (vp_in_nI (by omega) (by omega)) ?_
    refine zs_as (y := hdd m) (by rw [nI_c (n := m) (by omega)]) ?_
    refine zs_aload_n dX11_timeAt_39 rfl rfl ?_
    refine zs_get 0 dX11_timeAt_40 zf_RX11_38 rfl (v := .int (ys 5)) rfl ?_
    refine zs_iload_n dX11_timeAt_43 rfl ?_
    refine zs_iconst (v := 1) dX11_timeAt_44 (by decide) ?_
    refine zs_isub dX11_timeAt_45 ?_
    refine zs_callSN (M := mX12_cutUp) (As := [.int (ys 5), .int (n - 1)]) (st := [.int (hdd m)]) (Kc := []) (Kr := [(y, .inr (9, fYard ay ys)), (ay 1, .inl (0, 12, .inl nm)), (ay 2, .inl (0, 12, .inl hdd)), (ay 3, .inl (0, 12, .inl pcc)), (ay 4, .inl (0, 12, .inl pww)), (ay 5, .inl (0, 64, .inl yf)), (ay 6, .inl (1, 64, .inl yb))]) [] [0, 1, 2, 3, 4, 5, 6] dX11_timeAt_46 (by first | exact Or.inl ⟨rfl, rfl⟩ | exact Or.inr ⟨rfl, rfl⟩) rfl zcut kX12_cutUp rfl rfl rfl rfl rfl (by decide) (show dd - 1 + 1 ≤ dd by omega) (Nat.zero_le _) (Nat.zero_le _) (Nat.le_of_ble_eq_true rfl) (s_cutUp l (dd - 1) (ys 5) (n - 1)) (fun r K1 hr => ?_)
    obtain ⟨rfl, rfl⟩ := hr
    refine zs_K (K' := [(y, .inr (9, fYard ay ys)), (ay 1, .inl (0, 12, .inl nm)), (ay 2, .inl (0, 12, .inl hdd)), (ay 3, .inl (0, 12, .inl pcc)), (ay 4, .inl (0, 12, .inl pww)), (ay 5, .inl (0, 64, .inl yf)), (ay 6, .inl (1, 64, .inl yb))]) [0, 1, 2, 3, 4, 5, 6] rfl (by decide) ?_
    refine zs_iconst (v := 4) dX11_timeAt_49 (by decide) ?_
    refine zs_idiv dX11_timeAt_50 (by decide) ?_
    refine zs_iadd dX11_timeAt_51 ?_
    refine zs_istore (lv' := [(4, .int ((hdd m) + ((pUp (ys 5) (n - 1)) / 4))), (0, .ref y), (1, .int (nI m)), (2, .int p), (3, .int n)]) dX11_timeAt_52 (Nat.le_of_ble_eq_true rfl) rfl ?_
    refine zs_iload_n dX11_timeAt_54 rfl ?_
    refine zs_if_ne (tgt := 68) dX11_timeAt_55 (by decide) (fun c_4 => ?_) (fun c_4 => ?_)
    · refine zs_iload dX11_timeAt_68 rfl ?_
      exact zs_iret dX11_timeAt_70 rfl ⟨congrArg (fun z => some (Value.int z)) (by unfold pTime; simp only [if_neg c_3, if_neg c_4]), rfl⟩
    · refine zs_aload_n dX11_timeAt_58 rfl rfl ?_
      refine zs_get 0 dX11_timeAt_59 zf_RX11_47 rfl (v := .int (ys 8)) rfl ?_
      refine zs_iload dX11_timeAt_62 rfl ?_
      refine zs_iadd dX11_timeAt_64 ?_
      refine zs_goto (tgt := 70) dX11_timeAt_65 (by decide) ?_
      exact zs_iret dX11_timeAt_70 rfl ⟨congrArg (fun z => some (Value.int z)) (by unfold pTime; simp only [if_neg c_3, if_pos c_4]), rfl⟩
  · refine zs_aload_n dX11_timeAt_21 rfl rfl ?_
    refine zs_get 0 dX11_timeAt_22 zf_RX11_59 rfl (v := .int (ys 12)) rfl ?_
    refine zs_aload_n dX11_timeAt_25 rfl rfl ?_
    refine zs_get 0 dX11_timeAt_26 zf_RX11_15 rfl (v := .ref (ay 2)) rfl ?_
    refine zs_iload_n dX11_timeAt_29 rfl ?_
    refine zs_iald 2 dX11_timeAt_30 rfl (vp_in_nI (by omega) (by omega)) ?_
    refine zs_as (y := hdd m) (by rw [nI_c (n := m) (by omega)]) ?_
    refine zs_iadd dX11_timeAt_31 ?_
    exact zs_iret dX11_timeAt_32 rfl ⟨congrArg (fun z => some (Value.int z)) (by unfold pTime; simp only [if_pos c_3]), rfl⟩
theorem dX2_init_0 : decode cX2_init 0 = .ok (.aload_n 0, 1) := by decide +kernel
theorem dX2_init_1 : decode cX2_init 1 = .ok (.invokespecial 3, 3) := by decide +kernel
theorem dX2_init_4 : decode cX2_init 4 = .ok (.aload_n 0, 1) := by decide +kernel
theorem dX2_init_5 : decode cX2_init 5 = .ok (.bipush 64, 2) := by decide +kernel
theorem dX2_init_7 : decode cX2_init 7 = .ok (.newarray .int, 2) := by decide +kernel
theorem dX2_init_9 : decode cX2_init 9 = .ok (.putfield 9, 3) := by decide +kernel
theorem dX2_init_12 : decode cX2_init 12 = .ok (.aload_n 0, 1) := by decide +kernel
theorem dX2_init_13 : decode cX2_init 13 = .ok (.bipush 64, 2) := by decide +kernel
theorem dX2_init_15 : decode cX2_init 15 = .ok (.newarray .int, 2) := by decide +kernel
theorem dX2_init_17 : decode cX2_init 17 = .ok (.putfield 15, 3) := by decide +kernel
theorem dX2_init_20 : decode cX2_init 20 = .ok (.aload_n 0, 1) := by decide +kernel
theorem dX2_init_21 : decode cX2_init 21 = .ok (.bipush 64, 2) := by decide +kernel
theorem dX2_init_23 : decode cX2_init 23 = .ok (.newarray .boolean, 2) := by decide +kernel
theorem dX2_init_25 : decode cX2_init 25 = .ok (.putfield 18, 3) := by decide +kernel
theorem dX2_init_28 : decode cX2_init 28 = .ok (.aload_n 0, 1) := by decide +kernel
theorem dX2_init_29 : decode cX2_init 29 = .ok (.bipush 64, 2) := by decide +kernel
theorem dX2_init_31 : decode cX2_init 31 = .ok (.newarray .int, 2) := by decide +kernel
theorem dX2_init_33 : decode cX2_init 33 = .ok (.putfield 22, 3) := by decide +kernel
theorem dX2_init_36 : decode cX2_init 36 = .ok (.aload_n 0, 1) := by decide +kernel
theorem dX2_init_37 : decode cX2_init 37 = .ok (.bipush 60, 2) := by decide +kernel
theorem dX2_init_39 : decode cX2_init 39 = .ok (.newarray .int, 2) := by decide +kernel
theorem dX2_init_41 : decode cX2_init 41 = .ok (.putfield 25, 3) := by decide +kernel
theorem dX2_init_44 : decode cX2_init 44 = .ok (.aload_n 0, 1) := by decide +kernel
theorem dX2_init_45 : decode cX2_init 45 = .ok (.iconst (-1), 1) := by decide +kernel
theorem dX2_init_46 : decode cX2_init 46 = .ok (.putfield 28, 3) := by decide +kernel
theorem dX2_init_49 : decode cX2_init 49 = .ok (.return_, 1) := by decide +kernel
abbrev z0 : Nat → Int32 := fun _ => 0
set_option maxRecDepth 100000 in
theorem s_FireInit (l : Launch) (dd : Nat) (t : Nat) (hd : 1 ≤ dd) : zSp l mX2_init dd 5 316 [.ref t] [(t, .inr (1, [.int 0, .int 0, .int 0, .int 0, .null, .null, .null, .null, .null, .int 0, .int 0, .int 0]))] (fun r K' => r = none ∧ ∃ ad, K' = kFire t ad (upd z0 11 (-1)) z0 z0 z0 z0 z0) := by
  refine zSp.of (by decide) (Nat.le_of_ble_eq_true rfl) (fun h0 => ?_)
  show zS _ 5 316 0 [(0, .ref t)] [] [(t, .inr (1, [.int 0, .int 0, .int 0, .int 0, .null, .null, .null, .null, .null, .int 0, .int 0, .int 0]))]
  refine zs_aload_n dX2_init_0 rfl rfl ?_
  refine zs_objInit dX2_init_1 zo_RX2 (show 1 ≤ dd by omega) (Nat.le_of_ble_eq_true rfl) ?_
  refine zs_aload_n dX2_init_4 rfl rfl ?_
  refine zs_bipush (v := 64) dX2_init_5 (by decide) ?_
  refine zs_newa_int (N := 64) dX2_init_7 (by decide) (by decide) (by decide) (by omega) (by omega) (fun q_1 => ?_)
  show zS _ _ _ _ _ _ [(t, .inr (1, [.int 0, .int 0, .int 0, .int 0, .null, .null, .null, .null, .null, .int 0, .int 0, .int 0])), (q_1, .inl (0, 64, .inl (fun _ => 0)))]
  refine zs_putF 0 dX2_init_9 zf_RX2_9 rfl (Nat.le_of_ble_eq_true rfl) (zPv_a rfl) rfl (fun C T N hh => by cases hh; rfl) ?_
  show zS _ _ _ _ _ _ [(t, .inr (1, [.int 0, .int 0, .int 0, .int 0, .ref q_1, .null, .null, .null, .null, .int 0, .int 0, .int 0])), (q_1, .inl (0, 64, .inl (fun _ => 0)))]
  refine zs_aload_n dX2_init_12 rfl rfl ?_
  refine zs_bipush (v := 64) dX2_init_13 (by decide) ?_
  refine zs_newa_int (N := 64) dX2_init_15 (by decide) (by decide) (by decide) (by omega) (by omega) (fun q_2 => ?_)
  show zS _ _ _ _ _ _ [(t, .inr (1, [.int 0, .int 0, .int 0, .int 0, .ref q_1, .null, .null, .null, .null, .int 0, .int 0, .int 0])), (q_1, .inl (0, 64, .inl (fun _ => 0))), (q_2, .inl (0, 64, .inl (fun _ => 0)))]
  refine zs_putF 0 dX2_init_17 zf_RX2_15 rfl (Nat.le_of_ble_eq_true rfl) (zPv_a rfl) rfl (fun C T N hh => by cases hh; rfl) ?_
  show zS _ _ _ _ _ _ [(t, .inr (1, [.int 0, .int 0, .int 0, .int 0, .ref q_1, .ref q_2, .null, .null, .null, .int 0, .int 0, .int 0])), (q_1, .inl (0, 64, .inl (fun _ => 0))), (q_2, .inl (0, 64, .inl (fun _ => 0)))]
  refine zs_aload_n dX2_init_20 rfl rfl ?_
  refine zs_bipush (v := 64) dX2_init_21 (by decide) ?_
  refine zs_newa_boolean (N := 64) dX2_init_23 (by decide) (by decide) (by decide) (by omega) (by omega) (fun q_3 => ?_)
  show zS _ _ _ _ _ _ [(t, .inr (1, [.int 0, .int 0, .int 0, .int 0, .ref q_1, .ref q_2, .null, .null, .null, .int 0, .int 0, .int 0])), (q_1, .inl (0, 64, .inl (fun _ => 0))), (q_2, .inl (0, 64, .inl (fun _ => 0))), (q_3, .inl (1, 64, .inl (fun _ => 0)))]
  refine zs_putF 0 dX2_init_25 zf_RX2_18 rfl (Nat.le_of_ble_eq_true rfl) (zPv_a rfl) rfl (fun C T N hh => by cases hh; rfl) ?_
  show zS _ _ _ _ _ _ [(t, .inr (1, [.int 0, .int 0, .int 0, .int 0, .ref q_1, .ref q_2, .ref q_3, .null, .null, .int 0, .int 0, .int 0])), (q_1, .inl (0, 64, .inl (fun _ => 0))), (q_2, .inl (0, 64, .inl (fun _ => 0))), (q_3, .inl (1, 64, .inl (fun _ => 0)))]
  refine zs_aload_n dX2_init_28 rfl rfl ?_
  refine zs_bipush (v := 64) dX2_init_29 (by decide) ?_
  refine zs_newa_int (N := 64) dX2_init_31 (by decide) (by decide) (by decide) (by omega) (by omega) (fun q_4 => ?_)
  show zS _ _ _ _ _ _ [(t, .inr (1, [.int 0, .int 0, .int 0, .int 0, .ref q_1, .ref q_2, .ref q_3, .null, .null, .int 0, .int 0, .int 0])), (q_1, .inl (0, 64, .inl (fun _ => 0))), (q_2, .inl (0, 64, .inl (fun _ => 0))), (q_3, .inl (1, 64, .inl (fun _ => 0))), (q_4, .inl (0, 64, .inl (fun _ => 0)))]
  refine zs_putF 0 dX2_init_33 zf_RX2_22 rfl (Nat.le_of_ble_eq_true rfl) (zPv_a rfl) rfl (fun C T N hh => by cases hh; rfl) ?_
  show zS _ _ _ _ _ _ [(t, .inr (1, [.int 0, .int 0, .int 0, .int 0, .ref q_1, .ref q_2, .ref q_3, .ref q_4, .null, .int 0, .int 0, .int 0])), (q_1, .inl (0, 64, .inl (fun _ => 0))), (q_2, .inl (0, 64, .inl (fun _ => 0))), (q_3, .inl (1, 64, .inl (fun _ => 0))), (q_4, .inl (0, 64, .inl (fun _ => 0)))]
  refine zs_aload_n dX2_init_36 rfl rfl ?_
  refine zs_bipush (v := 60) dX2_init_37 (by decide) ?_
  refine zs_newa_int (N := 60) dX2_init_39 (by decide) (by decide) (by decide) (by omega) (by omega) (fun q_5 => ?_)
  show zS _ _ _ _ _ _ [(t, .inr (1, [.int 0, .int 0, .int 0, .int 0, .ref q_1, .ref q_2, .ref q_3, .ref q_4, .null, .int 0, .int 0, .int 0])), (q_1, .inl (0, 64, .inl (fun _ => 0))), (q_2, .inl (0, 64, .inl (fun _ => 0))), (q_3, .inl (1, 64, .inl (fun _ => 0))), (q_4, .inl (0, 64, .inl (fun _ => 0))), (q_5, .inl (0, 60, .inl (fun _ => 0)))]
  refine zs_putF 0 dX2_init_41 zf_RX2_25 rfl (Nat.le_of_ble_eq_true rfl) (zPv_a rfl) rfl (fun C T N hh => by cases hh; rfl) ?_
  show zS _ _ _ _ _ _ [(t, .inr (1, [.int 0, .int 0, .int 0, .int 0, .ref q_1, .ref q_2, .ref q_3, .ref q_4, .ref q_5, .int 0, .int 0, .int 0])), (q_1, .inl (0, 64, .inl (fun _ => 0))), (q_2, .inl (0, 64, .inl (fun _ => 0))), (q_3, .inl (1, 64, .inl (fun _ => 0))), (q_4, .inl (0, 64, .inl (fun _ => 0))), (q_5, .inl (0, 60, .inl (fun _ => 0)))]
  refine zs_aload_n dX2_init_44 rfl rfl ?_
  refine zs_iconst (v := (-1)) dX2_init_45 (by decide) ?_
  refine zs_put 0 dX2_init_46 zf_RX2_28 rfl (Nat.le_of_ble_eq_true rfl) (zPv_i _) ?_
  show zS _ _ _ _ _ _ [(t, .inr (1, [.int 0, .int 0, .int 0, .int 0, .ref q_1, .ref q_2, .ref q_3, .ref q_4, .ref q_5, .int 0, .int 0, .int (-1)])), (q_1, .inl (0, 64, .inl (fun _ => 0))), (q_2, .inl (0, 64, .inl (fun _ => 0))), (q_3, .inl (1, 64, .inl (fun _ => 0))), (q_4, .inl (0, 64, .inl (fun _ => 0))), (q_5, .inl (0, 60, .inl (fun _ => 0)))]
  exact zs_vret dX2_init_49 rfl ⟨rfl, (fun j => [0, q_1, q_2, q_3, q_4, q_5].getD j 0), rfl⟩
theorem dX2_copy_0 : decode cX2_copy 0 = .ok (.aload_n 0, 1) := by decide +kernel
theorem dX2_copy_1 : decode cX2_copy 1 = .ok (.aload_n 1, 1) := by decide +kernel
theorem dX2_copy_2 : decode cX2_copy 2 = .ok (.getfield 37, 3) := by decide +kernel
theorem dX2_copy_5 : decode cX2_copy 5 = .ok (.putfield 37, 3) := by decide +kernel
theorem dX2_copy_8 : decode cX2_copy 8 = .ok (.aload_n 0, 1) := by decide +kernel
theorem dX2_copy_9 : decode cX2_copy 9 = .ok (.aload_n 1, 1) := by decide +kernel
theorem dX2_copy_10 : decode cX2_copy 10 = .ok (.getfield 41, 3) := by decide +kernel
theorem dX2_copy_13 : decode cX2_copy 13 = .ok (.putfield 41, 3) := by decide +kernel
theorem dX2_copy_16 : decode cX2_copy 16 = .ok (.aload_n 0, 1) := by decide +kernel
theorem dX2_copy_17 : decode cX2_copy 17 = .ok (.aload_n 1, 1) := by decide +kernel
theorem dX2_copy_18 : decode cX2_copy 18 = .ok (.getfield 42, 3) := by decide +kernel
theorem dX2_copy_21 : decode cX2_copy 21 = .ok (.putfield 42, 3) := by decide +kernel
theorem dX2_copy_24 : decode cX2_copy 24 = .ok (.aload_n 0, 1) := by decide +kernel
theorem dX2_copy_25 : decode cX2_copy 25 = .ok (.aload_n 1, 1) := by decide +kernel
theorem dX2_copy_26 : decode cX2_copy 26 = .ok (.getfield 48, 3) := by decide +kernel
theorem dX2_copy_29 : decode cX2_copy 29 = .ok (.putfield 48, 3) := by decide +kernel
theorem dX2_copy_32 : decode cX2_copy 32 = .ok (.iconst 0, 1) := by decide +kernel
theorem dX2_copy_33 : decode cX2_copy 33 = .ok (.istore_n 2, 1) := by decide +kernel
theorem dX2_copy_34 : decode cX2_copy 34 = .ok (.iload_n 2, 1) := by decide +kernel
theorem dX2_copy_35 : decode cX2_copy 35 = .ok (.aload_n 0, 1) := by decide +kernel
theorem dX2_copy_36 : decode cX2_copy 36 = .ok (.getfield 42, 3) := by decide +kernel
theorem dX2_copy_39 : decode cX2_copy 39 = .ok (.if_icmp .ge 45, 3) := by decide +kernel
theorem dX2_copy_42 : decode cX2_copy 42 = .ok (.aload_n 0, 1) := by decide +kernel
theorem dX2_copy_43 : decode cX2_copy 43 = .ok (.getfield 9, 3) := by decide +kernel
theorem dX2_copy_46 : decode cX2_copy 46 = .ok (.iload_n 2, 1) := by decide +kernel
theorem dX2_copy_47 : decode cX2_copy 47 = .ok (.aload_n 1, 1) := by decide +kernel
theorem dX2_copy_48 : decode cX2_copy 48 = .ok (.getfield 9, 3) := by decide +kernel
theorem dX2_copy_51 : decode cX2_copy 51 = .ok (.iload_n 2, 1) := by decide +kernel
theorem dX2_copy_52 : decode cX2_copy 52 = .ok (.iaload, 1) := by decide +kernel
theorem dX2_copy_53 : decode cX2_copy 53 = .ok (.iastore, 1) := by decide +kernel
theorem dX2_copy_54 : decode cX2_copy 54 = .ok (.aload_n 0, 1) := by decide +kernel
theorem dX2_copy_55 : decode cX2_copy 55 = .ok (.getfield 15, 3) := by decide +kernel
theorem dX2_copy_58 : decode cX2_copy 58 = .ok (.iload_n 2, 1) := by decide +kernel
theorem dX2_copy_59 : decode cX2_copy 59 = .ok (.aload_n 1, 1) := by decide +kernel
theorem dX2_copy_60 : decode cX2_copy 60 = .ok (.getfield 15, 3) := by decide +kernel
theorem dX2_copy_63 : decode cX2_copy 63 = .ok (.iload_n 2, 1) := by decide +kernel
theorem dX2_copy_64 : decode cX2_copy 64 = .ok (.iaload, 1) := by decide +kernel
theorem dX2_copy_65 : decode cX2_copy 65 = .ok (.iastore, 1) := by decide +kernel
theorem dX2_copy_66 : decode cX2_copy 66 = .ok (.aload_n 0, 1) := by decide +kernel
theorem dX2_copy_67 : decode cX2_copy 67 = .ok (.getfield 18, 3) := by decide +kernel
theorem dX2_copy_70 : decode cX2_copy 70 = .ok (.iload_n 2, 1) := by decide +kernel
theorem dX2_copy_71 : decode cX2_copy 71 = .ok (.aload_n 1, 1) := by decide +kernel
theorem dX2_copy_72 : decode cX2_copy 72 = .ok (.getfield 18, 3) := by decide +kernel
theorem dX2_copy_75 : decode cX2_copy 75 = .ok (.iload_n 2, 1) := by decide +kernel
theorem dX2_copy_76 : decode cX2_copy 76 = .ok (.baload, 1) := by decide +kernel
theorem dX2_copy_77 : decode cX2_copy 77 = .ok (.bastore, 1) := by decide +kernel
theorem dX2_copy_78 : decode cX2_copy 78 = .ok (.iinc 2 1, 3) := by decide +kernel
theorem dX2_copy_81 : decode cX2_copy 81 = .ok (.goto (-47), 3) := by decide +kernel
theorem dX2_copy_84 : decode cX2_copy 84 = .ok (.aload_n 0, 1) := by decide +kernel
theorem dX2_copy_85 : decode cX2_copy 85 = .ok (.aload_n 1, 1) := by decide +kernel
theorem dX2_copy_86 : decode cX2_copy 86 = .ok (.getfield 49, 3) := by decide +kernel
theorem dX2_copy_89 : decode cX2_copy 89 = .ok (.putfield 49, 3) := by decide +kernel
theorem dX2_copy_92 : decode cX2_copy 92 = .ok (.aload_n 0, 1) := by decide +kernel
theorem dX2_copy_93 : decode cX2_copy 93 = .ok (.aload_n 1, 1) := by decide +kernel
theorem dX2_copy_94 : decode cX2_copy 94 = .ok (.getfield 54, 3) := by decide +kernel
theorem dX2_copy_97 : decode cX2_copy 97 = .ok (.putfield 54, 3) := by decide +kernel
theorem dX2_copy_100 : decode cX2_copy 100 = .ok (.aload_n 0, 1) := by decide +kernel
theorem dX2_copy_101 : decode cX2_copy 101 = .ok (.aload_n 1, 1) := by decide +kernel
theorem dX2_copy_102 : decode cX2_copy 102 = .ok (.getfield 28, 3) := by decide +kernel
theorem dX2_copy_105 : decode cX2_copy 105 = .ok (.putfield 28, 3) := by decide +kernel
theorem dX2_copy_108 : decode cX2_copy 108 = .ok (.return_, 1) := by decide +kernel
set_option maxRecDepth 100000 in
theorem lp_copyF {l : Launch} {dd : Nat} {Po : zPo} {K0 : zK} {h0 : List va_E} {Xo : zK → Prop} {Gc : zG → Prop} (t o : Nat) (ad ao : Nat → Nat) (n : Nat) (sc so : Nat → Int32) (fu we bu he se gu xe cu ge te : Nat → Int32) (hn : n ≤ 64) (hsc : so 2 = nI n) (hb01 : ∀ j, j < n → cu j = 0 ∨ cu j = 1)
    (hk : zS (l, mX2_copy, dd, Po, K0, h0, Xo, Gc) 0 0 84 [(0, .ref t), (1, .ref o), (2, .int (nI n))] [] [(t, .inr (1, fFire ad (upd (upd (upd (upd sc 0 (so 0)) 1 (so 1)) 2 (so 2)) 3 (so 3)))), (ad 1, .inl (0, 64, .inl (pCl gu fu n))), (ad 2, .inl (0, 64, .inl (pCl xe we n))), (ad 3, .inl (1, 64, .inl (pCl cu bu n))), (ad 4, .inl (0, 64, .inl he)), (ad 5, .inl (0, 60, .inl se)), (o, .inr (1, fFire ao so)), (ao 1, .inl (0, 64, .inl gu)), (ao 2, .inl (0, 64, .inl xe)), (ao 3, .inl (1, 64, .inl cu)), (ao 4, .inl (0, 64, .inl ge)), (ao 5, .inl (0, 60, .inl te))]) :
    ∀ (m i : Nat) , i + m = n → zS (l, mX2_copy, dd, Po, K0, h0, Xo, Gc) 0 0 34 [(0, .ref t), (1, .ref o), (2, .int (nI i))] [] [(t, .inr (1, fFire ad (upd (upd (upd (upd sc 0 (so 0)) 1 (so 1)) 2 (so 2)) 3 (so 3)))), (ad 1, .inl (0, 64, .inl (pCl gu fu i))), (ad 2, .inl (0, 64, .inl (pCl xe we i))), (ad 3, .inl (1, 64, .inl (pCl cu bu i))), (ad 4, .inl (0, 64, .inl he)), (ad 5, .inl (0, 60, .inl se)), (o, .inr (1, fFire ao so)), (ao 1, .inl (0, 64, .inl gu)), (ao 2, .inl (0, 64, .inl xe)), (ao 3, .inl (1, 64, .inl cu)), (ao 4, .inl (0, 64, .inl ge)), (ao 5, .inl (0, 60, .inl te))] := by
  intro m
  induction m with
  | zero =>
    intro i hi
    have hin : i = n := by omega
    subst hin
    refine zs_iload_n dX2_copy_34 rfl ?_
    refine zs_aload_n dX2_copy_35 rfl rfl ?_
    refine zs_get 0 dX2_copy_36 zf_RX2_42 rfl (v := .int (so 2)) rfl ?_
    refine zs_icmp_ge (tgt := 84) dX2_copy_39 (by decide) (fun c_1 => ?_) (fun c_1 => (c_1 (by show so 2 ≤ _; rw [hsc]; exact Int32.le_refl _) : False).elim)
    exact hk
  | succ m ih =>
    intro i hi
    have hil : i < n := by omega
    refine zs_iload_n dX2_copy_34 rfl ?_
    refine zs_aload_n dX2_copy_35 rfl rfl ?_
    refine zs_get 0 dX2_copy_36 zf_RX2_42 rfl (v := .int (so 2)) rfl ?_
    refine zs_icmp_ge (tgt := 84) dX2_copy_39 (by decide) (fun c_1 => (nI_ge hil (by omega) (hsc ▸ c_1) : False).elim) (fun c_1 => ?_)
    refine zs_aload_n dX2_copy_42 rfl rfl ?_
    refine zs_get 0 dX2_copy_43 zf_RX2_9 rfl (v := .ref (ad 1)) rfl ?_
    refine zs_iload_n dX2_copy_46 rfl ?_
    refine zs_aload_n dX2_copy_47 rfl rfl ?_
    refine zs_get 6 dX2_copy_48 zf_RX2_9 rfl (v := .ref (ao 1)) rfl ?_
    refine zs_iload_n dX2_copy_51 rfl ?_
    refine zs_iald 7 dX2_copy_52 rfl (vp_in_nI (by omega) (by omega)) ?_
    refine zs_as (y := gu i) (by rw [nI_c (n := i) (by omega)]) ?_
    refine zs_iast 1 dX2_copy_53 rfl (vp_in_nI (by omega) (by omega)) ?_
    rw [nI_c (n := i) (by omega)]
    rw [pCl_u (new := gu) (old := fu) (k := i) rfl]
    show zS _ _ _ _ _ _ [(t, .inr (1, fFire ad (upd (upd (upd (upd sc 0 (so 0)) 1 (so 1)) 2 (so 2)) 3 (so 3)))), (ad 1, .inl (0, 64, .inl (pCl gu fu (i + 1)))), (ad 2, .inl (0, 64, .inl (pCl xe we i))), (ad 3, .inl (1, 64, .inl (pCl cu bu i))), (ad 4, .inl (0, 64, .inl he)), (ad 5, .inl (0, 60, .inl se)), (o, .inr (1, fFire ao so)), (ao 1, .inl (0, 64, .inl gu)), (ao 2, .inl (0, 64, .inl xe)), (ao 3, .inl (1, 64, .inl cu)), (ao 4, .inl (0, 64, .inl ge)), (ao 5, .inl (0, 60, .inl te))]
    refine zs_aload_n dX2_copy_54 rfl rfl ?_
    refine zs_get 0 dX2_copy_55 zf_RX2_15 rfl (v := .ref (ad 2)) rfl ?_
    refine zs_iload_n dX2_copy_58 rfl ?_
    refine zs_aload_n dX2_copy_59 rfl rfl ?_
    refine zs_get 6 dX2_copy_60 zf_RX2_15 rfl (v := .ref (ao 2)) rfl ?_
    refine zs_iload_n dX2_copy_63 rfl ?_
    refine zs_iald 8 dX2_copy_64 rfl (vp_in_nI (by omega) (by omega)) ?_
    refine zs_as (y := xe i) (by rw [nI_c (n := i) (by omega)]) ?_
    refine zs_iast 2 dX2_copy_65 rfl (vp_in_nI (by omega) (by omega)) ?_
    rw [nI_c (n := i) (by omega)]
    rw [pCl_u (new := xe) (old := we) (k := i) rfl]
    show zS _ _ _ _ _ _ [(t, .inr (1, fFire ad (upd (upd (upd (upd sc 0 (so 0)) 1 (so 1)) 2 (so 2)) 3 (so 3)))), (ad 1, .inl (0, 64, .inl (pCl gu fu (i + 1)))), (ad 2, .inl (0, 64, .inl (pCl xe we (i + 1)))), (ad 3, .inl (1, 64, .inl (pCl cu bu i))), (ad 4, .inl (0, 64, .inl he)), (ad 5, .inl (0, 60, .inl se)), (o, .inr (1, fFire ao so)), (ao 1, .inl (0, 64, .inl gu)), (ao 2, .inl (0, 64, .inl xe)), (ao 3, .inl (1, 64, .inl cu)), (ao 4, .inl (0, 64, .inl ge)), (ao 5, .inl (0, 60, .inl te))]
    refine zs_aload_n dX2_copy_66 rfl rfl ?_
    refine zs_get 0 dX2_copy_67 zf_RX2_18 rfl (v := .ref (ad 3)) rfl ?_
    refine zs_iload_n dX2_copy_70 rfl ?_
    refine zs_aload_n dX2_copy_71 rfl rfl ?_
    refine zs_get 6 dX2_copy_72 zf_RX2_18 rfl (v := .ref (ao 3)) rfl ?_
    refine zs_iload_n dX2_copy_75 rfl ?_
    refine zs_zald 9 dX2_copy_76 rfl (vp_in_nI (by omega) (by omega)) ?_
    refine zs_as (y := cu i) (by rw [nI_c (n := i) (by omega)]) ?_
    refine zs_zast 3 dX2_copy_77 rfl (vp_in_nI (by omega) (by omega)) (hb01 i hil) ?_
    rw [nI_c (n := i) (by omega)]
    rw [pCl_u (new := cu) (old := bu) (k := i) rfl]
    show zS _ _ _ _ _ _ [(t, .inr (1, fFire ad (upd (upd (upd (upd sc 0 (so 0)) 1 (so 1)) 2 (so 2)) 3 (so 3)))), (ad 1, .inl (0, 64, .inl (pCl gu fu (i + 1)))), (ad 2, .inl (0, 64, .inl (pCl xe we (i + 1)))), (ad 3, .inl (1, 64, .inl (pCl cu bu (i + 1)))), (ad 4, .inl (0, 64, .inl he)), (ad 5, .inl (0, 60, .inl se)), (o, .inr (1, fFire ao so)), (ao 1, .inl (0, 64, .inl gu)), (ao 2, .inl (0, 64, .inl xe)), (ao 3, .inl (1, 64, .inl cu)), (ao 4, .inl (0, 64, .inl ge)), (ao 5, .inl (0, 60, .inl te))]
    refine zs_iinc (v := (nI (i + 1))) (lv' := [(2, .int (nI (i + 1))), (0, .ref t), (1, .ref o)]) dX2_copy_78 rfl (nI_s1 i) (Nat.le_of_ble_eq_true rfl) rfl ?_
    refine zs_goto (tgt := 34) dX2_copy_81 (by decide) ?_
    refine zs_lv [1, 2, 0] rfl ?_
    exact ih (i + 1) (by omega)
set_option maxRecDepth 100000 in
theorem s_copyF (l : Launch) (dd : Nat) (t o : Nat) (ad ao : Nat → Nat) (n : Nat) (sc so : Nat → Int32) (fu we bu he se gu xe cu ge te : Nat → Int32) (hn : n ≤ 64) (hsc : so 2 = nI n) (hb01 : ∀ j, j < n → cu j = 0 ∨ cu j = 1) : zSp l mX2_copy dd 0 0 [.ref t, .ref o] [(t, .inr (1, fFire ad sc)), (ad 1, .inl (0, 64, .inl fu)), (ad 2, .inl (0, 64, .inl we)), (ad 3, .inl (1, 64, .inl bu)), (ad 4, .inl (0, 64, .inl he)), (ad 5, .inl (0, 60, .inl se)), (o, .inr (1, fFire ao so)), (ao 1, .inl (0, 64, .inl gu)), (ao 2, .inl (0, 64, .inl xe)), (ao 3, .inl (1, 64, .inl cu)), (ao 4, .inl (0, 64, .inl ge)), (ao 5, .inl (0, 60, .inl te))] (fun r K' => r = none ∧ K' = kFire t ad (upd (upd (upd (upd (upd (upd (upd sc 0 (so 0)) 1 (so 1)) 2 (so 2)) 3 (so 3)) 9 (so 9)) 10 (so 10)) 11 (so 11)) (pCl gu fu n) (pCl xe we n) (pCl cu bu n) he se ++ kFire o ao so gu xe cu ge te) := by
  refine zSp.of (by decide) (Nat.le_of_ble_eq_true rfl) (fun h0 => ?_)
  show zS _ 0 0 0 [(0, .ref t), (1, .ref o)] [] [(t, .inr (1, fFire ad sc)), (ad 1, .inl (0, 64, .inl fu)), (ad 2, .inl (0, 64, .inl we)), (ad 3, .inl (1, 64, .inl bu)), (ad 4, .inl (0, 64, .inl he)), (ad 5, .inl (0, 60, .inl se)), (o, .inr (1, fFire ao so)), (ao 1, .inl (0, 64, .inl gu)), (ao 2, .inl (0, 64, .inl xe)), (ao 3, .inl (1, 64, .inl cu)), (ao 4, .inl (0, 64, .inl ge)), (ao 5, .inl (0, 60, .inl te))]
  refine zs_aload_n dX2_copy_0 rfl rfl ?_
  refine zs_aload_n dX2_copy_1 rfl rfl ?_
  refine zs_get 6 dX2_copy_2 zf_RX2_37 rfl (v := .int (so 0)) rfl ?_
  refine zs_put 0 dX2_copy_5 zf_RX2_37 rfl (Nat.le_of_ble_eq_true rfl) (zPv_i _) ?_
  show zS _ _ _ _ _ _ [(t, .inr (1, fFire ad (upd sc 0 (so 0)))), (ad 1, .inl (0, 64, .inl fu)), (ad 2, .inl (0, 64, .inl we)), (ad 3, .inl (1, 64, .inl bu)), (ad 4, .inl (0, 64, .inl he)), (ad 5, .inl (0, 60, .inl se)), (o, .inr (1, fFire ao so)), (ao 1, .inl (0, 64, .inl gu)), (ao 2, .inl (0, 64, .inl xe)), (ao 3, .inl (1, 64, .inl cu)), (ao 4, .inl (0, 64, .inl ge)), (ao 5, .inl (0, 60, .inl te))]
  refine zs_aload_n dX2_copy_8 rfl rfl ?_
  refine zs_aload_n dX2_copy_9 rfl rfl ?_
  refine zs_get 6 dX2_copy_10 zf_RX2_41 rfl (v := .int (so 1)) rfl ?_
  refine zs_put 0 dX2_copy_13 zf_RX2_41 rfl (Nat.le_of_ble_eq_true rfl) (zPv_i _) ?_
  show zS _ _ _ _ _ _ [(t, .inr (1, fFire ad (upd (upd sc 0 (so 0)) 1 (so 1)))), (ad 1, .inl (0, 64, .inl fu)), (ad 2, .inl (0, 64, .inl we)), (ad 3, .inl (1, 64, .inl bu)), (ad 4, .inl (0, 64, .inl he)), (ad 5, .inl (0, 60, .inl se)), (o, .inr (1, fFire ao so)), (ao 1, .inl (0, 64, .inl gu)), (ao 2, .inl (0, 64, .inl xe)), (ao 3, .inl (1, 64, .inl cu)), (ao 4, .inl (0, 64, .inl ge)), (ao 5, .inl (0, 60, .inl te))]
  refine zs_aload_n dX2_copy_16 rfl rfl ?_
  refine zs_aload_n dX2_copy_17 rfl rfl ?_
  refine zs_get 6 dX2_copy_18 zf_RX2_42 rfl (v := .int (so 2)) rfl ?_
  refine zs_put 0 dX2_copy_21 zf_RX2_42 rfl (Nat.le_of_ble_eq_true rfl) (zPv_i _) ?_
  show zS _ _ _ _ _ _ [(t, .inr (1, fFire ad (upd (upd (upd sc 0 (so 0)) 1 (so 1)) 2 (so 2)))), (ad 1, .inl (0, 64, .inl fu)), (ad 2, .inl (0, 64, .inl we)), (ad 3, .inl (1, 64, .inl bu)), (ad 4, .inl (0, 64, .inl he)), (ad 5, .inl (0, 60, .inl se)), (o, .inr (1, fFire ao so)), (ao 1, .inl (0, 64, .inl gu)), (ao 2, .inl (0, 64, .inl xe)), (ao 3, .inl (1, 64, .inl cu)), (ao 4, .inl (0, 64, .inl ge)), (ao 5, .inl (0, 60, .inl te))]
  refine zs_aload_n dX2_copy_24 rfl rfl ?_
  refine zs_aload_n dX2_copy_25 rfl rfl ?_
  refine zs_get 6 dX2_copy_26 zf_RX2_48 rfl (v := .int (so 3)) rfl ?_
  refine zs_put 0 dX2_copy_29 zf_RX2_48 rfl (Nat.le_of_ble_eq_true rfl) (zPv_i _) ?_
  show zS _ _ _ _ _ _ [(t, .inr (1, fFire ad (upd (upd (upd (upd sc 0 (so 0)) 1 (so 1)) 2 (so 2)) 3 (so 3)))), (ad 1, .inl (0, 64, .inl fu)), (ad 2, .inl (0, 64, .inl we)), (ad 3, .inl (1, 64, .inl bu)), (ad 4, .inl (0, 64, .inl he)), (ad 5, .inl (0, 60, .inl se)), (o, .inr (1, fFire ao so)), (ao 1, .inl (0, 64, .inl gu)), (ao 2, .inl (0, 64, .inl xe)), (ao 3, .inl (1, 64, .inl cu)), (ao 4, .inl (0, 64, .inl ge)), (ao 5, .inl (0, 60, .inl te))]
  refine zs_iconst (v := 0) dX2_copy_32 (by decide) ?_
  refine zs_istore_n (lv' := [(2, .int 0), (0, .ref t), (1, .ref o)]) dX2_copy_33 (Nat.le_of_ble_eq_true rfl) rfl ?_
  refine zs_lv [1, 2, 0] rfl ?_
  refine zs_eq (K' := [(t, .inr (1, fFire ad (upd (upd (upd (upd sc 0 (so 0)) 1 (so 1)) 2 (so 2)) 3 (so 3)))), (ad 1, .inl (0, 64, .inl (pCl gu fu 0))), (ad 2, .inl (0, 64, .inl (pCl xe we 0))), (ad 3, .inl (1, 64, .inl (pCl cu bu 0))), (ad 4, .inl (0, 64, .inl he)), (ad 5, .inl (0, 60, .inl se)), (o, .inr (1, fFire ao so)), (ao 1, .inl (0, 64, .inl gu)), (ao 2, .inl (0, 64, .inl xe)), (ao 3, .inl (1, 64, .inl cu)), (ao 4, .inl (0, 64, .inl ge)), (ao 5, .inl (0, 60, .inl te))]) (by simp only [pCl_0]) ?_
  refine lp_copyF t o ad ao n sc so fu we bu he se gu xe cu ge te hn hsc hb01 ?_ n 0 (by omega)
  refine zs_aload_n dX2_copy_84 rfl rfl ?_
  refine zs_aload_n dX2_copy_85 rfl rfl ?_
  refine zs_get 6 dX2_copy_86 zf_RX2_49 rfl (v := .int (so 9)) rfl ?_
  refine zs_put 0 dX2_copy_89 zf_RX2_49 rfl (Nat.le_of_ble_eq_true rfl) (zPv_i _) ?_
  show zS _ _ _ _ _ _ [(t, .inr (1, fFire ad (upd (upd (upd (upd (upd sc 0 (so 0)) 1 (so 1)) 2 (so 2)) 3 (so 3)) 9 (so 9)))), (ad 1, .inl (0, 64, .inl (pCl gu fu n))), (ad 2, .inl (0, 64, .inl (pCl xe we n))), (ad 3, .inl (1, 64, .inl (pCl cu bu n))), (ad 4, .inl (0, 64, .inl he)), (ad 5, .inl (0, 60, .inl se)), (o, .inr (1, fFire ao so)), (ao 1, .inl (0, 64, .inl gu)), (ao 2, .inl (0, 64, .inl xe)), (ao 3, .inl (1, 64, .inl cu)), (ao 4, .inl (0, 64, .inl ge)), (ao 5, .inl (0, 60, .inl te))]
  refine zs_aload_n dX2_copy_92 rfl rfl ?_
  refine zs_aload_n dX2_copy_93 rfl rfl ?_
  refine zs_get 6 dX2_copy_94 zf_RX2_54 rfl (v := .int (so 10)) rfl ?_
  refine zs_put 0 dX2_copy_97 zf_RX2_54 rfl (Nat.le_of_ble_eq_true rfl) (zPv_i _) ?_
  show zS _ _ _ _ _ _ [(t, .inr (1, fFire ad (upd (upd (upd (upd (upd (upd sc 0 (so 0)) 1 (so 1)) 2 (so 2)) 3 (so 3)) 9 (so 9)) 10 (so 10)))), (ad 1, .inl (0, 64, .inl (pCl gu fu n))), (ad 2, .inl (0, 64, .inl (pCl xe we n))), (ad 3, .inl (1, 64, .inl (pCl cu bu n))), (ad 4, .inl (0, 64, .inl he)), (ad 5, .inl (0, 60, .inl se)), (o, .inr (1, fFire ao so)), (ao 1, .inl (0, 64, .inl gu)), (ao 2, .inl (0, 64, .inl xe)), (ao 3, .inl (1, 64, .inl cu)), (ao 4, .inl (0, 64, .inl ge)), (ao 5, .inl (0, 60, .inl te))]
  refine zs_aload_n dX2_copy_100 rfl rfl ?_
  refine zs_aload_n dX2_copy_101 rfl rfl ?_
  refine zs_get 6 dX2_copy_102 zf_RX2_28 rfl (v := .int (so 11)) rfl ?_
  refine zs_put 0 dX2_copy_105 zf_RX2_28 rfl (Nat.le_of_ble_eq_true rfl) (zPv_i _) ?_
  show zS _ _ _ _ _ _ [(t, .inr (1, fFire ad (upd (upd (upd (upd (upd (upd (upd sc 0 (so 0)) 1 (so 1)) 2 (so 2)) 3 (so 3)) 9 (so 9)) 10 (so 10)) 11 (so 11)))), (ad 1, .inl (0, 64, .inl (pCl gu fu n))), (ad 2, .inl (0, 64, .inl (pCl xe we n))), (ad 3, .inl (1, 64, .inl (pCl cu bu n))), (ad 4, .inl (0, 64, .inl he)), (ad 5, .inl (0, 60, .inl se)), (o, .inr (1, fFire ao so)), (ao 1, .inl (0, 64, .inl gu)), (ao 2, .inl (0, 64, .inl xe)), (ao 3, .inl (1, 64, .inl cu)), (ao 4, .inl (0, 64, .inl ge)), (ao 5, .inl (0, 60, .inl te))]
  exact zs_vret dX2_copy_108 rfl ⟨rfl, rfl⟩
