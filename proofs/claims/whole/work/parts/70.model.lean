/-! ===== the reference: its tape ===== -/
/-- the reference's own object -/
def fMo (e : Nat → Nat) (g : Nat → Int32) (w : Int64) : List Value := (.int (g 0) :: .ref (e 1) :: .int (g 2) :: .int (g 3) :: .int (g 4) :: .int (g 5) :: .int (g 6) :: .int (g 7) :: .int (g 8) :: .int (g 9) :: .int (g 10) :: .int (g 11) :: .long w :: .int (g 13) :: .ref (e 14) :: .ref (e 15) :: .ref (e 16) :: .ref (e 17) :: .ref (e 18) :: .ref (e 19) :: .ref (e 20) :: .ref (e 21) :: .int (g 22) :: .int (g 23) :: .ref (e 24) :: .ref (e 25) :: .ref (e 26) :: .ref (e 27) :: .ref (e 28) :: .ref (e 29) :: .ref (e 30) :: .ref (e 31) :: .ref (e 32) :: .int (g 33) :: .int (g 34) :: .int (g 35) :: .int (g 36) :: .int (g 37) :: .int (g 38) :: .int (g 39) :: .int (g 40) :: .int (g 41) :: .int (g 42) :: .ref (e 43) :: .ref (e 44) :: .int (g 45) :: .ref (e 46) :: .ref (e 47) :: .ref (e 48) :: .ref (e 49) :: .int (g 50) :: .int (g 51) :: .int (g 52) :: .ref (e 53) :: .ref (e 54) :: .int (g 55) :: .ref (e 56) :: .ref (e 57) :: .ref (e 58) :: .ref (e 59) :: .ref (e 60) :: .int (g 61) :: .int (g 62) :: .int (g 63) :: .ref (e 64) :: .ref (e 65) :: .ref (e 66) :: .ref (e 67) :: .ref (e 68) :: .ref (e 69) :: .int (g 70) :: .int (g 71) :: .ref (e 72) :: .int (g 73) :: .int (g 74) :: .int (g 75) :: .int (g 76) :: .ref (e 77) :: .ref (e 78) :: .ref (e 79) :: .ref (e 80) :: .int (g 81) :: .int (g 82) :: .int (g 83) :: .int (g 84) :: .ref (e 85) :: .ref (e 86) :: .int (g 87) :: .int (g 88) :: .int (g 89) :: .int (g 90) :: [])
theorem dX13_thrown_0 : decode cX13_thrown 0 = .ok (.aload_n 0, 1) := by decide +kernel
theorem dX13_thrown_1 : decode cX13_thrown 1 = .ok (.getfield 148, 3) := by decide +kernel
theorem dX13_thrown_4 : decode cX13_thrown 4 = .ok (.ireturn, 1) := by decide +kernel
theorem dX13_take_0 : decode cX13_take 0 = .ok (.aload_n 0, 1) := by decide +kernel
theorem dX13_take_1 : decode cX13_take 1 = .ok (.getfield 151, 3) := by decide +kernel
theorem dX13_take_4 : decode cX13_take 4 = .ok (.istore_n 1, 1) := by decide +kernel
theorem dX13_take_5 : decode cX13_take 5 = .ok (.aload_n 0, 1) := by decide +kernel
theorem dX13_take_6 : decode cX13_take 6 = .ok (.iconst 0, 1) := by decide +kernel
theorem dX13_take_7 : decode cX13_take 7 = .ok (.putfield 151, 3) := by decide +kernel
theorem dX13_take_10 : decode cX13_take 10 = .ok (.iload_n 1, 1) := by decide +kernel
theorem dX13_take_11 : decode cX13_take 11 = .ok (.ireturn, 1) := by decide +kernel
theorem dX13_refuse_0 : decode cX13_refuse 0 = .ok (.aload_n 0, 1) := by decide +kernel
theorem dX13_refuse_1 : decode cX13_refuse 1 = .ok (.iconst 1, 1) := by decide +kernel
theorem dX13_refuse_2 : decode cX13_refuse 2 = .ok (.putfield 148, 3) := by decide +kernel
theorem dX13_refuse_5 : decode cX13_refuse 5 = .ok (.iconst 0, 1) := by decide +kernel
theorem dX13_refuse_6 : decode cX13_refuse 6 = .ok (.ireturn, 1) := by decide +kernel
set_option maxRecDepth 100000 in
theorem s_mThrown (l : Launch) (dd : Nat) (mo : Nat) (e : Nat → Nat) (g : Nat → Int32) (w : Int64)  : zSp l mX13_thrown dd 0 0 [.ref mo] [(mo, .inr (11, fMo e g w))] (fun r K' => r = some (.int (g 0)) ∧ K' = [(mo, .inr (11, fMo e g w))]) := by
  refine zSp.of (by decide) (Nat.le_of_ble_eq_true rfl) (fun h0 => ?_)
  show zS _ 0 0 0 [(0, .ref mo)] [] [(mo, .inr (11, fMo e g w))]
  refine zs_aload_n dX13_thrown_0 rfl rfl ?_
  refine zs_get 0 dX13_thrown_1 zf_RX13_148 rfl (v := .int (g 0)) rfl ?_
  exact zs_iret dX13_thrown_4 rfl ⟨rfl, rfl⟩
set_option maxRecDepth 100000 in
theorem s_mRefuse (l : Launch) (dd : Nat) (mo : Nat) (e : Nat → Nat) (g : Nat → Int32) (w : Int64)  : zSp l mX13_refuse dd 0 0 [.ref mo] [(mo, .inr (11, fMo e g w))] (fun r K' => r = some (.int 0) ∧ K' = [(mo, .inr (11, fMo e (upd g 0 (nI 1)) w))]) := by
  refine zSp.of (by decide) (Nat.le_of_ble_eq_true rfl) (fun h0 => ?_)
  show zS _ 0 0 0 [(0, .ref mo)] [] [(mo, .inr (11, fMo e g w))]
  refine zs_aload_n dX13_refuse_0 rfl rfl ?_
  refine zs_iconst (v := nI 1) dX13_refuse_1 (by decide) ?_
  refine zs_put 0 dX13_refuse_2 zf_RX13_148 rfl (Nat.le_of_ble_eq_true rfl) (zPv_i _) ?_
  show zS _ _ _ _ _ _ [(mo, .inr (11, fMo e (upd g 0 (nI 1)) w))]
  refine zs_iconst (v := nI 0) dX13_refuse_5 (by decide) ?_
  exact zs_iret dX13_refuse_6 rfl ⟨rfl, rfl⟩
set_option maxRecDepth 100000 in
theorem s_mTake (l : Launch) (dd : Nat) (mo : Nat) (e : Nat → Nat) (g : Nat → Int32) (w : Int64)  : zSp l mX13_take dd 0 0 [.ref mo] [(mo, .inr (11, fMo e g w))] (fun r K' => r = some (.int (g 2)) ∧ K' = [(mo, .inr (11, fMo e (upd g 2 (nI 0)) w))]) := by
  refine zSp.of (by decide) (Nat.le_of_ble_eq_true rfl) (fun h0 => ?_)
  show zS _ 0 0 0 [(0, .ref mo)] [] [(mo, .inr (11, fMo e g w))]
  refine zs_aload_n dX13_take_0 rfl rfl ?_
  refine zs_get 0 dX13_take_1 zf_RX13_151 rfl (v := .int (g 2)) rfl ?_
  refine zs_istore_n (lv' := [(1, .int (g 2)), (0, .ref mo)]) dX13_take_4 (Nat.le_of_ble_eq_true rfl) rfl ?_
  refine zs_aload_n dX13_take_5 rfl rfl ?_
  refine zs_iconst (v := nI 0) dX13_take_6 (by decide) ?_
  refine zs_put 0 dX13_take_7 zf_RX13_151 rfl (Nat.le_of_ble_eq_true rfl) (zPv_i _) ?_
  show zS _ _ _ _ _ _ [(mo, .inr (11, fMo e (upd g 2 (nI 0)) w))]
  refine zs_iload_n dX13_take_10 rfl ?_
  exact zs_iret dX13_take_11 rfl ⟨rfl, rfl⟩
theorem dX13_come_0 : decode cX13_come 0 = .ok (.bipush 24, 2) := by decide +kernel
theorem dX13_come_2 : decode cX13_come 2 = .ok (.istore_n 2, 1) := by decide +kernel
theorem dX13_come_3 : decode cX13_come 3 = .ok (.iload_n 2, 1) := by decide +kernel
theorem dX13_come_4 : decode cX13_come 4 = .ok (.ifCond .lt 35, 3) := by decide +kernel
theorem dX13_come_7 : decode cX13_come 7 = .ok (.aload_n 0, 1) := by decide +kernel
theorem dX13_come_8 : decode cX13_come 8 = .ok (.getfield 7, 3) := by decide +kernel
theorem dX13_come_11 : decode cX13_come 11 = .ok (.aload_n 0, 1) := by decide +kernel
theorem dX13_come_12 : decode cX13_come 12 = .ok (.getfield 151, 3) := by decide +kernel
theorem dX13_come_15 : decode cX13_come 15 = .ok (.iload_n 1, 1) := by decide +kernel
theorem dX13_come_16 : decode cX13_come 16 = .ok (.iload_n 2, 1) := by decide +kernel
theorem dX13_come_17 : decode cX13_come 17 = .ok (.iushr, 1) := by decide +kernel
theorem dX13_come_18 : decode cX13_come 18 = .ok (.sipush 255, 3) := by decide +kernel
theorem dX13_come_21 : decode cX13_come 21 = .ok (.iand, 1) := by decide +kernel
theorem dX13_come_22 : decode cX13_come 22 = .ok (.iastore, 1) := by decide +kernel
theorem dX13_come_23 : decode cX13_come 23 = .ok (.aload_n 0, 1) := by decide +kernel
theorem dX13_come_24 : decode cX13_come 24 = .ok (.dup, 1) := by decide +kernel
theorem dX13_come_25 : decode cX13_come 25 = .ok (.getfield 151, 3) := by decide +kernel
theorem dX13_come_28 : decode cX13_come 28 = .ok (.iconst 1, 1) := by decide +kernel
theorem dX13_come_29 : decode cX13_come 29 = .ok (.iadd, 1) := by decide +kernel
theorem dX13_come_30 : decode cX13_come 30 = .ok (.putfield 151, 3) := by decide +kernel
theorem dX13_come_33 : decode cX13_come 33 = .ok (.iinc 2 (-8), 3) := by decide +kernel
theorem dX13_come_36 : decode cX13_come 36 = .ok (.goto (-33), 3) := by decide +kernel
theorem dX13_come_39 : decode cX13_come 39 = .ok (.return_, 1) := by decide +kernel
set_option maxRecDepth 100000 in
theorem s_mCome (l : Launch) (dd : Nat) (mo : Nat) (e : Nat → Nat) (g : Nat → Int32) (w : Int64) (n : Nat) (bt : Nat → Nat) (x : Int32) (h4 : n + 4 ≤ 740) : zSp l mX13_come dd 0 0 [.ref mo, .int x] [(mo, .inr (11, fMo e (upd g 2 (nI n)) w)), ((e 1), .inl (0, 740, .inl (nF bt)))] (fun r K' => r = none ∧ K' = [(mo, .inr (11, fMo e (upd g 2 (nI (n + 4))) w))] ++ [((e 1), .inl (0, 740, .inl (nF (bPut bt n x))))]) := by
  refine zSp.of (by decide) (Nat.le_of_ble_eq_true rfl) (fun h0 => ?_)
  show zS _ 0 0 0 [(0, .ref mo), (1, .int x)] [] [(mo, .inr (11, fMo e (upd g 2 (nI n)) w)), ((e 1), .inl (0, 740, .inl (nF bt)))]
  refine zs_bipush (v := nI 24) dX13_come_0 (by decide) ?_
  refine zs_istore_n (lv' := [(2, .int (nI 24)), (0, .ref mo), (1, .int x)]) dX13_come_2 (Nat.le_of_ble_eq_true rfl) rfl ?_
  refine zs_iload_n dX13_come_3 rfl ?_
  refine zs_if_lt (tgt := 39) dX13_come_4 (by decide) (fun c_1 => (by first | exact absurd c_1 (by decide) | exact absurd (by decide) c_1 : False).elim) (fun c_1 => ?_)
  refine zs_aload_n dX13_come_7 rfl rfl ?_
  refine zs_get 0 dX13_come_8 zf_RX13_7 rfl (v := .ref (e 1)) rfl ?_
  refine zs_aload_n dX13_come_11 rfl rfl ?_
  refine zs_get 0 dX13_come_12 zf_RX13_151 rfl (v := .int (nI n)) rfl ?_
  refine zs_iload_n dX13_come_15 rfl ?_
  refine zs_iload_n dX13_come_16 rfl ?_
  refine zs_iushr (v := (x.toUInt32 >>> ((nI 24).toUInt32 &&& Int32.toUInt32 31)).toInt32) dX13_come_17 rfl ?_
  refine zs_sipush (v := nI 255) dX13_come_18 (by decide) ?_
  refine zs_iand dX13_come_21 ?_
  refine zs_as (y := nI (bY x 24)) (bY_n x 24) ?_
  refine zs_iast 1 dX13_come_22 rfl (vp_in_nI (by omega) (by omega)) ?_
  rw [nI_c (n := n) (by omega), nF_u]
  show zS _ _ _ _ _ _ [(mo, .inr (11, fMo e (upd g 2 (nI n)) w)), ((e 1), .inl (0, 740, .inl (nF (un bt n (bY x 24)))))]
  refine zs_aload_n dX13_come_23 rfl rfl ?_
  refine zs_dup dX13_come_24 rfl ?_
  refine zs_get 0 dX13_come_25 zf_RX13_151 rfl (v := .int (nI n)) rfl ?_
  refine zs_iconst (v := nI 1) dX13_come_28 (by decide) ?_
  refine zs_iadd dX13_come_29 ?_
  refine zs_as (y := nI (n + 1)) (nI_add _ _) ?_
  refine zs_put 0 dX13_come_30 zf_RX13_151 rfl (Nat.le_of_ble_eq_true rfl) (zPv_i _) ?_
  show zS _ _ _ _ _ _ [(mo, .inr (11, fMo e (upd g 2 (nI (n + 1))) w)), ((e 1), .inl (0, 740, .inl (nF (un bt n (bY x 24)))))]
  refine zs_iinc (v := (nI 16)) (lv' := [(2, .int (nI 16)), (0, .ref mo), (1, .int x)]) dX13_come_33 rfl (by decide) (Nat.le_of_ble_eq_true rfl) rfl ?_
  refine zs_goto (tgt := 3) dX13_come_36 (by decide) ?_
  refine zs_iload_n dX13_come_3 rfl ?_
  refine zs_if_lt (tgt := 39) dX13_come_4 (by decide) (fun c_2 => (by first | exact absurd c_2 (by decide) | exact absurd (by decide) c_2 : False).elim) (fun c_2 => ?_)
  refine zs_aload_n dX13_come_7 rfl rfl ?_
  refine zs_get 0 dX13_come_8 zf_RX13_7 rfl (v := .ref (e 1)) rfl ?_
  refine zs_aload_n dX13_come_11 rfl rfl ?_
  refine zs_get 0 dX13_come_12 zf_RX13_151 rfl (v := .int (nI (n + 1))) rfl ?_
  refine zs_iload_n dX13_come_15 rfl ?_
  refine zs_iload_n dX13_come_16 rfl ?_
  refine zs_iushr (v := (x.toUInt32 >>> ((nI 16).toUInt32 &&& Int32.toUInt32 31)).toInt32) dX13_come_17 rfl ?_
  refine zs_sipush (v := nI 255) dX13_come_18 (by decide) ?_
  refine zs_iand dX13_come_21 ?_
  refine zs_as (y := nI (bY x 16)) (bY_n x 16) ?_
  refine zs_iast 1 dX13_come_22 rfl (vp_in_nI (by omega) (by omega)) ?_
  rw [nI_c (n := n + 1) (by omega), nF_u]
  show zS _ _ _ _ _ _ [(mo, .inr (11, fMo e (upd g 2 (nI (n + 1))) w)), ((e 1), .inl (0, 740, .inl (nF (un (un bt n (bY x 24)) (n + 1) (bY x 16)))))]
  refine zs_aload_n dX13_come_23 rfl rfl ?_
  refine zs_dup dX13_come_24 rfl ?_
  refine zs_get 0 dX13_come_25 zf_RX13_151 rfl (v := .int (nI (n + 1))) rfl ?_
  refine zs_iconst (v := nI 1) dX13_come_28 (by decide) ?_
  refine zs_iadd dX13_come_29 ?_
  refine zs_as (y := nI ((n + 1) + 1)) (nI_add _ _) ?_
  refine zs_put 0 dX13_come_30 zf_RX13_151 rfl (Nat.le_of_ble_eq_true rfl) (zPv_i _) ?_
  show zS _ _ _ _ _ _ [(mo, .inr (11, fMo e (upd g 2 (nI ((n + 1) + 1))) w)), ((e 1), .inl (0, 740, .inl (nF (un (un bt n (bY x 24)) (n + 1) (bY x 16)))))]
  refine zs_iinc (v := (nI 8)) (lv' := [(2, .int (nI 8)), (0, .ref mo), (1, .int x)]) dX13_come_33 rfl (by decide) (Nat.le_of_ble_eq_true rfl) rfl ?_
  refine zs_goto (tgt := 3) dX13_come_36 (by decide) ?_
  refine zs_iload_n dX13_come_3 rfl ?_
  refine zs_if_lt (tgt := 39) dX13_come_4 (by decide) (fun c_3 => (by first | exact absurd c_3 (by decide) | exact absurd (by decide) c_3 : False).elim) (fun c_3 => ?_)
  refine zs_aload_n dX13_come_7 rfl rfl ?_
  refine zs_get 0 dX13_come_8 zf_RX13_7 rfl (v := .ref (e 1)) rfl ?_
  refine zs_aload_n dX13_come_11 rfl rfl ?_
  refine zs_get 0 dX13_come_12 zf_RX13_151 rfl (v := .int (nI ((n + 1) + 1))) rfl ?_
  refine zs_iload_n dX13_come_15 rfl ?_
  refine zs_iload_n dX13_come_16 rfl ?_
  refine zs_iushr (v := (x.toUInt32 >>> ((nI 8).toUInt32 &&& Int32.toUInt32 31)).toInt32) dX13_come_17 rfl ?_
  refine zs_sipush (v := nI 255) dX13_come_18 (by decide) ?_
  refine zs_iand dX13_come_21 ?_
  refine zs_as (y := nI (bY x 8)) (bY_n x 8) ?_
  refine zs_iast 1 dX13_come_22 rfl (vp_in_nI (by omega) (by omega)) ?_
  rw [nI_c (n := (n + 1) + 1) (by omega), nF_u]
  show zS _ _ _ _ _ _ [(mo, .inr (11, fMo e (upd g 2 (nI ((n + 1) + 1))) w)), ((e 1), .inl (0, 740, .inl (nF (un (un (un bt n (bY x 24)) (n + 1) (bY x 16)) ((n + 1) + 1) (bY x 8)))))]
  refine zs_aload_n dX13_come_23 rfl rfl ?_
  refine zs_dup dX13_come_24 rfl ?_
  refine zs_get 0 dX13_come_25 zf_RX13_151 rfl (v := .int (nI ((n + 1) + 1))) rfl ?_
  refine zs_iconst (v := nI 1) dX13_come_28 (by decide) ?_
  refine zs_iadd dX13_come_29 ?_
  refine zs_as (y := nI (((n + 1) + 1) + 1)) (nI_add _ _) ?_
  refine zs_put 0 dX13_come_30 zf_RX13_151 rfl (Nat.le_of_ble_eq_true rfl) (zPv_i _) ?_
  show zS _ _ _ _ _ _ [(mo, .inr (11, fMo e (upd g 2 (nI (((n + 1) + 1) + 1))) w)), ((e 1), .inl (0, 740, .inl (nF (un (un (un bt n (bY x 24)) (n + 1) (bY x 16)) ((n + 1) + 1) (bY x 8)))))]
  refine zs_iinc (v := (nI 0)) (lv' := [(2, .int (nI 0)), (0, .ref mo), (1, .int x)]) dX13_come_33 rfl (by decide) (Nat.le_of_ble_eq_true rfl) rfl ?_
  refine zs_goto (tgt := 3) dX13_come_36 (by decide) ?_
  refine zs_iload_n dX13_come_3 rfl ?_
  refine zs_if_lt (tgt := 39) dX13_come_4 (by decide) (fun c_4 => (by first | exact absurd c_4 (by decide) | exact absurd (by decide) c_4 : False).elim) (fun c_4 => ?_)
  refine zs_aload_n dX13_come_7 rfl rfl ?_
  refine zs_get 0 dX13_come_8 zf_RX13_7 rfl (v := .ref (e 1)) rfl ?_
  refine zs_aload_n dX13_come_11 rfl rfl ?_
  refine zs_get 0 dX13_come_12 zf_RX13_151 rfl (v := .int (nI (((n + 1) + 1) + 1))) rfl ?_
  refine zs_iload_n dX13_come_15 rfl ?_
  refine zs_iload_n dX13_come_16 rfl ?_
  refine zs_iushr (v := (x.toUInt32 >>> ((nI 0).toUInt32 &&& Int32.toUInt32 31)).toInt32) dX13_come_17 rfl ?_
  refine zs_sipush (v := nI 255) dX13_come_18 (by decide) ?_
  refine zs_iand dX13_come_21 ?_
  refine zs_as (y := nI (bY x 0)) (bY_n x 0) ?_
  refine zs_iast 1 dX13_come_22 rfl (vp_in_nI (by omega) (by omega)) ?_
  rw [nI_c (n := ((n + 1) + 1) + 1) (by omega), nF_u]
  show zS _ _ _ _ _ _ [(mo, .inr (11, fMo e (upd g 2 (nI (((n + 1) + 1) + 1))) w)), ((e 1), .inl (0, 740, .inl (nF (un (un (un (un bt n (bY x 24)) (n + 1) (bY x 16)) ((n + 1) + 1) (bY x 8)) (((n + 1) + 1) + 1) (bY x 0)))))]
  refine zs_aload_n dX13_come_23 rfl rfl ?_
  refine zs_dup dX13_come_24 rfl ?_
  refine zs_get 0 dX13_come_25 zf_RX13_151 rfl (v := .int (nI (((n + 1) + 1) + 1))) rfl ?_
  refine zs_iconst (v := nI 1) dX13_come_28 (by decide) ?_
  refine zs_iadd dX13_come_29 ?_
  refine zs_as (y := nI ((((n + 1) + 1) + 1) + 1)) (nI_add _ _) ?_
  refine zs_put 0 dX13_come_30 zf_RX13_151 rfl (Nat.le_of_ble_eq_true rfl) (zPv_i _) ?_
  show zS _ _ _ _ _ _ [(mo, .inr (11, fMo e (upd g 2 (nI ((((n + 1) + 1) + 1) + 1))) w)), ((e 1), .inl (0, 740, .inl (nF (un (un (un (un bt n (bY x 24)) (n + 1) (bY x 16)) ((n + 1) + 1) (bY x 8)) (((n + 1) + 1) + 1) (bY x 0)))))]
  refine zs_iinc (v := (-8)) (lv' := [(2, .int (-8)), (0, .ref mo), (1, .int x)]) dX13_come_33 rfl (by decide) (Nat.le_of_ble_eq_true rfl) rfl ?_
  refine zs_goto (tgt := 3) dX13_come_36 (by decide) ?_
  refine zs_iload_n dX13_come_3 rfl ?_
  refine zs_if_lt (tgt := 39) dX13_come_4 (by decide) (fun c_5 => ?_) (fun c_5 => (by first | exact absurd c_5 (by decide) | exact absurd (by decide) c_5 : False).elim)
  exact zs_vret dX13_come_39 rfl ⟨rfl, rfl⟩
theorem dX13_feed_0 : decode cX13_feed 0 = .ok (.aload_n 0, 1) := by decide +kernel
theorem dX13_feed_1 : decode cX13_feed 1 = .ok (.iconst 0, 1) := by decide +kernel
theorem dX13_feed_2 : decode cX13_feed 2 = .ok (.putfield 148, 3) := by decide +kernel
theorem dX13_feed_5 : decode cX13_feed 5 = .ok (.aload_n 0, 1) := by decide +kernel
theorem dX13_feed_6 : decode cX13_feed 6 = .ok (.getfield 151, 3) := by decide +kernel
theorem dX13_feed_9 : decode cX13_feed 9 = .ok (.bipush 20, 2) := by decide +kernel
theorem dX13_feed_11 : decode cX13_feed 11 = .ok (.iadd, 1) := by decide +kernel
theorem dX13_feed_12 : decode cX13_feed 12 = .ok (.sipush 740, 3) := by decide +kernel
theorem dX13_feed_15 : decode cX13_feed 15 = .ok (.if_icmp .le 5, 3) := by decide +kernel
theorem dX13_feed_18 : decode cX13_feed 18 = .ok (.iconst (-1), 1) := by decide +kernel
theorem dX13_feed_19 : decode cX13_feed 19 = .ok (.ireturn, 1) := by decide +kernel
theorem dX13_feed_20 : decode cX13_feed 20 = .ok (.aload_n 0, 1) := by decide +kernel
theorem dX13_feed_21 : decode cX13_feed 21 = .ok (.iload_n 1, 1) := by decide +kernel
theorem dX13_feed_22 : decode cX13_feed 22 = .ok (.invokevirtual 154, 3) := by decide +kernel
theorem dX13_feed_25 : decode cX13_feed 25 = .ok (.aload_n 0, 1) := by decide +kernel
theorem dX13_feed_26 : decode cX13_feed 26 = .ok (.iload_n 2, 1) := by decide +kernel
theorem dX13_feed_27 : decode cX13_feed 27 = .ok (.invokevirtual 154, 3) := by decide +kernel
theorem dX13_feed_30 : decode cX13_feed 30 = .ok (.aload_n 0, 1) := by decide +kernel
theorem dX13_feed_31 : decode cX13_feed 31 = .ok (.iload_n 3, 1) := by decide +kernel
theorem dX13_feed_32 : decode cX13_feed 32 = .ok (.invokevirtual 154, 3) := by decide +kernel
theorem dX13_feed_35 : decode cX13_feed 35 = .ok (.aload_n 0, 1) := by decide +kernel
theorem dX13_feed_36 : decode cX13_feed 36 = .ok (.iload 4, 2) := by decide +kernel
theorem dX13_feed_38 : decode cX13_feed 38 = .ok (.invokevirtual 154, 3) := by decide +kernel
theorem dX13_feed_41 : decode cX13_feed 41 = .ok (.aload_n 0, 1) := by decide +kernel
theorem dX13_feed_42 : decode cX13_feed 42 = .ok (.iload 5, 2) := by decide +kernel
theorem dX13_feed_44 : decode cX13_feed 44 = .ok (.invokevirtual 154, 3) := by decide +kernel
theorem dX13_feed_47 : decode cX13_feed 47 = .ok (.aload_n 0, 1) := by decide +kernel
theorem dX13_feed_48 : decode cX13_feed 48 = .ok (.getfield 151, 3) := by decide +kernel
theorem dX13_feed_51 : decode cX13_feed 51 = .ok (.ireturn, 1) := by decide +kernel
set_option maxRecDepth 100000 in
theorem s_mFeed (l : Launch) (dd : Nat) (mo : Nat) (e : Nat → Nat) (g : Nat → Int32) (w : Int64) (n : Nat) (bt : Nat → Nat) (x1 x2 x3 x4 x5 : Int32) (hd : 1 ≤ dd) (hn : n ≤ 740) : zSp l mX13_feed dd 0 0 [.ref mo, .int x1, .int x2, .int x3, .int x4, .int x5] [(mo, .inr (11, fMo e (upd g 2 (nI n)) w)), ((e 1), .inl (0, 740, .inl (nF bt)))] (fun r K' => (720 < n ∧ r = some (.int (-1)) ∧ K' = [(mo, .inr (11, fMo e (upd (upd g 0 (nI 0)) 2 (nI n)) w))] ++ [((e 1), .inl (0, 740, .inl (nF bt)))]) ∨ (n ≤ 720 ∧ r = some (.int (nI (n + 20))) ∧ K' = [(mo, .inr (11, fMo e (upd (upd g 0 (nI 0)) 2 (nI (n + 20))) w))] ++ [((e 1), .inl (0, 740, .inl (nF (fd5 bt n x1 x2 x3 x4 x5))))])) := by
  refine zSp.of (by decide) (Nat.le_of_ble_eq_true rfl) (fun h0 => ?_)
  show zS _ 0 0 0 [(0, .ref mo), (1, .int x1), (2, .int x2), (3, .int x3), (4, .int x4), (5, .int x5)] [] [(mo, .inr (11, fMo e (upd g 2 (nI n)) w)), ((e 1), .inl (0, 740, .inl (nF bt)))]
  refine zs_aload_n dX13_feed_0 rfl rfl ?_
  refine zs_iconst (v := nI 0) dX13_feed_1 (by decide) ?_
  refine zs_put 0 dX13_feed_2 zf_RX13_148 rfl (Nat.le_of_ble_eq_true rfl) (zPv_i _) ?_
  show zS _ _ _ _ _ _ [(mo, .inr (11, fMo e (upd (upd g 0 (nI 0)) 2 (nI n)) w)), ((e 1), .inl (0, 740, .inl (nF bt)))]
  refine zs_aload_n dX13_feed_5 rfl rfl ?_
  refine zs_get 0 dX13_feed_6 zf_RX13_151 rfl (v := .int (nI n)) rfl ?_
  refine zs_bipush (v := nI 20) dX13_feed_9 (by decide) ?_
  refine zs_iadd dX13_feed_11 ?_
  refine zs_as (y := nI (n + 20)) (nI_add _ _) ?_
  refine zs_sipush (v := nI 740) dX13_feed_12 (by decide) ?_
  refine zs_icmp_le (tgt := 20) dX13_feed_15 (by decide) (fun c_1 => ?_) (fun c_1 => ?_)
  · have c_1 : (n + 20) ≤ 740 := by have hc := c_1; rw [nI_le' (by omega) (by omega)] at hc; exact hc
    refine zs_aload_n dX13_feed_20 rfl rfl ?_
    refine zs_iload_n dX13_feed_21 rfl ?_
    refine zs_callV (M := mX13_come) (As := [.int x1]) (st := []) (Kc := [(mo, .inr (11, fMo e (upd (upd g 0 (nI 0)) 2 (nI n)) w)), ((e 1), .inl (0, 740, .inl (nF bt)))]) (Kr := []) [0, 1] [] 0 dX13_feed_22 zl_RX13_154 kX13_come rfl rfl rfl rfl rfl (by decide) rfl rfl (show dd - 1 + 1 ≤ dd by omega) (Nat.zero_le _) (Nat.zero_le _) (Nat.le_of_ble_eq_true rfl) (s_mCome l (dd - 1) mo e (upd g 0 (nI 0)) w n bt x1 (by omega)) (fun r K1 hr => ?_)
    obtain ⟨rfl, rfl⟩ := hr
    refine zs_K (K' := [(mo, .inr (11, fMo e (upd (upd g 0 (nI 0)) 2 (nI (n + 4))) w)), ((e 1), .inl (0, 740, .inl (nF (bPut bt n x1))))]) [0, 1] rfl (by decide) ?_
    refine zs_aload_n dX13_feed_25 rfl rfl ?_
    refine zs_iload_n dX13_feed_26 rfl ?_
    refine zs_callV (M := mX13_come) (As := [.int x2]) (st := []) (Kc := [(mo, .inr (11, fMo e (upd (upd g 0 (nI 0)) 2 (nI (n + 4))) w)), ((e 1), .inl (0, 740, .inl (nF (bPut bt n x1))))]) (Kr := []) [0, 1] [] 0 dX13_feed_27 zl_RX13_154 kX13_come rfl rfl rfl rfl rfl (by decide) rfl rfl (show dd - 1 + 1 ≤ dd by omega) (Nat.zero_le _) (Nat.zero_le _) (Nat.le_of_ble_eq_true rfl) (s_mCome l (dd - 1) mo e (upd g 0 (nI 0)) w (n + 4) (bPut bt n x1) x2 (by omega)) (fun r K1 hr => ?_)
    obtain ⟨rfl, rfl⟩ := hr
    refine zs_K (K' := [(mo, .inr (11, fMo e (upd (upd g 0 (nI 0)) 2 (nI (n + 8))) w)), ((e 1), .inl (0, 740, .inl (nF (bPut (bPut bt n x1) (n + 4) x2))))]) [0, 1] rfl (by decide) ?_
    refine zs_aload_n dX13_feed_30 rfl rfl ?_
    refine zs_iload_n dX13_feed_31 rfl ?_
    refine zs_callV (M := mX13_come) (As := [.int x3]) (st := []) (Kc := [(mo, .inr (11, fMo e (upd (upd g 0 (nI 0)) 2 (nI (n + 8))) w)), ((e 1), .inl (0, 740, .inl (nF (bPut (bPut bt n x1) (n + 4) x2))))]) (Kr := []) [0, 1] [] 0 dX13_feed_32 zl_RX13_154 kX13_come rfl rfl rfl rfl rfl (by decide) rfl rfl (show dd - 1 + 1 ≤ dd by omega) (Nat.zero_le _) (Nat.zero_le _) (Nat.le_of_ble_eq_true rfl) (s_mCome l (dd - 1) mo e (upd g 0 (nI 0)) w (n + 8) (bPut (bPut bt n x1) (n + 4) x2) x3 (by omega)) (fun r K1 hr => ?_)
    obtain ⟨rfl, rfl⟩ := hr
    refine zs_K (K' := [(mo, .inr (11, fMo e (upd (upd g 0 (nI 0)) 2 (nI (n + 12))) w)), ((e 1), .inl (0, 740, .inl (nF (bPut (bPut (bPut bt n x1) (n + 4) x2) (n + 8) x3))))]) [0, 1] rfl (by decide) ?_
    refine zs_aload_n dX13_feed_35 rfl rfl ?_
    refine zs_iload dX13_feed_36 rfl ?_
    refine zs_callV (M := mX13_come) (As := [.int x4]) (st := []) (Kc := [(mo, .inr (11, fMo e (upd (upd g 0 (nI 0)) 2 (nI (n + 12))) w)), ((e 1), .inl (0, 740, .inl (nF (bPut (bPut (bPut bt n x1) (n + 4) x2) (n + 8) x3))))]) (Kr := []) [0, 1] [] 0 dX13_feed_38 zl_RX13_154 kX13_come rfl rfl rfl rfl rfl (by decide) rfl rfl (show dd - 1 + 1 ≤ dd by omega) (Nat.zero_le _) (Nat.zero_le _) (Nat.le_of_ble_eq_true rfl) (s_mCome l (dd - 1) mo e (upd g 0 (nI 0)) w (n + 12) (bPut (bPut (bPut bt n x1) (n + 4) x2) (n + 8) x3) x4 (by omega)) (fun r K1 hr => ?_)
    obtain ⟨rfl, rfl⟩ := hr
    refine zs_K (K' := [(mo, .inr (11, fMo e (upd (upd g 0 (nI 0)) 2 (nI (n + 16))) w)), ((e 1), .inl (0, 740, .inl (nF (bPut (bPut (bPut (bPut bt n x1) (n + 4) x2) (n + 8) x3) (n + 12) x4))))]) [0, 1] rfl (by decide) ?_
    refine zs_aload_n dX13_feed_41 rfl rfl ?_
    refine zs_iload dX13_feed_42 rfl ?_
    refine zs_callV (M := mX13_come) (As := [.int x5]) (st := []) (Kc := [(mo, .inr (11, fMo e (upd (upd g 0 (nI 0)) 2 (nI (n + 16))) w)), ((e 1), .inl (0, 740, .inl (nF (bPut (bPut (bPut (bPut bt n x1) (n + 4) x2) (n + 8) x3) (n + 12) x4))))]) (Kr := []) [0, 1] [] 0 dX13_feed_44 zl_RX13_154 kX13_come rfl rfl rfl rfl rfl (by decide) rfl rfl (show dd - 1 + 1 ≤ dd by omega) (Nat.zero_le _) (Nat.zero_le _) (Nat.le_of_ble_eq_true rfl) (s_mCome l (dd - 1) mo e (upd g 0 (nI 0)) w (n + 16) (bPut (bPut (bPut (bPut bt n x1) (n + 4) x2) (n + 8) x3) (n + 12) x4) x5 (by omega)) (fun r K1 hr => ?_)
    obtain ⟨rfl, rfl⟩ := hr
    refine zs_K (K' := [(mo, .inr (11, fMo e (upd (upd g 0 (nI 0)) 2 (nI (n + 20))) w)), ((e 1), .inl (0, 740, .inl (nF (bPut (bPut (bPut (bPut (bPut bt n x1) (n + 4) x2) (n + 8) x3) (n + 12) x4) (n + 16) x5))))]) [0, 1] rfl (by decide) ?_
    refine zs_aload_n dX13_feed_47 rfl rfl ?_
    refine zs_get 0 dX13_feed_48 zf_RX13_151 rfl (v := .int (nI (n + 20))) rfl ?_
    exact zs_iret dX13_feed_51 rfl (Or.inr ⟨by omega, rfl, rfl⟩)
  · have c_1 : ¬ ((n + 20) ≤ 740) := by have hc := c_1; rw [nI_le' (by omega) (by omega)] at hc; exact hc
    refine zs_iconst (v := (-1)) dX13_feed_18 (by decide) ?_
    exact zs_iret dX13_feed_19 rfl (Or.inl ⟨by omega, rfl, rfl⟩)
theorem dX13_end_0 : decode cX13_end 0 = .ok (.aload_n 0, 1) := by decide +kernel
theorem dX13_end_1 : decode cX13_end 1 = .ok (.iconst 0, 1) := by decide +kernel
theorem dX13_end_2 : decode cX13_end 2 = .ok (.putfield 148, 3) := by decide +kernel
theorem dX13_end_5 : decode cX13_end 5 = .ok (.iload_n 1, 1) := by decide +kernel
theorem dX13_end_6 : decode cX13_end 6 = .ok (.ifCond .lt 11, 3) := by decide +kernel
theorem dX13_end_9 : decode cX13_end 9 = .ok (.iload_n 1, 1) := by decide +kernel
theorem dX13_end_10 : decode cX13_end 10 = .ok (.aload_n 0, 1) := by decide +kernel
theorem dX13_end_11 : decode cX13_end 11 = .ok (.getfield 151, 3) := by decide +kernel
theorem dX13_end_14 : decode cX13_end 14 = .ok (.if_icmp .le 5, 3) := by decide +kernel
theorem dX13_end_17 : decode cX13_end 17 = .ok (.iconst 0, 1) := by decide +kernel
theorem dX13_end_18 : decode cX13_end 18 = .ok (.ireturn, 1) := by decide +kernel
theorem dX13_end_19 : decode cX13_end 19 = .ok (.aload_n 0, 1) := by decide +kernel
theorem dX13_end_20 : decode cX13_end 20 = .ok (.iload_n 1, 1) := by decide +kernel
theorem dX13_end_21 : decode cX13_end 21 = .ok (.putfield 151, 3) := by decide +kernel
theorem dX13_end_24 : decode cX13_end 24 = .ok (.iconst 1, 1) := by decide +kernel
theorem dX13_end_25 : decode cX13_end 25 = .ok (.ireturn, 1) := by decide +kernel
set_option maxRecDepth 100000 in
theorem s_mEndK (l : Launch) (dd : Nat) (mo : Nat) (e : Nat → Nat) (g : Nat → Int32) (w : Int64) (n k : Nat) (hn : n ≤ 740) (hk : k < 2147483648) : zSp l mX13_end dd 0 0 [.ref mo, .int (nI k)] [(mo, .inr (11, fMo e (upd g 2 (nI n)) w))] (fun r K' => (n < k ∧ r = some (.int 0) ∧ K' = [(mo, .inr (11, fMo e (upd (upd g 0 (nI 0)) 2 (nI n)) w))]) ∨ (k ≤ n ∧ r = some (.int 1) ∧ K' = [(mo, .inr (11, fMo e (upd (upd g 0 (nI 0)) 2 (nI k)) w))])) := by
  refine zSp.of (by decide) (Nat.le_of_ble_eq_true rfl) (fun h0 => ?_)
  show zS _ 0 0 0 [(0, .ref mo), (1, .int (nI k))] [] [(mo, .inr (11, fMo e (upd g 2 (nI n)) w))]
  refine zs_aload_n dX13_end_0 rfl rfl ?_
  refine zs_iconst (v := nI 0) dX13_end_1 (by decide) ?_
  refine zs_put 0 dX13_end_2 zf_RX13_148 rfl (Nat.le_of_ble_eq_true rfl) (zPv_i _) ?_
  show zS _ _ _ _ _ _ [(mo, .inr (11, fMo e (upd (upd g 0 (nI 0)) 2 (nI n)) w))]
  refine zs_iload_n dX13_end_5 rfl ?_
  refine zs_if_lt (tgt := 17) dX13_end_6 (by decide) (fun c_1 => (absurd c_1 (by rw [show (0 : Int32) = nI 0 from rfl, nI_lt' (by omega) (by omega)]; omega) : False).elim) (fun c_1 => ?_)
  refine zs_iload_n dX13_end_9 rfl ?_
  refine zs_aload_n dX13_end_10 rfl rfl ?_
  refine zs_get 0 dX13_end_11 zf_RX13_151 rfl (v := .int (nI n)) rfl ?_
  refine zs_icmp_le (tgt := 19) dX13_end_14 (by decide) (fun c_2 => ?_) (fun c_2 => ?_)
  · have c_2 : k ≤ n := by have hc := c_2; rw [nI_le' (by omega) (by omega)] at hc; exact hc
    refine zs_aload_n dX13_end_19 rfl rfl ?_
    refine zs_iload_n dX13_end_20 rfl ?_
    refine zs_put 0 dX13_end_21 zf_RX13_151 rfl (Nat.le_of_ble_eq_true rfl) (zPv_i _) ?_
    show zS _ _ _ _ _ _ [(mo, .inr (11, fMo e (upd (upd g 0 (nI 0)) 2 (nI k)) w))]
    refine zs_iconst (v := nI 1) dX13_end_24 (by decide) ?_
    exact zs_zret dX13_end_25 rfl (Or.inr rfl) (Or.inr ⟨by omega, rfl, rfl⟩)
  · have c_2 : ¬ (k ≤ n) := by have hc := c_2; rw [nI_le' (by omega) (by omega)] at hc; exact hc
    refine zs_iconst (v := nI 0) dX13_end_17 (by decide) ?_
    exact zs_zret dX13_end_18 rfl (Or.inl rfl) (Or.inl ⟨by omega, rfl, rfl⟩)
set_option maxRecDepth 100000 in
theorem s_mEndN (l : Launch) (dd : Nat) (mo : Nat) (e : Nat → Nat) (g : Nat → Int32) (w : Int64) (x : Int32) (hx : x < 0) : zSp l mX13_end dd 0 0 [.ref mo, .int x] [(mo, .inr (11, fMo e g w))] (fun r K' => r = some (.int 0) ∧ K' = [(mo, .inr (11, fMo e (upd g 0 (nI 0)) w))]) := by
  refine zSp.of (by decide) (Nat.le_of_ble_eq_true rfl) (fun h0 => ?_)
  show zS _ 0 0 0 [(0, .ref mo), (1, .int x)] [] [(mo, .inr (11, fMo e g w))]
  refine zs_aload_n dX13_end_0 rfl rfl ?_
  refine zs_iconst (v := nI 0) dX13_end_1 (by decide) ?_
  refine zs_put 0 dX13_end_2 zf_RX13_148 rfl (Nat.le_of_ble_eq_true rfl) (zPv_i _) ?_
  show zS _ _ _ _ _ _ [(mo, .inr (11, fMo e (upd g 0 (nI 0)) w))]
  refine zs_iload_n dX13_end_5 rfl ?_
  refine zs_if_lt (tgt := 17) dX13_end_6 (by decide) (fun c_1 => ?_) (fun c_1 => (c_1 hx : False).elim)
  refine zs_iconst (v := nI 0) dX13_end_17 (by decide) ?_
  exact zs_zret dX13_end_18 rfl (Or.inl rfl) ⟨rfl, rfl⟩
theorem dX13_isIn_0 : decode cX13_isIn 0 = .ok (.iload_n 0, 1) := by decide +kernel
theorem dX13_isIn_1 : decode cX13_isIn 1 = .ok (.iload_n 1, 1) := by decide +kernel
theorem dX13_isIn_2 : decode cX13_isIn 2 = .ok (.if_icmp .lt 12, 3) := by decide +kernel
theorem dX13_isIn_5 : decode cX13_isIn 5 = .ok (.iload_n 0, 1) := by decide +kernel
theorem dX13_isIn_6 : decode cX13_isIn 6 = .ok (.iload_n 2, 1) := by decide +kernel
theorem dX13_isIn_7 : decode cX13_isIn 7 = .ok (.if_icmp .gt 7, 3) := by decide +kernel
theorem dX13_isIn_10 : decode cX13_isIn 10 = .ok (.iconst 1, 1) := by decide +kernel
theorem dX13_isIn_11 : decode cX13_isIn 11 = .ok (.goto 4, 3) := by decide +kernel
theorem dX13_isIn_14 : decode cX13_isIn 14 = .ok (.iconst 0, 1) := by decide +kernel
theorem dX13_isIn_15 : decode cX13_isIn 15 = .ok (.ireturn, 1) := by decide +kernel
def bIn (v a b : Int32) : Bool := decide (¬ v < a ∧ ¬ b < v)
theorem bIn_y {v a b : Int32} (h : ¬ v < a ∧ ¬ b < v) : bI (bIn v a b) = 1 := by rw [bIn, decide_eq_true h]; rfl
theorem bIn_n {v a b : Int32} (h : ¬ (¬ v < a ∧ ¬ b < v)) : bI (bIn v a b) = 0 := by rw [bIn, decide_eq_false h]; rfl
set_option maxRecDepth 100000 in
theorem s_mIsIn (l : Launch) (dd : Nat) (v a b : Int32)  : zSp l mX13_isIn dd 0 0 [.int v, .int a, .int b] [] (fun r K' => r = some (.int (bI (bIn v a b))) ∧ K' = []) := by
  refine zSp.of (by decide) (Nat.le_of_ble_eq_true rfl) (fun h0 => ?_)
  show zS _ 0 0 0 [(0, .int v), (1, .int a), (2, .int b)] [] []
  refine zs_iload_n dX13_isIn_0 rfl ?_
  refine zs_iload_n dX13_isIn_1 rfl ?_
  refine zs_icmp_lt (tgt := 14) dX13_isIn_2 (by decide) (fun c_1 => ?_) (fun c_1 => ?_)
  · refine zs_iconst (v := nI 0) dX13_isIn_14 (by decide) ?_
    exact zs_zret dX13_isIn_15 rfl (Or.inl rfl) ⟨by rw [bIn_n (fun h => h.1 c_1)]; rfl, rfl⟩
  · refine zs_iload_n dX13_isIn_5 rfl ?_
    refine zs_iload_n dX13_isIn_6 rfl ?_
    refine zs_icmp_gt (tgt := 14) dX13_isIn_7 (by decide) (fun c_2 => ?_) (fun c_2 => ?_)
    · refine zs_iconst (v := nI 0) dX13_isIn_14 (by decide) ?_
      exact zs_zret dX13_isIn_15 rfl (Or.inl rfl) ⟨by rw [bIn_n (fun h => h.2 c_2)]; rfl, rfl⟩
    · refine zs_iconst (v := nI 1) dX13_isIn_10 (by decide) ?_
      refine zs_goto (tgt := 15) dX13_isIn_11 (by decide) ?_
      exact zs_zret dX13_isIn_15 rfl (Or.inr rfl) ⟨by rw [bIn_y ⟨c_1, c_2⟩]; rfl, rfl⟩
theorem dX13_isDigit_0 : decode cX13_isDigit 0 = .ok (.iload_n 0, 1) := by decide +kernel
theorem dX13_isDigit_1 : decode cX13_isDigit 1 = .ok (.bipush 48, 2) := by decide +kernel
theorem dX13_isDigit_3 : decode cX13_isDigit 3 = .ok (.if_icmp .lt 13, 3) := by decide +kernel
theorem dX13_isDigit_6 : decode cX13_isDigit 6 = .ok (.iload_n 0, 1) := by decide +kernel
theorem dX13_isDigit_7 : decode cX13_isDigit 7 = .ok (.bipush 57, 2) := by decide +kernel
theorem dX13_isDigit_9 : decode cX13_isDigit 9 = .ok (.if_icmp .gt 7, 3) := by decide +kernel
theorem dX13_isDigit_12 : decode cX13_isDigit 12 = .ok (.iconst 1, 1) := by decide +kernel
theorem dX13_isDigit_13 : decode cX13_isDigit 13 = .ok (.goto 4, 3) := by decide +kernel
theorem dX13_isDigit_16 : decode cX13_isDigit 16 = .ok (.iconst 0, 1) := by decide +kernel
theorem dX13_isDigit_17 : decode cX13_isDigit 17 = .ok (.ireturn, 1) := by decide +kernel
set_option maxRecDepth 100000 in
theorem s_mIsD (l : Launch) (dd : Nat) (c : Nat) (hc : c < 256) : zSp l mX13_isDigit dd 0 0 [.int (nI c)] [] (fun r K' => r = some (.int (bI (isD c))) ∧ K' = []) := by
  refine zSp.of (by decide) (Nat.le_of_ble_eq_true rfl) (fun h0 => ?_)
  show zS _ 0 0 0 [(0, .int (nI c))] [] []
  refine zs_iload_n dX13_isDigit_0 rfl ?_
  refine zs_bipush (v := nI 48) dX13_isDigit_1 (by decide) ?_
  refine zs_icmp_lt (tgt := 16) dX13_isDigit_3 (by decide) (fun c_1 => ?_) (fun c_1 => ?_)
  · have c_1 : c < 48 := by have hc := c_1; rw [nI_lt' (by omega) (by omega)] at hc; exact hc
    refine zs_iconst (v := nI 0) dX13_isDigit_16 (by decide) ?_
    exact zs_zret dX13_isDigit_17 rfl (Or.inl rfl) ⟨by rw [show isD c = false from decide_eq_false (fun h => by have := h.1; have := h.2; omega)]; rfl, rfl⟩
  · have c_1 : ¬ (c < 48) := by have hc := c_1; rw [nI_lt' (by omega) (by omega)] at hc; exact hc
    refine zs_iload_n dX13_isDigit_6 rfl ?_
    refine zs_bipush (v := nI 57) dX13_isDigit_7 (by decide) ?_
    refine zs_icmp_gt (tgt := 16) dX13_isDigit_9 (by decide) (fun c_2 => ?_) (fun c_2 => ?_)
    · have c_2 : 57 < c := by have hc := c_2; rw [nI_lt' (by omega) (by omega)] at hc; exact hc
      refine zs_iconst (v := nI 0) dX13_isDigit_16 (by decide) ?_
      exact zs_zret dX13_isDigit_17 rfl (Or.inl rfl) ⟨by rw [show isD c = false from decide_eq_false (fun h => by have := h.1; have := h.2; omega)]; rfl, rfl⟩
    · have c_2 : ¬ (57 < c) := by have hc := c_2; rw [nI_lt' (by omega) (by omega)] at hc; exact hc
      refine zs_iconst (v := nI 1) dX13_isDigit_12 (by decide) ?_
      refine zs_goto (tgt := 17) dX13_isDigit_13 (by decide) ?_
      exact zs_zret dX13_isDigit_17 rfl (Or.inr rfl) ⟨by rw [show isD c = true from decide_eq_true ⟨by omega, by omega⟩]; rfl, rfl⟩
theorem dX13_isLetter_0 : decode cX13_isLetter 0 = .ok (.iload_n 0, 1) := by decide +kernel
theorem dX13_isLetter_1 : decode cX13_isLetter 1 = .ok (.bipush 97, 2) := by decide +kernel
theorem dX13_isLetter_3 : decode cX13_isLetter 3 = .ok (.if_icmp .lt 13, 3) := by decide +kernel
theorem dX13_isLetter_6 : decode cX13_isLetter 6 = .ok (.iload_n 0, 1) := by decide +kernel
theorem dX13_isLetter_7 : decode cX13_isLetter 7 = .ok (.bipush 122, 2) := by decide +kernel
theorem dX13_isLetter_9 : decode cX13_isLetter 9 = .ok (.if_icmp .gt 7, 3) := by decide +kernel
theorem dX13_isLetter_12 : decode cX13_isLetter 12 = .ok (.iconst 1, 1) := by decide +kernel
theorem dX13_isLetter_13 : decode cX13_isLetter 13 = .ok (.goto 4, 3) := by decide +kernel
theorem dX13_isLetter_16 : decode cX13_isLetter 16 = .ok (.iconst 0, 1) := by decide +kernel
theorem dX13_isLetter_17 : decode cX13_isLetter 17 = .ok (.ireturn, 1) := by decide +kernel
set_option maxRecDepth 100000 in
theorem s_mIsL (l : Launch) (dd : Nat) (c : Nat) (hc : c < 256) : zSp l mX13_isLetter dd 0 0 [.int (nI c)] [] (fun r K' => r = some (.int (bI (isL c))) ∧ K' = []) := by
  refine zSp.of (by decide) (Nat.le_of_ble_eq_true rfl) (fun h0 => ?_)
  show zS _ 0 0 0 [(0, .int (nI c))] [] []
  refine zs_iload_n dX13_isLetter_0 rfl ?_
  refine zs_bipush (v := nI 97) dX13_isLetter_1 (by decide) ?_
  refine zs_icmp_lt (tgt := 16) dX13_isLetter_3 (by decide) (fun c_1 => ?_) (fun c_1 => ?_)
  · have c_1 : c < 97 := by have hc := c_1; rw [nI_lt' (by omega) (by omega)] at hc; exact hc
    refine zs_iconst (v := nI 0) dX13_isLetter_16 (by decide) ?_
    exact zs_zret dX13_isLetter_17 rfl (Or.inl rfl) ⟨by rw [show isL c = false from decide_eq_false (fun h => by have := h.1; have := h.2; omega)]; rfl, rfl⟩
  · have c_1 : ¬ (c < 97) := by have hc := c_1; rw [nI_lt' (by omega) (by omega)] at hc; exact hc
    refine zs_iload_n dX13_isLetter_6 rfl ?_
    refine zs_bipush (v := nI 122) dX13_isLetter_7 (by decide) ?_
    refine zs_icmp_gt (tgt := 16) dX13_isLetter_9 (by decide) (fun c_2 => ?_) (fun c_2 => ?_)
    · have c_2 : 122 < c := by have hc := c_2; rw [nI_lt' (by omega) (by omega)] at hc; exact hc
      refine zs_iconst (v := nI 0) dX13_isLetter_16 (by decide) ?_
      exact zs_zret dX13_isLetter_17 rfl (Or.inl rfl) ⟨by rw [show isL c = false from decide_eq_false (fun h => by have := h.1; have := h.2; omega)]; rfl, rfl⟩
    · have c_2 : ¬ (122 < c) := by have hc := c_2; rw [nI_lt' (by omega) (by omega)] at hc; exact hc
      refine zs_iconst (v := nI 1) dX13_isLetter_12 (by decide) ?_
      refine zs_goto (tgt := 17) dX13_isLetter_13 (by decide) ?_
      exact zs_zret dX13_isLetter_17 rfl (Or.inr rfl) ⟨by rw [show isL c = true from decide_eq_true ⟨by omega, by omega⟩]; rfl, rfl⟩
theorem dX13_up_0 : decode cX13_up 0 = .ok (.iload_n 0, 1) := by decide +kernel
theorem dX13_up_1 : decode cX13_up 1 = .ok (.iload_n 1, 1) := by decide +kernel
theorem dX13_up_2 : decode cX13_up 2 = .ok (.iadd, 1) := by decide +kernel
theorem dX13_up_3 : decode cX13_up 3 = .ok (.iconst 1, 1) := by decide +kernel
theorem dX13_up_4 : decode cX13_up 4 = .ok (.isub, 1) := by decide +kernel
theorem dX13_up_5 : decode cX13_up 5 = .ok (.iload_n 1, 1) := by decide +kernel
theorem dX13_up_6 : decode cX13_up 6 = .ok (.idiv, 1) := by decide +kernel
theorem dX13_up_7 : decode cX13_up 7 = .ok (.ireturn, 1) := by decide +kernel
set_option maxRecDepth 100000 in
theorem s_mUp (l : Launch) (dd : Nat) (x y : Nat) (hx : x ≤ 1000000) (hy : 1 ≤ y ∧ y ≤ 1000000) : zSp l mX13_up dd 0 0 [.int (nI x), .int (nI y)] [] (fun r K' => r = some (.int (nI (nUp x y))) ∧ K' = []) := by
  refine zSp.of (by decide) (Nat.le_of_ble_eq_true rfl) (fun h0 => ?_)
  show zS _ 0 0 0 [(0, .int (nI x)), (1, .int (nI y))] [] []
  refine zs_iload_n dX13_up_0 rfl ?_
  refine zs_iload_n dX13_up_1 rfl ?_
  refine zs_iadd dX13_up_2 ?_
  refine zs_as (y := nI (x + y)) (nI_add _ _) ?_
  refine zs_iconst (v := nI 1) dX13_up_3 (by decide) ?_
  refine zs_isub dX13_up_4 ?_
  refine zs_as (y := nI ((x + y) - 1)) (nI_sub (by omega)) ?_
  refine zs_iload_n dX13_up_5 rfl ?_
  refine zs_idiv dX13_up_6 (fun hz => by rw [show (0 : Int32) = nI 0 from rfl, nI_eq' (by omega) (by omega)] at hz; omega) ?_
  refine zs_as (y := nI (((x + y) - 1) / y)) (nI_div (by omega) (by omega) (by omega)) ?_
  exact zs_iret dX13_up_7 rfl ⟨rfl, rfl⟩
