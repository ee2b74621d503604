/-! ===== the class itself: its tape, its texts ===== -/
/-- the class's own object: its fixed parts (the tape, the text, the states, ...), the tape's size, the fault, whether the night is known, its three lists -/
def fPR (a : Nat → Nat) (sz fa nk oo be ho : Nat) : List Value := [.ref (a 0), .int (nI sz), .int (nI fa), .ref (a 3), .ref (a 4), .ref (a 5), .ref (a 6), .ref (a 7), .ref (a 8), .ref (a 9), .ref (a 10), .ref (a 11), .ref (a 12), .ref (a 13), .ref (a 14), .int (nI nk), .ref oo, .ref be, .ref ho]
/-- a number's byte, s bits up -/
def bY (x : Int32) (s : Nat) : Nat := ((x.toUInt32 >>> ((nI s).toUInt32 &&& Int32.toUInt32 31)).toInt32 &&& nI 255).toNatClampNeg
theorem zi_255 (x : Int32) : x &&& nI 255 = nI (x &&& nI 255).toNatClampNeg ∧ (x &&& nI 255).toNatClampNeg < 256 := by
  have h : (x &&& nI 255).toBitVec.toNat ≤ 255 := by
    rw [Int32.toBitVec_and, BitVec.toNat_and]
    exact Nat.and_le_right
  have h2 : (x &&& nI 255).toInt = ((x &&& nI 255).toBitVec.toNat : Int) := by
    rw [Int32.toInt]
    exact BitVec.toInt_eq_toNat_of_lt (by omega)
  have h3 : (x &&& nI 255).toNatClampNeg = (x &&& nI 255).toBitVec.toNat := by
    rw [Int32.toNatClampNeg, h2]
    rfl
  rw [h3]
  refine ⟨?_, by omega⟩
  rw [zi_eq, h2, nI_t (by omega)]
theorem bY_n (x : Int32) (s : Nat) : (x.toUInt32 >>> ((nI s).toUInt32 &&& Int32.toUInt32 31)).toInt32 &&& nI 255 = nI (bY x s) := (zi_255 _).1
theorem bY_lt (x : Int32) (s : Nat) : bY x s < 256 := (zi_255 _).2
def bPut (b : Nat → Nat) (n : Nat) (x : Int32) : Nat → Nat := un (un (un (un b n (bY x 24)) (n + 1) (bY x 16)) (n + 1 + 1) (bY x 8)) (n + 1 + 1 + 1) (bY x 0)
theorem bPut_lt {b : Nat → Nat} (h : ∀ j, b j < 256) (n : Nat) (x : Int32) : ∀ j, bPut b n x j < 256 := fun j => un_lt (un_lt (un_lt (un_lt (h j) (bY_lt _ _)) (bY_lt _ _)) (bY_lt _ _)) (bY_lt _ _)
theorem dX12_append_0 : decode cX12_append 0 = .ok (.bipush 24, 2) := by decide +kernel
theorem dX12_append_2 : decode cX12_append 2 = .ok (.istore_n 2, 1) := by decide +kernel
theorem dX12_append_3 : decode cX12_append 3 = .ok (.iload_n 2, 1) := by decide +kernel
theorem dX12_append_4 : decode cX12_append 4 = .ok (.ifCond .lt 45, 3) := by decide +kernel
theorem dX12_append_7 : decode cX12_append 7 = .ok (.aload_n 0, 1) := by decide +kernel
theorem dX12_append_8 : decode cX12_append 8 = .ok (.getfield 88, 3) := by decide +kernel
theorem dX12_append_11 : decode cX12_append 11 = .ok (.sipush 740, 3) := by decide +kernel
theorem dX12_append_14 : decode cX12_append 14 = .ok (.if_icmp .ge 29, 3) := by decide +kernel
theorem dX12_append_17 : decode cX12_append 17 = .ok (.aload_n 0, 1) := by decide +kernel
theorem dX12_append_18 : decode cX12_append 18 = .ok (.getfield 9, 3) := by decide +kernel
theorem dX12_append_21 : decode cX12_append 21 = .ok (.aload_n 0, 1) := by decide +kernel
theorem dX12_append_22 : decode cX12_append 22 = .ok (.getfield 88, 3) := by decide +kernel
theorem dX12_append_25 : decode cX12_append 25 = .ok (.iload_n 1, 1) := by decide +kernel
theorem dX12_append_26 : decode cX12_append 26 = .ok (.iload_n 2, 1) := by decide +kernel
theorem dX12_append_27 : decode cX12_append 27 = .ok (.iushr, 1) := by decide +kernel
theorem dX12_append_28 : decode cX12_append 28 = .ok (.sipush 255, 3) := by decide +kernel
theorem dX12_append_31 : decode cX12_append 31 = .ok (.iand, 1) := by decide +kernel
theorem dX12_append_32 : decode cX12_append 32 = .ok (.iastore, 1) := by decide +kernel
theorem dX12_append_33 : decode cX12_append 33 = .ok (.aload_n 0, 1) := by decide +kernel
theorem dX12_append_34 : decode cX12_append 34 = .ok (.dup, 1) := by decide +kernel
theorem dX12_append_35 : decode cX12_append 35 = .ok (.getfield 88, 3) := by decide +kernel
theorem dX12_append_38 : decode cX12_append 38 = .ok (.iconst 1, 1) := by decide +kernel
theorem dX12_append_39 : decode cX12_append 39 = .ok (.iadd, 1) := by decide +kernel
theorem dX12_append_40 : decode cX12_append 40 = .ok (.putfield 88, 3) := by decide +kernel
theorem dX12_append_43 : decode cX12_append 43 = .ok (.iinc 2 (-8), 3) := by decide +kernel
theorem dX12_append_46 : decode cX12_append 46 = .ok (.goto (-43), 3) := by decide +kernel
theorem dX12_append_49 : decode cX12_append 49 = .ok (.return_, 1) := by decide +kernel
set_option maxRecDepth 100000 in
theorem s_append (l : Launch) (dd : Nat) (z : Nat) (a : Nat → Nat) (sz fa nk oo be ho : Nat) (bt : Nat → Nat) (x : Int32) (h4 : sz + 4 ≤ 740) : zSp l mX12_append dd 0 0 [.ref z, .int x] [(z, .inr (10, fPR a sz fa nk oo be ho)), (a 0, .inl (0, 740, .inl (nF bt)))] (fun r K' => r = none ∧ K' = [(z, .inr (10, fPR a (sz + 4) fa nk oo be ho))] ++ [(a 0, .inl (0, 740, .inl (nF (bPut bt sz x))))]) := by
  refine zSp.of (by decide) (Nat.le_of_ble_eq_true rfl) (fun h0 => ?_)
  show zS _ 0 0 0 [(0, .ref z), (1, .int x)] [] [(z, .inr (10, fPR a sz fa nk oo be ho)), (a 0, .inl (0, 740, .inl (nF bt)))]
  refine zs_bipush (v := nI 24) dX12_append_0 (by decide) ?_
  refine zs_istore_n (lv' := [(2, .int (nI 24)), (0, .ref z), (1, .int x)]) dX12_append_2 (Nat.le_of_ble_eq_true rfl) rfl ?_
  refine zs_iload_n dX12_append_3 rfl ?_
  refine zs_if_lt (tgt := 49) dX12_append_4 (by decide) (fun c_1 => (by first | exact absurd c_1 (by decide) | exact absurd (by decide) c_1 : False).elim) (fun c_1 => ?_)
  refine zs_aload_n dX12_append_7 rfl rfl ?_
  refine zs_get 0 dX12_append_8 zf_RX12_88 rfl (v := .int (nI sz)) rfl ?_
  refine zs_sipush (v := nI 740) dX12_append_11 (by decide) ?_
  refine zs_icmp_ge (tgt := 43) dX12_append_14 (by decide) (fun c_2 => (absurd c_2 (by rw [nI_le' (by omega) (by omega)]; omega) : False).elim) (fun c_2 => ?_)
  refine zs_aload_n dX12_append_17 rfl rfl ?_
  refine zs_get 0 dX12_append_18 zf_RX12_9 rfl (v := .ref (a 0)) rfl ?_
  refine zs_aload_n dX12_append_21 rfl rfl ?_
  refine zs_get 0 dX12_append_22 zf_RX12_88 rfl (v := .int (nI sz)) rfl ?_
  refine zs_iload_n dX12_append_25 rfl ?_
  refine zs_iload_n dX12_append_26 rfl ?_
  refine zs_iushr (v := (x.toUInt32 >>> ((nI 24).toUInt32 &&& Int32.toUInt32 31)).toInt32) dX12_append_27 rfl ?_
  refine zs_sipush (v := nI 255) dX12_append_28 (by decide) ?_
  refine zs_iand dX12_append_31 ?_
  refine zs_as (y := nI (bY x 24)) (bY_n x 24) ?_
  refine zs_iast 1 dX12_append_32 rfl (vp_in_nI (by omega) (by omega)) ?_
  rw [nI_c (n := sz) (by omega), nF_u]
  show zS _ _ _ _ _ _ [(z, .inr (10, fPR a sz fa nk oo be ho)), (a 0, .inl (0, 740, .inl (nF (un bt sz (bY x 24)))))]
  refine zs_aload_n dX12_append_33 rfl rfl ?_
  refine zs_dup dX12_append_34 rfl ?_
  refine zs_get 0 dX12_append_35 zf_RX12_88 rfl (v := .int (nI sz)) rfl ?_
  refine zs_iconst (v := nI 1) dX12_append_38 (by decide) ?_
  refine zs_iadd dX12_append_39 ?_
  refine zs_as (y := nI (sz + 1)) (nI_add _ _) ?_
  refine zs_put 0 dX12_append_40 zf_RX12_88 rfl (Nat.le_of_ble_eq_true rfl) (zPv_i _) ?_
  show zS _ _ _ _ _ _ [(z, .inr (10, fPR a (sz + 1) fa nk oo be ho)), (a 0, .inl (0, 740, .inl (nF (un bt sz (bY x 24)))))]
  refine zs_iinc (v := (nI 16)) (lv' := [(2, .int (nI 16)), (0, .ref z), (1, .int x)]) dX12_append_43 rfl (by decide) (Nat.le_of_ble_eq_true rfl) rfl ?_
  refine zs_goto (tgt := 3) dX12_append_46 (by decide) ?_
  refine zs_iload_n dX12_append_3 rfl ?_
  refine zs_if_lt (tgt := 49) dX12_append_4 (by decide) (fun c_3 => (by first | exact absurd c_3 (by decide) | exact absurd (by decide) c_3 : False).elim) (fun c_3 => ?_)
  refine zs_aload_n dX12_append_7 rfl rfl ?_
  refine zs_get 0 dX12_append_8 zf_RX12_88 rfl (v := .int (nI (sz + 1))) rfl ?_
  refine zs_sipush (v := nI 740) dX12_append_11 (by decide) ?_
  refine zs_icmp_ge (tgt := 43) dX12_append_14 (by decide) (fun c_4 => (absurd c_4 (by rw [nI_le' (by omega) (by omega)]; omega) : False).elim) (fun c_4 => ?_)
  refine zs_aload_n dX12_append_17 rfl rfl ?_
  refine zs_get 0 dX12_append_18 zf_RX12_9 rfl (v := .ref (a 0)) rfl ?_
  refine zs_aload_n dX12_append_21 rfl rfl ?_
  refine zs_get 0 dX12_append_22 zf_RX12_88 rfl (v := .int (nI (sz + 1))) rfl ?_
  refine zs_iload_n dX12_append_25 rfl ?_
  refine zs_iload_n dX12_append_26 rfl ?_
  refine zs_iushr (v := (x.toUInt32 >>> ((nI 16).toUInt32 &&& Int32.toUInt32 31)).toInt32) dX12_append_27 rfl ?_
  refine zs_sipush (v := nI 255) dX12_append_28 (by decide) ?_
  refine zs_iand dX12_append_31 ?_
  refine zs_as (y := nI (bY x 16)) (bY_n x 16) ?_
  refine zs_iast 1 dX12_append_32 rfl (vp_in_nI (by omega) (by omega)) ?_
  rw [nI_c (n := sz + 1) (by omega), nF_u]
  show zS _ _ _ _ _ _ [(z, .inr (10, fPR a (sz + 1) fa nk oo be ho)), (a 0, .inl (0, 740, .inl (nF (un (un bt sz (bY x 24)) (sz + 1) (bY x 16)))))]
  refine zs_aload_n dX12_append_33 rfl rfl ?_
  refine zs_dup dX12_append_34 rfl ?_
  refine zs_get 0 dX12_append_35 zf_RX12_88 rfl (v := .int (nI (sz + 1))) rfl ?_
  refine zs_iconst (v := nI 1) dX12_append_38 (by decide) ?_
  refine zs_iadd dX12_append_39 ?_
  refine zs_as (y := nI ((sz + 1) + 1)) (nI_add _ _) ?_
  refine zs_put 0 dX12_append_40 zf_RX12_88 rfl (Nat.le_of_ble_eq_true rfl) (zPv_i _) ?_
  show zS _ _ _ _ _ _ [(z, .inr (10, fPR a ((sz + 1) + 1) fa nk oo be ho)), (a 0, .inl (0, 740, .inl (nF (un (un bt sz (bY x 24)) (sz + 1) (bY x 16)))))]
  refine zs_iinc (v := (nI 8)) (lv' := [(2, .int (nI 8)), (0, .ref z), (1, .int x)]) dX12_append_43 rfl (by decide) (Nat.le_of_ble_eq_true rfl) rfl ?_
  refine zs_goto (tgt := 3) dX12_append_46 (by decide) ?_
  refine zs_iload_n dX12_append_3 rfl ?_
  refine zs_if_lt (tgt := 49) dX12_append_4 (by decide) (fun c_5 => (by first | exact absurd c_5 (by decide) | exact absurd (by decide) c_5 : False).elim) (fun c_5 => ?_)
  refine zs_aload_n dX12_append_7 rfl rfl ?_
  refine zs_get 0 dX12_append_8 zf_RX12_88 rfl (v := .int (nI ((sz + 1) + 1))) rfl ?_
  refine zs_sipush (v := nI 740) dX12_append_11 (by decide) ?_
  refine zs_icmp_ge (tgt := 43) dX12_append_14 (by decide) (fun c_6 => (absurd c_6 (by rw [nI_le' (by omega) (by omega)]; omega) : False).elim) (fun c_6 => ?_)
  refine zs_aload_n dX12_append_17 rfl rfl ?_
  refine zs_get 0 dX12_append_18 zf_RX12_9 rfl (v := .ref (a 0)) rfl ?_
  refine zs_aload_n dX12_append_21 rfl rfl ?_
  refine zs_get 0 dX12_append_22 zf_RX12_88 rfl (v := .int (nI ((sz + 1) + 1))) rfl ?_
  refine zs_iload_n dX12_append_25 rfl ?_
  refine zs_iload_n dX12_append_26 rfl ?_
  refine zs_iushr (v := (x.toUInt32 >>> ((nI 8).toUInt32 &&& Int32.toUInt32 31)).toInt32) dX12_append_27 rfl ?_
  refine zs_sipush (v := nI 255) dX12_append_28 (by decide) ?_
  refine zs_iand dX12_append_31 ?_
  refine zs_as (y := nI (bY x 8)) (bY_n x 8) ?_
  refine zs_iast 1 dX12_append_32 rfl (vp_in_nI (by omega) (by omega)) ?_
  rw [nI_c (n := (sz + 1) + 1) (by omega), nF_u]
  show zS _ _ _ _ _ _ [(z, .inr (10, fPR a ((sz + 1) + 1) fa nk oo be ho)), (a 0, .inl (0, 740, .inl (nF (un (un (un bt sz (bY x 24)) (sz + 1) (bY x 16)) ((sz + 1) + 1) (bY x 8)))))]
  refine zs_aload_n dX12_append_33 rfl rfl ?_
  refine zs_dup dX12_append_34 rfl ?_
  refine zs_get 0 dX12_append_35 zf_RX12_88 rfl (v := .int (nI ((sz + 1) + 1))) rfl ?_
  refine zs_iconst (v := nI 1) dX12_append_38 (by decide) ?_
  refine zs_iadd dX12_append_39 ?_
  refine zs_as (y := nI (((sz + 1) + 1) + 1)) (nI_add _ _) ?_
  refine zs_put 0 dX12_append_40 zf_RX12_88 rfl (Nat.le_of_ble_eq_true rfl) (zPv_i _) ?_
  show zS _ _ _ _ _ _ [(z, .inr (10, fPR a (((sz + 1) + 1) + 1) fa nk oo be ho)), (a 0, .inl (0, 740, .inl (nF (un (un (un bt sz (bY x 24)) (sz + 1) (bY x 16)) ((sz + 1) + 1) (bY x 8)))))]
  refine zs_iinc (v := (nI 0)) (lv' := [(2, .int (nI 0)), (0, .ref z), (1, .int x)]) dX12_append_43 rfl (by decide) (Nat.le_of_ble_eq_true rfl) rfl ?_
  refine zs_goto (tgt := 3) dX12_append_46 (by decide) ?_
  refine zs_iload_n dX12_append_3 rfl ?_
  refine zs_if_lt (tgt := 49) dX12_append_4 (by decide) (fun c_7 => (by first | exact absurd c_7 (by decide) | exact absurd (by decide) c_7 : False).elim) (fun c_7 => ?_)
  refine zs_aload_n dX12_append_7 rfl rfl ?_
  refine zs_get 0 dX12_append_8 zf_RX12_88 rfl (v := .int (nI (((sz + 1) + 1) + 1))) rfl ?_
  refine zs_sipush (v := nI 740) dX12_append_11 (by decide) ?_
  refine zs_icmp_ge (tgt := 43) dX12_append_14 (by decide) (fun c_8 => (absurd c_8 (by rw [nI_le' (by omega) (by omega)]; omega) : False).elim) (fun c_8 => ?_)
  refine zs_aload_n dX12_append_17 rfl rfl ?_
  refine zs_get 0 dX12_append_18 zf_RX12_9 rfl (v := .ref (a 0)) rfl ?_
  refine zs_aload_n dX12_append_21 rfl rfl ?_
  refine zs_get 0 dX12_append_22 zf_RX12_88 rfl (v := .int (nI (((sz + 1) + 1) + 1))) rfl ?_
  refine zs_iload_n dX12_append_25 rfl ?_
  refine zs_iload_n dX12_append_26 rfl ?_
  refine zs_iushr (v := (x.toUInt32 >>> ((nI 0).toUInt32 &&& Int32.toUInt32 31)).toInt32) dX12_append_27 rfl ?_
  refine zs_sipush (v := nI 255) dX12_append_28 (by decide) ?_
  refine zs_iand dX12_append_31 ?_
  refine zs_as (y := nI (bY x 0)) (bY_n x 0) ?_
  refine zs_iast 1 dX12_append_32 rfl (vp_in_nI (by omega) (by omega)) ?_
  rw [nI_c (n := ((sz + 1) + 1) + 1) (by omega), nF_u]
  show zS _ _ _ _ _ _ [(z, .inr (10, fPR a (((sz + 1) + 1) + 1) fa nk oo be ho)), (a 0, .inl (0, 740, .inl (nF (un (un (un (un bt sz (bY x 24)) (sz + 1) (bY x 16)) ((sz + 1) + 1) (bY x 8)) (((sz + 1) + 1) + 1) (bY x 0)))))]
  refine zs_aload_n dX12_append_33 rfl rfl ?_
  refine zs_dup dX12_append_34 rfl ?_
  refine zs_get 0 dX12_append_35 zf_RX12_88 rfl (v := .int (nI (((sz + 1) + 1) + 1))) rfl ?_
  refine zs_iconst (v := nI 1) dX12_append_38 (by decide) ?_
  refine zs_iadd dX12_append_39 ?_
  refine zs_as (y := nI ((((sz + 1) + 1) + 1) + 1)) (nI_add _ _) ?_
  refine zs_put 0 dX12_append_40 zf_RX12_88 rfl (Nat.le_of_ble_eq_true rfl) (zPv_i _) ?_
  show zS _ _ _ _ _ _ [(z, .inr (10, fPR a ((((sz + 1) + 1) + 1) + 1) fa nk oo be ho)), (a 0, .inl (0, 740, .inl (nF (un (un (un (un bt sz (bY x 24)) (sz + 1) (bY x 16)) ((sz + 1) + 1) (bY x 8)) (((sz + 1) + 1) + 1) (bY x 0)))))]
  refine zs_iinc (v := (-8)) (lv' := [(2, .int (-8)), (0, .ref z), (1, .int x)]) dX12_append_43 rfl (by decide) (Nat.le_of_ble_eq_true rfl) rfl ?_
  refine zs_goto (tgt := 3) dX12_append_46 (by decide) ?_
  refine zs_iload_n dX12_append_3 rfl ?_
  refine zs_if_lt (tgt := 49) dX12_append_4 (by decide) (fun c_9 => ?_) (fun c_9 => (by first | exact absurd c_9 (by decide) | exact absurd (by decide) c_9 : False).elim)
  exact zs_vret dX12_append_49 rfl ⟨rfl, rfl⟩
theorem dX12_feed_0 : decode cX12_feed 0 = .ok (.aload_n 0, 1) := by decide +kernel
theorem dX12_feed_1 : decode cX12_feed 1 = .ok (.getfield 88, 3) := by decide +kernel
theorem dX12_feed_4 : decode cX12_feed 4 = .ok (.bipush 20, 2) := by decide +kernel
theorem dX12_feed_6 : decode cX12_feed 6 = .ok (.iadd, 1) := by decide +kernel
theorem dX12_feed_7 : decode cX12_feed 7 = .ok (.sipush 740, 3) := by decide +kernel
theorem dX12_feed_10 : decode cX12_feed 10 = .ok (.if_icmp .le 5, 3) := by decide +kernel
theorem dX12_feed_13 : decode cX12_feed 13 = .ok (.iconst (-1), 1) := by decide +kernel
theorem dX12_feed_14 : decode cX12_feed 14 = .ok (.ireturn, 1) := by decide +kernel
theorem dX12_feed_15 : decode cX12_feed 15 = .ok (.aload_n 0, 1) := by decide +kernel
theorem dX12_feed_16 : decode cX12_feed 16 = .ok (.iload_n 1, 1) := by decide +kernel
theorem dX12_feed_17 : decode cX12_feed 17 = .ok (.invokevirtual 92, 3) := by decide +kernel
theorem dX12_feed_20 : decode cX12_feed 20 = .ok (.aload_n 0, 1) := by decide +kernel
theorem dX12_feed_21 : decode cX12_feed 21 = .ok (.iload_n 2, 1) := by decide +kernel
theorem dX12_feed_22 : decode cX12_feed 22 = .ok (.invokevirtual 92, 3) := by decide +kernel
theorem dX12_feed_25 : decode cX12_feed 25 = .ok (.aload_n 0, 1) := by decide +kernel
theorem dX12_feed_26 : decode cX12_feed 26 = .ok (.iload_n 3, 1) := by decide +kernel
theorem dX12_feed_27 : decode cX12_feed 27 = .ok (.invokevirtual 92, 3) := by decide +kernel
theorem dX12_feed_30 : decode cX12_feed 30 = .ok (.aload_n 0, 1) := by decide +kernel
theorem dX12_feed_31 : decode cX12_feed 31 = .ok (.iload 4, 2) := by decide +kernel
theorem dX12_feed_33 : decode cX12_feed 33 = .ok (.invokevirtual 92, 3) := by decide +kernel
theorem dX12_feed_36 : decode cX12_feed 36 = .ok (.aload_n 0, 1) := by decide +kernel
theorem dX12_feed_37 : decode cX12_feed 37 = .ok (.iload 5, 2) := by decide +kernel
theorem dX12_feed_39 : decode cX12_feed 39 = .ok (.invokevirtual 92, 3) := by decide +kernel
theorem dX12_feed_42 : decode cX12_feed 42 = .ok (.aload_n 0, 1) := by decide +kernel
theorem dX12_feed_43 : decode cX12_feed 43 = .ok (.getfield 88, 3) := by decide +kernel
theorem dX12_feed_46 : decode cX12_feed 46 = .ok (.ireturn, 1) := by decide +kernel
def fd5 (b : Nat → Nat) (n : Nat) (x1 x2 x3 x4 x5 : Int32) : Nat → Nat := bPut (bPut (bPut (bPut (bPut b n x1) (n + 4) x2) (n + 8) x3) (n + 12) x4) (n + 16) x5
set_option maxRecDepth 100000 in
theorem s_feed (l : Launch) (dd : Nat) (z : Nat) (a : Nat → Nat) (sz fa nk oo be ho : Nat) (bt : Nat → Nat) (x1 x2 x3 x4 x5 : Int32) (hd : 1 ≤ dd) (hsz : sz ≤ 740) : zSp l mX12_feed dd 0 0 [.ref z, .int x1, .int x2, .int x3, .int x4, .int x5] [(z, .inr (10, fPR a sz fa nk oo be ho)), (a 0, .inl (0, 740, .inl (nF bt)))] (fun r K' => (720 < sz ∧ r = some (.int (-1)) ∧ K' = [(z, .inr (10, fPR a sz fa nk oo be ho))] ++ [(a 0, .inl (0, 740, .inl (nF bt)))]) ∨ (sz ≤ 720 ∧ r = some (.int (nI (sz + 20))) ∧ K' = [(z, .inr (10, fPR a (sz + 20) fa nk oo be ho))] ++ [(a 0, .inl (0, 740, .inl (nF (fd5 bt sz x1 x2 x3 x4 x5))))])) := by
  refine zSp.of (by decide) (Nat.le_of_ble_eq_true rfl) (fun h0 => ?_)
  show zS _ 0 0 0 [(0, .ref z), (1, .int x1), (2, .int x2), (3, .int x3), (4, .int x4), (5, .int x5)] [] [(z, .inr (10, fPR a sz fa nk oo be ho)), (a 0, .inl (0, 740, .inl (nF bt)))]
  refine zs_aload_n dX12_feed_0 rfl rfl ?_
  refine zs_get 0 dX12_feed_1 zf_RX12_88 rfl (v := .int (nI sz)) rfl ?_
  refine zs_bipush (v := nI 20) dX12_feed_4 (by decide) ?_
  refine zs_iadd dX12_feed_6 ?_
  refine zs_as (y := nI (sz + 20)) (nI_add _ _) ?_
  refine zs_sipush (v := nI 740) dX12_feed_7 (by decide) ?_
  refine zs_icmp_le (tgt := 15) dX12_feed_10 (by decide) (fun c_1 => ?_) (fun c_1 => ?_)
  · have c_1 : (sz + 20) ≤ 740 := by have hc := c_1; rw [nI_le' (by omega) (by omega)] at hc; exact hc
    refine zs_aload_n dX12_feed_15 rfl rfl ?_
    refine zs_iload_n dX12_feed_16 rfl ?_
    refine zs_callV (M := mX12_append) (As := [.int x1]) (st := []) (Kc := [(z, .inr (10, fPR a sz fa nk oo be ho)), (a 0, .inl (0, 740, .inl (nF bt)))]) (Kr := []) [0, 1] [] 0 dX12_feed_17 zl_RX12_92 kX12_append rfl rfl rfl rfl rfl (by decide) rfl rfl (show dd - 1 + 1 ≤ dd by omega) (Nat.zero_le _) (Nat.zero_le _) (Nat.le_of_ble_eq_true rfl) (s_append l (dd - 1) z a sz fa nk oo be ho bt x1 (by omega)) (fun r K1 hr => ?_)
    obtain ⟨rfl, rfl⟩ := hr
    refine zs_K (K' := [(z, .inr (10, fPR a (sz + 4) fa nk oo be ho)), (a 0, .inl (0, 740, .inl (nF (bPut bt sz x1))))]) [0, 1] rfl (by decide) ?_
    refine zs_aload_n dX12_feed_20 rfl rfl ?_
    refine zs_iload_n dX12_feed_21 rfl ?_
    refine zs_callV (M := mX12_append) (As := [.int x2]) (st := []) (Kc := [(z, .inr (10, fPR a (sz + 4) fa nk oo be ho)), (a 0, .inl (0, 740, .inl (nF (bPut bt sz x1))))]) (Kr := []) [0, 1] [] 0 dX12_feed_22 zl_RX12_92 kX12_append rfl rfl rfl rfl rfl (by decide) rfl rfl (show dd - 1 + 1 ≤ dd by omega) (Nat.zero_le _) (Nat.zero_le _) (Nat.le_of_ble_eq_true rfl) (s_append l (dd - 1) z a (sz + 4) fa nk oo be ho (bPut bt sz x1) x2 (by omega)) (fun r K1 hr => ?_)
    obtain ⟨rfl, rfl⟩ := hr
    refine zs_K (K' := [(z, .inr (10, fPR a (sz + 8) fa nk oo be ho)), (a 0, .inl (0, 740, .inl (nF (bPut (bPut bt sz x1) (sz + 4) x2))))]) [0, 1] rfl (by decide) ?_
    refine zs_aload_n dX12_feed_25 rfl rfl ?_
    refine zs_iload_n dX12_feed_26 rfl ?_
    refine zs_callV (M := mX12_append) (As := [.int x3]) (st := []) (Kc := [(z, .inr (10, fPR a (sz + 8) fa nk oo be ho)), (a 0, .inl (0, 740, .inl (nF (bPut (bPut bt sz x1) (sz + 4) x2))))]) (Kr := []) [0, 1] [] 0 dX12_feed_27 zl_RX12_92 kX12_append rfl rfl rfl rfl rfl (by decide) rfl rfl (show dd - 1 + 1 ≤ dd by omega) (Nat.zero_le _) (Nat.zero_le _) (Nat.le_of_ble_eq_true rfl) (s_append l (dd - 1) z a (sz + 8) fa nk oo be ho (bPut (bPut bt sz x1) (sz + 4) x2) x3 (by omega)) (fun r K1 hr => ?_)
    obtain ⟨rfl, rfl⟩ := hr
    refine zs_K (K' := [(z, .inr (10, fPR a (sz + 12) fa nk oo be ho)), (a 0, .inl (0, 740, .inl (nF (bPut (bPut (bPut bt sz x1) (sz + 4) x2) (sz + 8) x3))))]) [0, 1] rfl (by decide) ?_
    refine zs_aload_n dX12_feed_30 rfl rfl ?_
    refine zs_iload dX12_feed_31 rfl ?_
    refine zs_callV (M := mX12_append) (As := [.int x4]) (st := []) (Kc := [(z, .inr (10, fPR a (sz + 12) fa nk oo be ho)), (a 0, .inl (0, 740, .inl (nF (bPut (bPut (bPut bt sz x1) (sz + 4) x2) (sz + 8) x3))))]) (Kr := []) [0, 1] [] 0 dX12_feed_33 zl_RX12_92 kX12_append rfl rfl rfl rfl rfl (by decide) rfl rfl (show dd - 1 + 1 ≤ dd by omega) (Nat.zero_le _) (Nat.zero_le _) (Nat.le_of_ble_eq_true rfl) (s_append l (dd - 1) z a (sz + 12) fa nk oo be ho (bPut (bPut (bPut bt sz x1) (sz + 4) x2) (sz + 8) x3) x4 (by omega)) (fun r K1 hr => ?_)
    obtain ⟨rfl, rfl⟩ := hr
    refine zs_K (K' := [(z, .inr (10, fPR a (sz + 16) fa nk oo be ho)), (a 0, .inl (0, 740, .inl (nF (bPut (bPut (bPut (bPut bt sz x1) (sz + 4) x2) (sz + 8) x3) (sz + 12) x4))))]) [0, 1] rfl (by decide) ?_
    refine zs_aload_n dX12_feed_36 rfl rfl ?_
    refine zs_iload dX12_feed_37 rfl ?_
    refine zs_callV (M := mX12_append) (As := [.int x5]) (st := []) (Kc := [(z, .inr (10, fPR a (sz + 16) fa nk oo be ho)), (a 0, .inl (0, 740, .inl (nF (bPut (bPut (bPut (bPut bt sz x1) (sz + 4) x2) (sz + 8) x3) (sz + 12) x4))))]) (Kr := []) [0, 1] [] 0 dX12_feed_39 zl_RX12_92 kX12_append rfl rfl rfl rfl rfl (by decide) rfl rfl (show dd - 1 + 1 ≤ dd by omega) (Nat.zero_le _) (Nat.zero_le _) (Nat.le_of_ble_eq_true rfl) (s_append l (dd - 1) z a (sz + 16) fa nk oo be ho (bPut (bPut (bPut (bPut bt sz x1) (sz + 4) x2) (sz + 8) x3) (sz + 12) x4) x5 (by omega)) (fun r K1 hr => ?_)
    obtain ⟨rfl, rfl⟩ := hr
    refine zs_K (K' := [(z, .inr (10, fPR a (sz + 20) fa nk oo be ho)), (a 0, .inl (0, 740, .inl (nF (bPut (bPut (bPut (bPut (bPut bt sz x1) (sz + 4) x2) (sz + 8) x3) (sz + 12) x4) (sz + 16) x5))))]) [0, 1] rfl (by decide) ?_
    refine zs_aload_n dX12_feed_42 rfl rfl ?_
    refine zs_get 0 dX12_feed_43 zf_RX12_88 rfl (v := .int (nI (sz + 20))) rfl ?_
    exact zs_iret dX12_feed_46 rfl (Or.inr ⟨by omega, rfl, rfl⟩)
  · have c_1 : ¬ ((sz + 20) ≤ 740) := by have hc := c_1; rw [nI_le' (by omega) (by omega)] at hc; exact hc
    refine zs_iconst (v := (-1)) dX12_feed_13 (by decide) ?_
    exact zs_iret dX12_feed_14 rfl (Or.inl ⟨by omega, rfl, rfl⟩)
theorem dX12_end_0 : decode cX12_end 0 = .ok (.iload_n 1, 1) := by decide +kernel
theorem dX12_end_1 : decode cX12_end 1 = .ok (.ifCond .lt 11, 3) := by decide +kernel
theorem dX12_end_4 : decode cX12_end 4 = .ok (.iload_n 1, 1) := by decide +kernel
theorem dX12_end_5 : decode cX12_end 5 = .ok (.aload_n 0, 1) := by decide +kernel
theorem dX12_end_6 : decode cX12_end 6 = .ok (.getfield 88, 3) := by decide +kernel
theorem dX12_end_9 : decode cX12_end 9 = .ok (.if_icmp .le 5, 3) := by decide +kernel
theorem dX12_end_12 : decode cX12_end 12 = .ok (.iconst 0, 1) := by decide +kernel
theorem dX12_end_13 : decode cX12_end 13 = .ok (.ireturn, 1) := by decide +kernel
theorem dX12_end_14 : decode cX12_end 14 = .ok (.aload_n 0, 1) := by decide +kernel
theorem dX12_end_15 : decode cX12_end 15 = .ok (.iload_n 1, 1) := by decide +kernel
theorem dX12_end_16 : decode cX12_end 16 = .ok (.putfield 88, 3) := by decide +kernel
theorem dX12_end_19 : decode cX12_end 19 = .ok (.iconst 1, 1) := by decide +kernel
theorem dX12_end_20 : decode cX12_end 20 = .ok (.ireturn, 1) := by decide +kernel
set_option maxRecDepth 100000 in
theorem s_endK (l : Launch) (dd : Nat) (z : Nat) (a : Nat → Nat) (sz fa nk oo be ho : Nat) (k : Nat) (hsz : sz ≤ 740) (hk : k < 2147483648) : zSp l mX12_end dd 0 0 [.ref z, .int (nI k)] [(z, .inr (10, fPR a sz fa nk oo be ho))] (fun r K' => (sz < k ∧ r = some (.int 0) ∧ K' = [(z, .inr (10, fPR a sz fa nk oo be ho))]) ∨ (k ≤ sz ∧ r = some (.int 1) ∧ K' = [(z, .inr (10, fPR a k fa nk oo be ho))])) := by
  refine zSp.of (by decide) (Nat.le_of_ble_eq_true rfl) (fun h0 => ?_)
  show zS _ 0 0 0 [(0, .ref z), (1, .int (nI k))] [] [(z, .inr (10, fPR a sz fa nk oo be ho))]
  refine zs_iload_n dX12_end_0 rfl ?_
  refine zs_if_lt (tgt := 12) dX12_end_1 (by decide) (fun c_1 => (absurd c_1 (by rw [show (0 : Int32) = nI 0 from rfl, nI_lt' (by omega) (by omega)]; omega) : False).elim) (fun c_1 => ?_)
  refine zs_iload_n dX12_end_4 rfl ?_
  refine zs_aload_n dX12_end_5 rfl rfl ?_
  refine zs_get 0 dX12_end_6 zf_RX12_88 rfl (v := .int (nI sz)) rfl ?_
  refine zs_icmp_le (tgt := 14) dX12_end_9 (by decide) (fun c_2 => ?_) (fun c_2 => ?_)
  · have c_2 : k ≤ sz := by have hc := c_2; rw [nI_le' (by omega) (by omega)] at hc; exact hc
    refine zs_aload_n dX12_end_14 rfl rfl ?_
    refine zs_iload_n dX12_end_15 rfl ?_
    refine zs_put 0 dX12_end_16 zf_RX12_88 rfl (Nat.le_of_ble_eq_true rfl) (zPv_i _) ?_
    show zS _ _ _ _ _ _ [(z, .inr (10, fPR a k fa nk oo be ho))]
    refine zs_iconst (v := nI 1) dX12_end_19 (by decide) ?_
    exact zs_zret dX12_end_20 rfl (Or.inr rfl) (Or.inr ⟨by omega, rfl, rfl⟩)
  · have c_2 : ¬ (k ≤ sz) := by have hc := c_2; rw [nI_le' (by omega) (by omega)] at hc; exact hc
    refine zs_iconst (v := nI 0) dX12_end_12 (by decide) ?_
    exact zs_zret dX12_end_13 rfl (Or.inl rfl) (Or.inl ⟨by omega, rfl, rfl⟩)
set_option maxRecDepth 100000 in
theorem s_endN (l : Launch) (dd : Nat) (z : Nat) (a : Nat → Nat) (sz fa nk oo be ho : Nat) (x : Int32) (hx : x < 0) : zSp l mX12_end dd 0 0 [.ref z, .int x] [(z, .inr (10, fPR a sz fa nk oo be ho))] (fun r K' => r = some (.int 0) ∧ K' = [(z, .inr (10, fPR a sz fa nk oo be ho))]) := by
  refine zSp.of (by decide) (Nat.le_of_ble_eq_true rfl) (fun h0 => ?_)
  show zS _ 0 0 0 [(0, .ref z), (1, .int x)] [] [(z, .inr (10, fPR a sz fa nk oo be ho))]
  refine zs_iload_n dX12_end_0 rfl ?_
  refine zs_if_lt (tgt := 12) dX12_end_1 (by decide) (fun c_1 => ?_) (fun c_1 => (c_1 hx : False).elim)
  refine zs_iconst (v := nI 0) dX12_end_12 (by decide) ?_
  exact zs_zret dX12_end_13 rfl (Or.inl rfl) ⟨rfl, rfl⟩
abbrev pTdP (b : Nat → Nat) (n M lo hi : Nat) : Prop := lo ≤ n ∧ n ≤ hi ∧ (∀ i, i < n → b i < M) ∧ (∀ i, i < n → ∀ j, j < i → b j ≠ b i)
def pTd (b : Nat → Nat) (n M lo hi : Nat) : Bool := decide (pTdP b n M lo hi)
theorem pTd_n {b : Nat → Nat} {n M lo hi : Nat} (h : ¬ pTdP b n M lo hi) : pTd b n M lo hi = false := decide_eq_false h
theorem pTd_y {b : Nat → Nat} {n M lo hi : Nat} (h : pTdP b n M lo hi) : pTd b n M lo hi = true := decide_eq_true h
theorem dX12_menTold_0 : decode cX12_menTold 0 = .ok (.aload_n 0, 1) := by decide +kernel
theorem dX12_menTold_1 : decode cX12_menTold 1 = .ok (.getfield 88, 3) := by decide +kernel
theorem dX12_menTold_4 : decode cX12_menTold 4 = .ok (.iload_n 1, 1) := by decide +kernel
theorem dX12_menTold_5 : decode cX12_menTold 5 = .ok (.if_icmp .lt 11, 3) := by decide +kernel
theorem dX12_menTold_8 : decode cX12_menTold 8 = .ok (.aload_n 0, 1) := by decide +kernel
theorem dX12_menTold_9 : decode cX12_menTold 9 = .ok (.getfield 88, 3) := by decide +kernel
theorem dX12_menTold_12 : decode cX12_menTold 12 = .ok (.iload_n 2, 1) := by decide +kernel
theorem dX12_menTold_13 : decode cX12_menTold 13 = .ok (.if_icmp .le 5, 3) := by decide +kernel
theorem dX12_menTold_16 : decode cX12_menTold 16 = .ok (.iconst 0, 1) := by decide +kernel
theorem dX12_menTold_17 : decode cX12_menTold 17 = .ok (.ireturn, 1) := by decide +kernel
theorem dX12_menTold_18 : decode cX12_menTold 18 = .ok (.iconst 0, 1) := by decide +kernel
theorem dX12_menTold_19 : decode cX12_menTold 19 = .ok (.istore_n 3, 1) := by decide +kernel
theorem dX12_menTold_20 : decode cX12_menTold 20 = .ok (.iload_n 3, 1) := by decide +kernel
theorem dX12_menTold_21 : decode cX12_menTold 21 = .ok (.aload_n 0, 1) := by decide +kernel
theorem dX12_menTold_22 : decode cX12_menTold 22 = .ok (.getfield 88, 3) := by decide +kernel
theorem dX12_menTold_25 : decode cX12_menTold 25 = .ok (.if_icmp .ge 63, 3) := by decide +kernel
theorem dX12_menTold_28 : decode cX12_menTold 28 = .ok (.aload_n 0, 1) := by decide +kernel
theorem dX12_menTold_29 : decode cX12_menTold 29 = .ok (.getfield 9, 3) := by decide +kernel
theorem dX12_menTold_32 : decode cX12_menTold 32 = .ok (.iload_n 3, 1) := by decide +kernel
theorem dX12_menTold_33 : decode cX12_menTold 33 = .ok (.iaload, 1) := by decide +kernel
theorem dX12_menTold_34 : decode cX12_menTold 34 = .ok (.aload_n 0, 1) := by decide +kernel
theorem dX12_menTold_35 : decode cX12_menTold 35 = .ok (.getfield 23, 3) := by decide +kernel
theorem dX12_menTold_38 : decode cX12_menTold 38 = .ok (.getfield 96, 3) := by decide +kernel
theorem dX12_menTold_41 : decode cX12_menTold 41 = .ok (.getfield 100, 3) := by decide +kernel
theorem dX12_menTold_44 : decode cX12_menTold 44 = .ok (.if_icmp .lt 5, 3) := by decide +kernel
theorem dX12_menTold_47 : decode cX12_menTold 47 = .ok (.iconst 0, 1) := by decide +kernel
theorem dX12_menTold_48 : decode cX12_menTold 48 = .ok (.ireturn, 1) := by decide +kernel
theorem dX12_menTold_49 : decode cX12_menTold 49 = .ok (.iconst 0, 1) := by decide +kernel
theorem dX12_menTold_50 : decode cX12_menTold 50 = .ok (.istore 4, 2) := by decide +kernel
theorem dX12_menTold_52 : decode cX12_menTold 52 = .ok (.iload 4, 2) := by decide +kernel
theorem dX12_menTold_54 : decode cX12_menTold 54 = .ok (.iload_n 3, 1) := by decide +kernel
theorem dX12_menTold_55 : decode cX12_menTold 55 = .ok (.if_icmp .ge 27, 3) := by decide +kernel
theorem dX12_menTold_58 : decode cX12_menTold 58 = .ok (.aload_n 0, 1) := by decide +kernel
theorem dX12_menTold_59 : decode cX12_menTold 59 = .ok (.getfield 9, 3) := by decide +kernel
theorem dX12_menTold_62 : decode cX12_menTold 62 = .ok (.iload 4, 2) := by decide +kernel
theorem dX12_menTold_64 : decode cX12_menTold 64 = .ok (.iaload, 1) := by decide +kernel
theorem dX12_menTold_65 : decode cX12_menTold 65 = .ok (.aload_n 0, 1) := by decide +kernel
theorem dX12_menTold_66 : decode cX12_menTold 66 = .ok (.getfield 9, 3) := by decide +kernel
theorem dX12_menTold_69 : decode cX12_menTold 69 = .ok (.iload_n 3, 1) := by decide +kernel
theorem dX12_menTold_70 : decode cX12_menTold 70 = .ok (.iaload, 1) := by decide +kernel
theorem dX12_menTold_71 : decode cX12_menTold 71 = .ok (.if_icmp .ne 5, 3) := by decide +kernel
theorem dX12_menTold_74 : decode cX12_menTold 74 = .ok (.iconst 0, 1) := by decide +kernel
theorem dX12_menTold_75 : decode cX12_menTold 75 = .ok (.ireturn, 1) := by decide +kernel
theorem dX12_menTold_76 : decode cX12_menTold 76 = .ok (.iinc 4 1, 3) := by decide +kernel
theorem dX12_menTold_79 : decode cX12_menTold 79 = .ok (.goto (-27), 3) := by decide +kernel
theorem dX12_menTold_82 : decode cX12_menTold 82 = .ok (.iinc 3 1, 3) := by decide +kernel
theorem dX12_menTold_85 : decode cX12_menTold 85 = .ok (.goto (-65), 3) := by decide +kernel
theorem dX12_menTold_88 : decode cX12_menTold 88 = .ok (.iconst 1, 1) := by decide +kernel
theorem dX12_menTold_89 : decode cX12_menTold 89 = .ok (.ireturn, 1) := by decide +kernel
set_option maxRecDepth 100000 in
theorem lp_tdj {l : Launch} {dd : Nat} {Po : zPo} {K0 : zK} {h0 : List va_E} {Xo : zK → Prop} {Gc : zG → Prop} (z : Nat) (a : Nat → Nat) (sz fa nk oo be ho : Nat) (bt : Nat → Nat) (y p s : Nat) (ay : Nat → Nat) (D : zYd) (lo hi : Nat) (hsz : sz ≤ 740) (hlo : lo ≤ 12) (hhi : hi ≤ 12) (hD : D.1 0 ≤ 12) (hbt : ∀ j, bt j < 256) (i : Nat) (hi2 : i < sz) (hP : ∀ r K', r = some (.int (nI (bN (pTd bt sz (D.1 0) lo hi)))) ∧ K' = [(z, .inr (10, fPR a sz fa nk oo be ho))] ++ ([(a 0, .inl (0, 740, .inl (nF bt)))] ++ ([(a 4, .inr (7, fSta y p s))] ++ [(y, .inr (9, fYard ay (ysN D.1 D.2.1)))])) → Po r K') (hk : (∀ j, j < i → bt j ≠ bt i) → zS (l, mX12_menTold, dd, Po, K0, h0, Xo, Gc) 0 0 82 [(0, .ref z), (1, .int (nI lo)), (2, .int (nI hi)), (3, .int (nI i))] [] [(z, .inr (10, fPR a sz fa nk oo be ho)), (a 0, .inl (0, 740, .inl (nF bt))), ((a 4), .inr (7, fSta y p s)), (y, .inr (9, fYard ay (ysN D.1 D.2.1)))]) : ∀ (m j : Nat), j + m = i → (∀ k, k < j → bt k ≠ bt i) → zS (l, mX12_menTold, dd, Po, K0, h0, Xo, Gc) 0 0 52 [(0, .ref z), (1, .int (nI lo)), (2, .int (nI hi)), (3, .int (nI i)), (4, .int (nI j))] [] [(z, .inr (10, fPR a sz fa nk oo be ho)), (a 0, .inl (0, 740, .inl (nF bt))), ((a 4), .inr (7, fSta y p s)), (y, .inr (9, fYard ay (ysN D.1 D.2.1)))] := by
  intro m
  induction m with
  | zero =>
    intro j hj hno
    refine zs_iload dX12_menTold_52 rfl ?_
    refine zs_iload_n dX12_menTold_54 rfl ?_
    refine zs_icmp_ge (tgt := 82) dX12_menTold_55 (by decide) (fun c_1 => ?_) (fun c_1 => (c_1 (by rw [show j = i by omega]; exact Int32.le_refl _) : False).elim)
    have hij : j = i := by omega
    rw [hij] at hno
    refine zs_lv [0, 1, 2, 3] rfl ?_
    exact hk hno
  | succ m ih =>
    intro j hj hno
    refine zs_iload dX12_menTold_52 rfl ?_
    refine zs_iload_n dX12_menTold_54 rfl ?_
    refine zs_icmp_ge (tgt := 82) dX12_menTold_55 (by decide) (fun c_1 => (nI_ge (show j < i by omega) (by omega) c_1 : False).elim) (fun c_1 => ?_)
    have hb1 := hbt j
    have hb2 := hbt i
    refine zs_aload_n dX12_menTold_58 rfl rfl ?_
    refine zs_get 0 dX12_menTold_59 zf_RX12_9 rfl (v := .ref (a 0)) rfl ?_
    refine zs_iload dX12_menTold_62 rfl ?_
    refine zs_iald 1 dX12_menTold_64 rfl (vp_in_nI (by omega) (by omega)) ?_
    refine zs_as (y := nI (bt j)) (by rw [nI_c (n := j) (by omega)]; rfl) ?_
    refine zs_aload_n dX12_menTold_65 rfl rfl ?_
    refine zs_get 0 dX12_menTold_66 zf_RX12_9 rfl (v := .ref (a 0)) rfl ?_
    refine zs_iload_n dX12_menTold_69 rfl ?_
    refine zs_iald 1 dX12_menTold_70 rfl (vp_in_nI (by omega) (by omega)) ?_
    refine zs_as (y := nI (bt i)) (by rw [nI_c (n := i) (by omega)]; rfl) ?_
    refine zs_icmp_ne (tgt := 76) dX12_menTold_71 (by decide) (fun c_2 => ?_) (fun c_2 => ?_)
    · have c_2 : ¬ ((bt j) = (bt i)) := by have hc := c_2; rw [nI_eq' (by omega) (by omega)] at hc; exact hc
      refine zs_iinc (v := (nI (j + 1))) (lv' := [(4, .int (nI (j + 1))), (0, .ref z), (1, .int (nI lo)), (2, .int (nI hi)), (3, .int (nI i))]) dX12_menTold_76 rfl (nI_add _ 1) (Nat.le_of_ble_eq_true rfl) rfl ?_
      refine zs_goto (tgt := 52) dX12_menTold_79 (by decide) ?_
      refine zs_lv [1, 2, 3, 4, 0] rfl ?_
      exact ih (j + 1) (by omega) (fun k hk => (Nat.lt_or_eq_of_le (Nat.le_of_lt_succ hk)).elim (hno k) (fun e => e ▸ c_2))
    · have c_2 : (bt j) = (bt i) := by have hc := c_2; rw [nI_eq' (by omega) (by omega)] at hc; exact hc
      refine zs_iconst (v := nI 0) dX12_menTold_74 (by decide) ?_
      exact zs_zret dX12_menTold_75 rfl (Or.inl rfl) (hP _ _ ⟨by rw [pTd_n (show ¬ pTdP bt sz (D.1 0) lo hi from fun h => h.2.2.2 i (by omega) j (by omega) c_2)]; rfl, rfl⟩)
set_option maxRecDepth 100000 in
theorem lp_tdi {l : Launch} {dd : Nat} {Po : zPo} {K0 : zK} {h0 : List va_E} {Xo : zK → Prop} {Gc : zG → Prop} (z : Nat) (a : Nat → Nat) (sz fa nk oo be ho : Nat) (bt : Nat → Nat) (y p s : Nat) (ay : Nat → Nat) (D : zYd) (lo hi : Nat) (hsz : sz ≤ 740) (hlo : lo ≤ 12) (hhi : hi ≤ 12) (hD : D.1 0 ≤ 12) (hbt : ∀ j, bt j < 256) (hl1 : lo ≤ sz) (hl2 : sz ≤ hi) (hP : ∀ r K', r = some (.int (nI (bN (pTd bt sz (D.1 0) lo hi)))) ∧ K' = [(z, .inr (10, fPR a sz fa nk oo be ho))] ++ ([(a 0, .inl (0, 740, .inl (nF bt)))] ++ ([(a 4, .inr (7, fSta y p s))] ++ [(y, .inr (9, fYard ay (ysN D.1 D.2.1)))])) → Po r K') : ∀ (m i : Nat), i + m = sz → (∀ k, k < i → bt k < D.1 0) → (∀ k, k < i → ∀ j, j < k → bt j ≠ bt k) → zS (l, mX12_menTold, dd, Po, K0, h0, Xo, Gc) 0 0 20 [(0, .ref z), (1, .int (nI lo)), (2, .int (nI hi)), (3, .int (nI i))] [] [(z, .inr (10, fPR a sz fa nk oo be ho)), (a 0, .inl (0, 740, .inl (nF bt))), ((a 4), .inr (7, fSta y p s)), (y, .inr (9, fYard ay (ysN D.1 D.2.1)))] := by
  intro m
  induction m with
  | zero =>
    intro i hie h1 h2
    refine zs_iload_n dX12_menTold_20 rfl ?_
    refine zs_aload_n dX12_menTold_21 rfl rfl ?_
    refine zs_get 0 dX12_menTold_22 zf_RX12_88 rfl (v := .int (nI sz)) rfl ?_
    refine zs_icmp_ge (tgt := 88) dX12_menTold_25 (by decide) (fun c_1 => ?_) (fun c_1 => (c_1 (by rw [show i = sz by omega]; exact Int32.le_refl _) : False).elim)
    refine zs_iconst (v := nI 1) dX12_menTold_88 (by decide) ?_
    have hij : i = sz := by omega
    rw [hij] at h1 h2
    exact zs_zret dX12_menTold_89 rfl (Or.inr rfl) (hP _ _ ⟨by rw [pTd_y ⟨hl1, hl2, h1, h2⟩]; rfl, rfl⟩)
  | succ m ih =>
    intro i hie h1 h2
    refine zs_iload_n dX12_menTold_20 rfl ?_
    refine zs_aload_n dX12_menTold_21 rfl rfl ?_
    refine zs_get 0 dX12_menTold_22 zf_RX12_88 rfl (v := .int (nI sz)) rfl ?_
    refine zs_icmp_ge (tgt := 88) dX12_menTold_25 (by decide) (fun c_1 => (nI_ge (show i < sz by omega) (by omega) c_1 : False).elim) (fun c_1 => ?_)
    have hb1 := hbt i
    refine zs_aload_n dX12_menTold_28 rfl rfl ?_
    refine zs_get 0 dX12_menTold_29 zf_RX12_9 rfl (v := .ref (a 0)) rfl ?_
    refine zs_iload_n dX12_menTold_32 rfl ?_
    refine zs_iald 1 dX12_menTold_33 rfl (vp_in_nI (by omega) (by omega)) ?_
    refine zs_as (y := nI (bt i)) (by rw [nI_c (n := i) (by omega)]; rfl) ?_
    refine zs_aload_n dX12_menTold_34 rfl rfl ?_
    refine zs_get 0 dX12_menTold_35 zf_RX12_23 rfl (v := .ref (a 4)) rfl ?_
    refine zs_get 2 dX12_menTold_38 zf_RX12_96 rfl (v := .ref y) rfl ?_
    refine zs_get 3 dX12_menTold_41 zf_RX12_100 rfl (v := .int (nI (D.1 0))) rfl ?_
    refine zs_icmp_lt (tgt := 49) dX12_menTold_44 (by decide) (fun c_2 => ?_) (fun c_2 => ?_)
    · have c_2 : (bt i) < (D.1 0) := by have hc := c_2; rw [nI_lt' (by omega) (by omega)] at hc; exact hc
      refine zs_iconst (v := nI 0) dX12_menTold_49 (by decide) ?_
      refine zs_istore (lv' := [(4, .int (nI 0)), (0, .ref z), (1, .int (nI lo)), (2, .int (nI hi)), (3, .int (nI i))]) dX12_menTold_50 (Nat.le_of_ble_eq_true rfl) rfl ?_
      refine zs_lv [1, 2, 3, 4, 0] rfl ?_
      refine lp_tdj z a sz fa nk oo be ho bt y p s ay D lo hi hsz hlo hhi hD hbt i (by omega) hP (fun hj => ?_) i 0 (Nat.zero_add _) (fun k hk => absurd hk (Nat.not_lt_zero k))
      refine zs_iinc (v := (nI (i + 1))) (lv' := [(3, .int (nI (i + 1))), (0, .ref z), (1, .int (nI lo)), (2, .int (nI hi))]) dX12_menTold_82 rfl (nI_add _ 1) (Nat.le_of_ble_eq_true rfl) rfl ?_
      refine zs_goto (tgt := 20) dX12_menTold_85 (by decide) ?_
      refine zs_lv [1, 2, 3, 0] rfl ?_
      exact ih (i + 1) (by omega) (fun k hk => (Nat.lt_or_eq_of_le (Nat.le_of_lt_succ hk)).elim (h1 k) (fun e => e ▸ (show bt i < D.1 0 by omega))) (fun k hk => (Nat.lt_or_eq_of_le (Nat.le_of_lt_succ hk)).elim (h2 k) (fun e => e ▸ hj))
    · have c_2 : ¬ ((bt i) < (D.1 0)) := by have hc := c_2; rw [nI_lt' (by omega) (by omega)] at hc; exact hc
      refine zs_iconst (v := nI 0) dX12_menTold_47 (by decide) ?_
      exact zs_zret dX12_menTold_48 rfl (Or.inl rfl) (hP _ _ ⟨by rw [pTd_n (show ¬ pTdP bt sz (D.1 0) lo hi from fun h => by have := h.2.2.1 i (by omega); omega)]; rfl, rfl⟩)
set_option maxRecDepth 100000 in
theorem s_menTold (l : Launch) (dd : Nat) (z : Nat) (a : Nat → Nat) (sz fa nk oo be ho : Nat) (bt : Nat → Nat) (y p s : Nat) (ay : Nat → Nat) (D : zYd) (lo hi : Nat) (hsz : sz ≤ 740) (hlo : lo ≤ 12) (hhi : hi ≤ 12) (hD : D.1 0 ≤ 12) (hbt : ∀ j, bt j < 256) : zSp l mX12_menTold dd 0 0 [.ref z, .int (nI lo), .int (nI hi)] [(z, .inr (10, fPR a sz fa nk oo be ho)), (a 0, .inl (0, 740, .inl (nF bt))), ((a 4), .inr (7, fSta y p s)), (y, .inr (9, fYard ay (ysN D.1 D.2.1)))] (fun r K' => r = some (.int (nI (bN (pTd bt sz (D.1 0) lo hi)))) ∧ K' = [(z, .inr (10, fPR a sz fa nk oo be ho))] ++ ([(a 0, .inl (0, 740, .inl (nF bt)))] ++ ([(a 4, .inr (7, fSta y p s))] ++ [(y, .inr (9, fYard ay (ysN D.1 D.2.1)))]))) := by
  refine zSp.of (by decide) (Nat.le_of_ble_eq_true rfl) (fun h0 => ?_)
  show zS _ 0 0 0 [(0, .ref z), (1, .int (nI lo)), (2, .int (nI hi))] [] [(z, .inr (10, fPR a sz fa nk oo be ho)), (a 0, .inl (0, 740, .inl (nF bt))), ((a 4), .inr (7, fSta y p s)), (y, .inr (9, fYard ay (ysN D.1 D.2.1)))]
  refine zs_aload_n dX12_menTold_0 rfl rfl ?_
  refine zs_get 0 dX12_menTold_1 zf_RX12_88 rfl (v := .int (nI sz)) rfl ?_
  refine zs_iload_n dX12_menTold_4 rfl ?_
  refine zs_icmp_lt (tgt := 16) dX12_menTold_5 (by decide) (fun c_1 => ?_) (fun c_1 => ?_)
  · have c_1 : sz < lo := by have hc := c_1; rw [nI_lt' (by omega) (by omega)] at hc; exact hc
    refine zs_iconst (v := nI 0) dX12_menTold_16 (by decide) ?_
    exact zs_zret dX12_menTold_17 rfl (Or.inl rfl) ⟨by rw [pTd_n (show ¬ pTdP bt sz (D.1 0) lo hi from fun h => by have := h.1; have := h.2.1; omega)]; rfl, rfl⟩
  · have c_1 : ¬ (sz < lo) := by have hc := c_1; rw [nI_lt' (by omega) (by omega)] at hc; exact hc
    refine zs_aload_n dX12_menTold_8 rfl rfl ?_
    refine zs_get 0 dX12_menTold_9 zf_RX12_88 rfl (v := .int (nI sz)) rfl ?_
    refine zs_iload_n dX12_menTold_12 rfl ?_
    refine zs_icmp_le (tgt := 18) dX12_menTold_13 (by decide) (fun c_2 => ?_) (fun c_2 => ?_)
    · have c_2 : sz ≤ hi := by have hc := c_2; rw [nI_le' (by omega) (by omega)] at hc; exact hc
      refine zs_iconst (v := nI 0) dX12_menTold_18 (by decide) ?_
      refine zs_istore_n (lv' := [(3, .int (nI 0)), (0, .ref z), (1, .int (nI lo)), (2, .int (nI hi))]) dX12_menTold_19 (Nat.le_of_ble_eq_true rfl) rfl ?_
      refine zs_lv [1, 2, 3, 0] rfl ?_
      exact lp_tdi z a sz fa nk oo be ho bt y p s ay D lo hi hsz hlo hhi hD hbt (by omega) (by omega) (fun r K1 h => h) sz 0 (Nat.zero_add _) (fun k hk => absurd hk (Nat.not_lt_zero k)) (fun k hk => absurd hk (Nat.not_lt_zero k))
    · have c_2 : ¬ (sz ≤ hi) := by have hc := c_2; rw [nI_le' (by omega) (by omega)] at hc; exact hc
      refine zs_iconst (v := nI 0) dX12_menTold_16 (by decide) ?_
      exact zs_zret dX12_menTold_17 rfl (Or.inl rfl) ⟨by rw [pTd_n (show ¬ pTdP bt sz (D.1 0) lo hi from fun h => by have := h.1; have := h.2.1; omega)]; rfl, rfl⟩
theorem dX12_takeBytes_0 : decode cX12_takeBytes 0 = .ok (.aload_n 0, 1) := by decide +kernel
theorem dX12_takeBytes_1 : decode cX12_takeBytes 1 = .ok (.getfield 88, 3) := by decide +kernel
theorem dX12_takeBytes_4 : decode cX12_takeBytes 4 = .ok (.newarray .int, 2) := by decide +kernel
theorem dX12_takeBytes_6 : decode cX12_takeBytes 6 = .ok (.astore_n 1, 1) := by decide +kernel
theorem dX12_takeBytes_7 : decode cX12_takeBytes 7 = .ok (.iconst 0, 1) := by decide +kernel
theorem dX12_takeBytes_8 : decode cX12_takeBytes 8 = .ok (.istore_n 2, 1) := by decide +kernel
theorem dX12_takeBytes_9 : decode cX12_takeBytes 9 = .ok (.iload_n 2, 1) := by decide +kernel
theorem dX12_takeBytes_10 : decode cX12_takeBytes 10 = .ok (.aload_n 0, 1) := by decide +kernel
theorem dX12_takeBytes_11 : decode cX12_takeBytes 11 = .ok (.getfield 88, 3) := by decide +kernel
theorem dX12_takeBytes_14 : decode cX12_takeBytes 14 = .ok (.if_icmp .ge 18, 3) := by decide +kernel
theorem dX12_takeBytes_17 : decode cX12_takeBytes 17 = .ok (.aload_n 1, 1) := by decide +kernel
theorem dX12_takeBytes_18 : decode cX12_takeBytes 18 = .ok (.iload_n 2, 1) := by decide +kernel
theorem dX12_takeBytes_19 : decode cX12_takeBytes 19 = .ok (.aload_n 0, 1) := by decide +kernel
theorem dX12_takeBytes_20 : decode cX12_takeBytes 20 = .ok (.getfield 9, 3) := by decide +kernel
theorem dX12_takeBytes_23 : decode cX12_takeBytes 23 = .ok (.iload_n 2, 1) := by decide +kernel
theorem dX12_takeBytes_24 : decode cX12_takeBytes 24 = .ok (.iaload, 1) := by decide +kernel
theorem dX12_takeBytes_25 : decode cX12_takeBytes 25 = .ok (.iastore, 1) := by decide +kernel
theorem dX12_takeBytes_26 : decode cX12_takeBytes 26 = .ok (.iinc 2 1, 3) := by decide +kernel
theorem dX12_takeBytes_29 : decode cX12_takeBytes 29 = .ok (.goto (-20), 3) := by decide +kernel
theorem dX12_takeBytes_32 : decode cX12_takeBytes 32 = .ok (.aload_n 0, 1) := by decide +kernel
theorem dX12_takeBytes_33 : decode cX12_takeBytes 33 = .ok (.iconst 0, 1) := by decide +kernel
theorem dX12_takeBytes_34 : decode cX12_takeBytes 34 = .ok (.putfield 88, 3) := by decide +kernel
theorem dX12_takeBytes_37 : decode cX12_takeBytes 37 = .ok (.aload_n 1, 1) := by decide +kernel
theorem dX12_takeBytes_38 : decode cX12_takeBytes 38 = .ok (.areturn, 1) := by decide +kernel
set_option maxRecDepth 100000 in
theorem lp_tb {l : Launch} {dd : Nat} {Po : zPo} {K0 : zK} {h0 : List va_E} {Xo : zK → Prop} {Gc : zG → Prop} (z : Nat) (a : Nat → Nat) (sz fa nk oo be ho : Nat) (bt : Nat → Nat) (q : Nat) (hsz : sz ≤ 740)
    (hk : zS (l, mX12_takeBytes, dd, Po, K0, h0, Xo, Gc) 0 0 32 [(0, .ref z), (1, .ref q)] [] [(z, .inr (10, fPR a sz fa nk oo be ho)), (a 0, .inl (0, 740, .inl (nF bt))), (q, .inl (0, sz, .inl (nF (nCl bt (fun _ => 0) sz))))]) :
    ∀ (m i : Nat) , i + m = sz → zS (l, mX12_takeBytes, dd, Po, K0, h0, Xo, Gc) 0 0 9 [(0, .ref z), (1, .ref q), (2, .int (nI i))] [] [(z, .inr (10, fPR a sz fa nk oo be ho)), (a 0, .inl (0, 740, .inl (nF bt))), (q, .inl (0, sz, .inl (nF (nCl bt (fun _ => 0) i))))] := by
  intro m
  induction m with
  | zero =>
    intro i hi
    refine zs_iload_n dX12_takeBytes_9 rfl ?_
    refine zs_aload_n dX12_takeBytes_10 rfl rfl ?_
    refine zs_get 0 dX12_takeBytes_11 zf_RX12_88 rfl (v := .int (nI sz)) rfl ?_
    refine zs_icmp_ge (tgt := 32) dX12_takeBytes_14 (by decide) (fun c_1 => ?_) (fun c_1 => (c_1 (by rw [show i = sz by omega]; exact Int32.le_refl _) : False).elim)
    rw [show i = sz by omega]
    refine zs_lv [0, 1] rfl ?_
    exact hk
  | succ m ih =>
    intro i hi
    refine zs_iload_n dX12_takeBytes_9 rfl ?_
    refine zs_aload_n dX12_takeBytes_10 rfl rfl ?_
    refine zs_get 0 dX12_takeBytes_11 zf_RX12_88 rfl (v := .int (nI sz)) rfl ?_
    refine zs_icmp_ge (tgt := 32) dX12_takeBytes_14 (by decide) (fun c_1 => (nI_ge (show i < sz by omega) (by omega) c_1 : False).elim) (fun c_1 => ?_)
    refine zs_aload_n dX12_takeBytes_17 rfl rfl ?_
    refine zs_iload_n dX12_takeBytes_18 rfl ?_
    refine zs_aload_n dX12_takeBytes_19 rfl rfl ?_
    refine zs_get 0 dX12_takeBytes_20 zf_RX12_9 rfl (v := .ref (a 0)) rfl ?_
    refine zs_iload_n dX12_takeBytes_23 rfl ?_
    refine zs_iald 1 dX12_takeBytes_24 rfl (vp_in_nI (by omega) (by omega)) ?_
    refine zs_as (y := nI (bt i)) (by rw [nI_c (n := i) (by omega)]; rfl) ?_
    refine zs_iast 2 dX12_takeBytes_25 rfl (vp_in_nI (by omega) (by omega)) ?_
    rw [nI_c (n := i) (by omega), nF_u]
    rw [nCl_u (new := bt) (old := fun _ => 0) (k := i) rfl]
    show zS _ _ _ _ _ _ [(z, .inr (10, fPR a sz fa nk oo be ho)), (a 0, .inl (0, 740, .inl (nF bt))), (q, .inl (0, sz, .inl (nF (nCl bt (fun _ => 0) (i + 1)))))]
    refine zs_iinc (v := (nI (i + 1))) (lv' := [(2, .int (nI (i + 1))), (0, .ref z), (1, .ref q)]) dX12_takeBytes_26 rfl (nI_add _ 1) (Nat.le_of_ble_eq_true rfl) rfl ?_
    refine zs_goto (tgt := 9) dX12_takeBytes_29 (by decide) ?_
    refine zs_lv [1, 2, 0] rfl ?_
    exact ih (i + 1) (by omega)
set_option maxRecDepth 100000 in
theorem s_takeBytes (l : Launch) (dd : Nat) (z : Nat) (a : Nat → Nat) (sz fa nk oo be ho : Nat) (bt : Nat → Nat) (hsz : sz ≤ 740) : zSp l mX12_takeBytes dd 1 sz [.ref z] [(z, .inr (10, fPR a sz fa nk oo be ho)), (a 0, .inl (0, 740, .inl (nF bt)))] (fun r K' => ∃ q, r = some (.ref q) ∧ K' = [(z, .inr (10, fPR a 0 fa nk oo be ho))] ++ ([(a 0, .inl (0, 740, .inl (nF bt)))] ++ [(q, .inl (0, sz, .inl (nF (nCl bt (fun _ => 0) sz))))])) := by
  refine zSp.of (by decide) (Nat.le_of_ble_eq_true rfl) (fun h0 => ?_)
  show zS _ 1 sz 0 [(0, .ref z)] [] [(z, .inr (10, fPR a sz fa nk oo be ho)), (a 0, .inl (0, 740, .inl (nF bt)))]
  refine zs_aload_n dX12_takeBytes_0 rfl rfl ?_
  refine zs_get 0 dX12_takeBytes_1 zf_RX12_88 rfl (v := .int (nI sz)) rfl ?_
  refine zs_newa_int (N := sz) dX12_takeBytes_4 (fun h => absurd h (by rw [show (0 : Int32) = nI 0 from rfl, nI_lt' (by omega) (by omega)]; omega)) (nI_c (by omega)) (by omega) (by first | omega | (simp only [List.length_cons, List.length_nil]; omega)) (by first | omega | (simp only [List.length_cons, List.length_nil]; omega)) (fun q_1 => ?_)
  show zS _ _ _ _ _ _ [(z, .inr (10, fPR a sz fa nk oo be ho)), (a 0, .inl (0, 740, .inl (nF bt))), (q_1, .inl (0, sz, .inl (fun _ => 0)))]
  refine zs_astore_n (lv' := [(1, .ref q_1), (0, .ref z)]) dX12_takeBytes_6 (Nat.le_of_ble_eq_true rfl) rfl rfl ?_
  refine zs_iconst (v := nI 0) dX12_takeBytes_7 (by decide) ?_
  refine zs_istore_n (lv' := [(2, .int (nI 0)), (1, .ref q_1), (0, .ref z)]) dX12_takeBytes_8 (Nat.le_of_ble_eq_true rfl) rfl ?_
  refine zs_lv [2, 1, 0] rfl ?_
  refine zs_eq (K' := [(z, .inr (10, fPR a sz fa nk oo be ho)), (a 0, .inl (0, 740, .inl (nF bt))), (q_1, .inl (0, sz, .inl (nF (nCl bt (fun _ => 0) 0))))]) (by rw [nCl_0]; rfl) ?_
  refine zs_kc (Nat.zero_le _) (Nat.zero_le _) (?_ : zS _ 0 0 _ _ _ _)
  refine lp_tb z a sz fa nk oo be ho bt q_1 hsz ?_ sz 0 (Nat.zero_add _)
  refine zs_aload_n dX12_takeBytes_32 rfl rfl ?_
  refine zs_iconst (v := nI 0) dX12_takeBytes_33 (by decide) ?_
  refine zs_put 0 dX12_takeBytes_34 zf_RX12_88 rfl (Nat.le_of_ble_eq_true rfl) (zPv_i _) ?_
  show zS _ _ _ _ _ _ [(z, .inr (10, fPR a 0 fa nk oo be ho)), (a 0, .inl (0, 740, .inl (nF bt))), (q_1, .inl (0, sz, .inl (nF (nCl bt (fun _ => 0) sz))))]
  refine zs_aload_n dX12_takeBytes_37 rfl rfl ?_
  exact zs_aret dX12_takeBytes_38 rfl (Or.inr ⟨_, rfl⟩) rfl ⟨q_1, rfl, rfl⟩
theorem dX12_takeMen_0 : decode cX12_takeMen 0 = .ok (.aload_n 0, 1) := by decide +kernel
theorem dX12_takeMen_1 : decode cX12_takeMen 1 = .ok (.iload_n 1, 1) := by decide +kernel
theorem dX12_takeMen_2 : decode cX12_takeMen 2 = .ok (.iload_n 2, 1) := by decide +kernel
theorem dX12_takeMen_3 : decode cX12_takeMen 3 = .ok (.invokevirtual 105, 3) := by decide +kernel
theorem dX12_takeMen_6 : decode cX12_takeMen 6 = .ok (.ifCond .ne 8, 3) := by decide +kernel
theorem dX12_takeMen_9 : decode cX12_takeMen 9 = .ok (.aload_n 0, 1) := by decide +kernel
theorem dX12_takeMen_10 : decode cX12_takeMen 10 = .ok (.iconst 0, 1) := by decide +kernel
theorem dX12_takeMen_11 : decode cX12_takeMen 11 = .ok (.putfield 88, 3) := by decide +kernel
theorem dX12_takeMen_14 : decode cX12_takeMen 14 = .ok (.aload_n 0, 1) := by decide +kernel
theorem dX12_takeMen_15 : decode cX12_takeMen 15 = .ok (.invokevirtual 109, 3) := by decide +kernel
theorem dX12_takeMen_18 : decode cX12_takeMen 18 = .ok (.areturn, 1) := by decide +kernel
def pMn (b : Nat → Nat) (n M lo hi : Nat) : Nat := if pTd b n M lo hi = true then n else 0
theorem bN_e {c : Bool} (h : ¬ bN c = 0) : c = true := by
  cases c
  · exact absurd rfl h
  · rfl
theorem bN_f0 {c : Bool} (h : bN c = 0) : ¬ c = true := by
  cases c
  · decide
  · exact absurd h (by decide)
set_option maxRecDepth 100000 in
theorem s_takeMen (l : Launch) (dd : Nat) (z : Nat) (a : Nat → Nat) (sz fa nk oo be ho : Nat) (bt : Nat → Nat) (y p s : Nat) (ay : Nat → Nat) (D : zYd) (lo hi : Nat) (hd : 1 ≤ dd) (hsz : sz ≤ 740) (hlo : lo ≤ 12) (hhi : hi ≤ 12) (hD : D.1 0 ≤ 12) (hbt : ∀ j, bt j < 256) : zSp l mX12_takeMen dd 1 sz [.ref z, .int (nI lo), .int (nI hi)] [(z, .inr (10, fPR a sz fa nk oo be ho)), (a 0, .inl (0, 740, .inl (nF bt))), ((a 4), .inr (7, fSta y p s)), (y, .inr (9, fYard ay (ysN D.1 D.2.1)))] (fun r K' => ∃ q, r = some (.ref q) ∧ K' = [(z, .inr (10, fPR a 0 fa nk oo be ho))] ++ ([(a 0, .inl (0, 740, .inl (nF bt)))] ++ ([(a 4, .inr (7, fSta y p s))] ++ ([(y, .inr (9, fYard ay (ysN D.1 D.2.1)))] ++ [(q, .inl (0, (pMn bt sz (D.1 0) lo hi), .inl (nF (nCl bt (fun _ => 0) (pMn bt sz (D.1 0) lo hi)))))])))) := by
  refine zSp.of (by decide) (Nat.le_of_ble_eq_true rfl) (fun h0 => ?_)
  show zS _ 1 sz 0 [(0, .ref z), (1, .int (nI lo)), (2, .int (nI hi))] [] [(z, .inr (10, fPR a sz fa nk oo be ho)), (a 0, .inl (0, 740, .inl (nF bt))), ((a 4), .inr (7, fSta y p s)), (y, .inr (9, fYard ay (ysN D.1 D.2.1)))]
  refine zs_aload_n dX12_takeMen_0 rfl rfl ?_
  refine zs_iload_n dX12_takeMen_1 rfl ?_
  refine zs_iload_n dX12_takeMen_2 rfl ?_
  refine zs_callV (M := mX12_menTold) (As := [.int (nI lo), .int (nI hi)]) (st := []) (Kc := [(z, .inr (10, fPR a sz fa nk oo be ho)), (a 0, .inl (0, 740, .inl (nF bt))), ((a 4), .inr (7, fSta y p s)), (y, .inr (9, fYard ay (ysN D.1 D.2.1)))]) (Kr := []) [0, 1, 2, 3] [] 0 dX12_takeMen_3 zl_RX12_105 kX12_menTold rfl rfl rfl rfl rfl (by decide) rfl rfl (show dd - 1 + 1 ≤ dd by omega) (Nat.zero_le _) (Nat.zero_le _) (Nat.le_of_ble_eq_true rfl) (s_menTold l (dd - 1) z a sz fa nk oo be ho bt y p s ay D lo hi hsz hlo hhi hD hbt) (fun r K1 hr => ?_)
  obtain ⟨rfl, rfl⟩ := hr
  refine zs_K (K' := [(z, .inr (10, fPR a sz fa nk oo be ho)), (a 0, .inl (0, 740, .inl (nF bt))), ((a 4), .inr (7, fSta y p s)), (y, .inr (9, fYard ay (ysN D.1 D.2.1)))]) [0, 1, 2, 3] rfl (by decide) ?_
  have hbn := bN_1 (pTd bt sz (D.1 0) lo hi)
  refine zs_if_ne (tgt := 14) dX12_takeMen_6 (by decide) (fun c_1 => ?_) (fun c_1 => ?_)
  · have c_1 : ¬ ((bN (pTd bt sz (D.1 0) lo hi)) = 0) := by have hc := c_1; rw [show (0 : Int32) = nI 0 from rfl] at hc; rw [nI_eq' (by omega) (by omega)] at hc; exact hc
    refine zs_aload_n dX12_takeMen_14 rfl rfl ?_
    refine zs_callV (M := mX12_takeBytes) (As := []) (st := []) (Kc := [(z, .inr (10, fPR a sz fa nk oo be ho)), (a 0, .inl (0, 740, .inl (nF bt)))]) (Kr := [((a 4), .inr (7, fSta y p s)), (y, .inr (9, fYard ay (ysN D.1 D.2.1)))]) [0, 1] [2, 3] 0 dX12_takeMen_15 zl_RX12_109 kX12_takeBytes rfl rfl rfl rfl rfl (by decide) rfl rfl (show dd - 1 + 1 ≤ dd by omega) (by omega) (by omega) (Nat.le_of_ble_eq_true rfl) (s_takeBytes l (dd - 1) z a sz fa nk oo be ho bt (by omega)) (fun r K1 hr => ?_)
    obtain ⟨q, rfl, rfl⟩ := hr
    refine zs_K (K' := [(z, .inr (10, fPR a 0 fa nk oo be ho)), (a 0, .inl (0, 740, .inl (nF bt))), ((a 4), .inr (7, fSta y p s)), (y, .inr (9, fYard ay (ysN D.1 D.2.1))), (q, .inl (0, sz, .inl (nF (nCl bt (fun _ => 0) sz))))]) [2, 3, 0, 1, 4] rfl (by decide) ?_
    have e : pMn bt sz (D.1 0) lo hi = sz := by rw [pMn, if_pos (bN_e c_1)]
    exact zs_aret dX12_takeMen_18 rfl (Or.inr ⟨_, rfl⟩) rfl ⟨q, rfl, by rw [e]; rfl⟩
  · have c_1 : (bN (pTd bt sz (D.1 0) lo hi)) = 0 := by have hc := c_1; rw [show (0 : Int32) = nI 0 from rfl] at hc; rw [nI_eq' (by omega) (by omega)] at hc; exact hc
    refine zs_aload_n dX12_takeMen_9 rfl rfl ?_
    refine zs_iconst (v := nI 0) dX12_takeMen_10 (by decide) ?_
    refine zs_put 0 dX12_takeMen_11 zf_RX12_88 rfl (Nat.le_of_ble_eq_true rfl) (zPv_i _) ?_
    show zS _ _ _ _ _ _ [(z, .inr (10, fPR a 0 fa nk oo be ho)), (a 0, .inl (0, 740, .inl (nF bt))), ((a 4), .inr (7, fSta y p s)), (y, .inr (9, fYard ay (ysN D.1 D.2.1)))]
    refine zs_aload_n dX12_takeMen_14 rfl rfl ?_
    refine zs_callV (M := mX12_takeBytes) (As := []) (st := []) (Kc := [(z, .inr (10, fPR a 0 fa nk oo be ho)), (a 0, .inl (0, 740, .inl (nF bt)))]) (Kr := [((a 4), .inr (7, fSta y p s)), (y, .inr (9, fYard ay (ysN D.1 D.2.1)))]) [0, 1] [2, 3] 0 dX12_takeMen_15 zl_RX12_109 kX12_takeBytes rfl rfl rfl rfl rfl (by decide) rfl rfl (show dd - 1 + 1 ≤ dd by omega) (by omega) (by omega) (Nat.le_of_ble_eq_true rfl) (s_takeBytes l (dd - 1) z a 0 fa nk oo be ho bt (by omega)) (fun r K1 hr => ?_)
    obtain ⟨q, rfl, rfl⟩ := hr
    refine zs_K (K' := [(z, .inr (10, fPR a 0 fa nk oo be ho)), (a 0, .inl (0, 740, .inl (nF bt))), ((a 4), .inr (7, fSta y p s)), (y, .inr (9, fYard ay (ysN D.1 D.2.1))), (q, .inl (0, 0, .inl (nF (nCl bt (fun _ => 0) 0))))]) [2, 3, 0, 1, 4] rfl (by decide) ?_
    have e : pMn bt sz (D.1 0) lo hi = 0 := by rw [pMn, if_neg (bN_f0 c_1)]
    exact zs_aret dX12_takeMen_18 rfl (Or.inr ⟨_, rfl⟩) rfl ⟨q, rfl, by rw [e]; rfl⟩
theorem dX12_openText_0 : decode cX12_openText 0 = .ok (.aload_n 0, 1) := by decide +kernel
theorem dX12_openText_1 : decode cX12_openText 1 = .ok (.getfield 16, 3) := by decide +kernel
theorem dX12_openText_4 : decode cX12_openText 4 = .ok (.aload_n 0, 1) := by decide +kernel
theorem dX12_openText_5 : decode cX12_openText 5 = .ok (.getfield 9, 3) := by decide +kernel
theorem dX12_openText_8 : decode cX12_openText 8 = .ok (.aload_n 0, 1) := by decide +kernel
theorem dX12_openText_9 : decode cX12_openText 9 = .ok (.getfield 88, 3) := by decide +kernel
theorem dX12_openText_12 : decode cX12_openText 12 = .ok (.iload_n 1, 1) := by decide +kernel
theorem dX12_openText_13 : decode cX12_openText 13 = .ok (.invokevirtual 159, 3) := by decide +kernel
theorem dX12_openText_16 : decode cX12_openText 16 = .ok (.aload_n 0, 1) := by decide +kernel
theorem dX12_openText_17 : decode cX12_openText 17 = .ok (.iconst 0, 1) := by decide +kernel
theorem dX12_openText_18 : decode cX12_openText 18 = .ok (.putfield 88, 3) := by decide +kernel
theorem dX12_openText_21 : decode cX12_openText 21 = .ok (.return_, 1) := by decide +kernel
set_option maxRecDepth 100000 in
theorem s_openText (l : Launch) (dd : Nat) (z : Nat) (a : Nat → Nat) (sz fa nk oo be ho : Nat) (bt : Nat → Nat) (b0 n0 L0 fa0 pl0 L tk : Nat) (τ : zTk) (hd : 4 ≤ dd) (hsz : sz ≤ 740) (hL : L ≤ 740) (hbt : ∀ j, bt j < 256) : zSp l mX12_openText dd 0 0 [.ref z, .int (nI L)] [(z, .inr (10, fPR a sz fa nk oo be ho)), ((a 3), .inr (8, fTx b0 n0 L0 τ fa0 pl0 (nI tk))), (a 0, .inl (0, 740, .inl (nF bt)))] (fun r K' => r = none ∧ K' = [(z, .inr (10, fPR a 0 fa nk oo be ho))] ++ ([(a 3, .inr (8, fTx (a 0) sz L (nxt bt sz L (0, 0, 0, τ.2.2.2.1, none)) 0 0 (nI tk)))] ++ [(a 0, .inl (0, 740, .inl (nF bt)))])) := by
  refine zSp.of (by decide) (Nat.le_of_ble_eq_true rfl) (fun h0 => ?_)
  show zS _ 0 0 0 [(0, .ref z), (1, .int (nI L))] [] [(z, .inr (10, fPR a sz fa nk oo be ho)), ((a 3), .inr (8, fTx b0 n0 L0 τ fa0 pl0 (nI tk))), (a 0, .inl (0, 740, .inl (nF bt)))]
  refine zs_aload_n dX12_openText_0 rfl rfl ?_
  refine zs_get 0 dX12_openText_1 zf_RX12_16 rfl (v := .ref (a 3)) rfl ?_
  refine zs_aload_n dX12_openText_4 rfl rfl ?_
  refine zs_get 0 dX12_openText_5 zf_RX12_9 rfl (v := .ref (a 0)) rfl ?_
  refine zs_aload_n dX12_openText_8 rfl rfl ?_
  refine zs_get 0 dX12_openText_9 zf_RX12_88 rfl (v := .int (nI sz)) rfl ?_
  refine zs_iload_n dX12_openText_12 rfl ?_
  refine zs_callV (M := mX9_open) (As := [.ref (a 0), .int (nI sz), .int (nI L)]) (st := []) (Kc := [((a 3), .inr (8, fTx b0 n0 L0 τ fa0 pl0 (nI tk))), (a 0, .inl (0, 740, .inl (nF bt)))]) (Kr := [(z, .inr (10, fPR a sz fa nk oo be ho))]) [1, 2] [0] 0 dX12_openText_13 zl_RX12_159 kX9_open rfl rfl rfl rfl rfl (by decide) rfl rfl (show dd - 1 + 1 ≤ dd by omega) (Nat.zero_le _) (Nat.zero_le _) (Nat.le_of_ble_eq_true rfl) (s_open l (dd - 1) (a 3) (a 0) b0 sz L n0 L0 bt τ fa0 pl0 (nI tk) (by omega) hsz hL hbt) (fun r K1 hr => ?_)
  obtain ⟨rfl, rfl⟩ := hr
  refine zs_K (K' := [(z, .inr (10, fPR a sz fa nk oo be ho)), ((a 3), .inr (8, fTx (a 0) sz L (nxt bt sz L (0, 0, 0, τ.2.2.2.1, none)) 0 0 (nI tk))), (a 0, .inl (0, 740, .inl (nF bt)))]) [0, 1, 2] rfl (by decide) ?_
  refine zs_aload_n dX12_openText_16 rfl rfl ?_
  refine zs_iconst (v := nI 0) dX12_openText_17 (by decide) ?_
  refine zs_put 0 dX12_openText_18 zf_RX12_88 rfl (Nat.le_of_ble_eq_true rfl) (zPv_i _) ?_
  show zS _ _ _ _ _ _ [(z, .inr (10, fPR a 0 fa nk oo be ho)), ((a 3), .inr (8, fTx (a 0) sz L (nxt bt sz L (0, 0, 0, τ.2.2.2.1, none)) 0 0 (nI tk))), (a 0, .inl (0, 740, .inl (nF bt)))]
  exact zs_vret dX12_openText_21 rfl ⟨rfl, rfl⟩
