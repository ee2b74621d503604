/-! ===== Fire: a column given up; Runners ===== -/
/-- column x taken away, in the first y rows -/
def gF (C x : Nat) (fu : Nat → Int32) : Nat → (Nat → Int32)
  | 0 => fu
  | y + 1 => upd (gF C x fu y) (y * C + x) 0
def gT (C x : Nat) (fu : Nat → Int32) : Nat → Int32
  | 0 => 0
  | y + 1 => gT C x fu y + gF C x fu y (y * C + x)
def gN (C x : Nat) (bu : Nat → Int32) (n : Int32) : Nat → Int32
  | 0 => n
  | y + 1 => if gF C x bu y (y * C + x) = 0 then gN C x bu n y else gN C x bu n y - 1
theorem upd_id {f : Nat → Int32} {k : Nat} {v : Int32} (h : f k = v) : upd f k v = f := by
  funext j
  unfold upd
  split
  · rename_i hj
    rw [hj, h]
  · rfl
theorem dX2_giveUp_0 : decode cX2_giveUp 0 = .ok (.iconst 0, 1) := by decide +kernel
theorem dX2_giveUp_1 : decode cX2_giveUp 1 = .ok (.istore_n 2, 1) := by decide +kernel
theorem dX2_giveUp_2 : decode cX2_giveUp 2 = .ok (.iload_n 1, 1) := by decide +kernel
theorem dX2_giveUp_3 : decode cX2_giveUp 3 = .ok (.ifCond .lt 11, 3) := by decide +kernel
theorem dX2_giveUp_6 : decode cX2_giveUp 6 = .ok (.iload_n 1, 1) := by decide +kernel
theorem dX2_giveUp_7 : decode cX2_giveUp 7 = .ok (.aload_n 0, 1) := by decide +kernel
theorem dX2_giveUp_8 : decode cX2_giveUp 8 = .ok (.getfield 37, 3) := by decide +kernel
theorem dX2_giveUp_11 : decode cX2_giveUp 11 = .ok (.if_icmp .lt 5, 3) := by decide +kernel
theorem dX2_giveUp_14 : decode cX2_giveUp 14 = .ok (.iload_n 2, 1) := by decide +kernel
theorem dX2_giveUp_15 : decode cX2_giveUp 15 = .ok (.ireturn, 1) := by decide +kernel
theorem dX2_giveUp_16 : decode cX2_giveUp 16 = .ok (.iconst 0, 1) := by decide +kernel
theorem dX2_giveUp_17 : decode cX2_giveUp 17 = .ok (.istore_n 3, 1) := by decide +kernel
theorem dX2_giveUp_18 : decode cX2_giveUp 18 = .ok (.iload_n 3, 1) := by decide +kernel
theorem dX2_giveUp_19 : decode cX2_giveUp 19 = .ok (.aload_n 0, 1) := by decide +kernel
theorem dX2_giveUp_20 : decode cX2_giveUp 20 = .ok (.getfield 41, 3) := by decide +kernel
theorem dX2_giveUp_23 : decode cX2_giveUp 23 = .ok (.if_icmp .ge 65, 3) := by decide +kernel
theorem dX2_giveUp_26 : decode cX2_giveUp 26 = .ok (.iload_n 3, 1) := by decide +kernel
theorem dX2_giveUp_27 : decode cX2_giveUp 27 = .ok (.aload_n 0, 1) := by decide +kernel
theorem dX2_giveUp_28 : decode cX2_giveUp 28 = .ok (.getfield 37, 3) := by decide +kernel
theorem dX2_giveUp_31 : decode cX2_giveUp 31 = .ok (.imul, 1) := by decide +kernel
theorem dX2_giveUp_32 : decode cX2_giveUp 32 = .ok (.iload_n 1, 1) := by decide +kernel
theorem dX2_giveUp_33 : decode cX2_giveUp 33 = .ok (.iadd, 1) := by decide +kernel
theorem dX2_giveUp_34 : decode cX2_giveUp 34 = .ok (.istore 4, 2) := by decide +kernel
theorem dX2_giveUp_36 : decode cX2_giveUp 36 = .ok (.iload_n 2, 1) := by decide +kernel
theorem dX2_giveUp_37 : decode cX2_giveUp 37 = .ok (.aload_n 0, 1) := by decide +kernel
theorem dX2_giveUp_38 : decode cX2_giveUp 38 = .ok (.getfield 9, 3) := by decide +kernel
theorem dX2_giveUp_41 : decode cX2_giveUp 41 = .ok (.iload 4, 2) := by decide +kernel
theorem dX2_giveUp_43 : decode cX2_giveUp 43 = .ok (.iaload, 1) := by decide +kernel
theorem dX2_giveUp_44 : decode cX2_giveUp 44 = .ok (.iadd, 1) := by decide +kernel
theorem dX2_giveUp_45 : decode cX2_giveUp 45 = .ok (.istore_n 2, 1) := by decide +kernel
theorem dX2_giveUp_46 : decode cX2_giveUp 46 = .ok (.aload_n 0, 1) := by decide +kernel
theorem dX2_giveUp_47 : decode cX2_giveUp 47 = .ok (.getfield 9, 3) := by decide +kernel
theorem dX2_giveUp_50 : decode cX2_giveUp 50 = .ok (.iload 4, 2) := by decide +kernel
theorem dX2_giveUp_52 : decode cX2_giveUp 52 = .ok (.iconst 0, 1) := by decide +kernel
theorem dX2_giveUp_53 : decode cX2_giveUp 53 = .ok (.iastore, 1) := by decide +kernel
theorem dX2_giveUp_54 : decode cX2_giveUp 54 = .ok (.aload_n 0, 1) := by decide +kernel
theorem dX2_giveUp_55 : decode cX2_giveUp 55 = .ok (.getfield 18, 3) := by decide +kernel
theorem dX2_giveUp_58 : decode cX2_giveUp 58 = .ok (.iload 4, 2) := by decide +kernel
theorem dX2_giveUp_60 : decode cX2_giveUp 60 = .ok (.baload, 1) := by decide +kernel
theorem dX2_giveUp_61 : decode cX2_giveUp 61 = .ok (.ifCond .eq 21, 3) := by decide +kernel
theorem dX2_giveUp_64 : decode cX2_giveUp 64 = .ok (.aload_n 0, 1) := by decide +kernel
theorem dX2_giveUp_65 : decode cX2_giveUp 65 = .ok (.getfield 18, 3) := by decide +kernel
theorem dX2_giveUp_68 : decode cX2_giveUp 68 = .ok (.iload 4, 2) := by decide +kernel
theorem dX2_giveUp_70 : decode cX2_giveUp 70 = .ok (.iconst 0, 1) := by decide +kernel
theorem dX2_giveUp_71 : decode cX2_giveUp 71 = .ok (.bastore, 1) := by decide +kernel
theorem dX2_giveUp_72 : decode cX2_giveUp 72 = .ok (.aload_n 0, 1) := by decide +kernel
theorem dX2_giveUp_73 : decode cX2_giveUp 73 = .ok (.dup, 1) := by decide +kernel
theorem dX2_giveUp_74 : decode cX2_giveUp 74 = .ok (.getfield 49, 3) := by decide +kernel
theorem dX2_giveUp_77 : decode cX2_giveUp 77 = .ok (.iconst 1, 1) := by decide +kernel
theorem dX2_giveUp_78 : decode cX2_giveUp 78 = .ok (.isub, 1) := by decide +kernel
theorem dX2_giveUp_79 : decode cX2_giveUp 79 = .ok (.putfield 49, 3) := by decide +kernel
theorem dX2_giveUp_82 : decode cX2_giveUp 82 = .ok (.iinc 3 1, 3) := by decide +kernel
theorem dX2_giveUp_85 : decode cX2_giveUp 85 = .ok (.goto (-67), 3) := by decide +kernel
theorem dX2_giveUp_88 : decode cX2_giveUp 88 = .ok (.iload_n 2, 1) := by decide +kernel
theorem dX2_giveUp_89 : decode cX2_giveUp 89 = .ok (.ireturn, 1) := by decide +kernel
set_option maxRecDepth 100000 in
theorem lp_give {l : Launch} {dd : Nat} {Po : zPo} {K0 : zK} {h0 : List va_E} {Xo : zK → Prop} {Gc : zG → Prop} (t : Nat) (ad : Nat → Nat) (C R x : Nat) (sc fu we bu he se : Nat → Int32) (hf : zFh C R sc) (hx : x < C)
    (hk : zS (l, mX2_giveUp, dd, Po, K0, h0, Xo, Gc) 0 0 88 [(0, .ref t), (1, .int (nI x)), (2, .int (gT C x fu R)), (3, .int (nI R))] [] [(t, .inr (1, fFire ad (upd sc 9 (gN C x bu (sc 9) R)))), (ad 1, .inl (0, 64, .inl (gF C x fu R))), (ad 2, .inl (0, 64, .inl we)), (ad 3, .inl (1, 64, .inl (gF C x bu R))), (ad 4, .inl (0, 64, .inl he)), (ad 5, .inl (0, 60, .inl se))]) :
    ∀ (m i : Nat) , i + m = R → zS (l, mX2_giveUp, dd, Po, K0, h0, Xo, Gc) 0 0 18 [(0, .ref t), (1, .int (nI x)), (2, .int (gT C x fu i)), (3, .int (nI i))] [] [(t, .inr (1, fFire ad (upd sc 9 (gN C x bu (sc 9) i)))), (ad 1, .inl (0, 64, .inl (gF C x fu i))), (ad 2, .inl (0, 64, .inl we)), (ad 3, .inl (1, 64, .inl (gF C x bu i))), (ad 4, .inl (0, 64, .inl he)), (ad 5, .inl (0, 60, .inl se))] := by
  intro m
  induction m with
  | zero =>
    intro i hi
    obtain ⟨hR, hCR, hs0, hs1, hs2⟩ := hf
    have hin : R = i := by omega
    subst hin
    refine zs_iload_n dX2_giveUp_18 rfl ?_
    refine zs_aload_n dX2_giveUp_19 rfl rfl ?_
    refine zs_get 0 dX2_giveUp_20 zf_RX2_41 rfl (v := .int (sc 1)) rfl ?_
    refine zs_icmp_ge (tgt := 88) dX2_giveUp_23 (by decide) (fun c_1 => ?_) (fun c_1 => (c_1 (by show sc 1 ≤ _; rw [hs1]; exact Int32.le_refl _) : False).elim)
    exact hk
  | succ m ih =>
    intro i hi
    obtain ⟨hR, hCR, hs0, hs1, hs2⟩ := hf
    have hin : i < R := by omega
    have hpl : i * C + x < C * R := by
      have := Nat.mul_le_mul_right C (show i + 1 ≤ R by omega)
      rw [Nat.add_mul, Nat.mul_comm R C] at this
      omega
    refine zs_iload_n dX2_giveUp_18 rfl ?_
    refine zs_aload_n dX2_giveUp_19 rfl rfl ?_
    refine zs_get 0 dX2_giveUp_20 zf_RX2_41 rfl (v := .int (sc 1)) rfl ?_
    refine zs_icmp_ge (tgt := 88) dX2_giveUp_23 (by decide) (fun c_1 => (nI_ge hin (by omega) (hs1 ▸ c_1) : False).elim) (fun c_1 => ?_)
    refine zs_iload_n dX2_giveUp_26 rfl ?_
    refine zs_aload_n dX2_giveUp_27 rfl rfl ?_
    refine zs_get 0 dX2_giveUp_28 zf_RX2_37 rfl (v := .int (sc 0)) rfl ?_
    refine zs_as (y := nI C) hs0 ?_
    refine zs_imul dX2_giveUp_31 ?_
    refine zs_as (y := nI (i * C)) (nI_mul _ _) ?_
    refine zs_iload_n dX2_giveUp_32 rfl ?_
    refine zs_iadd dX2_giveUp_33 ?_
    refine zs_as (y := nI ((i * C) + x)) (nI_add _ _) ?_
    refine zs_istore (lv' := [(4, .int (nI ((i * C) + x))), (0, .ref t), (1, .int (nI x)), (2, .int (gT C x fu i)), (3, .int (nI i))]) dX2_giveUp_34 (Nat.le_of_ble_eq_true rfl) rfl ?_
    refine zs_iload_n dX2_giveUp_36 rfl ?_
    refine zs_aload_n dX2_giveUp_37 rfl rfl ?_
    refine zs_get 0 dX2_giveUp_38 zf_RX2_9 rfl (v := .ref (ad 1)) rfl ?_
    refine zs_iload dX2_giveUp_41 rfl ?_
    refine zs_iald 1 dX2_giveUp_43 rfl (vp_in_nI (by omega) (by omega)) ?_
    refine zs_as (y := gF C x fu i (i * C + x)) (by rw [nI_c (n := i * C + x) (by omega)]) ?_
    refine zs_iadd dX2_giveUp_44 ?_
    refine zs_istore_n (lv' := [(2, .int ((gT C x fu i) + (gF C x fu i (i * C + x)))), (4, .int (nI ((i * C) + x))), (0, .ref t), (1, .int (nI x)), (3, .int (nI i))]) dX2_giveUp_45 (Nat.le_of_ble_eq_true rfl) rfl ?_
    refine zs_aload_n dX2_giveUp_46 rfl rfl ?_
    refine zs_get 0 dX2_giveUp_47 zf_RX2_9 rfl (v := .ref (ad 1)) rfl ?_
    refine zs_iload dX2_giveUp_50 rfl ?_
    refine zs_iconst (v := nI 0) dX2_giveUp_52 (by decide) ?_
    refine zs_iast 1 dX2_giveUp_53 rfl (vp_in_nI (by omega) (by omega)) ?_
    rw [nI_c (n := (i * C) + x) (by omega)]
    show zS _ _ _ _ _ _ [(t, .inr (1, fFire ad (upd sc 9 (gN C x bu (sc 9) i)))), (ad 1, .inl (0, 64, .inl (upd (gF C x fu i) ((i * C) + x) (nI 0)))), (ad 2, .inl (0, 64, .inl we)), (ad 3, .inl (1, 64, .inl (gF C x bu i))), (ad 4, .inl (0, 64, .inl he)), (ad 5, .inl (0, 60, .inl se))]
    refine zs_aload_n dX2_giveUp_54 rfl rfl ?_
    refine zs_get 0 dX2_giveUp_55 zf_RX2_18 rfl (v := .ref (ad 3)) rfl ?_
    refine zs_iload dX2_giveUp_58 rfl ?_
    refine zs_zald 3 dX2_giveUp_60 rfl (vp_in_nI (by omega) (by omega)) ?_
    refine zs_as (y := gF C x bu i (i * C + x)) (by rw [nI_c (n := i * C + x) (by omega)]) ?_
    refine zs_if_eq (tgt := 82) dX2_giveUp_61 (by decide) (fun c_2 => ?_) (fun c_2 => ?_)
    · refine zs_iinc (v := (nI (i + 1))) (lv' := [(3, .int (nI (i + 1))), (2, .int ((gT C x fu i) + (gF C x fu i (i * C + x)))), (4, .int (nI ((i * C) + x))), (0, .ref t), (1, .int (nI x))]) dX2_giveUp_82 rfl (nI_add _ 1) (Nat.le_of_ble_eq_true rfl) rfl ?_
      refine zs_goto (tgt := 18) dX2_giveUp_85 (by decide) ?_
      refine zs_lv [3, 4, 1, 0] rfl ?_
      have hr := ih (i + 1) (by omega)
      rw [show gF C x bu (i + 1) = gF C x bu i from upd_id c_2, show gN C x bu (sc 9) (i + 1) = gN C x bu (sc 9) i from if_pos c_2] at hr
      exact hr
    · refine zs_aload_n dX2_giveUp_64 rfl rfl ?_
      refine zs_get 0 dX2_giveUp_65 zf_RX2_18 rfl (v := .ref (ad 3)) rfl ?_
      refine zs_iload dX2_giveUp_68 rfl ?_
      refine zs_iconst (v := nI 0) dX2_giveUp_70 (by decide) ?_
      refine zs_zast 3 dX2_giveUp_71 rfl (vp_in_nI (by omega) (by omega)) (by first | exact Or.inl rfl | exact Or.inr rfl | assumption) ?_
      rw [nI_c (n := (i * C) + x) (by omega)]
      show zS _ _ _ _ _ _ [(t, .inr (1, fFire ad (upd sc 9 (gN C x bu (sc 9) i)))), (ad 1, .inl (0, 64, .inl (upd (gF C x fu i) ((i * C) + x) (nI 0)))), (ad 2, .inl (0, 64, .inl we)), (ad 3, .inl (1, 64, .inl (upd (gF C x bu i) ((i * C) + x) (nI 0)))), (ad 4, .inl (0, 64, .inl he)), (ad 5, .inl (0, 60, .inl se))]
      refine zs_aload_n dX2_giveUp_72 rfl rfl ?_
      refine zs_dup dX2_giveUp_73 rfl ?_
      refine zs_get 0 dX2_giveUp_74 zf_RX2_49 rfl (v := .int (gN C x bu (sc 9) i)) rfl ?_
      refine zs_iconst (v := nI 1) dX2_giveUp_77 (by decide) ?_
      refine zs_isub dX2_giveUp_78 ?_
      refine zs_put 0 dX2_giveUp_79 zf_RX2_49 rfl (Nat.le_of_ble_eq_true rfl) (zPv_i _) ?_
      show zS _ _ _ _ _ _ [(t, .inr (1, fFire ad (upd sc 9 ((gN C x bu (sc 9) i) - (nI 1))))), (ad 1, .inl (0, 64, .inl (upd (gF C x fu i) ((i * C) + x) (nI 0)))), (ad 2, .inl (0, 64, .inl we)), (ad 3, .inl (1, 64, .inl (upd (gF C x bu i) ((i * C) + x) (nI 0)))), (ad 4, .inl (0, 64, .inl he)), (ad 5, .inl (0, 60, .inl se))]
      refine zs_iinc (v := (nI (i + 1))) (lv' := [(3, .int (nI (i + 1))), (2, .int ((gT C x fu i) + (gF C x fu i (i * C + x)))), (4, .int (nI ((i * C) + x))), (0, .ref t), (1, .int (nI x))]) dX2_giveUp_82 rfl (nI_add _ 1) (Nat.le_of_ble_eq_true rfl) rfl ?_
      refine zs_goto (tgt := 18) dX2_giveUp_85 (by decide) ?_
      refine zs_lv [3, 4, 1, 0] rfl ?_
      have hr := ih (i + 1) (by omega)
      rw [show gN C x bu (sc 9) (i + 1) = gN C x bu (sc 9) i - 1 from if_neg c_2] at hr
      exact hr
set_option maxRecDepth 100000 in
theorem s_giveUp (l : Launch) (dd : Nat) (t : Nat) (ad : Nat → Nat) (C R x : Nat) (sc fu we bu he se : Nat → Int32) (hf : zFh C R sc) (hx : x < C) (hC : C ≤ 64) : zSp l mX2_giveUp dd 0 0 [.ref t, .int (nI x)] [(t, .inr (1, fFire ad sc)), (ad 1, .inl (0, 64, .inl fu)), (ad 2, .inl (0, 64, .inl we)), (ad 3, .inl (1, 64, .inl bu)), (ad 4, .inl (0, 64, .inl he)), (ad 5, .inl (0, 60, .inl se))] (fun r K' => r = some (.int (gT C x fu R)) ∧ K' = kFire t ad (upd sc 9 (gN C x bu (sc 9) R)) (gF C x fu R) we (gF C x bu R) he se) := by
  refine zSp.of (by decide) (Nat.le_of_ble_eq_true rfl) (fun h0 => ?_)
  show zS _ 0 0 0 [(0, .ref t), (1, .int (nI x))] [] [(t, .inr (1, fFire ad sc)), (ad 1, .inl (0, 64, .inl fu)), (ad 2, .inl (0, 64, .inl we)), (ad 3, .inl (1, 64, .inl bu)), (ad 4, .inl (0, 64, .inl he)), (ad 5, .inl (0, 60, .inl se))]
  refine zs_iconst (v := nI 0) dX2_giveUp_0 (by decide) ?_
  refine zs_istore_n (lv' := [(2, .int (nI 0)), (0, .ref t), (1, .int (nI x))]) dX2_giveUp_1 (Nat.le_of_ble_eq_true rfl) rfl ?_
  refine zs_iload_n dX2_giveUp_2 rfl ?_
  refine zs_if_lt (tgt := 14) dX2_giveUp_3 (by decide) (fun c_1 => (nI_pos (show x < 2147483648 by omega) c_1 : False).elim) (fun c_1 => ?_)
  refine zs_iload_n dX2_giveUp_6 rfl ?_
  refine zs_aload_n dX2_giveUp_7 rfl rfl ?_
  refine zs_get 0 dX2_giveUp_8 zf_RX2_37 rfl (v := .int (sc 0)) rfl ?_
  refine zs_icmp_lt (tgt := 16) dX2_giveUp_11 (by decide) (fun c_2 => ?_) (fun c_2 => (c_2 (by show nI x < sc 0; rw [hf.2.2.1]; exact nI_lt hx (by omega)) : False).elim)
  refine zs_iconst (v := nI 0) dX2_giveUp_16 (by decide) ?_
  refine zs_istore_n (lv' := [(3, .int (nI 0)), (2, .int (nI 0)), (0, .ref t), (1, .int (nI x))]) dX2_giveUp_17 (Nat.le_of_ble_eq_true rfl) rfl ?_
  refine zs_lv [2, 3, 1, 0] rfl ?_
  refine lp_give t ad C R x sc fu we bu he se hf hx ?_ R 0 (by omega)
  refine zs_iload_n dX2_giveUp_88 rfl ?_
  exact zs_iret dX2_giveUp_89 rfl ⟨rfl, rfl⟩
set_option maxRecDepth 100000 in
theorem s_giveNo (l : Launch) (dd : Nat) (t : Nat) (ad : Nat → Nat) (sc fu we bu he se : Nat → Int32)  : zSp l mX2_giveUp dd 0 0 [.ref t, .int (-1)] [(t, .inr (1, fFire ad sc)), (ad 1, .inl (0, 64, .inl fu)), (ad 2, .inl (0, 64, .inl we)), (ad 3, .inl (1, 64, .inl bu)), (ad 4, .inl (0, 64, .inl he)), (ad 5, .inl (0, 60, .inl se))] (fun r K' => r = some (.int 0) ∧ K' = kFire t ad sc fu we bu he se) := by
  refine zSp.of (by decide) (Nat.le_of_ble_eq_true rfl) (fun h0 => ?_)
  show zS _ 0 0 0 [(0, .ref t), (1, .int (-1))] [] [(t, .inr (1, fFire ad sc)), (ad 1, .inl (0, 64, .inl fu)), (ad 2, .inl (0, 64, .inl we)), (ad 3, .inl (1, 64, .inl bu)), (ad 4, .inl (0, 64, .inl he)), (ad 5, .inl (0, 60, .inl se))]
  refine zs_iconst (v := nI 0) dX2_giveUp_0 (by decide) ?_
  refine zs_istore_n (lv' := [(2, .int (nI 0)), (0, .ref t), (1, .int (-1))]) dX2_giveUp_1 (Nat.le_of_ble_eq_true rfl) rfl ?_
  refine zs_iload_n dX2_giveUp_2 rfl ?_
  refine zs_if_lt (tgt := 14) dX2_giveUp_3 (by decide) (fun c_1 => ?_) (fun c_1 => (c_1 (by decide) : False).elim)
  refine zs_iload_n dX2_giveUp_14 rfl ?_
  exact zs_iret dX2_giveUp_15 rfl ⟨rfl, rfl⟩
/-! Runners -/
def fRun (ar : Nat → Nat) (sc : Nat → Int32) (yv : Value) : List Value := [yv, .int (sc 1), .ref (ar 1), .ref (ar 2), .ref (ar 3), .ref (ar 4), .int (sc 6), .int (sc 7), .int (sc 8), .int (sc 9)]
abbrev kRun (r : Nat) (ar : Nat → Nat) (yv : Value) (s : zRs) : zK := [(r, .inr (5, fRun ar (nF s.1) yv)), (ar 1, .inl (0, 12, .inl (nF (s.2 1)))), (ar 2, .inl (0, 12, .inl (nF (s.2 2)))), (ar 3, .inl (0, 12, .inl (nF (s.2 3)))), (ar 4, .inl (0, 12, .inl (nF (s.2 4))))]
def rFin (s : zRs) (i : Nat) : zRs :=
  if s.2 2 i = 1 then (un s.1 6 0, uu (uu s.2 2 (un (s.2 2) i 2)) 3 (un (s.2 3) i (s.2 1 i)))
  else if s.2 2 i = 2 then (un s.1 8 (s.1 8 + nUp (s.2 4 i) 2), uu (uu (uu s.2 4 (un (s.2 4) i 0)) 2 (un (s.2 2) i 3)) 3 (un (s.2 3) i (s.2 1 i)))
  else (s.1, uu s.2 2 (un (s.2 2) i 0))
def rDec (s : zRs) (i : Nat) : zRs := (s.1, uu s.2 3 (un (s.2 3) i (s.2 3 i - 1)))
def rA (s : zRs) (i : Nat) : zRs := if s.2 3 i = 0 then s else if s.2 3 i - 1 = 0 then rFin (rDec s i) i else rDec s i
def rB (hold draw : Nat) (s : zRs) (i : Nat) : zRs :=
  if s.2 2 i = 0 then (if s.1 6 = 0 then (if s.1 7 = 0 then s else
    (un (un (un s.1 6 1) 7 (s.1 7 - min hold (s.1 7))) 9 (s.1 9 + min hold (s.1 7)), uu (uu (uu s.2 4 (un (s.2 4) i (min hold (s.1 7)))) 2 (un (s.2 2) i 1)) 3 (un (s.2 3) i draw))) else s) else s
def rTk (hold draw : Nat) (s : zRs) (i : Nat) : zRs := rB hold draw (rA s i) i
def rPl (hold draw : Nat) (s : zRs) : Nat → zRs
  | 0 => s
  | k + 1 => rTk hold draw (rPl hold draw s k) k
def rWork (hold draw : Nat) (s : zRs) : Nat → zRs
  | 0 => s
  | n + 1 => rPl hold draw (rWork hold draw s n) ((rWork hold draw s n).1 1)
/-- what bounds the runners' numbers -/
def rI (s : zRs) : Prop := s.1 1 ≤ 12 ∧ (∀ p, p < 12 → s.2 1 p ≤ 1000 ∧ s.2 2 p ≤ 3 ∧ s.2 3 p ≤ 1000 ∧ s.2 4 p ≤ 20) ∧ s.1 6 ≤ 1 ∧ s.1 7 ≤ 1000000
theorem rI_fin {s : zRs} {i : Nat} (h : rI s) (hi : i < 12) : rI (rFin s i) := by
  obtain ⟨h1, h2, h3, h4⟩ := h
  have hp := h2 i hi
  unfold rFin
  split
  · refine ⟨h1, fun p hp' => ?_, Nat.zero_le _, h4⟩
    obtain ⟨a1, a2, a3, a4⟩ := h2 p hp'
    exact ⟨a1, un_le a2 (by omega), un_le a3 (by omega), a4⟩
  · split
    · refine ⟨h1, fun p hp' => ?_, h3, h4⟩
      obtain ⟨a1, a2, a3, a4⟩ := h2 p hp'
      exact ⟨a1, un_le a2 (by omega), un_le a3 (by omega), un_le a4 (by omega)⟩
    · refine ⟨h1, fun p hp' => ?_, h3, h4⟩
      obtain ⟨a1, a2, a3, a4⟩ := h2 p hp'
      exact ⟨a1, un_le a2 (by omega), a3, a4⟩
theorem rI_dec {s : zRs} {i : Nat} (h : rI s) (hi : i < 12) : rI (rDec s i) := by
  obtain ⟨h1, h2, h3, h4⟩ := h
  refine ⟨h1, fun p hp' => ?_, h3, h4⟩
  have hp := h2 i hi
  obtain ⟨a1, a2, a3, a4⟩ := h2 p hp'
  exact ⟨a1, a2, un_le a3 (by omega), a4⟩
theorem rI_a {s : zRs} {i : Nat} (h : rI s) (hi : i < 12) : rI (rA s i) := by
  unfold rA
  split
  · exact h
  · split
    · exact rI_fin (rI_dec h hi) hi
    · exact rI_dec h hi
theorem rI_b {hold draw : Nat} {s : zRs} {i : Nat} (h : rI s) (hh : hold ≤ 20) (hdr : draw ≤ 1000) : rI (rB hold draw s i) := by
  unfold rB
  split
  · split
    · split
      · exact h
      · obtain ⟨h1, h2, h3, h4⟩ := h
        refine ⟨h1, fun p hp' => ?_, Nat.le_refl _, Nat.le_trans (Nat.sub_le _ _) h4⟩
        obtain ⟨a1, a2, a3, a4⟩ := h2 p hp'
        exact ⟨a1, un_le a2 (by omega), un_le a3 hdr, un_le a4 (Nat.le_trans (Nat.min_le_left _ _) hh)⟩
    · exact h
  · exact h
theorem rI_tk {hold draw : Nat} {s : zRs} {i : Nat} (h : rI s) (hi : i < 12) (hh : hold ≤ 20) (hdr : draw ≤ 1000) : rI (rTk hold draw s i) := rI_b (rI_a h hi) hh hdr
theorem rFin_m (s : zRs) (i : Nat) : (rFin s i).1 1 = s.1 1 := by
  unfold rFin
  split
  · rfl
  · split <;> rfl
theorem rA_m (s : zRs) (i : Nat) : (rA s i).1 1 = s.1 1 := by
  unfold rA
  split
  · rfl
  · split
    · rw [rFin_m]; rfl
    · rfl
theorem rTk_m (hold draw : Nat) (s : zRs) (i : Nat) : (rTk hold draw s i).1 1 = s.1 1 := by
  unfold rTk rB
  split
  · split
    · split
      · exact rA_m s i
      · exact rA_m s i
    · exact rA_m s i
  · exact rA_m s i
theorem rPl_m (hold draw : Nat) (s : zRs) : ∀ k, (rPl hold draw s k).1 1 = s.1 1
  | 0 => rfl
  | k + 1 => by rw [rPl, rTk_m, rPl_m]
theorem rWork_m (hold draw : Nat) (s : zRs) : ∀ k, (rWork hold draw s k).1 1 = s.1 1
  | 0 => rfl
  | k + 1 => by rw [rWork, rPl_m, rWork_m]
theorem rI_pl {hold draw : Nat} {s : zRs} (h : rI s) (hh : hold ≤ 20) (hdr : draw ≤ 1000) : ∀ k, k ≤ 12 → rI (rPl hold draw s k)
  | 0, _ => h
  | k + 1, hk => rI_tk (rI_pl h hh hdr k (by omega)) (by omega) hh hdr
theorem rI_work {hold draw : Nat} {s : zRs} (h : rI s) (hh : hold ≤ 20) (hdr : draw ≤ 1000) : ∀ k, rI (rWork hold draw s k)
  | 0 => h
  | k + 1 => rI_pl (rI_work h hh hdr k) hh hdr _ (rI_work h hh hdr k).1
theorem dX6_finish_0 : decode cX6_finish 0 = .ok (.aload_n 0, 1) := by decide +kernel
theorem dX6_finish_1 : decode cX6_finish 1 = .ok (.getfield 15, 3) := by decide +kernel
theorem dX6_finish_4 : decode cX6_finish 4 = .ok (.iload_n 1, 1) := by decide +kernel
theorem dX6_finish_5 : decode cX6_finish 5 = .ok (.iaload, 1) := by decide +kernel
theorem dX6_finish_6 : decode cX6_finish 6 = .ok (.iconst 1, 1) := by decide +kernel
theorem dX6_finish_7 : decode cX6_finish 7 = .ok (.if_icmp .ne 30, 3) := by decide +kernel
theorem dX6_finish_10 : decode cX6_finish 10 = .ok (.aload_n 0, 1) := by decide +kernel
theorem dX6_finish_11 : decode cX6_finish 11 = .ok (.iconst 0, 1) := by decide +kernel
theorem dX6_finish_12 : decode cX6_finish 12 = .ok (.putfield 52, 3) := by decide +kernel
theorem dX6_finish_15 : decode cX6_finish 15 = .ok (.aload_n 0, 1) := by decide +kernel
theorem dX6_finish_16 : decode cX6_finish 16 = .ok (.getfield 15, 3) := by decide +kernel
theorem dX6_finish_19 : decode cX6_finish 19 = .ok (.iload_n 1, 1) := by decide +kernel
theorem dX6_finish_20 : decode cX6_finish 20 = .ok (.iconst 2, 1) := by decide +kernel
theorem dX6_finish_21 : decode cX6_finish 21 = .ok (.iastore, 1) := by decide +kernel
theorem dX6_finish_22 : decode cX6_finish 22 = .ok (.aload_n 0, 1) := by decide +kernel
theorem dX6_finish_23 : decode cX6_finish 23 = .ok (.getfield 18, 3) := by decide +kernel
theorem dX6_finish_26 : decode cX6_finish 26 = .ok (.iload_n 1, 1) := by decide +kernel
theorem dX6_finish_27 : decode cX6_finish 27 = .ok (.aload_n 0, 1) := by decide +kernel
theorem dX6_finish_28 : decode cX6_finish 28 = .ok (.getfield 9, 3) := by decide +kernel
theorem dX6_finish_31 : decode cX6_finish 31 = .ok (.iload_n 1, 1) := by decide +kernel
theorem dX6_finish_32 : decode cX6_finish 32 = .ok (.iaload, 1) := by decide +kernel
theorem dX6_finish_33 : decode cX6_finish 33 = .ok (.iastore, 1) := by decide +kernel
theorem dX6_finish_34 : decode cX6_finish 34 = .ok (.goto 68, 3) := by decide +kernel
theorem dX6_finish_37 : decode cX6_finish 37 = .ok (.aload_n 0, 1) := by decide +kernel
theorem dX6_finish_38 : decode cX6_finish 38 = .ok (.getfield 15, 3) := by decide +kernel
theorem dX6_finish_41 : decode cX6_finish 41 = .ok (.iload_n 1, 1) := by decide +kernel
theorem dX6_finish_42 : decode cX6_finish 42 = .ok (.iaload, 1) := by decide +kernel
theorem dX6_finish_43 : decode cX6_finish 43 = .ok (.iconst 2, 1) := by decide +kernel
theorem dX6_finish_44 : decode cX6_finish 44 = .ok (.if_icmp .ne 51, 3) := by decide +kernel
theorem dX6_finish_47 : decode cX6_finish 47 = .ok (.aload_n 0, 1) := by decide +kernel
theorem dX6_finish_48 : decode cX6_finish 48 = .ok (.dup, 1) := by decide +kernel
theorem dX6_finish_49 : decode cX6_finish 49 = .ok (.getfield 59, 3) := by decide +kernel
theorem dX6_finish_52 : decode cX6_finish 52 = .ok (.aload_n 0, 1) := by decide +kernel
theorem dX6_finish_53 : decode cX6_finish 53 = .ok (.getfield 21, 3) := by decide +kernel
theorem dX6_finish_56 : decode cX6_finish 56 = .ok (.iload_n 1, 1) := by decide +kernel
theorem dX6_finish_57 : decode cX6_finish 57 = .ok (.iaload, 1) := by decide +kernel
theorem dX6_finish_58 : decode cX6_finish 58 = .ok (.iconst 2, 1) := by decide +kernel
theorem dX6_finish_59 : decode cX6_finish 59 = .ok (.invokestatic 49, 3) := by decide +kernel
theorem dX6_finish_62 : decode cX6_finish 62 = .ok (.iadd, 1) := by decide +kernel
theorem dX6_finish_63 : decode cX6_finish 63 = .ok (.putfield 59, 3) := by decide +kernel
theorem dX6_finish_66 : decode cX6_finish 66 = .ok (.aload_n 0, 1) := by decide +kernel
theorem dX6_finish_67 : decode cX6_finish 67 = .ok (.getfield 21, 3) := by decide +kernel
theorem dX6_finish_70 : decode cX6_finish 70 = .ok (.iload_n 1, 1) := by decide +kernel
theorem dX6_finish_71 : decode cX6_finish 71 = .ok (.iconst 0, 1) := by decide +kernel
theorem dX6_finish_72 : decode cX6_finish 72 = .ok (.iastore, 1) := by decide +kernel
theorem dX6_finish_73 : decode cX6_finish 73 = .ok (.aload_n 0, 1) := by decide +kernel
theorem dX6_finish_74 : decode cX6_finish 74 = .ok (.getfield 15, 3) := by decide +kernel
theorem dX6_finish_77 : decode cX6_finish 77 = .ok (.iload_n 1, 1) := by decide +kernel
theorem dX6_finish_78 : decode cX6_finish 78 = .ok (.iconst 3, 1) := by decide +kernel
theorem dX6_finish_79 : decode cX6_finish 79 = .ok (.iastore, 1) := by decide +kernel
theorem dX6_finish_80 : decode cX6_finish 80 = .ok (.aload_n 0, 1) := by decide +kernel
theorem dX6_finish_81 : decode cX6_finish 81 = .ok (.getfield 18, 3) := by decide +kernel
theorem dX6_finish_84 : decode cX6_finish 84 = .ok (.iload_n 1, 1) := by decide +kernel
theorem dX6_finish_85 : decode cX6_finish 85 = .ok (.aload_n 0, 1) := by decide +kernel
theorem dX6_finish_86 : decode cX6_finish 86 = .ok (.getfield 9, 3) := by decide +kernel
theorem dX6_finish_89 : decode cX6_finish 89 = .ok (.iload_n 1, 1) := by decide +kernel
theorem dX6_finish_90 : decode cX6_finish 90 = .ok (.iaload, 1) := by decide +kernel
theorem dX6_finish_91 : decode cX6_finish 91 = .ok (.iastore, 1) := by decide +kernel
theorem dX6_finish_92 : decode cX6_finish 92 = .ok (.goto 10, 3) := by decide +kernel
theorem dX6_finish_95 : decode cX6_finish 95 = .ok (.aload_n 0, 1) := by decide +kernel
theorem dX6_finish_96 : decode cX6_finish 96 = .ok (.getfield 15, 3) := by decide +kernel
theorem dX6_finish_99 : decode cX6_finish 99 = .ok (.iload_n 1, 1) := by decide +kernel
theorem dX6_finish_100 : decode cX6_finish 100 = .ok (.iconst 0, 1) := by decide +kernel
theorem dX6_finish_101 : decode cX6_finish 101 = .ok (.iastore, 1) := by decide +kernel
theorem dX6_finish_102 : decode cX6_finish 102 = .ok (.return_, 1) := by decide +kernel
set_option maxRecDepth 100000 in
theorem s_runFin (l : Launch) (dd : Nat) (ro : Nat) (ar : Nat → Nat) (yv : Value) (s : zRs) (i : Nat) (hd : 1 ≤ dd) (hi : i < 12) (hI : rI s) : zSp l mX6_finish dd 0 0 [.ref ro, .int (nI i)] [(ro, .inr (5, fRun ar (nF s.1) yv)), (ar 1, .inl (0, 12, .inl (nF (s.2 1)))), (ar 2, .inl (0, 12, .inl (nF (s.2 2)))), (ar 3, .inl (0, 12, .inl (nF (s.2 3)))), (ar 4, .inl (0, 12, .inl (nF (s.2 4))))] (fun r K' => r = none ∧ K' = kRun ro ar yv (rFin s i)) := by
  refine zSp.of (by decide) (Nat.le_of_ble_eq_true rfl) (fun h0 => ?_)
  show zS _ 0 0 0 [(0, .ref ro), (1, .int (nI i))] [] [(ro, .inr (5, fRun ar (nF s.1) yv)), (ar 1, .inl (0, 12, .inl (nF (s.2 1)))), (ar 2, .inl (0, 12, .inl (nF (s.2 2)))), (ar 3, .inl (0, 12, .inl (nF (s.2 3)))), (ar 4, .inl (0, 12, .inl (nF (s.2 4))))]
  obtain ⟨h1, h2, h3, h4⟩ := hI
  have bp := h2 i hi
  refine zs_aload_n dX6_finish_0 rfl rfl ?_
  refine zs_get 0 dX6_finish_1 zf_RX6_15 rfl (v := .ref (ar 2)) rfl ?_
  refine zs_iload_n dX6_finish_4 rfl ?_
  refine zs_iald 2 dX6_finish_5 rfl (vp_in_nI (by omega) (by omega)) ?_
  refine zs_as (y := nI ((s.2 2) i)) (by rw [nI_c (n := i) (by omega)]; rfl) ?_
  refine zs_iconst (v := nI 1) dX6_finish_6 (by decide) ?_
  refine zs_icmp_ne (tgt := 37) dX6_finish_7 (by decide) (fun c_1 => ?_) (fun c_1 => ?_)
  · have c_1 : ¬ (((s.2 2) i) = 1) := by have hc := c_1; rw [nI_eq' (by omega) (by omega)] at hc; exact hc
    refine zs_aload_n dX6_finish_37 rfl rfl ?_
    refine zs_get 0 dX6_finish_38 zf_RX6_15 rfl (v := .ref (ar 2)) rfl ?_
    refine zs_iload_n dX6_finish_41 rfl ?_
    refine zs_iald 2 dX6_finish_42 rfl (vp_in_nI (by omega) (by omega)) ?_
    refine zs_as (y := nI ((s.2 2) i)) (by rw [nI_c (n := i) (by omega)]; rfl) ?_
    refine zs_iconst (v := nI 2) dX6_finish_43 (by decide) ?_
    refine zs_icmp_ne (tgt := 95) dX6_finish_44 (by decide) (fun c_2 => ?_) (fun c_2 => ?_)
    · have c_2 : ¬ (((s.2 2) i) = 2) := by have hc := c_2; rw [nI_eq' (by omega) (by omega)] at hc; exact hc
      refine zs_aload_n dX6_finish_95 rfl rfl ?_
      refine zs_get 0 dX6_finish_96 zf_RX6_15 rfl (v := .ref (ar 2)) rfl ?_
      refine zs_iload_n dX6_finish_99 rfl ?_
      refine zs_iconst (v := nI 0) dX6_finish_100 (by decide) ?_
      refine zs_iast 2 dX6_finish_101 rfl (vp_in_nI (by omega) (by omega)) ?_
      rw [nI_c (n := i) (by omega), nF_u]
      show zS _ _ _ _ _ _ [(ro, .inr (5, fRun ar (nF s.1) yv)), (ar 1, .inl (0, 12, .inl (nF (s.2 1)))), (ar 2, .inl (0, 12, .inl (nF (un (s.2 2) i 0)))), (ar 3, .inl (0, 12, .inl (nF (s.2 3)))), (ar 4, .inl (0, 12, .inl (nF (s.2 4))))]
      exact zs_vret dX6_finish_102 rfl ⟨rfl, by simp only [rFin, if_neg c_1, if_neg c_2]; rfl⟩
    · have c_2 : ((s.2 2) i) = 2 := by have hc := c_2; rw [nI_eq' (by omega) (by omega)] at hc; exact hc
      refine zs_aload_n dX6_finish_47 rfl rfl ?_
      refine zs_dup dX6_finish_48 rfl ?_
      refine zs_get 0 dX6_finish_49 zf_RX6_59 rfl (v := .int (nI (s.1 8))) rfl ?_
      refine zs_aload_n dX6_finish_52 rfl rfl ?_
      refine zs_get 0 dX6_finish_53 zf_RX6_21 rfl (v := .ref (ar 4)) rfl ?_
      refine zs_iload_n dX6_finish_56 rfl ?_
      refine zs_iald 4 dX6_finish_57 rfl (vp_in_nI (by omega) (by omega)) ?_
      refine zs_as (y := nI ((s.2 4) i)) (by rw [nI_c (n := i) (by omega)]; rfl) ?_
      refine zs_iconst (v := nI 2) dX6_finish_58 (by decide) ?_
      refine zs_callSN (M := mX12_cutUp) (As := [.int (nI ((s.2 4) i)), .int (nI 2)]) (st := [.int (nI (s.1 8)), .ref ro]) (Kc := []) (Kr := [(ro, .inr (5, fRun ar (nF s.1) yv)), (ar 1, .inl (0, 12, .inl (nF (s.2 1)))), (ar 2, .inl (0, 12, .inl (nF (s.2 2)))), (ar 3, .inl (0, 12, .inl (nF (s.2 3)))), (ar 4, .inl (0, 12, .inl (nF (s.2 4))))]) [] [0, 1, 2, 3, 4] dX6_finish_59 (by first | exact Or.inl ⟨rfl, rfl⟩ | exact Or.inr ⟨rfl, rfl⟩) rfl zcut kX12_cutUp rfl rfl rfl rfl rfl (by decide) (show dd - 1 + 1 ≤ dd by omega) (Nat.zero_le _) (Nat.zero_le _) (Nat.le_of_ble_eq_true rfl) (s_cutUp l (dd - 1) (nI ((s.2 4) i)) (nI 2)) (fun r K1 hr => ?_)
      obtain ⟨rfl, rfl⟩ := hr
      refine zs_K (K' := [(ro, .inr (5, fRun ar (nF s.1) yv)), (ar 1, .inl (0, 12, .inl (nF (s.2 1)))), (ar 2, .inl (0, 12, .inl (nF (s.2 2)))), (ar 3, .inl (0, 12, .inl (nF (s.2 3)))), (ar 4, .inl (0, 12, .inl (nF (s.2 4))))]) [0, 1, 2, 3, 4] rfl (by decide) ?_
      refine zs_as (y := nI (nUp ((s.2 4) i) 2)) (pUp_n (by omega) (by omega) (by omega)) ?_
      refine zs_iadd dX6_finish_62 ?_
      refine zs_as (y := nI ((s.1 8) + (nUp ((s.2 4) i) 2))) (nI_add _ _) ?_
      refine zs_put 0 dX6_finish_63 zf_RX6_59 rfl (Nat.le_of_ble_eq_true rfl) (zPv_i _) ?_
      show zS _ _ _ _ _ _ [(ro, .inr (5, fRun ar (nF (un s.1 8 ((s.1 8) + (nUp ((s.2 4) i) 2)))) yv)), (ar 1, .inl (0, 12, .inl (nF (s.2 1)))), (ar 2, .inl (0, 12, .inl (nF (s.2 2)))), (ar 3, .inl (0, 12, .inl (nF (s.2 3)))), (ar 4, .inl (0, 12, .inl (nF (s.2 4))))]
      refine zs_aload_n dX6_finish_66 rfl rfl ?_
      refine zs_get 0 dX6_finish_67 zf_RX6_21 rfl (v := .ref (ar 4)) rfl ?_
      refine zs_iload_n dX6_finish_70 rfl ?_
      refine zs_iconst (v := nI 0) dX6_finish_71 (by decide) ?_
      refine zs_iast 4 dX6_finish_72 rfl (vp_in_nI (by omega) (by omega)) ?_
      rw [nI_c (n := i) (by omega), nF_u]
      show zS _ _ _ _ _ _ [(ro, .inr (5, fRun ar (nF (un s.1 8 ((s.1 8) + (nUp ((s.2 4) i) 2)))) yv)), (ar 1, .inl (0, 12, .inl (nF (s.2 1)))), (ar 2, .inl (0, 12, .inl (nF (s.2 2)))), (ar 3, .inl (0, 12, .inl (nF (s.2 3)))), (ar 4, .inl (0, 12, .inl (nF (un (s.2 4) i 0))))]
      refine zs_aload_n dX6_finish_73 rfl rfl ?_
      refine zs_get 0 dX6_finish_74 zf_RX6_15 rfl (v := .ref (ar 2)) rfl ?_
      refine zs_iload_n dX6_finish_77 rfl ?_
      refine zs_iconst (v := nI 3) dX6_finish_78 (by decide) ?_
      refine zs_iast 2 dX6_finish_79 rfl (vp_in_nI (by omega) (by omega)) ?_
      rw [nI_c (n := i) (by omega), nF_u]
      show zS _ _ _ _ _ _ [(ro, .inr (5, fRun ar (nF (un s.1 8 ((s.1 8) + (nUp ((s.2 4) i) 2)))) yv)), (ar 1, .inl (0, 12, .inl (nF (s.2 1)))), (ar 2, .inl (0, 12, .inl (nF (un (s.2 2) i 3)))), (ar 3, .inl (0, 12, .inl (nF (s.2 3)))), (ar 4, .inl (0, 12, .inl (nF (un (s.2 4) i 0))))]
      refine zs_aload_n dX6_finish_80 rfl rfl ?_
      refine zs_get 0 dX6_finish_81 zf_RX6_18 rfl (v := .ref (ar 3)) rfl ?_
      refine zs_iload_n dX6_finish_84 rfl ?_
      refine zs_aload_n dX6_finish_85 rfl rfl ?_
      refine zs_get 0 dX6_finish_86 zf_RX6_9 rfl (v := .ref (ar 1)) rfl ?_
      refine zs_iload_n dX6_finish_89 rfl ?_
      refine zs_iald 1 dX6_finish_90 rfl (vp_in_nI (by omega) (by omega)) ?_
      refine zs_as (y := nI ((s.2 1) i)) (by rw [nI_c (n := i) (by omega)]; rfl) ?_
      refine zs_iast 3 dX6_finish_91 rfl (vp_in_nI (by omega) (by omega)) ?_
      rw [nI_c (n := i) (by omega), nF_u]
      show zS _ _ _ _ _ _ [(ro, .inr (5, fRun ar (nF (un s.1 8 ((s.1 8) + (nUp ((s.2 4) i) 2)))) yv)), (ar 1, .inl (0, 12, .inl (nF (s.2 1)))), (ar 2, .inl (0, 12, .inl (nF (un (s.2 2) i 3)))), (ar 3, .inl (0, 12, .inl (nF (un (s.2 3) i ((s.2 1) i))))), (ar 4, .inl (0, 12, .inl (nF (un (s.2 4) i 0))))]
      refine zs_goto (tgt := 102) dX6_finish_92 (by decide) ?_
      exact zs_vret dX6_finish_102 rfl ⟨rfl, by simp only [rFin, if_neg c_1, if_pos c_2]; rfl⟩
  · have c_1 : ((s.2 2) i) = 1 := by have hc := c_1; rw [nI_eq' (by omega) (by omega)] at hc; exact hc
    refine zs_aload_n dX6_finish_10 rfl rfl ?_
    refine zs_iconst (v := nI 0) dX6_finish_11 (by decide) ?_
    refine zs_put 0 dX6_finish_12 zf_RX6_52 rfl (Nat.le_of_ble_eq_true rfl) (zPv_z (by first | exact Or.inl rfl | exact Or.inr rfl | assumption)) ?_
    show zS _ _ _ _ _ _ [(ro, .inr (5, fRun ar (nF (un s.1 6 0)) yv)), (ar 1, .inl (0, 12, .inl (nF (s.2 1)))), (ar 2, .inl (0, 12, .inl (nF (s.2 2)))), (ar 3, .inl (0, 12, .inl (nF (s.2 3)))), (ar 4, .inl (0, 12, .inl (nF (s.2 4))))]
    refine zs_aload_n dX6_finish_15 rfl rfl ?_
    refine zs_get 0 dX6_finish_16 zf_RX6_15 rfl (v := .ref (ar 2)) rfl ?_
    refine zs_iload_n dX6_finish_19 rfl ?_
    refine zs_iconst (v := nI 2) dX6_finish_20 (by decide) ?_
    refine zs_iast 2 dX6_finish_21 rfl (vp_in_nI (by omega) (by omega)) ?_
    rw [nI_c (n := i) (by omega), nF_u]
    show zS _ _ _ _ _ _ [(ro, .inr (5, fRun ar (nF (un s.1 6 0)) yv)), (ar 1, .inl (0, 12, .inl (nF (s.2 1)))), (ar 2, .inl (0, 12, .inl (nF (un (s.2 2) i 2)))), (ar 3, .inl (0, 12, .inl (nF (s.2 3)))), (ar 4, .inl (0, 12, .inl (nF (s.2 4))))]
    refine zs_aload_n dX6_finish_22 rfl rfl ?_
    refine zs_get 0 dX6_finish_23 zf_RX6_18 rfl (v := .ref (ar 3)) rfl ?_
    refine zs_iload_n dX6_finish_26 rfl ?_
    refine zs_aload_n dX6_finish_27 rfl rfl ?_
    refine zs_get 0 dX6_finish_28 zf_RX6_9 rfl (v := .ref (ar 1)) rfl ?_
    refine zs_iload_n dX6_finish_31 rfl ?_
    refine zs_iald 1 dX6_finish_32 rfl (vp_in_nI (by omega) (by omega)) ?_
    refine zs_as (y := nI ((s.2 1) i)) (by rw [nI_c (n := i) (by omega)]; rfl) ?_
    refine zs_iast 3 dX6_finish_33 rfl (vp_in_nI (by omega) (by omega)) ?_
    rw [nI_c (n := i) (by omega), nF_u]
    show zS _ _ _ _ _ _ [(ro, .inr (5, fRun ar (nF (un s.1 6 0)) yv)), (ar 1, .inl (0, 12, .inl (nF (s.2 1)))), (ar 2, .inl (0, 12, .inl (nF (un (s.2 2) i 2)))), (ar 3, .inl (0, 12, .inl (nF (un (s.2 3) i ((s.2 1) i))))), (ar 4, .inl (0, 12, .inl (nF (s.2 4))))]
    refine zs_goto (tgt := 102) dX6_finish_34 (by decide) ?_
    exact zs_vret dX6_finish_102 rfl ⟨rfl, by simp only [rFin, if_pos c_1]; rfl⟩
theorem dX6_workTick_0 : decode cX6_workTick 0 = .ok (.aload_n 0, 1) := by decide +kernel
theorem dX6_workTick_1 : decode cX6_workTick 1 = .ok (.getfield 18, 3) := by decide +kernel
theorem dX6_workTick_4 : decode cX6_workTick 4 = .ok (.iload_n 1, 1) := by decide +kernel
theorem dX6_workTick_5 : decode cX6_workTick 5 = .ok (.iaload, 1) := by decide +kernel
theorem dX6_workTick_6 : decode cX6_workTick 6 = .ok (.ifCond .le 27, 3) := by decide +kernel
theorem dX6_workTick_9 : decode cX6_workTick 9 = .ok (.aload_n 0, 1) := by decide +kernel
theorem dX6_workTick_10 : decode cX6_workTick 10 = .ok (.getfield 18, 3) := by decide +kernel
theorem dX6_workTick_13 : decode cX6_workTick 13 = .ok (.iload_n 1, 1) := by decide +kernel
theorem dX6_workTick_14 : decode cX6_workTick 14 = .ok (.dup2, 1) := by decide +kernel
theorem dX6_workTick_15 : decode cX6_workTick 15 = .ok (.iaload, 1) := by decide +kernel
theorem dX6_workTick_16 : decode cX6_workTick 16 = .ok (.iconst 1, 1) := by decide +kernel
theorem dX6_workTick_17 : decode cX6_workTick 17 = .ok (.isub, 1) := by decide +kernel
theorem dX6_workTick_18 : decode cX6_workTick 18 = .ok (.iastore, 1) := by decide +kernel
theorem dX6_workTick_19 : decode cX6_workTick 19 = .ok (.aload_n 0, 1) := by decide +kernel
theorem dX6_workTick_20 : decode cX6_workTick 20 = .ok (.getfield 18, 3) := by decide +kernel
theorem dX6_workTick_23 : decode cX6_workTick 23 = .ok (.iload_n 1, 1) := by decide +kernel
theorem dX6_workTick_24 : decode cX6_workTick 24 = .ok (.iaload, 1) := by decide +kernel
theorem dX6_workTick_25 : decode cX6_workTick 25 = .ok (.ifCond .ne 8, 3) := by decide +kernel
theorem dX6_workTick_28 : decode cX6_workTick 28 = .ok (.aload_n 0, 1) := by decide +kernel
theorem dX6_workTick_29 : decode cX6_workTick 29 = .ok (.iload_n 1, 1) := by decide +kernel
theorem dX6_workTick_30 : decode cX6_workTick 30 = .ok (.invokevirtual 69, 3) := by decide +kernel
theorem dX6_workTick_33 : decode cX6_workTick 33 = .ok (.aload_n 0, 1) := by decide +kernel
theorem dX6_workTick_34 : decode cX6_workTick 34 = .ok (.getfield 15, 3) := by decide +kernel
theorem dX6_workTick_37 : decode cX6_workTick 37 = .ok (.iload_n 1, 1) := by decide +kernel
theorem dX6_workTick_38 : decode cX6_workTick 38 = .ok (.iaload, 1) := by decide +kernel
theorem dX6_workTick_39 : decode cX6_workTick 39 = .ok (.ifCond .ne 92, 3) := by decide +kernel
theorem dX6_workTick_42 : decode cX6_workTick 42 = .ok (.aload_n 0, 1) := by decide +kernel
theorem dX6_workTick_43 : decode cX6_workTick 43 = .ok (.getfield 52, 3) := by decide +kernel
theorem dX6_workTick_46 : decode cX6_workTick 46 = .ok (.ifCond .ne 85, 3) := by decide +kernel
theorem dX6_workTick_49 : decode cX6_workTick 49 = .ok (.aload_n 0, 1) := by decide +kernel
theorem dX6_workTick_50 : decode cX6_workTick 50 = .ok (.getfield 56, 3) := by decide +kernel
theorem dX6_workTick_53 : decode cX6_workTick 53 = .ok (.ifCond .le 78, 3) := by decide +kernel
theorem dX6_workTick_56 : decode cX6_workTick 56 = .ok (.aload_n 0, 1) := by decide +kernel
theorem dX6_workTick_57 : decode cX6_workTick 57 = .ok (.iconst 1, 1) := by decide +kernel
theorem dX6_workTick_58 : decode cX6_workTick 58 = .ok (.putfield 52, 3) := by decide +kernel
theorem dX6_workTick_61 : decode cX6_workTick 61 = .ok (.aload_n 0, 1) := by decide +kernel
theorem dX6_workTick_62 : decode cX6_workTick 62 = .ok (.getfield 21, 3) := by decide +kernel
theorem dX6_workTick_65 : decode cX6_workTick 65 = .ok (.iload_n 1, 1) := by decide +kernel
theorem dX6_workTick_66 : decode cX6_workTick 66 = .ok (.aload_n 0, 1) := by decide +kernel
theorem dX6_workTick_67 : decode cX6_workTick 67 = .ok (.getfield 24, 3) := by decide +kernel
theorem dX6_workTick_70 : decode cX6_workTick 70 = .ok (.getfield 72, 3) := by decide +kernel
theorem dX6_workTick_73 : decode cX6_workTick 73 = .ok (.aload_n 0, 1) := by decide +kernel
theorem dX6_workTick_74 : decode cX6_workTick 74 = .ok (.getfield 56, 3) := by decide +kernel
theorem dX6_workTick_77 : decode cX6_workTick 77 = .ok (.invokestatic 34, 3) := by decide +kernel
theorem dX6_workTick_80 : decode cX6_workTick 80 = .ok (.iastore, 1) := by decide +kernel
theorem dX6_workTick_81 : decode cX6_workTick 81 = .ok (.aload_n 0, 1) := by decide +kernel
theorem dX6_workTick_82 : decode cX6_workTick 82 = .ok (.dup, 1) := by decide +kernel
theorem dX6_workTick_83 : decode cX6_workTick 83 = .ok (.getfield 56, 3) := by decide +kernel
theorem dX6_workTick_86 : decode cX6_workTick 86 = .ok (.aload_n 0, 1) := by decide +kernel
theorem dX6_workTick_87 : decode cX6_workTick 87 = .ok (.getfield 21, 3) := by decide +kernel
theorem dX6_workTick_90 : decode cX6_workTick 90 = .ok (.iload_n 1, 1) := by decide +kernel
theorem dX6_workTick_91 : decode cX6_workTick 91 = .ok (.iaload, 1) := by decide +kernel
theorem dX6_workTick_92 : decode cX6_workTick 92 = .ok (.isub, 1) := by decide +kernel
theorem dX6_workTick_93 : decode cX6_workTick 93 = .ok (.putfield 56, 3) := by decide +kernel
theorem dX6_workTick_96 : decode cX6_workTick 96 = .ok (.aload_n 0, 1) := by decide +kernel
theorem dX6_workTick_97 : decode cX6_workTick 97 = .ok (.dup, 1) := by decide +kernel
theorem dX6_workTick_98 : decode cX6_workTick 98 = .ok (.getfield 62, 3) := by decide +kernel
theorem dX6_workTick_101 : decode cX6_workTick 101 = .ok (.aload_n 0, 1) := by decide +kernel
theorem dX6_workTick_102 : decode cX6_workTick 102 = .ok (.getfield 21, 3) := by decide +kernel
theorem dX6_workTick_105 : decode cX6_workTick 105 = .ok (.iload_n 1, 1) := by decide +kernel
theorem dX6_workTick_106 : decode cX6_workTick 106 = .ok (.iaload, 1) := by decide +kernel
theorem dX6_workTick_107 : decode cX6_workTick 107 = .ok (.iadd, 1) := by decide +kernel
theorem dX6_workTick_108 : decode cX6_workTick 108 = .ok (.putfield 62, 3) := by decide +kernel
theorem dX6_workTick_111 : decode cX6_workTick 111 = .ok (.aload_n 0, 1) := by decide +kernel
theorem dX6_workTick_112 : decode cX6_workTick 112 = .ok (.getfield 15, 3) := by decide +kernel
theorem dX6_workTick_115 : decode cX6_workTick 115 = .ok (.iload_n 1, 1) := by decide +kernel
theorem dX6_workTick_116 : decode cX6_workTick 116 = .ok (.iconst 1, 1) := by decide +kernel
theorem dX6_workTick_117 : decode cX6_workTick 117 = .ok (.iastore, 1) := by decide +kernel
theorem dX6_workTick_118 : decode cX6_workTick 118 = .ok (.aload_n 0, 1) := by decide +kernel
theorem dX6_workTick_119 : decode cX6_workTick 119 = .ok (.getfield 18, 3) := by decide +kernel
theorem dX6_workTick_122 : decode cX6_workTick 122 = .ok (.iload_n 1, 1) := by decide +kernel
theorem dX6_workTick_123 : decode cX6_workTick 123 = .ok (.aload_n 0, 1) := by decide +kernel
theorem dX6_workTick_124 : decode cX6_workTick 124 = .ok (.getfield 24, 3) := by decide +kernel
theorem dX6_workTick_127 : decode cX6_workTick 127 = .ok (.getfield 75, 3) := by decide +kernel
theorem dX6_workTick_130 : decode cX6_workTick 130 = .ok (.iastore, 1) := by decide +kernel
theorem dX6_workTick_131 : decode cX6_workTick 131 = .ok (.return_, 1) := by decide +kernel
set_option maxRecDepth 100000 in
theorem tr_0 {l : Launch} {dd : Nat} {Po : zPo} {K0 : zK} {h0 : List va_E} {Xo : zK → Prop} {Gc : zG → Prop} (ro y : Nat) (ar ay : Nat → Nat) (s : zRs) (Y : Nat → Nat) (wi : Int32) (i : Nat) (hd : 2 ≤ dd) (hi : i < 12) (hI : rI s) (hk : zS (l, mX6_workTick, dd, Po, K0, h0, Xo, Gc) 0 0 33 [(0, .ref ro), (1, .int (nI i))] [] (kRun ro ar (.ref y) (rA s i) ++ [(y, .inr (9, fYard ay (ysN Y wi)))])) : zS (l, mX6_workTick, dd, Po, K0, h0, Xo, Gc) 0 0 0 [(0, .ref ro), (1, .int (nI i))] [] [(ro, .inr (5, fRun ar (nF s.1) (.ref y))), (ar 1, .inl (0, 12, .inl (nF (s.2 1)))), (ar 2, .inl (0, 12, .inl (nF (s.2 2)))), (ar 3, .inl (0, 12, .inl (nF (s.2 3)))), (ar 4, .inl (0, 12, .inl (nF (s.2 4)))), (y, .inr (9, fYard ay (ysN Y wi)))] := by
  have bp := hI.2.1 i hi
  refine zs_aload_n dX6_workTick_0 rfl rfl ?_
  refine zs_get 0 dX6_workTick_1 zf_RX6_18 rfl (v := .ref (ar 3)) rfl ?_
  refine zs_iload_n dX6_workTick_4 rfl ?_
  refine zs_iald 3 dX6_workTick_5 rfl (vp_in_nI (by omega) (by omega)) ?_
  refine zs_as (y := nI ((s.2 3) i)) (by rw [nI_c (n := i) (by omega)]; rfl) ?_
  refine zs_if_le (tgt := 33) dX6_workTick_6 (by decide) (fun c_1 => ?_) (fun c_1 => ?_)
  · have c_1 : ((s.2 3) i) ≤ 0 := by have hc := c_1; rw [show (0 : Int32) = nI 0 from rfl] at hc; rw [nI_le' (by omega) (by omega)] at hc; exact hc
    refine zs_lv [0, 1] rfl ?_
    rw [rA, if_pos (show s.2 3 i = 0 by omega)] at hk
    exact hk
  · have c_1 : ¬ (((s.2 3) i) ≤ 0) := by have hc := c_1; rw [show (0 : Int32) = nI 0 from rfl] at hc; rw [nI_le' (by omega) (by omega)] at hc; exact hc
    refine zs_aload_n dX6_workTick_9 rfl rfl ?_
    refine zs_get 0 dX6_workTick_10 zf_RX6_18 rfl (v := .ref (ar 3)) rfl ?_
    refine zs_iload_n dX6_workTick_13 rfl ?_
    refine zs_dup2 dX6_workTick_14 rfl rfl ?_
    refine zs_iald 3 dX6_workTick_15 rfl (vp_in_nI (by omega) (by omega)) ?_
    refine zs_as (y := nI ((s.2 3) i)) (by rw [nI_c (n := i) (by omega)]; rfl) ?_
    refine zs_iconst (v := nI 1) dX6_workTick_16 (by decide) ?_
    refine zs_isub dX6_workTick_17 ?_
    refine zs_as (y := nI (((s.2 3) i) - 1)) (nI_sub (by omega)) ?_
    refine zs_iast 3 dX6_workTick_18 rfl (vp_in_nI (by omega) (by omega)) ?_
    rw [nI_c (n := i) (by omega), nF_u]
    show zS _ _ _ _ _ _ [(ro, .inr (5, fRun ar (nF s.1) (.ref y))), (ar 1, .inl (0, 12, .inl (nF (s.2 1)))), (ar 2, .inl (0, 12, .inl (nF (s.2 2)))), (ar 3, .inl (0, 12, .inl (nF (un (s.2 3) i (((s.2 3) i) - 1))))), (ar 4, .inl (0, 12, .inl (nF (s.2 4)))), (y, .inr (9, fYard ay (ysN Y wi)))]
    refine zs_aload_n dX6_workTick_19 rfl rfl ?_
    refine zs_get 0 dX6_workTick_20 zf_RX6_18 rfl (v := .ref (ar 3)) rfl ?_
    refine zs_iload_n dX6_workTick_23 rfl ?_
    refine zs_iald 3 dX6_workTick_24 rfl (vp_in_nI (by omega) (by omega)) ?_
    refine zs_as (y := nI (((s.2 3) i) - 1)) (by rw [nI_c (n := i) (by omega)]; exact congrArg nI (if_pos rfl)) ?_
    refine zs_if_ne (tgt := 33) dX6_workTick_25 (by decide) (fun c_2 => ?_) (fun c_2 => ?_)
    · have c_2 : ¬ ((((s.2 3) i) - 1) = 0) := by have hc := c_2; rw [show (0 : Int32) = nI 0 from rfl] at hc; rw [nI_eq' (by omega) (by omega)] at hc; exact hc
      refine zs_lv [0, 1] rfl ?_
      rw [rA, if_neg (show ¬ s.2 3 i = 0 by omega), if_neg c_2] at hk
      exact hk
    · have c_2 : (((s.2 3) i) - 1) = 0 := by have hc := c_2; rw [show (0 : Int32) = nI 0 from rfl] at hc; rw [nI_eq' (by omega) (by omega)] at hc; exact hc
      refine zs_aload_n dX6_workTick_28 rfl rfl ?_
      refine zs_iload_n dX6_workTick_29 rfl ?_
      refine zs_callV (M := mX6_finish) (As := [.int (nI i)]) (st := []) (Kc := [(ro, .inr (5, fRun ar (nF s.1) (.ref y))), (ar 1, .inl (0, 12, .inl (nF (s.2 1)))), (ar 2, .inl (0, 12, .inl (nF (s.2 2)))), (ar 3, .inl (0, 12, .inl (nF (un (s.2 3) i (((s.2 3) i) - 1))))), (ar 4, .inl (0, 12, .inl (nF (s.2 4))))]) (Kr := [(y, .inr (9, fYard ay (ysN Y wi)))]) [0, 1, 2, 3, 4] [5] 0 dX6_workTick_30 zl_RX6_69 kX6_finish rfl rfl rfl rfl rfl (by decide) rfl rfl (show dd - 1 + 1 ≤ dd by omega) (Nat.zero_le _) (Nat.zero_le _) (Nat.le_of_ble_eq_true rfl) (s_runFin l (dd - 1) ro ar (.ref y) (rDec s i) i (by omega) hi (rI_dec hI hi)) (fun r K1 hr => ?_)
      obtain ⟨rfl, rfl⟩ := hr
      refine zs_K (K' := [(ro, .inr (5, fRun ar (nF (rFin (rDec s i) i).1) (.ref y))), (ar 1, .inl (0, 12, .inl (nF ((rFin (rDec s i) i).2 1)))), (ar 2, .inl (0, 12, .inl (nF ((rFin (rDec s i) i).2 2)))), (ar 3, .inl (0, 12, .inl (nF ((rFin (rDec s i) i).2 3)))), (ar 4, .inl (0, 12, .inl (nF ((rFin (rDec s i) i).2 4)))), (y, .inr (9, fYard ay (ysN Y wi)))]) [1, 2, 3, 4, 5, 0] rfl (by decide) ?_
      refine zs_lv [0, 1] rfl ?_
      rw [rA, if_neg (show ¬ s.2 3 i = 0 by omega), if_pos c_2] at hk
      exact hk
set_option maxRecDepth 100000 in
theorem tr_33 {l : Launch} {dd : Nat} {Po : zPo} {K0 : zK} {h0 : List va_E} {Xo : zK → Prop} {Gc : zG → Prop} (ro y : Nat) (ar ay : Nat → Nat) (s : zRs) (Y : Nat → Nat) (wi : Int32) (i : Nat) (hd : 2 ≤ dd) (hi : i < 12) (hI : rI s) (hY7 : Y 7 ≤ 20) (hY8 : Y 8 ≤ 30) (hk : zS (l, mX6_workTick, dd, Po, K0, h0, Xo, Gc) 0 0 131 [(0, .ref ro), (1, .int (nI i))] [] (kRun ro ar (.ref y) (rB (Y 7) (Y 8) s i) ++ [(y, .inr (9, fYard ay (ysN Y wi)))])) : zS (l, mX6_workTick, dd, Po, K0, h0, Xo, Gc) 0 0 33 [(0, .ref ro), (1, .int (nI i))] [] [(ro, .inr (5, fRun ar (nF s.1) (.ref y))), (ar 1, .inl (0, 12, .inl (nF (s.2 1)))), (ar 2, .inl (0, 12, .inl (nF (s.2 2)))), (ar 3, .inl (0, 12, .inl (nF (s.2 3)))), (ar 4, .inl (0, 12, .inl (nF (s.2 4)))), (y, .inr (9, fYard ay (ysN Y wi)))] := by
  have bp := hI.2.1 i hi
  have b6 := hI.2.2.1
  have b7 := hI.2.2.2
  have hm1 : min (Y 7) (s.1 7) ≤ s.1 7 := Nat.min_le_right _ _
  refine zs_aload_n dX6_workTick_33 rfl rfl ?_
  refine zs_get 0 dX6_workTick_34 zf_RX6_15 rfl (v := .ref (ar 2)) rfl ?_
  refine zs_iload_n dX6_workTick_37 rfl ?_
  refine zs_iald 2 dX6_workTick_38 rfl (vp_in_nI (by omega) (by omega)) ?_
  refine zs_as (y := nI ((s.2 2) i)) (by rw [nI_c (n := i) (by omega)]; rfl) ?_
  refine zs_if_ne (tgt := 131) dX6_workTick_39 (by decide) (fun c_1 => ?_) (fun c_1 => ?_)
  · have c_1 : ¬ (((s.2 2) i) = 0) := by have hc := c_1; rw [show (0 : Int32) = nI 0 from rfl] at hc; rw [nI_eq' (by omega) (by omega)] at hc; exact hc
    refine zs_lv [0, 1] rfl ?_
    rw [rB, if_neg c_1] at hk
    exact hk
  · have c_1 : ((s.2 2) i) = 0 := by have hc := c_1; rw [show (0 : Int32) = nI 0 from rfl] at hc; rw [nI_eq' (by omega) (by omega)] at hc; exact hc
    refine zs_aload_n dX6_workTick_42 rfl rfl ?_
    refine zs_get 0 dX6_workTick_43 zf_RX6_52 rfl (v := .int (nI (s.1 6))) rfl ?_
    refine zs_if_ne (tgt := 131) dX6_workTick_46 (by decide) (fun c_2 => ?_) (fun c_2 => ?_)
    · have c_2 : ¬ ((s.1 6) = 0) := by have hc := c_2; rw [show (0 : Int32) = nI 0 from rfl] at hc; rw [nI_eq' (by omega) (by omega)] at hc; exact hc
      refine zs_lv [0, 1] rfl ?_
      rw [rB, if_pos c_1, if_neg c_2] at hk
      exact hk
    · have c_2 : (s.1 6) = 0 := by have hc := c_2; rw [show (0 : Int32) = nI 0 from rfl] at hc; rw [nI_eq' (by omega) (by omega)] at hc; exact hc
      refine zs_aload_n dX6_workTick_49 rfl rfl ?_
      refine zs_get 0 dX6_workTick_50 zf_RX6_56 rfl (v := .int (nI (s.1 7))) rfl ?_
      refine zs_if_le (tgt := 131) dX6_workTick_53 (by decide) (fun c_3 => ?_) (fun c_3 => ?_)
      · have c_3 : (s.1 7) ≤ 0 := by have hc := c_3; rw [show (0 : Int32) = nI 0 from rfl] at hc; rw [nI_le' (by omega) (by omega)] at hc; exact hc
        refine zs_lv [0, 1] rfl ?_
        rw [rB, if_pos c_1, if_pos c_2, if_pos (show s.1 7 = 0 by omega)] at hk
        exact hk
      · have c_3 : ¬ ((s.1 7) ≤ 0) := by have hc := c_3; rw [show (0 : Int32) = nI 0 from rfl] at hc; rw [nI_le' (by omega) (by omega)] at hc; exact hc
        refine zs_aload_n dX6_workTick_56 rfl rfl ?_
        refine zs_iconst (v := nI 1) dX6_workTick_57 (by decide) ?_
        refine zs_put 0 dX6_workTick_58 zf_RX6_52 rfl (Nat.le_of_ble_eq_true rfl) (zPv_z (by first | exact Or.inl rfl | exact Or.inr rfl | assumption)) ?_
        show zS _ _ _ _ _ _ [(ro, .inr (5, fRun ar (nF (un s.1 6 1)) (.ref y))), (ar 1, .inl (0, 12, .inl (nF (s.2 1)))), (ar 2, .inl (0, 12, .inl (nF (s.2 2)))), (ar 3, .inl (0, 12, .inl (nF (s.2 3)))), (ar 4, .inl (0, 12, .inl (nF (s.2 4)))), (y, .inr (9, fYard ay (ysN Y wi)))]
        refine zs_aload_n dX6_workTick_61 rfl rfl ?_
        refine zs_get 0 dX6_workTick_62 zf_RX6_21 rfl (v := .ref (ar 4)) rfl ?_
        refine zs_iload_n dX6_workTick_65 rfl ?_
        refine zs_aload_n dX6_workTick_66 rfl rfl ?_
        refine zs_get 0 dX6_workTick_67 zf_RX6_24 rfl (v := .ref y) rfl ?_
        refine zs_get 5 dX6_workTick_70 zf_RX6_72 rfl (v := .int (nI (Y 7))) rfl ?_
        refine zs_aload_n dX6_workTick_73 rfl rfl ?_
        refine zs_get 0 dX6_workTick_74 zf_RX6_56 rfl (v := .int (nI (s.1 7))) rfl ?_
        refine zs_mmin dX6_workTick_77 zl_RX6_34 zmmin1 zmath2 zmmin3 (show 1 ≤ dd by omega) (Nat.le_of_ble_eq_true rfl) ?_
        refine zs_as (y := nI (min (Y 7) (s.1 7))) (nI_min (by omega) (by omega)) ?_
        refine zs_iast 4 dX6_workTick_80 rfl (vp_in_nI (by omega) (by omega)) ?_
        rw [nI_c (n := i) (by omega), nF_u]
        show zS _ _ _ _ _ _ [(ro, .inr (5, fRun ar (nF (un s.1 6 1)) (.ref y))), (ar 1, .inl (0, 12, .inl (nF (s.2 1)))), (ar 2, .inl (0, 12, .inl (nF (s.2 2)))), (ar 3, .inl (0, 12, .inl (nF (s.2 3)))), (ar 4, .inl (0, 12, .inl (nF (un (s.2 4) i (min (Y 7) (s.1 7)))))), (y, .inr (9, fYard ay (ysN Y wi)))]
        refine zs_aload_n dX6_workTick_81 rfl rfl ?_
        refine zs_dup dX6_workTick_82 rfl ?_
        refine zs_get 0 dX6_workTick_83 zf_RX6_56 rfl (v := .int (nI (s.1 7))) rfl ?_
        refine zs_aload_n dX6_workTick_86 rfl rfl ?_
        refine zs_get 0 dX6_workTick_87 zf_RX6_21 rfl (v := .ref (ar 4)) rfl ?_
        refine zs_iload_n dX6_workTick_90 rfl ?_
        refine zs_iald 4 dX6_workTick_91 rfl (vp_in_nI (by omega) (by omega)) ?_
        refine zs_as (y := nI (min (Y 7) (s.1 7))) (by rw [nI_c (n := i) (by omega)]; exact congrArg nI (if_pos rfl)) ?_
        refine zs_isub dX6_workTick_92 ?_
        refine zs_as (y := nI ((s.1 7) - (min (Y 7) (s.1 7)))) (nI_sub (by omega)) ?_
        refine zs_put 0 dX6_workTick_93 zf_RX6_56 rfl (Nat.le_of_ble_eq_true rfl) (zPv_i _) ?_
        show zS _ _ _ _ _ _ [(ro, .inr (5, fRun ar (nF (un (un s.1 6 1) 7 ((s.1 7) - (min (Y 7) (s.1 7))))) (.ref y))), (ar 1, .inl (0, 12, .inl (nF (s.2 1)))), (ar 2, .inl (0, 12, .inl (nF (s.2 2)))), (ar 3, .inl (0, 12, .inl (nF (s.2 3)))), (ar 4, .inl (0, 12, .inl (nF (un (s.2 4) i (min (Y 7) (s.1 7)))))), (y, .inr (9, fYard ay (ysN Y wi)))]
        refine zs_aload_n dX6_workTick_96 rfl rfl ?_
        refine zs_dup dX6_workTick_97 rfl ?_
        refine zs_get 0 dX6_workTick_98 zf_RX6_62 rfl (v := .int (nI (s.1 9))) rfl ?_
        refine zs_aload_n dX6_workTick_101 rfl rfl ?_
        refine zs_get 0 dX6_workTick_102 zf_RX6_21 rfl (v := .ref (ar 4)) rfl ?_
        refine zs_iload_n dX6_workTick_105 rfl ?_
        refine zs_iald 4 dX6_workTick_106 rfl (vp_in_nI (by omega) (by omega)) ?_
        refine zs_as (y := nI (min (Y 7) (s.1 7))) (by rw [nI_c (n := i) (by omega)]; exact congrArg nI (if_pos rfl)) ?_
        refine zs_iadd dX6_workTick_107 ?_
        refine zs_as (y := nI ((s.1 9) + (min (Y 7) (s.1 7)))) (nI_add _ _) ?_
        refine zs_put 0 dX6_workTick_108 zf_RX6_62 rfl (Nat.le_of_ble_eq_true rfl) (zPv_i _) ?_
        show zS _ _ _ _ _ _ [(ro, .inr (5, fRun ar (nF (un (un (un s.1 6 1) 7 ((s.1 7) - (min (Y 7) (s.1 7)))) 9 ((s.1 9) + (min (Y 7) (s.1 7))))) (.ref y))), (ar 1, .inl (0, 12, .inl (nF (s.2 1)))), (ar 2, .inl (0, 12, .inl (nF (s.2 2)))), (ar 3, .inl (0, 12, .inl (nF (s.2 3)))), (ar 4, .inl (0, 12, .inl (nF (un (s.2 4) i (min (Y 7) (s.1 7)))))), (y, .inr (9, fYard ay (ysN Y wi)))]
        refine zs_aload_n dX6_workTick_111 rfl rfl ?_
        refine zs_get 0 dX6_workTick_112 zf_RX6_15 rfl (v := .ref (ar 2)) rfl ?_
        refine zs_iload_n dX6_workTick_115 rfl ?_
        refine zs_iconst (v := nI 1) dX6_workTick_116 (by decide) ?_
        refine zs_iast 2 dX6_workTick_117 rfl (vp_in_nI (by omega) (by omega)) ?_
        rw [nI_c (n := i) (by omega), nF_u]
        show zS _ _ _ _ _ _ [(ro, .inr (5, fRun ar (nF (un (un (un s.1 6 1) 7 ((s.1 7) - (min (Y 7) (s.1 7)))) 9 ((s.1 9) + (min (Y 7) (s.1 7))))) (.ref y))), (ar 1, .inl (0, 12, .inl (nF (s.2 1)))), (ar 2, .inl (0, 12, .inl (nF (un (s.2 2) i 1)))), (ar 3, .inl (0, 12, .inl (nF (s.2 3)))), (ar 4, .inl (0, 12, .inl (nF (un (s.2 4) i (min (Y 7) (s.1 7)))))), (y, .inr (9, fYard ay (ysN Y wi)))]
        refine zs_aload_n dX6_workTick_118 rfl rfl ?_
        refine zs_get 0 dX6_workTick_119 zf_RX6_18 rfl (v := .ref (ar 3)) rfl ?_
        refine zs_iload_n dX6_workTick_122 rfl ?_
        refine zs_aload_n dX6_workTick_123 rfl rfl ?_
        refine zs_get 0 dX6_workTick_124 zf_RX6_24 rfl (v := .ref y) rfl ?_
        refine zs_get 5 dX6_workTick_127 zf_RX6_75 rfl (v := .int (nI (Y 8))) rfl ?_
        refine zs_iast 3 dX6_workTick_130 rfl (vp_in_nI (by omega) (by omega)) ?_
        rw [nI_c (n := i) (by omega), nF_u]
        show zS _ _ _ _ _ _ [(ro, .inr (5, fRun ar (nF (un (un (un s.1 6 1) 7 ((s.1 7) - (min (Y 7) (s.1 7)))) 9 ((s.1 9) + (min (Y 7) (s.1 7))))) (.ref y))), (ar 1, .inl (0, 12, .inl (nF (s.2 1)))), (ar 2, .inl (0, 12, .inl (nF (un (s.2 2) i 1)))), (ar 3, .inl (0, 12, .inl (nF (un (s.2 3) i (Y 8))))), (ar 4, .inl (0, 12, .inl (nF (un (s.2 4) i (min (Y 7) (s.1 7)))))), (y, .inr (9, fYard ay (ysN Y wi)))]
        refine zs_lv [0, 1] rfl ?_
        rw [rB, if_pos c_1, if_pos c_2, if_neg (show ¬ s.1 7 = 0 by omega)] at hk
        exact hk
set_option maxRecDepth 100000 in
theorem s_runTick (l : Launch) (dd : Nat) (ro y : Nat) (ar ay : Nat → Nat) (s : zRs) (Y : Nat → Nat) (wi : Int32) (i : Nat) (hd : 2 ≤ dd) (hi : i < 12) (hI : rI s) (hY7 : Y 7 ≤ 20) (hY8 : Y 8 ≤ 30) : zSp l mX6_workTick dd 0 0 [.ref ro, .int (nI i)] (kRun ro ar (.ref y) s ++ [(y, .inr (9, fYard ay (ysN Y wi)))]) (fun r K' => r = none ∧ K' = kRun ro ar (.ref y) (rTk (Y 7) (Y 8) s i) ++ [(y, .inr (9, fYard ay (ysN Y wi)))]) := by
  refine zSp.of (by decide) (Nat.le_of_ble_eq_true rfl) (fun h0 => ?_)
  show zS _ 0 0 0 [(0, .ref ro), (1, .int (nI i))] [] _
  refine tr_0 ro y ar ay s Y wi i hd hi hI ?_
  refine tr_33 ro y ar ay (rA s i) Y wi i hd hi (rI_a hI hi) hY7 hY8 ?_
  exact zs_vret dX6_workTick_131 rfl ⟨rfl, rfl⟩
theorem dX6_work_0 : decode cX6_work 0 = .ok (.iconst 0, 1) := by decide +kernel
theorem dX6_work_1 : decode cX6_work 1 = .ok (.istore_n 2, 1) := by decide +kernel
theorem dX6_work_2 : decode cX6_work 2 = .ok (.iload_n 2, 1) := by decide +kernel
theorem dX6_work_3 : decode cX6_work 3 = .ok (.iload_n 1, 1) := by decide +kernel
theorem dX6_work_4 : decode cX6_work 4 = .ok (.if_icmp .ge 30, 3) := by decide +kernel
theorem dX6_work_7 : decode cX6_work 7 = .ok (.iconst 0, 1) := by decide +kernel
theorem dX6_work_8 : decode cX6_work 8 = .ok (.istore_n 3, 1) := by decide +kernel
theorem dX6_work_9 : decode cX6_work 9 = .ok (.iload_n 3, 1) := by decide +kernel
theorem dX6_work_10 : decode cX6_work 10 = .ok (.aload_n 0, 1) := by decide +kernel
theorem dX6_work_11 : decode cX6_work 11 = .ok (.getfield 40, 3) := by decide +kernel
theorem dX6_work_14 : decode cX6_work 14 = .ok (.if_icmp .ge 14, 3) := by decide +kernel
theorem dX6_work_17 : decode cX6_work 17 = .ok (.aload_n 0, 1) := by decide +kernel
theorem dX6_work_18 : decode cX6_work 18 = .ok (.iload_n 3, 1) := by decide +kernel
theorem dX6_work_19 : decode cX6_work 19 = .ok (.invokevirtual 65, 3) := by decide +kernel
theorem dX6_work_22 : decode cX6_work 22 = .ok (.iinc 3 1, 3) := by decide +kernel
theorem dX6_work_25 : decode cX6_work 25 = .ok (.goto (-16), 3) := by decide +kernel
theorem dX6_work_28 : decode cX6_work 28 = .ok (.iinc 2 1, 3) := by decide +kernel
theorem dX6_work_31 : decode cX6_work 31 = .ok (.goto (-29), 3) := by decide +kernel
theorem dX6_work_34 : decode cX6_work 34 = .ok (.return_, 1) := by decide +kernel
set_option maxRecDepth 100000 in
theorem lp_run1 {l : Launch} {dd : Nat} {Po : zPo} {K0 : zK} {h0 : List va_E} {Xo : zK → Prop} {Gc : zG → Prop} (ro y : Nat) (ar ay : Nat → Nat) (s : zRs) (Y : Nat → Nat) (wi : Int32) (n t : Nat) (hd : 3 ≤ dd) (hI : rI s) (hY7 : Y 7 ≤ 20) (hY8 : Y 8 ≤ 30)
    (hk : zS (l, mX6_work, dd, Po, K0, h0, Xo, Gc) 0 0 28 [(0, .ref ro), (1, .int (nI n)), (2, .int (nI t)), (3, .int (nI (s.1 1)))] [] [(ro, .inr (5, fRun ar (nF (rPl (Y 7) (Y 8) s (s.1 1)).1) (.ref y))), (ar 1, .inl (0, 12, .inl (nF ((rPl (Y 7) (Y 8) s (s.1 1)).2 1)))), (ar 2, .inl (0, 12, .inl (nF ((rPl (Y 7) (Y 8) s (s.1 1)).2 2)))), (ar 3, .inl (0, 12, .inl (nF ((rPl (Y 7) (Y 8) s (s.1 1)).2 3)))), (ar 4, .inl (0, 12, .inl (nF ((rPl (Y 7) (Y 8) s (s.1 1)).2 4)))), (y, .inr (9, fYard ay (ysN Y wi)))]) :
    ∀ (m i : Nat) , i + m = s.1 1 → zS (l, mX6_work, dd, Po, K0, h0, Xo, Gc) 0 0 9 [(0, .ref ro), (1, .int (nI n)), (2, .int (nI t)), (3, .int (nI i))] [] [(ro, .inr (5, fRun ar (nF (rPl (Y 7) (Y 8) s i).1) (.ref y))), (ar 1, .inl (0, 12, .inl (nF ((rPl (Y 7) (Y 8) s i).2 1)))), (ar 2, .inl (0, 12, .inl (nF ((rPl (Y 7) (Y 8) s i).2 2)))), (ar 3, .inl (0, 12, .inl (nF ((rPl (Y 7) (Y 8) s i).2 3)))), (ar 4, .inl (0, 12, .inl (nF ((rPl (Y 7) (Y 8) s i).2 4)))), (y, .inr (9, fYard ay (ysN Y wi)))] := by
  intro m
  induction m with
  | zero =>
    intro i hi
    have h12 := hI.1
    have hin : i = s.1 1 := by omega
    refine zs_iload_n dX6_work_9 rfl ?_
    refine zs_aload_n dX6_work_10 rfl rfl ?_
    refine zs_get 0 dX6_work_11 zf_RX6_40 rfl (v := .int (nI ((rPl (Y 7) (Y 8) s i).1 1))) rfl ?_
    refine zs_icmp_ge (tgt := 28) dX6_work_14 (by decide) (fun c_1 => ?_) (fun c_1 => (c_1 (by show nI ((rPl (Y 7) (Y 8) s i).1 1) ≤ _; rw [rPl_m, hin]; exact Int32.le_refl _) : False).elim)
    rw [hin]
    exact hk
  | succ m ih =>
    intro i hi
    have h12 := hI.1
    have hin : i < s.1 1 := by omega
    refine zs_iload_n dX6_work_9 rfl ?_
    refine zs_aload_n dX6_work_10 rfl rfl ?_
    refine zs_get 0 dX6_work_11 zf_RX6_40 rfl (v := .int (nI ((rPl (Y 7) (Y 8) s i).1 1))) rfl ?_
    refine zs_icmp_ge (tgt := 28) dX6_work_14 (by decide) (fun c_1 => (nI_ge hin (by omega) (rPl_m (Y 7) (Y 8) s i ▸ c_1) : False).elim) (fun c_1 => ?_)
    refine zs_aload_n dX6_work_17 rfl rfl ?_
    refine zs_iload_n dX6_work_18 rfl ?_
    refine zs_callV (M := mX6_workTick) (As := [.int (nI i)]) (st := []) (Kc := [(ro, .inr (5, fRun ar (nF (rPl (Y 7) (Y 8) s i).1) (.ref y))), (ar 1, .inl (0, 12, .inl (nF ((rPl (Y 7) (Y 8) s i).2 1)))), (ar 2, .inl (0, 12, .inl (nF ((rPl (Y 7) (Y 8) s i).2 2)))), (ar 3, .inl (0, 12, .inl (nF ((rPl (Y 7) (Y 8) s i).2 3)))), (ar 4, .inl (0, 12, .inl (nF ((rPl (Y 7) (Y 8) s i).2 4)))), (y, .inr (9, fYard ay (ysN Y wi)))]) (Kr := []) [0, 1, 2, 3, 4, 5] [] 0 dX6_work_19 zl_RX6_65 kX6_workTick rfl rfl rfl rfl rfl (by decide) rfl rfl (show dd - 1 + 1 ≤ dd by omega) (Nat.zero_le _) (Nat.zero_le _) (Nat.le_of_ble_eq_true rfl) (s_runTick l (dd - 1) ro y ar ay (rPl (Y 7) (Y 8) s i) Y wi i (by omega) (by omega) (rI_pl hI hY7 (by omega) i (by omega)) hY7 hY8) (fun r K1 hr => ?_)
    obtain ⟨rfl, rfl⟩ := hr
    refine zs_K (K' := [(ro, .inr (5, fRun ar (nF (rPl (Y 7) (Y 8) s (i + 1)).1) (.ref y))), (ar 1, .inl (0, 12, .inl (nF ((rPl (Y 7) (Y 8) s (i + 1)).2 1)))), (ar 2, .inl (0, 12, .inl (nF ((rPl (Y 7) (Y 8) s (i + 1)).2 2)))), (ar 3, .inl (0, 12, .inl (nF ((rPl (Y 7) (Y 8) s (i + 1)).2 3)))), (ar 4, .inl (0, 12, .inl (nF ((rPl (Y 7) (Y 8) s (i + 1)).2 4)))), (y, .inr (9, fYard ay (ysN Y wi)))]) [0, 1, 2, 3, 4, 5] rfl (by decide) ?_
    refine zs_iinc (v := (nI (i + 1))) (lv' := [(3, .int (nI (i + 1))), (0, .ref ro), (1, .int (nI n)), (2, .int (nI t))]) dX6_work_22 rfl (nI_add _ 1) (Nat.le_of_ble_eq_true rfl) rfl ?_
    refine zs_goto (tgt := 9) dX6_work_25 (by decide) ?_
    refine zs_lv [1, 2, 3, 0] rfl ?_
    exact ih (i + 1) (by omega)
set_option maxRecDepth 100000 in
theorem lp_run2 {l : Launch} {dd : Nat} {Po : zPo} {K0 : zK} {h0 : List va_E} {Xo : zK → Prop} {Gc : zG → Prop} (ro y : Nat) (ar ay : Nat → Nat) (s : zRs) (Y : Nat → Nat) (wi : Int32) (n : Nat) (hd : 3 ≤ dd) (hn : n ≤ 3600) (hI : rI s) (hY7 : Y 7 ≤ 20) (hY8 : Y 8 ≤ 30) (hk : zS (l, mX6_work, dd, Po, K0, h0, Xo, Gc) 0 0 34 [(0, .ref ro), (1, .int (nI n)), (2, .int (nI n))] [] [(ro, .inr (5, fRun ar (nF (rWork (Y 7) (Y 8) s n).1) (.ref y))), (ar 1, .inl (0, 12, .inl (nF ((rWork (Y 7) (Y 8) s n).2 1)))), (ar 2, .inl (0, 12, .inl (nF ((rWork (Y 7) (Y 8) s n).2 2)))), (ar 3, .inl (0, 12, .inl (nF ((rWork (Y 7) (Y 8) s n).2 3)))), (ar 4, .inl (0, 12, .inl (nF ((rWork (Y 7) (Y 8) s n).2 4)))), (y, .inr (9, fYard ay (ysN Y wi)))]) : ∀ (m i : Nat), i + m = n → zS (l, mX6_work, dd, Po, K0, h0, Xo, Gc) 0 0 2 [(0, .ref ro), (1, .int (nI n)), (2, .int (nI i))] [] [(ro, .inr (5, fRun ar (nF (rWork (Y 7) (Y 8) s i).1) (.ref y))), (ar 1, .inl (0, 12, .inl (nF ((rWork (Y 7) (Y 8) s i).2 1)))), (ar 2, .inl (0, 12, .inl (nF ((rWork (Y 7) (Y 8) s i).2 2)))), (ar 3, .inl (0, 12, .inl (nF ((rWork (Y 7) (Y 8) s i).2 3)))), (ar 4, .inl (0, 12, .inl (nF ((rWork (Y 7) (Y 8) s i).2 4)))), (y, .inr (9, fYard ay (ysN Y wi)))] := by
  intro m
  induction m with
  | zero =>
    intro i hi
    have hin : i = n := by omega
    subst hin
    refine zs_iload_n dX6_work_2 rfl ?_
    refine zs_iload_n dX6_work_3 rfl ?_
    refine zs_icmp_ge (tgt := 34) dX6_work_4 (by decide) (fun c_1 => ?_) (fun c_1 => (c_1 (Int32.le_refl _) : False).elim)
    exact hk
  | succ m ih =>
    intro i hi
    have hin : i < n := by omega
    refine zs_iload_n dX6_work_2 rfl ?_
    refine zs_iload_n dX6_work_3 rfl ?_
    refine zs_icmp_ge (tgt := 34) dX6_work_4 (by decide) (fun c_1 => (nI_ge hin (by omega) c_1 : False).elim) (fun c_1 => ?_)
    refine zs_iconst (v := nI 0) dX6_work_7 (by decide) ?_
    refine zs_istore_n (lv' := [(3, .int (nI 0)), (0, .ref ro), (1, .int (nI n)), (2, .int (nI i))]) dX6_work_8 (Nat.le_of_ble_eq_true rfl) rfl ?_
    refine zs_lv [1, 2, 3, 0] rfl ?_
    refine lp_run1 ro y ar ay (rWork (Y 7) (Y 8) s i) Y wi n i hd (rI_work hI hY7 (by omega) i) hY7 hY8 ?_ ((rWork (Y 7) (Y 8) s i).1 1) 0 (by omega)
    refine zs_iinc (v := (nI (i + 1))) (lv' := [(2, .int (nI (i + 1))), (0, .ref ro), (1, .int (nI n)), (3, .int (nI ((rWork (Y 7) (Y 8) s i).1 1)))]) dX6_work_28 rfl (nI_add _ 1) (Nat.le_of_ble_eq_true rfl) rfl ?_
    refine zs_goto (tgt := 2) dX6_work_31 (by decide) ?_
    refine zs_lv [1, 2, 0] rfl ?_
    exact ih (i + 1) (by omega)
set_option maxRecDepth 100000 in
theorem s_runWork (l : Launch) (dd : Nat) (ro y : Nat) (ar ay : Nat → Nat) (s : zRs) (Y : Nat → Nat) (wi : Int32) (n : Nat) (hd : 3 ≤ dd) (hn : n ≤ 3600) (hI : rI s) (hY7 : Y 7 ≤ 20) (hY8 : Y 8 ≤ 30) : zSp l mX6_work dd 0 0 [.ref ro, .int (nI n)] [(ro, .inr (5, fRun ar (nF s.1) (.ref y))), (ar 1, .inl (0, 12, .inl (nF (s.2 1)))), (ar 2, .inl (0, 12, .inl (nF (s.2 2)))), (ar 3, .inl (0, 12, .inl (nF (s.2 3)))), (ar 4, .inl (0, 12, .inl (nF (s.2 4)))), (y, .inr (9, fYard ay (ysN Y wi)))] (fun r K' => r = none ∧ K' = kRun ro ar (.ref y) (rWork (Y 7) (Y 8) s n) ++ [(y, .inr (9, fYard ay (ysN Y wi)))]) := by
  refine zSp.of (by decide) (Nat.le_of_ble_eq_true rfl) (fun h0 => ?_)
  show zS _ 0 0 0 [(0, .ref ro), (1, .int (nI n))] [] [(ro, .inr (5, fRun ar (nF s.1) (.ref y))), (ar 1, .inl (0, 12, .inl (nF (s.2 1)))), (ar 2, .inl (0, 12, .inl (nF (s.2 2)))), (ar 3, .inl (0, 12, .inl (nF (s.2 3)))), (ar 4, .inl (0, 12, .inl (nF (s.2 4)))), (y, .inr (9, fYard ay (ysN Y wi)))]
  refine zs_iconst (v := nI 0) dX6_work_0 (by decide) ?_
  refine zs_istore_n (lv' := [(2, .int (nI 0)), (0, .ref ro), (1, .int (nI n))]) dX6_work_1 (Nat.le_of_ble_eq_true rfl) rfl ?_
  refine zs_lv [1, 2, 0] rfl ?_
  refine lp_run2 ro y ar ay s Y wi n hd hn hI hY7 hY8 ?_ n 0 (by omega)
  exact zs_vret dX6_work_34 rfl ⟨rfl, rfl⟩
theorem dX6_init_0 : decode cX6_init 0 = .ok (.aload_n 0, 1) := by decide +kernel
theorem dX6_init_1 : decode cX6_init 1 = .ok (.invokespecial 3, 3) := by decide +kernel
theorem dX6_init_4 : decode cX6_init 4 = .ok (.aload_n 0, 1) := by decide +kernel
theorem dX6_init_5 : decode cX6_init 5 = .ok (.bipush 12, 2) := by decide +kernel
theorem dX6_init_7 : decode cX6_init 7 = .ok (.newarray .int, 2) := by decide +kernel
theorem dX6_init_9 : decode cX6_init 9 = .ok (.putfield 9, 3) := by decide +kernel
theorem dX6_init_12 : decode cX6_init 12 = .ok (.aload_n 0, 1) := by decide +kernel
theorem dX6_init_13 : decode cX6_init 13 = .ok (.bipush 12, 2) := by decide +kernel
theorem dX6_init_15 : decode cX6_init 15 = .ok (.newarray .int, 2) := by decide +kernel
theorem dX6_init_17 : decode cX6_init 17 = .ok (.putfield 15, 3) := by decide +kernel
theorem dX6_init_20 : decode cX6_init 20 = .ok (.aload_n 0, 1) := by decide +kernel
theorem dX6_init_21 : decode cX6_init 21 = .ok (.bipush 12, 2) := by decide +kernel
theorem dX6_init_23 : decode cX6_init 23 = .ok (.newarray .int, 2) := by decide +kernel
theorem dX6_init_25 : decode cX6_init 25 = .ok (.putfield 18, 3) := by decide +kernel
theorem dX6_init_28 : decode cX6_init 28 = .ok (.aload_n 0, 1) := by decide +kernel
theorem dX6_init_29 : decode cX6_init 29 = .ok (.bipush 12, 2) := by decide +kernel
theorem dX6_init_31 : decode cX6_init 31 = .ok (.newarray .int, 2) := by decide +kernel
theorem dX6_init_33 : decode cX6_init 33 = .ok (.putfield 21, 3) := by decide +kernel
theorem dX6_init_36 : decode cX6_init 36 = .ok (.return_, 1) := by decide +kernel
set_option maxRecDepth 100000 in
theorem s_RunInit (l : Launch) (dd : Nat) (t : Nat) (hd : 1 ≤ dd) : zSp l mX6_init dd 4 48 [.ref t] [(t, .inr (5, [.null, .int 0, .null, .null, .null, .null, .int 0, .int 0, .int 0, .int 0]))] (fun r K' => r = none ∧ ∃ ar, K' = kRun t ar .null (fun _ => 0, fun _ _ => 0)) := by
  refine zSp.of (by decide) (Nat.le_of_ble_eq_true rfl) (fun h0 => ?_)
  show zS _ 4 48 0 [(0, .ref t)] [] [(t, .inr (5, [.null, .int 0, .null, .null, .null, .null, .int 0, .int 0, .int 0, .int 0]))]
  refine zs_aload_n dX6_init_0 rfl rfl ?_
  refine zs_objInit dX6_init_1 zo_RX6 (show 1 ≤ dd by omega) (Nat.le_of_ble_eq_true rfl) ?_
  refine zs_aload_n dX6_init_4 rfl rfl ?_
  refine zs_bipush (v := 12) dX6_init_5 (by decide) ?_
  refine zs_newa_int (N := 12) dX6_init_7 (by decide) (by decide) (by decide) (by omega) (by omega) (fun q_1 => ?_)
  show zS _ _ _ _ _ _ [(t, .inr (5, [.null, .int 0, .null, .null, .null, .null, .int 0, .int 0, .int 0, .int 0])), (q_1, .inl (0, 12, .inl (fun _ => 0)))]
  refine zs_putF 0 dX6_init_9 zf_RX6_9 rfl (Nat.le_of_ble_eq_true rfl) (zPv_a rfl) rfl (fun C T N hh => by cases hh; rfl) ?_
  show zS _ _ _ _ _ _ [(t, .inr (5, [.null, .int 0, .ref q_1, .null, .null, .null, .int 0, .int 0, .int 0, .int 0])), (q_1, .inl (0, 12, .inl (fun _ => 0)))]
  refine zs_aload_n dX6_init_12 rfl rfl ?_
  refine zs_bipush (v := 12) dX6_init_13 (by decide) ?_
  refine zs_newa_int (N := 12) dX6_init_15 (by decide) (by decide) (by decide) (by omega) (by omega) (fun q_2 => ?_)
  show zS _ _ _ _ _ _ [(t, .inr (5, [.null, .int 0, .ref q_1, .null, .null, .null, .int 0, .int 0, .int 0, .int 0])), (q_1, .inl (0, 12, .inl (fun _ => 0))), (q_2, .inl (0, 12, .inl (fun _ => 0)))]
  refine zs_putF 0 dX6_init_17 zf_RX6_15 rfl (Nat.le_of_ble_eq_true rfl) (zPv_a rfl) rfl (fun C T N hh => by cases hh; rfl) ?_
  show zS _ _ _ _ _ _ [(t, .inr (5, [.null, .int 0, .ref q_1, .ref q_2, .null, .null, .int 0, .int 0, .int 0, .int 0])), (q_1, .inl (0, 12, .inl (fun _ => 0))), (q_2, .inl (0, 12, .inl (fun _ => 0)))]
  refine zs_aload_n dX6_init_20 rfl rfl ?_
  refine zs_bipush (v := 12) dX6_init_21 (by decide) ?_
  refine zs_newa_int (N := 12) dX6_init_23 (by decide) (by decide) (by decide) (by omega) (by omega) (fun q_3 => ?_)
  show zS _ _ _ _ _ _ [(t, .inr (5, [.null, .int 0, .ref q_1, .ref q_2, .null, .null, .int 0, .int 0, .int 0, .int 0])), (q_1, .inl (0, 12, .inl (fun _ => 0))), (q_2, .inl (0, 12, .inl (fun _ => 0))), (q_3, .inl (0, 12, .inl (fun _ => 0)))]
  refine zs_putF 0 dX6_init_25 zf_RX6_18 rfl (Nat.le_of_ble_eq_true rfl) (zPv_a rfl) rfl (fun C T N hh => by cases hh; rfl) ?_
  show zS _ _ _ _ _ _ [(t, .inr (5, [.null, .int 0, .ref q_1, .ref q_2, .ref q_3, .null, .int 0, .int 0, .int 0, .int 0])), (q_1, .inl (0, 12, .inl (fun _ => 0))), (q_2, .inl (0, 12, .inl (fun _ => 0))), (q_3, .inl (0, 12, .inl (fun _ => 0)))]
  refine zs_aload_n dX6_init_28 rfl rfl ?_
  refine zs_bipush (v := 12) dX6_init_29 (by decide) ?_
  refine zs_newa_int (N := 12) dX6_init_31 (by decide) (by decide) (by decide) (by omega) (by omega) (fun q_4 => ?_)
  show zS _ _ _ _ _ _ [(t, .inr (5, [.null, .int 0, .ref q_1, .ref q_2, .ref q_3, .null, .int 0, .int 0, .int 0, .int 0])), (q_1, .inl (0, 12, .inl (fun _ => 0))), (q_2, .inl (0, 12, .inl (fun _ => 0))), (q_3, .inl (0, 12, .inl (fun _ => 0))), (q_4, .inl (0, 12, .inl (fun _ => 0)))]
  refine zs_putF 0 dX6_init_33 zf_RX6_21 rfl (Nat.le_of_ble_eq_true rfl) (zPv_a rfl) rfl (fun C T N hh => by cases hh; rfl) ?_
  show zS _ _ _ _ _ _ [(t, .inr (5, [.null, .int 0, .ref q_1, .ref q_2, .ref q_3, .ref q_4, .int 0, .int 0, .int 0, .int 0])), (q_1, .inl (0, 12, .inl (fun _ => 0))), (q_2, .inl (0, 12, .inl (fun _ => 0))), (q_3, .inl (0, 12, .inl (fun _ => 0))), (q_4, .inl (0, 12, .inl (fun _ => 0)))]
  exact zs_vret dX6_init_36 rfl ⟨rfl, (fun j => [0, q_1, q_2, q_3, q_4].getD j 0), rfl⟩
def rBeg (Y pcc ff : Nat → Nat) (first n w : Nat) (s : zRs) : zRs :=
  (un (un (un (un (un s.1 1 (min n (Y 6))) 6 0) 7 w) 8 0) 9 0,
   uu (uu (uu (uu s.2 1 (nCl (fun i => nUp (Y 5) (pcc (ff (first + i)))) (s.2 1) (min n (Y 6)))) 2 (nCl (fun _ => 0) (s.2 2) (min n (Y 6)))) 3 (nCl (fun _ => 0) (s.2 3) (min n (Y 6)))) 4 (nCl (fun _ => 0) (s.2 4) (min n (Y 6))))
theorem dX6_begin_0 : decode cX6_begin 0 = .ok (.aload_n 0, 1) := by decide +kernel
theorem dX6_begin_1 : decode cX6_begin 1 = .ok (.aload_n 1, 1) := by decide +kernel
theorem dX6_begin_2 : decode cX6_begin 2 = .ok (.putfield 24, 3) := by decide +kernel
theorem dX6_begin_5 : decode cX6_begin 5 = .ok (.aload_n 0, 1) := by decide +kernel
theorem dX6_begin_6 : decode cX6_begin 6 = .ok (.iload 4, 2) := by decide +kernel
theorem dX6_begin_8 : decode cX6_begin 8 = .ok (.aload_n 1, 1) := by decide +kernel
theorem dX6_begin_9 : decode cX6_begin 9 = .ok (.getfield 28, 3) := by decide +kernel
theorem dX6_begin_12 : decode cX6_begin 12 = .ok (.invokestatic 34, 3) := by decide +kernel
theorem dX6_begin_15 : decode cX6_begin 15 = .ok (.bipush 12, 2) := by decide +kernel
theorem dX6_begin_17 : decode cX6_begin 17 = .ok (.invokestatic 34, 3) := by decide +kernel
theorem dX6_begin_20 : decode cX6_begin 20 = .ok (.putfield 40, 3) := by decide +kernel
theorem dX6_begin_23 : decode cX6_begin 23 = .ok (.iconst 0, 1) := by decide +kernel
theorem dX6_begin_24 : decode cX6_begin 24 = .ok (.istore 6, 2) := by decide +kernel
theorem dX6_begin_26 : decode cX6_begin 26 = .ok (.iload 6, 2) := by decide +kernel
theorem dX6_begin_28 : decode cX6_begin 28 = .ok (.aload_n 0, 1) := by decide +kernel
theorem dX6_begin_29 : decode cX6_begin 29 = .ok (.getfield 40, 3) := by decide +kernel
theorem dX6_begin_32 : decode cX6_begin 32 = .ok (.if_icmp .ge 58, 3) := by decide +kernel
theorem dX6_begin_35 : decode cX6_begin 35 = .ok (.aload_n 0, 1) := by decide +kernel
theorem dX6_begin_36 : decode cX6_begin 36 = .ok (.getfield 9, 3) := by decide +kernel
theorem dX6_begin_39 : decode cX6_begin 39 = .ok (.iload 6, 2) := by decide +kernel
theorem dX6_begin_41 : decode cX6_begin 41 = .ok (.aload_n 1, 1) := by decide +kernel
theorem dX6_begin_42 : decode cX6_begin 42 = .ok (.getfield 43, 3) := by decide +kernel
theorem dX6_begin_45 : decode cX6_begin 45 = .ok (.aload_n 1, 1) := by decide +kernel
theorem dX6_begin_46 : decode cX6_begin 46 = .ok (.getfield 46, 3) := by decide +kernel
theorem dX6_begin_49 : decode cX6_begin 49 = .ok (.aload_n 2, 1) := by decide +kernel
theorem dX6_begin_50 : decode cX6_begin 50 = .ok (.iload_n 3, 1) := by decide +kernel
theorem dX6_begin_51 : decode cX6_begin 51 = .ok (.iload 6, 2) := by decide +kernel
theorem dX6_begin_53 : decode cX6_begin 53 = .ok (.iadd, 1) := by decide +kernel
theorem dX6_begin_54 : decode cX6_begin 54 = .ok (.iaload, 1) := by decide +kernel
theorem dX6_begin_55 : decode cX6_begin 55 = .ok (.iaload, 1) := by decide +kernel
theorem dX6_begin_56 : decode cX6_begin 56 = .ok (.invokestatic 49, 3) := by decide +kernel
theorem dX6_begin_59 : decode cX6_begin 59 = .ok (.iastore, 1) := by decide +kernel
theorem dX6_begin_60 : decode cX6_begin 60 = .ok (.aload_n 0, 1) := by decide +kernel
theorem dX6_begin_61 : decode cX6_begin 61 = .ok (.getfield 15, 3) := by decide +kernel
theorem dX6_begin_64 : decode cX6_begin 64 = .ok (.iload 6, 2) := by decide +kernel
theorem dX6_begin_66 : decode cX6_begin 66 = .ok (.iconst 0, 1) := by decide +kernel
theorem dX6_begin_67 : decode cX6_begin 67 = .ok (.iastore, 1) := by decide +kernel
theorem dX6_begin_68 : decode cX6_begin 68 = .ok (.aload_n 0, 1) := by decide +kernel
theorem dX6_begin_69 : decode cX6_begin 69 = .ok (.getfield 18, 3) := by decide +kernel
theorem dX6_begin_72 : decode cX6_begin 72 = .ok (.iload 6, 2) := by decide +kernel
theorem dX6_begin_74 : decode cX6_begin 74 = .ok (.iconst 0, 1) := by decide +kernel
theorem dX6_begin_75 : decode cX6_begin 75 = .ok (.iastore, 1) := by decide +kernel
theorem dX6_begin_76 : decode cX6_begin 76 = .ok (.aload_n 0, 1) := by decide +kernel
theorem dX6_begin_77 : decode cX6_begin 77 = .ok (.getfield 21, 3) := by decide +kernel
theorem dX6_begin_80 : decode cX6_begin 80 = .ok (.iload 6, 2) := by decide +kernel
theorem dX6_begin_82 : decode cX6_begin 82 = .ok (.iconst 0, 1) := by decide +kernel
theorem dX6_begin_83 : decode cX6_begin 83 = .ok (.iastore, 1) := by decide +kernel
theorem dX6_begin_84 : decode cX6_begin 84 = .ok (.iinc 6 1, 3) := by decide +kernel
theorem dX6_begin_87 : decode cX6_begin 87 = .ok (.goto (-61), 3) := by decide +kernel
theorem dX6_begin_90 : decode cX6_begin 90 = .ok (.aload_n 0, 1) := by decide +kernel
theorem dX6_begin_91 : decode cX6_begin 91 = .ok (.iconst 0, 1) := by decide +kernel
theorem dX6_begin_92 : decode cX6_begin 92 = .ok (.putfield 52, 3) := by decide +kernel
theorem dX6_begin_95 : decode cX6_begin 95 = .ok (.aload_n 0, 1) := by decide +kernel
theorem dX6_begin_96 : decode cX6_begin 96 = .ok (.iload 5, 2) := by decide +kernel
theorem dX6_begin_98 : decode cX6_begin 98 = .ok (.putfield 56, 3) := by decide +kernel
theorem dX6_begin_101 : decode cX6_begin 101 = .ok (.aload_n 0, 1) := by decide +kernel
theorem dX6_begin_102 : decode cX6_begin 102 = .ok (.iconst 0, 1) := by decide +kernel
theorem dX6_begin_103 : decode cX6_begin 103 = .ok (.putfield 59, 3) := by decide +kernel
theorem dX6_begin_106 : decode cX6_begin 106 = .ok (.aload_n 0, 1) := by decide +kernel
theorem dX6_begin_107 : decode cX6_begin 107 = .ok (.iconst 0, 1) := by decide +kernel
theorem dX6_begin_108 : decode cX6_begin 108 = .ok (.putfield 62, 3) := by decide +kernel
theorem dX6_begin_111 : decode cX6_begin 111 = .ok (.return_, 1) := by decide +kernel
set_option maxRecDepth 100000 in
theorem lp_rbeg {l : Launch} {dd : Nat} {Po : zPo} {K0 : zK} {h0 : List va_E} {Xo : zK → Prop} {Gc : zG → Prop} (ro y f fn : Nat) (ar ay : Nat → Nat) (yv : Value) (s : zRs) (Y : Nat → Nat) (wi : Int32) (pcc ff : Nat → Nat) (first n wl : Nat) (hd : 1 ≤ dd) (hn : n ≤ 12) (hfn : first + n ≤ fn) (hfn2 : fn ≤ 1000) (hff : ∀ i, i < n → ff (first + i) < 12) (hY5 : Y 5 ≤ 99) (hY6 : Y 6 ≤ 30) (hpc : ∀ i, i < n → 1 ≤ pcc (ff (first + i)) ∧ pcc (ff (first + i)) ≤ 9)
    (hk : zS (l, mX6_begin, dd, Po, K0, h0, Xo, Gc) 0 0 90 [(0, .ref ro), (1, .ref y), (2, .ref f), (3, .int (nI first)), (4, .int (nI n)), (5, .int (nI wl)), (6, .int (nI (min n (Y 6))))] [] [(ro, .inr (5, fRun ar (nF (un s.1 1 (min n (Y 6)))) (.ref y))), (ar 1, .inl (0, 12, .inl (nF (nCl (fun i => nUp (Y 5) (pcc (ff (first + i)))) (s.2 1) (min n (Y 6)))))), (ar 2, .inl (0, 12, .inl (nF (nCl (fun _ => 0) (s.2 2) (min n (Y 6)))))), (ar 3, .inl (0, 12, .inl (nF (nCl (fun _ => 0) (s.2 3) (min n (Y 6)))))), (ar 4, .inl (0, 12, .inl (nF (nCl (fun _ => 0) (s.2 4) (min n (Y 6)))))), (y, .inr (9, fYard ay (ysN Y wi))), (ay 3, .inl (0, 12, .inl (nF pcc))), (f, .inl (0, fn, .inl (nF ff)))]) :
    ∀ (m i : Nat) , i + m = (min n (Y 6)) → zS (l, mX6_begin, dd, Po, K0, h0, Xo, Gc) 0 0 26 [(0, .ref ro), (1, .ref y), (2, .ref f), (3, .int (nI first)), (4, .int (nI n)), (5, .int (nI wl)), (6, .int (nI i))] [] [(ro, .inr (5, fRun ar (nF (un s.1 1 (min n (Y 6)))) (.ref y))), (ar 1, .inl (0, 12, .inl (nF (nCl (fun i => nUp (Y 5) (pcc (ff (first + i)))) (s.2 1) i)))), (ar 2, .inl (0, 12, .inl (nF (nCl (fun _ => 0) (s.2 2) i)))), (ar 3, .inl (0, 12, .inl (nF (nCl (fun _ => 0) (s.2 3) i)))), (ar 4, .inl (0, 12, .inl (nF (nCl (fun _ => 0) (s.2 4) i)))), (y, .inr (9, fYard ay (ysN Y wi))), (ay 3, .inl (0, 12, .inl (nF pcc))), (f, .inl (0, fn, .inl (nF ff)))] := by
  intro m
  induction m with
  | zero =>
    intro i hi
    have hin : i = (min n (Y 6)) := by omega
    have hm2 : min n (Y 6) ≤ n := Nat.min_le_left _ _
    subst hin
    refine zs_iload dX6_begin_26 rfl ?_
    refine zs_aload_n dX6_begin_28 rfl rfl ?_
    refine zs_get 0 dX6_begin_29 zf_RX6_40 rfl (v := .int (nI (min n (Y 6)))) rfl ?_
    refine zs_icmp_ge (tgt := 90) dX6_begin_32 (by decide) (fun c_1 => ?_) (fun c_1 => (c_1 (Int32.le_refl _) : False).elim)
    exact hk
  | succ m ih =>
    intro i hi
    have hin : i < (min n (Y 6)) := by omega
    have hm2 : min n (Y 6) ≤ n := Nat.min_le_left _ _
    have bf := hff i (by omega)
    have bp := hpc i (by omega)
    refine zs_iload dX6_begin_26 rfl ?_
    refine zs_aload_n dX6_begin_28 rfl rfl ?_
    refine zs_get 0 dX6_begin_29 zf_RX6_40 rfl (v := .int (nI (min n (Y 6)))) rfl ?_
    refine zs_icmp_ge (tgt := 90) dX6_begin_32 (by decide) (fun c_1 => (nI_ge hin (by omega) c_1 : False).elim) (fun c_1 => ?_)
    refine zs_aload_n dX6_begin_35 rfl rfl ?_
    refine zs_get 0 dX6_begin_36 zf_RX6_9 rfl (v := .ref (ar 1)) rfl ?_
    refine zs_iload dX6_begin_39 rfl ?_
    refine zs_aload_n dX6_begin_41 rfl rfl ?_
    refine zs_get 5 dX6_begin_42 zf_RX6_43 rfl (v := .int (nI (Y 5))) rfl ?_
    refine zs_aload_n dX6_begin_45 rfl rfl ?_
    refine zs_get 5 dX6_begin_46 zf_RX6_46 rfl (v := .ref (ay 3)) rfl ?_
    refine zs_aload_n dX6_begin_49 rfl rfl ?_
    refine zs_iload_n dX6_begin_50 rfl ?_
    refine zs_iload dX6_begin_51 rfl ?_
    refine zs_iadd dX6_begin_53 ?_
    refine zs_as (y := nI (first + i)) (nI_add _ _) ?_
    refine zs_iald 7 dX6_begin_54 rfl (vp_in_nI (by omega) (by omega)) ?_
    refine zs_as (y := nI (ff (first + i))) (by rw [nI_c (n := first + i) (by omega)]; rfl) ?_
    refine zs_iald 6 dX6_begin_55 rfl (vp_in_nI (by omega) (by omega)) ?_
    refine zs_as (y := nI (pcc (ff (first + i)))) (by rw [nI_c (n := ff (first + i)) (by omega)]; rfl) ?_
    refine zs_callSN (M := mX12_cutUp) (As := [.int (nI (Y 5)), .int (nI (pcc (ff (first + i))))]) (st := [.int (nI i), .ref (ar 1)]) (Kc := []) (Kr := [(ro, .inr (5, fRun ar (nF (un s.1 1 (min n (Y 6)))) (.ref y))), (ar 1, .inl (0, 12, .inl (nF (nCl (fun i => nUp (Y 5) (pcc (ff (first + i)))) (s.2 1) i)))), (ar 2, .inl (0, 12, .inl (nF (nCl (fun _ => 0) (s.2 2) i)))), (ar 3, .inl (0, 12, .inl (nF (nCl (fun _ => 0) (s.2 3) i)))), (ar 4, .inl (0, 12, .inl (nF (nCl (fun _ => 0) (s.2 4) i)))), (y, .inr (9, fYard ay (ysN Y wi))), (ay 3, .inl (0, 12, .inl (nF pcc))), (f, .inl (0, fn, .inl (nF ff)))]) [] [0, 1, 2, 3, 4, 5, 6, 7] dX6_begin_56 (by first | exact Or.inl ⟨rfl, rfl⟩ | exact Or.inr ⟨rfl, rfl⟩) rfl zcut kX12_cutUp rfl rfl rfl rfl rfl (by decide) (show dd - 1 + 1 ≤ dd by omega) (Nat.zero_le _) (Nat.zero_le _) (Nat.le_of_ble_eq_true rfl) (s_cutUp l (dd - 1) (nI (Y 5)) (nI (pcc (ff (first + i))))) (fun r K1 hr => ?_)
    obtain ⟨rfl, rfl⟩ := hr
    refine zs_K (K' := [(ro, .inr (5, fRun ar (nF (un s.1 1 (min n (Y 6)))) (.ref y))), (ar 1, .inl (0, 12, .inl (nF (nCl (fun i => nUp (Y 5) (pcc (ff (first + i)))) (s.2 1) i)))), (ar 2, .inl (0, 12, .inl (nF (nCl (fun _ => 0) (s.2 2) i)))), (ar 3, .inl (0, 12, .inl (nF (nCl (fun _ => 0) (s.2 3) i)))), (ar 4, .inl (0, 12, .inl (nF (nCl (fun _ => 0) (s.2 4) i)))), (y, .inr (9, fYard ay (ysN Y wi))), (ay 3, .inl (0, 12, .inl (nF pcc))), (f, .inl (0, fn, .inl (nF ff)))]) [0, 1, 2, 3, 4, 5, 6, 7] rfl (by decide) ?_
    refine zs_as (y := nI (nUp (Y 5) (pcc (ff (first + i))))) (pUp_n (by omega) (by omega) (by omega)) ?_
    refine zs_iast 1 dX6_begin_59 rfl (vp_in_nI (by omega) (by omega)) ?_
    rw [nI_c (n := i) (by omega), nF_u]
    rw [nCl_u (new := (fun i => nUp (Y 5) (pcc (ff (first + i))))) (old := s.2 1) (k := i) rfl]
    show zS _ _ _ _ _ _ [(ro, .inr (5, fRun ar (nF (un s.1 1 (min n (Y 6)))) (.ref y))), (ar 1, .inl (0, 12, .inl (nF (nCl (fun i => nUp (Y 5) (pcc (ff (first + i)))) (s.2 1) (i + 1))))), (ar 2, .inl (0, 12, .inl (nF (nCl (fun _ => 0) (s.2 2) i)))), (ar 3, .inl (0, 12, .inl (nF (nCl (fun _ => 0) (s.2 3) i)))), (ar 4, .inl (0, 12, .inl (nF (nCl (fun _ => 0) (s.2 4) i)))), (y, .inr (9, fYard ay (ysN Y wi))), (ay 3, .inl (0, 12, .inl (nF pcc))), (f, .inl (0, fn, .inl (nF ff)))]
    refine zs_aload_n dX6_begin_60 rfl rfl ?_
    refine zs_get 0 dX6_begin_61 zf_RX6_15 rfl (v := .ref (ar 2)) rfl ?_
    refine zs_iload dX6_begin_64 rfl ?_
    refine zs_iconst (v := nI 0) dX6_begin_66 (by decide) ?_
    refine zs_iast 2 dX6_begin_67 rfl (vp_in_nI (by omega) (by omega)) ?_
    rw [nI_c (n := i) (by omega), nF_u]
    rw [nCl_u (new := (fun _ => 0)) (old := s.2 2) (k := i) rfl]
    show zS _ _ _ _ _ _ [(ro, .inr (5, fRun ar (nF (un s.1 1 (min n (Y 6)))) (.ref y))), (ar 1, .inl (0, 12, .inl (nF (nCl (fun i => nUp (Y 5) (pcc (ff (first + i)))) (s.2 1) (i + 1))))), (ar 2, .inl (0, 12, .inl (nF (nCl (fun _ => 0) (s.2 2) (i + 1))))), (ar 3, .inl (0, 12, .inl (nF (nCl (fun _ => 0) (s.2 3) i)))), (ar 4, .inl (0, 12, .inl (nF (nCl (fun _ => 0) (s.2 4) i)))), (y, .inr (9, fYard ay (ysN Y wi))), (ay 3, .inl (0, 12, .inl (nF pcc))), (f, .inl (0, fn, .inl (nF ff)))]
    refine zs_aload_n dX6_begin_68 rfl rfl ?_
    refine zs_get 0 dX6_begin_69 zf_RX6_18 rfl (v := .ref (ar 3)) rfl ?_
    refine zs_iload dX6_begin_72 rfl ?_
    refine zs_iconst (v := nI 0) dX6_begin_74 (by decide) ?_
    refine zs_iast 3 dX6_begin_75 rfl (vp_in_nI (by omega) (by omega)) ?_
    rw [nI_c (n := i) (by omega), nF_u]
    rw [nCl_u (new := (fun _ => 0)) (old := s.2 3) (k := i) rfl]
    show zS _ _ _ _ _ _ [(ro, .inr (5, fRun ar (nF (un s.1 1 (min n (Y 6)))) (.ref y))), (ar 1, .inl (0, 12, .inl (nF (nCl (fun i => nUp (Y 5) (pcc (ff (first + i)))) (s.2 1) (i + 1))))), (ar 2, .inl (0, 12, .inl (nF (nCl (fun _ => 0) (s.2 2) (i + 1))))), (ar 3, .inl (0, 12, .inl (nF (nCl (fun _ => 0) (s.2 3) (i + 1))))), (ar 4, .inl (0, 12, .inl (nF (nCl (fun _ => 0) (s.2 4) i)))), (y, .inr (9, fYard ay (ysN Y wi))), (ay 3, .inl (0, 12, .inl (nF pcc))), (f, .inl (0, fn, .inl (nF ff)))]
    refine zs_aload_n dX6_begin_76 rfl rfl ?_
    refine zs_get 0 dX6_begin_77 zf_RX6_21 rfl (v := .ref (ar 4)) rfl ?_
    refine zs_iload dX6_begin_80 rfl ?_
    refine zs_iconst (v := nI 0) dX6_begin_82 (by decide) ?_
    refine zs_iast 4 dX6_begin_83 rfl (vp_in_nI (by omega) (by omega)) ?_
    rw [nI_c (n := i) (by omega), nF_u]
    rw [nCl_u (new := (fun _ => 0)) (old := s.2 4) (k := i) rfl]
    show zS _ _ _ _ _ _ [(ro, .inr (5, fRun ar (nF (un s.1 1 (min n (Y 6)))) (.ref y))), (ar 1, .inl (0, 12, .inl (nF (nCl (fun i => nUp (Y 5) (pcc (ff (first + i)))) (s.2 1) (i + 1))))), (ar 2, .inl (0, 12, .inl (nF (nCl (fun _ => 0) (s.2 2) (i + 1))))), (ar 3, .inl (0, 12, .inl (nF (nCl (fun _ => 0) (s.2 3) (i + 1))))), (ar 4, .inl (0, 12, .inl (nF (nCl (fun _ => 0) (s.2 4) (i + 1))))), (y, .inr (9, fYard ay (ysN Y wi))), (ay 3, .inl (0, 12, .inl (nF pcc))), (f, .inl (0, fn, .inl (nF ff)))]
    refine zs_iinc (v := (nI (i + 1))) (lv' := [(6, .int (nI (i + 1))), (0, .ref ro), (1, .ref y), (2, .ref f), (3, .int (nI first)), (4, .int (nI n)), (5, .int (nI wl))]) dX6_begin_84 rfl (nI_add _ 1) (Nat.le_of_ble_eq_true rfl) rfl ?_
    refine zs_goto (tgt := 26) dX6_begin_87 (by decide) ?_
    refine zs_lv [1, 2, 3, 4, 5, 6, 0] rfl ?_
    exact ih (i + 1) (by omega)
set_option maxRecDepth 100000 in
theorem s_runBegin (l : Launch) (dd : Nat) (ro y f fn : Nat) (ar ay : Nat → Nat) (yv : Value) (s : zRs) (Y : Nat → Nat) (wi : Int32) (pcc ff : Nat → Nat) (first n wl : Nat) (hd : 1 ≤ dd) (hn : n ≤ 12) (hfn : first + n ≤ fn) (hfn2 : fn ≤ 1000) (hff : ∀ i, i < n → ff (first + i) < 12) (hY5 : Y 5 ≤ 99) (hY6 : Y 6 ≤ 30) (hpc : ∀ i, i < n → 1 ≤ pcc (ff (first + i)) ∧ pcc (ff (first + i)) ≤ 9) : zSp l mX6_begin dd 0 0 [.ref ro, .ref y, .ref f, .int (nI first), .int (nI n), .int (nI wl)] [(ro, .inr (5, fRun ar (nF s.1) yv)), (ar 1, .inl (0, 12, .inl (nF (s.2 1)))), (ar 2, .inl (0, 12, .inl (nF (s.2 2)))), (ar 3, .inl (0, 12, .inl (nF (s.2 3)))), (ar 4, .inl (0, 12, .inl (nF (s.2 4)))), (y, .inr (9, fYard ay (ysN Y wi))), (ay 3, .inl (0, 12, .inl (nF pcc))), (f, .inl (0, fn, .inl (nF ff)))] (fun r K' => r = none ∧ K' = kRun ro ar (.ref y) (rBeg Y pcc ff first n wl s) ++ [(y, .inr (9, fYard ay (ysN Y wi))), (ay 3, .inl (0, 12, .inl (nF pcc))), (f, .inl (0, fn, .inl (nF ff)))]) := by
  refine zSp.of (by decide) (Nat.le_of_ble_eq_true rfl) (fun h0 => ?_)
  show zS _ 0 0 0 [(0, .ref ro), (1, .ref y), (2, .ref f), (3, .int (nI first)), (4, .int (nI n)), (5, .int (nI wl))] [] [(ro, .inr (5, fRun ar (nF s.1) yv)), (ar 1, .inl (0, 12, .inl (nF (s.2 1)))), (ar 2, .inl (0, 12, .inl (nF (s.2 2)))), (ar 3, .inl (0, 12, .inl (nF (s.2 3)))), (ar 4, .inl (0, 12, .inl (nF (s.2 4)))), (y, .inr (9, fYard ay (ysN Y wi))), (ay 3, .inl (0, 12, .inl (nF pcc))), (f, .inl (0, fn, .inl (nF ff)))]
  refine zs_aload_n dX6_begin_0 rfl rfl ?_
  refine zs_aload_n dX6_begin_1 rfl rfl ?_
  refine zs_put 0 dX6_begin_2 zf_RX6_24 rfl (Nat.le_of_ble_eq_true rfl) (zPv_o rfl) ?_
  show zS _ _ _ _ _ _ [(ro, .inr (5, fRun ar (nF s.1) (.ref y))), (ar 1, .inl (0, 12, .inl (nF (s.2 1)))), (ar 2, .inl (0, 12, .inl (nF (s.2 2)))), (ar 3, .inl (0, 12, .inl (nF (s.2 3)))), (ar 4, .inl (0, 12, .inl (nF (s.2 4)))), (y, .inr (9, fYard ay (ysN Y wi))), (ay 3, .inl (0, 12, .inl (nF pcc))), (f, .inl (0, fn, .inl (nF ff)))]
  refine zs_aload_n dX6_begin_5 rfl rfl ?_
  refine zs_iload dX6_begin_6 rfl ?_
  refine zs_aload_n dX6_begin_8 rfl rfl ?_
  refine zs_get 5 dX6_begin_9 zf_RX6_28 rfl (v := .int (nI (Y 6))) rfl ?_
  refine zs_mmin dX6_begin_12 zl_RX6_34 zmmin1 zmath2 zmmin3 (show 1 ≤ dd by omega) (Nat.le_of_ble_eq_true rfl) ?_
  refine zs_as (y := nI (min n (Y 6))) (nI_min (by omega) (by omega)) ?_
  refine zs_bipush (v := nI 12) dX6_begin_15 (by decide) ?_
  refine zs_mmin dX6_begin_17 zl_RX6_34 zmmin1 zmath2 zmmin3 (show 1 ≤ dd by omega) (Nat.le_of_ble_eq_true rfl) ?_
  refine zs_as (y := nI (min n (Y 6))) (by have hm2 : min n (Y 6) ≤ n := Nat.min_le_left _ _; rw [nI_min (h := min n (Y 6)) (w := 12) (by omega) (by omega), Nat.min_eq_left (by omega)]) ?_
  refine zs_put 0 dX6_begin_20 zf_RX6_40 rfl (Nat.le_of_ble_eq_true rfl) (zPv_i _) ?_
  show zS _ _ _ _ _ _ [(ro, .inr (5, fRun ar (nF (un s.1 1 (min n (Y 6)))) (.ref y))), (ar 1, .inl (0, 12, .inl (nF (s.2 1)))), (ar 2, .inl (0, 12, .inl (nF (s.2 2)))), (ar 3, .inl (0, 12, .inl (nF (s.2 3)))), (ar 4, .inl (0, 12, .inl (nF (s.2 4)))), (y, .inr (9, fYard ay (ysN Y wi))), (ay 3, .inl (0, 12, .inl (nF pcc))), (f, .inl (0, fn, .inl (nF ff)))]
  refine zs_iconst (v := nI 0) dX6_begin_23 (by decide) ?_
  refine zs_istore (lv' := [(6, .int (nI 0)), (0, .ref ro), (1, .ref y), (2, .ref f), (3, .int (nI first)), (4, .int (nI n)), (5, .int (nI wl))]) dX6_begin_24 (Nat.le_of_ble_eq_true rfl) rfl ?_
  refine zs_lv [1, 2, 3, 4, 5, 6, 0] rfl ?_
  refine zs_eq (K' := [(ro, .inr (5, fRun ar (nF (un s.1 1 (min n (Y 6)))) (.ref y))), (ar 1, .inl (0, 12, .inl (nF (nCl (fun i => nUp (Y 5) (pcc (ff (first + i)))) (s.2 1) 0)))), (ar 2, .inl (0, 12, .inl (nF (nCl (fun _ => 0) (s.2 2) 0)))), (ar 3, .inl (0, 12, .inl (nF (nCl (fun _ => 0) (s.2 3) 0)))), (ar 4, .inl (0, 12, .inl (nF (nCl (fun _ => 0) (s.2 4) 0)))), (y, .inr (9, fYard ay (ysN Y wi))), (ay 3, .inl (0, 12, .inl (nF pcc))), (f, .inl (0, fn, .inl (nF ff)))]) (by simp only [nCl_0]) ?_
  refine lp_rbeg ro y f fn ar ay yv s Y wi pcc ff first n wl hd hn hfn hfn2 hff hY5 hY6 hpc ?_ (min n (Y 6)) 0 (by omega)
  refine zs_aload_n dX6_begin_90 rfl rfl ?_
  refine zs_iconst (v := nI 0) dX6_begin_91 (by decide) ?_
  refine zs_put 0 dX6_begin_92 zf_RX6_52 rfl (Nat.le_of_ble_eq_true rfl) (zPv_z (by first | exact Or.inl rfl | exact Or.inr rfl | assumption)) ?_
  show zS _ _ _ _ _ _ [(ro, .inr (5, fRun ar (nF (un (un s.1 1 (min n (Y 6))) 6 0)) (.ref y))), (ar 1, .inl (0, 12, .inl (nF (nCl (fun i => nUp (Y 5) (pcc (ff (first + i)))) (s.2 1) (min n (Y 6)))))), (ar 2, .inl (0, 12, .inl (nF (nCl (fun _ => 0) (s.2 2) (min n (Y 6)))))), (ar 3, .inl (0, 12, .inl (nF (nCl (fun _ => 0) (s.2 3) (min n (Y 6)))))), (ar 4, .inl (0, 12, .inl (nF (nCl (fun _ => 0) (s.2 4) (min n (Y 6)))))), (y, .inr (9, fYard ay (ysN Y wi))), (ay 3, .inl (0, 12, .inl (nF pcc))), (f, .inl (0, fn, .inl (nF ff)))]
  refine zs_aload_n dX6_begin_95 rfl rfl ?_
  refine zs_iload dX6_begin_96 rfl ?_
  refine zs_put 0 dX6_begin_98 zf_RX6_56 rfl (Nat.le_of_ble_eq_true rfl) (zPv_i _) ?_
  show zS _ _ _ _ _ _ [(ro, .inr (5, fRun ar (nF (un (un (un s.1 1 (min n (Y 6))) 6 0) 7 wl)) (.ref y))), (ar 1, .inl (0, 12, .inl (nF (nCl (fun i => nUp (Y 5) (pcc (ff (first + i)))) (s.2 1) (min n (Y 6)))))), (ar 2, .inl (0, 12, .inl (nF (nCl (fun _ => 0) (s.2 2) (min n (Y 6)))))), (ar 3, .inl (0, 12, .inl (nF (nCl (fun _ => 0) (s.2 3) (min n (Y 6)))))), (ar 4, .inl (0, 12, .inl (nF (nCl (fun _ => 0) (s.2 4) (min n (Y 6)))))), (y, .inr (9, fYard ay (ysN Y wi))), (ay 3, .inl (0, 12, .inl (nF pcc))), (f, .inl (0, fn, .inl (nF ff)))]
  refine zs_aload_n dX6_begin_101 rfl rfl ?_
  refine zs_iconst (v := nI 0) dX6_begin_102 (by decide) ?_
  refine zs_put 0 dX6_begin_103 zf_RX6_59 rfl (Nat.le_of_ble_eq_true rfl) (zPv_i _) ?_
  show zS _ _ _ _ _ _ [(ro, .inr (5, fRun ar (nF (un (un (un (un s.1 1 (min n (Y 6))) 6 0) 7 wl) 8 0)) (.ref y))), (ar 1, .inl (0, 12, .inl (nF (nCl (fun i => nUp (Y 5) (pcc (ff (first + i)))) (s.2 1) (min n (Y 6)))))), (ar 2, .inl (0, 12, .inl (nF (nCl (fun _ => 0) (s.2 2) (min n (Y 6)))))), (ar 3, .inl (0, 12, .inl (nF (nCl (fun _ => 0) (s.2 3) (min n (Y 6)))))), (ar 4, .inl (0, 12, .inl (nF (nCl (fun _ => 0) (s.2 4) (min n (Y 6)))))), (y, .inr (9, fYard ay (ysN Y wi))), (ay 3, .inl (0, 12, .inl (nF pcc))), (f, .inl (0, fn, .inl (nF ff)))]
  refine zs_aload_n dX6_begin_106 rfl rfl ?_
  refine zs_iconst (v := nI 0) dX6_begin_107 (by decide) ?_
  refine zs_put 0 dX6_begin_108 zf_RX6_62 rfl (Nat.le_of_ble_eq_true rfl) (zPv_i _) ?_
  show zS _ _ _ _ _ _ [(ro, .inr (5, fRun ar (nF (un (un (un (un (un s.1 1 (min n (Y 6))) 6 0) 7 wl) 8 0) 9 0)) (.ref y))), (ar 1, .inl (0, 12, .inl (nF (nCl (fun i => nUp (Y 5) (pcc (ff (first + i)))) (s.2 1) (min n (Y 6)))))), (ar 2, .inl (0, 12, .inl (nF (nCl (fun _ => 0) (s.2 2) (min n (Y 6)))))), (ar 3, .inl (0, 12, .inl (nF (nCl (fun _ => 0) (s.2 3) (min n (Y 6)))))), (ar 4, .inl (0, 12, .inl (nF (nCl (fun _ => 0) (s.2 4) (min n (Y 6)))))), (y, .inr (9, fYard ay (ysN Y wi))), (ay 3, .inl (0, 12, .inl (nF pcc))), (f, .inl (0, fn, .inl (nF ff)))]
  exact zs_vret dX6_begin_111 rfl ⟨rfl, rfl⟩
