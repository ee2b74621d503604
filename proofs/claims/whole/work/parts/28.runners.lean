/-! ===== Fire: a column given up; Runners ===== -/
/-- column x taken away, in the first y rows -/
def gF (C x : Nat) (fu : Nat → Int32) : Nat → (Nat → Int32)
  | 0 => fu
  | y + 1 => upd (gF C x fu y) (y * C + x) 0
def gT (C x : Nat) (fu : Nat → Int32) : Nat → Int32
  | 0 => 0
  | y + 1 => gT C x fu y + gF C x fu y (y * C + x)
def gN (C x : Nat) (bu : Nat → Int32) (n : Int32) : Nat → Int32
  | 0 => n
  | y + 1 => if gF C x bu y (y * C + x) = 0 then gN C x bu n y else gN C x bu n y - 1
theorem upd_id {f : Nat → Int32} {k : Nat} {v : Int32} (h : f k = v) : upd f k v = f := by
  funext j
  unfold upd
  split
  · rename_i hj
    rw [hj, h]
  · rfl
theorem dX2_giveUp_0 : decode cX2_giveUp 0 = .ok (.iconst 0, 1) := by decide +kernel
theorem dX2_giveUp_1 : decode cX2_giveUp 1 = .ok (.istore_n 2, 1) := by decide +kernel
theorem dX2_giveUp_2 : decode cX2_giveUp 2 = .ok (.iload_n 1, 1) := by decide +kernel
theorem dX2_giveUp_3 : decode cX2_giveUp 3 = .ok (.ifCond .lt 11, 3) := by decide +kernel
theorem dX2_giveUp_6 : decode cX2_giveUp 6 = .ok (.iload_n 1, 1) := by decide +kernel
theorem dX2_giveUp_7 : decode cX2_giveUp 7 = .ok (.aload_n 0, 1) := by decide +kernel
theorem dX2_giveUp_8 : decode cX2_giveUp 8 = .ok (.getfield 37, 3) := by decide +kernel
theorem dX2_giveUp_11 : decode cX2_giveUp 11 = .ok (.if_icmp .lt 5, 3) := by decide +kernel
theorem dX2_giveUp_14 : decode cX2_giveUp 14 = .ok (.iload_n 2, 1) := by decide +kernel
theorem dX2_giveUp_15 : decode cX2_giveUp 15 = .ok (.ireturn, 1) := by decide +kernel
theorem dX2_giveUp_16 : decode cX2_giveUp 16 = .ok (.iconst 0, 1) := by decide +kernel
theorem dX2_giveUp_17 : decode cX2_giveUp 17 = .ok (.istore_n 3, 1) := by decide +kernel
theorem dX2_giveUp_18 : decode cX2_giveUp 18 = .ok (.iload_n 3, 1) := by decide +kernel
theorem dX2_giveUp_19 : decode cX2_giveUp 19 = .ok (.aload_n 0, 1) := by decide +kernel
theorem dX2_giveUp_20 : decode cX2_giveUp 20 = .ok (.getfield 41, 3) := by decide +kernel
theorem dX2_giveUp_23 : decode cX2_giveUp 23 = .ok (.if_icmp .ge 65, 3) := by decide +kernel
theorem dX2_giveUp_26 : decode cX2_giveUp 26 = .ok (.iload_n 3, 1) := by decide +kernel
theorem dX2_giveUp_27 : decode cX2_giveUp 27 = .ok (.aload_n 0, 1) := by decide +kernel
theorem dX2_giveUp_28 : decode cX2_giveUp 28 = .ok (.getfield 37, 3) := by decide +kernel
theorem dX2_giveUp_31 : decode cX2_giveUp 31 = .ok (.imul, 1) := by decide +kernel
theorem dX2_giveUp_32 : decode cX2_giveUp 32 = .ok (.iload_n 1, 1) := by decide +kernel
theorem dX2_giveUp_33 : decode cX2_giveUp 33 = .ok (.iadd, 1) := by decide +kernel
theorem dX2_giveUp_34 : decode cX2_giveUp 34 = .ok (.istore 4, 2) := by decide +kernel
theorem dX2_giveUp_36 : decode cX2_giveUp 36 = .ok (.iload_n 2, 1) := by decide +kernel
theorem dX2_giveUp_37 : decode cX2_giveUp 37 = .ok (.aload_n 0, 1) := by decide +kernel
theorem dX2_giveUp_38 : decode cX2_giveUp 38 = .ok (.getfield 9, 3) := by decide +kernel
theorem dX2_giveUp_41 : decode cX2_giveUp 41 = .ok (.iload 4, 2) := by decide +kernel
theorem dX2_giveUp_43 : decode cX2_giveUp 43 = .ok (.iaload, 1) := by decide +kernel
theorem dX2_giveUp_44 : decode cX2_giveUp 44 = .ok (.iadd, 1) := by decide +kernel
theorem dX2_giveUp_45 : decode cX2_giveUp 45 = .ok (.istore_n 2, 1) := by decide +kernel
theorem dX2_giveUp_46 : decode cX2_giveUp 46 = .ok (.aload_n 0, 1) := by decide +kernel
theorem dX2_giveUp_47 : decode cX2_giveUp 47 = .ok (.getfield 9, 3) := by decide +kernel
theorem dX2_giveUp_50 : decode cX2_giveUp 50 = .ok (.iload 4, 2) := by decide +kernel
theorem dX2_giveUp_52 : decode cX2_giveUp 52 = .ok (.iconst 0, 1) := by decide +kernel
theorem dX2_giveUp_53 : decode cX2_giveUp 53 = .ok (.iastore, 1) := by decide +kernel
theorem dX2_giveUp_54 : decode cX2_giveUp 54 = .ok (.aload_n 0, 1) := by decide +kernel
theorem dX2_giveUp_55 : decode cX2_giveUp 55 = .ok (.getfield 18, 3) := by decide +kernel
theorem dX2_giveUp_58 : decode cX2_giveUp 58 = .ok (.iload 4, 2) := by decide +kernel
theorem dX2_giveUp_60 : decode cX2_giveUp 60 = .ok (.baload, 1) := by decide +kernel
theorem dX2_giveUp_61 : decode cX2_giveUp 61 = .ok (.ifCond .eq 21, 3) := by decide +kernel
theorem dX2_giveUp_64 : decode cX2_giveUp 64 = .ok (.aload_n 0, 1) := by decide +kernel
theorem dX2_giveUp_65 : decode cX2_giveUp 65 = .ok (.getfield 18, 3) := by decide +kernel
theorem dX2_giveUp_68 : decode cX2_giveUp 68 = .ok (.iload 4, 2) := by decide +kernel
theorem dX2_giveUp_70 : decode cX2_giveUp 70 = .ok (.iconst 0, 1) := by decide +kernel
theorem dX2_giveUp_71 : decode cX2_giveUp 71 = .ok (.bastore, 1) := by decide +kernel
theorem dX2_giveUp_72 : decode cX2_giveUp 72 = .ok (.aload_n 0, 1) := by decide +kernel
theorem dX2_giveUp_73 : decode cX2_giveUp 73 = .ok (.dup, 1) := by decide +kernel
theorem dX2_giveUp_74 : decode cX2_giveUp 74 = .ok (.getfield 49, 3) := by decide +kernel
theorem dX2_giveUp_77 : decode cX2_giveUp 77 = .ok (.iconst 1, 1) := by decide +kernel
theorem dX2_giveUp_78 : decode cX2_giveUp 78 = .ok (.isub, 1) := by decide +kernel
theorem dX2_giveUp_79 : decode cX2_giveUp 79 = .ok (.putfield 49, 3) := by decide +kernel
theorem dX2_giveUp_82 : decode cX2_giveUp 82 = .ok (.iinc 3 1, 3) := by decide +kernel
theorem dX2_giveUp_85 : decode cX2_giveUp 85 = .ok (.goto (-67), 3) := by decide +kernel
theorem dX2_giveUp_88 : decode cX2_giveUp 88 = .ok (.iload_n 2, 1) := by decide +kernel
theorem dX2_giveUp_89 : decode cX2_giveUp 89 = .ok (.ireturn, 1) := by decide +kernel
set_option maxRecDepth 100000 in
theorem lp_give {l : Launch} {dd : Nat} {Po : zPo} {K0 : zK} {h0 : List va_E} {Xo : zK → Prop} {Gc : zG → Prop} (t : Nat) (ad : Nat → Nat) (C R x : Nat) (sc fu we bu he se : Nat → Int32) (hf : zFh C R sc) (hx : x < C)
    (hk : zS (l, mX2_giveUp, dd, Po, K0, h0, Xo, Gc) 0 0 88 [(0, .ref t), (1, .int (nI x)), (2, .int (gT C x fu R)), (3, .int (nI R))] [] [(t, .inr (1, fFire ad (upd sc 9 (gN C x bu (sc 9) R)))), (ad 1, .inl (0, 64, .inl (gF C x fu R))), (ad 2, .inl (0, 64, .inl we)), (ad 3, .inl (1, 64, .inl (gF C x bu R))), (ad 4, .inl (0, 64, .inl he)), (ad 5, .inl (0, 60, .inl se))]) :
    ∀ (m i : Nat) , i + m = R → zS (l, mX2_giveUp, dd, Po, K0, h0, Xo, Gc) 0 0 18 [(0, .ref t), (1, .int (nI x)), (2, .int (gT C x fu i)), (3, .int (nI i))] [] [(t, .inr (1, fFire ad (upd sc 9 (gN C x bu (sc 9) i)))), (ad 1, .inl (0, 64, .inl (gF C x fu i))), (ad 2, .inl (0, 64, .inl we)), (ad 3, .inl (1, 64, .inl (gF C x bu i))), (ad 4, .inl (0, 64, .inl he)), (ad 5, .inl (0, 60, .inl se))] := by
  intro m
  induction m with
  | zero =>
    intro i hi
    obtain ⟨hR, hCR, hs0, hs1, hs2⟩ := hf
    have hin : R = i := by omega
    subst hin
    refine zs_iload_n dX2_giveUp_18 rfl ?_
    refine zs_aload_n dX2_giveUp_19 rfl rfl ?_
    refine zs_get 0 dX2_giveUp_20 zf_RX2_41 rfl (v := .int (sc 1)) rfl ?_
    refine zs_icmp_ge (tgt := 88) dX2_giveUp_23 (by decide) (fun c_1 => ?_) (fun c_1 => (c_1 (by show sc 1 ≤ _; rw [hs1]; exact Int32.le_refl _) : False).elim)
    exact hk
  | succ m ih =>
    intro i hi
    obtain ⟨hR, hCR, hs0, hs1, hs2⟩ := hf
    have hin : i < R := by omega
    have hpl : i * C + x < C * R := by
      have := Nat.mul_le_mul_right C (show i + 1 ≤ R by omega)
      rw [Nat.add_mul, Nat.mul_comm R C] at this
      omega
    refine zs_iload_n dX2_giveUp_18 rfl ?_
    refine zs_aload_n dX2_giveUp_19 rfl rfl ?_
    refine zs_get 0 dX2_giveUp_20 zf_RX2_41 rfl (v := .int (sc 1)) rfl ?_
    refine zs_icmp_ge (tgt := 88) dX2_giveUp_23 (by decide) (fun c_1 => (nI_ge hin (by omega) (hs1 ▸ c_1) : False).elim) (fun c_1 => ?_)
    refine zs_iload_n dX2_giveUp_26 rfl ?_
    refine zs_aload_n dX2_giveUp_27 rfl rfl ?_
    refine zs_get 0 dX2_giveUp_28 zf_RX2_37 rfl (v := .int (sc 0)) rfl ?_
    refine zs_as (y := nI C) hs0 ?_
    refine zs_imul dX2_giveUp_31 ?_
    refine zs_as (y := nI (i * C)) (nI_mul _ _) ?_
    refine zs_iload_n dX2_giveUp_32 rfl ?_
    refine zs_iadd dX2_giveUp_33 ?_
    refine zs_as (y := nI ((i * C) + x)) (nI_add _ _) ?_
    refine zs_istore (lv' := [(4, .int (nI ((i * C) + x))), (0, .ref t), (1, .int (nI x)), (2, .int (gT C x fu i)), (3, .int (nI i))]) dX2_giveUp_34 (Nat.le_of_ble_eq_true rfl) rfl ?_
    refine zs_iload_n dX2_giveUp_36 rfl ?_
    refine zs_aload_n dX2_giveUp_37 rfl rfl ?_
    refine zs_get 0 dX2_giveUp_38 zf_RX2_9 rfl (v := .ref (ad 1)) rfl ?_
    refine zs_iload dX2_giveUp_41 rfl ?_
    refine zs_iald 1 dX2_giveUp_43 rfl (vp_in_nI (by omega) (by omega)) ?_
    refine zs_as (y := gF C x fu i (i * C + x)) (by rw [nI_c (n := i * C + x) (by omega)]) ?_
    refine zs_iadd dX2_giveUp_44 ?_
    refine zs_istore_n (lv' := [(2, .int ((gT C x fu i) + (gF C x fu i (i * C + x)))), (4, .int (nI ((i * C) + x))), (0, .ref t), (1, .int (nI x)), (3, .int (nI i))]) dX2_giveUp_45 (Nat.le_of_ble_eq_true rfl) rfl ?_
    refine zs_aload_n dX2_giveUp_46 rfl rfl ?_
    refine zs_get 0 dX2_giveUp_47 zf_RX2_9 rfl (v := .ref (ad 1)) rfl ?_
    refine zs_iload dX2_giveUp_50 rfl ?_
    refine zs_iconst (v := nI 0) dX2_giveUp_52 (by decide) ?_
    refine zs_iast 1 dX2_giveUp_53 rfl (vp_in_nI (by omega) (by omega)) ?_
    rw [nI_c (n := (i * C) + x) (by omega)]
    show zS _ _ _ _ _ _ [(t, .inr (1, fFire ad (upd sc 9 (gN C x bu (sc 9) i)))), (ad 1, .inl (0, 64, .inl (upd (gF C x fu i) ((i * C) + x) (nI 0)))), (ad 2, .inl (0, 64, .inl we)), (ad 3, .inl (1, 64, .inl (gF C x bu i))), (ad 4, .inl (0, 64, .inl he)), (ad 5, .inl (0, 60, .inl se))]
    refine zs_aload_n dX2_giveUp_54 rfl rfl ?_
    refine zs_get 0 dX2_giveUp_55 zf_RX2_18 rfl (v := .ref (ad 3)) rfl ?_
    refine zs_iload dX2_giveUp_58 rfl ?_
    refine zs_zald 3 dX2_giveUp_60 rfl (vp_in_nI (by omega) (by omega)) ?_
    refine zs_as (y := gF C x bu i (i * C + x)) (by rw [nI_c (n := i * C + x) (by omega)]) ?_
    refine zs_if_eq (tgt := 82) dX2_giveUp_61 (by decide) (fun c_2 => ?_) (fun c_2 => ?_)
    · refine zs_iinc (v := (nI (i + 1))) (lv' := [(3, .int (nI (i + 1))), (2, .int ((gT C x fu i) + (gF C x fu i (i * C + x)))), (4, .int (nI ((i * C) + x))), (0, .ref t), (1, .int (nI x))]) dX2_giveUp_82 rfl (nI_add _ 1) (Nat.le_of_ble_eq_true rfl) rfl ?_
      refine zs_goto (tgt := 18) dX2_giveUp_85 (by decide) ?_
      refine zs_lv [3, 4, 1, 0] rfl ?_
      have hr := ih (i + 1) (by omega)
      rw [show gF C x bu (i + 1) = gF C x bu i from upd_id c_2, show gN C x bu (sc 9) (i + 1) = gN C x bu (sc 9) i from if_pos c_2] at hr
      exact hr
    · refine zs_aload_n dX2_giveUp_64 rfl rfl ?_
      refine zs_get 0 dX2_giveUp_65 zf_RX2_18 rfl (v := .ref (ad 3)) rfl ?_
      refine zs_iload dX2_giveUp_68 rfl ?_
      refine zs_iconst (v := nI 0) dX2_giveUp_70 (by decide) ?_
      refine zs_zast 3 dX2_giveUp_71 rfl (vp_in_nI (by omega) (by omega)) (by first | exact Or.inl rfl | exact Or.inr rfl | assumption) ?_
      rw [nI_c (n := (i * C) + x) (by omega)]
      show zS _ _ _ _ _ _ [(t, .inr (1, fFire ad (upd sc 9 (gN C x bu (sc 9) i)))), (ad 1, .inl (0, 64, .inl (upd (gF C x fu i) ((i * C) + x) (nI 0)))), (ad 2, .inl (0, 64, .inl we)), (ad 3, .inl (1, 64, .inl (upd (gF C x bu i) ((i * C) + x) (nI 0)))), (ad 4, .inl (0, 64, .inl he)), (ad 5, .inl (0, 60, .inl se))]
      refine zs_aload_n dX2_giveUp_72 rfl rfl ?_
      refine zs_dup dX2_giveUp_73 rfl ?_
      refine zs_get 0 dX2_giveUp_74 zf_RX2_49 rfl (v := .int (gN C x bu (sc 9) i)) rfl ?_
      refine zs_iconst (v := nI 1) dX2_giveUp_77 (by decide) ?_
      refine zs_isub dX2_giveUp_78 ?_
      refine zs_put 0 dX2_giveUp_79 zf_RX2_49 rfl (Nat.le_of_ble_eq_true rfl) (zPv_i _) ?_
      show zS _ _ _ _ _ _ [(t, .inr (1, fFire ad (upd sc 9 ((gN C x bu (sc 9) i) - (nI 1))))), (ad 1, .inl (0, 64, .inl (upd (gF C x fu i) ((i * C) + x) (nI 0)))), (ad 2, .inl (0, 64, .inl we)), (ad 3, .inl (1, 64, .inl (upd (gF C x bu i) ((i * C) + x) (nI 0)))), (ad 4, .inl (0, 64, .inl he)), (ad 5, .inl (0, 60, .inl se))]
      refine zs_iinc (v := (nI (i + 1))) (lv' := [(3, .int (nI (i + 1))), (2, .int ((gT C x fu i) + (gF C x fu i (i * C + x)))), (4, .int (nI ((i * C) + x))), (0, .ref t), (1, .int (nI x))]) dX2_giveUp_82 rfl (nI_add _ 1) (Nat.le_of_ble_eq_true rfl) rfl ?_
      refine zs_goto (tgt := 18) dX2_giveUp_85 (by decide) ?_
      refine zs_lv [3, 4, 1, 0] rfl ?_
      have hr := ih (i + 1) (by omega)
      rw [show gN C x bu (sc 9) (i + 1) = gN C x bu (sc 9) i - 1 from if_neg c_2] at hr
      exact hr
set_option maxRecDepth 100000 in
theorem s_giveUp (l : Launch) (dd : Nat) (t : Nat) (ad : Nat → Nat) (C R x : Nat) (sc fu we bu he se : Nat → Int32) (hf : zFh C R sc) (hx : x < C) (hC : C ≤ 64) : zSp l mX2_giveUp dd 0 0 [.ref t, .int (nI x)] [(t, .inr (1, fFire ad sc)), (ad 1, .inl (0, 64, .inl fu)), (ad 2, .inl (0, 64, .inl we)), (ad 3, .inl (1, 64, .inl bu)), (ad 4, .inl (0, 64, .inl he)), (ad 5, .inl (0, 60, .inl se))] (fun r K' => r = some (.int (gT C x fu R)) ∧ K' = kFire t ad (upd sc 9 (gN C x bu (sc 9) R)) (gF C x fu R) we (gF C x bu R) he se) := by
  refine zSp.of (by decide) (Nat.le_of_ble_eq_true rfl) (fun h0 => ?_)
  show zS _ 0 0 0 [(0, .ref t), (1, .int (nI x))] [] [(t, .inr (1, fFire ad sc)), (ad 1, .inl (0, 64, .inl fu)), (ad 2, .inl (0, 64, .inl we)), (ad 3, .inl (1, 64, .inl bu)), (ad 4, .inl (0, 64, .inl he)), (ad 5, .inl (0, 60, .inl se))]
  refine zs_iconst (v := nI 0) dX2_giveUp_0 (by decide) ?_
  refine zs_istore_n (lv' := [(2, .int (nI 0)), (0, .ref t), (1, .int (nI x))]) dX2_giveUp_1 (Nat.le_of_ble_eq_true rfl) rfl ?_
  refine zs_iload_n dX2_giveUp_2 rfl ?_
  refine zs_if_lt (tgt := 14) dX2_giveUp_3 (by decide) (fun c_1 => (nI_pos (show x < 2147483648 by omega) c_1 : False).elim) (fun c_1 => ?_)
  refine zs_iload_n dX2_giveUp_6 rfl ?_
  refine zs_aload_n dX2_giveUp_7 rfl rfl ?_
  refine zs_get 0 dX2_giveUp_8 zf_RX2_37 rfl (v := .int (sc 0)) rfl ?_
  refine zs_icmp_lt (tgt := 16) dX2_giveUp_11 (by decide) (fun c_2 => ?_) (fun c_2 => (c_2 (by show nI x < sc 0; rw [hf.2.2.1]; exact nI_lt hx (by omega)) : False).elim)
  refine zs_iconst (v := nI 0) dX2_giveUp_16 (by decide) ?_
  refine zs_istore_n (lv' := [(3, .int (nI 0)), (2, .int (nI 0)), (0, .ref t), (1, .int (nI x))]) dX2_giveUp_17 (Nat.le_of_ble_eq_true rfl) rfl ?_
  refine zs_lv [2, 3, 1, 0] rfl ?_
  refine lp_give t ad C R x sc fu we bu he se hf hx ?_ R 0 (by omega)
  refine zs_iload_n dX2_giveUp_88 rfl ?_
  exact zs_iret dX2_giveUp_89 rfl ⟨rfl, rfl⟩
set_option maxRecDepth 100000 in
theorem s_giveNo (l : Launch) (dd : Nat) (t : Nat) (ad : Nat → Nat) (sc fu we bu he se : Nat → Int32)  : zSp l mX2_giveUp dd 0 0 [.ref t, .int (-1)] [(t, .inr (1, fFire ad sc)), (ad 1, .inl (0, 64, .inl fu)), (ad 2, .inl (0, 64, .inl we)), (ad 3, .inl (1, 64, .inl bu)), (ad 4, .inl (0, 64, .inl he)), (ad 5, .inl (0, 60, .inl se))] (fun r K' => r = some (.int 0) ∧ K' = kFire t ad sc fu we bu he se) := by
  refine zSp.of (by decide) (Nat.le_of_ble_eq_true rfl) (fun h0 => ?_)
  show zS _ 0 0 0 [(0, .ref t), (1, .int (-1))] [] [(t, .inr (1, fFire ad sc)), (ad 1, .inl (0, 64, .inl fu)), (ad 2, .inl (0, 64, .inl we)), (ad 3, .inl (1, 64, .inl bu)), (ad 4, .inl (0, 64, .inl he)), (ad 5, .inl (0, 60, .inl se))]
  refine zs_iconst (v := nI 0) dX2_giveUp_0 (by decide) ?_
  refine zs_istore_n (lv' := [(2, .int (nI 0)), (0, .ref t), (1, .int (-1))]) dX2_giveUp_1 (Nat.le_of_ble_eq_true rfl) rfl ?_
  refine zs_iload_n dX2_giveUp_2 rfl ?_
  refine zs_if_lt (tgt := 14) dX2_giveUp_3 (by decide) (fun c_1 => ?_) (fun c_1 => (c_1 (by decide) : False).elim)
  refine zs_iload_n dX2_giveUp_14 rfl ?_
  exact zs_iret dX2_giveUp_15 rfl ⟨rfl, rfl⟩
