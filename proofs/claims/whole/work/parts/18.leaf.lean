/-! ===== first methods ===== -/
theorem zs_top {B : zB} {kc ks pc : Nat} {lv : List (Nat × Value)} {st : List Value} {K : zK} {x : Int32} (k : ∀ y : Int32, y = x → zS B kc ks pc lv (.int y :: st) K) : zS B kc ks pc lv (.int x :: st) K := k x rfl
theorem zs_as {B : zB} {kc ks pc : Nat} {lv : List (Nat × Value)} {st : List Value} {K : zK} {x y : Int32} (h : x = y) (k : zS B kc ks pc lv (.int y :: st) K) : zS B kc ks pc lv (.int x :: st) K := h ▸ k
theorem dX12_cutUp_0 : decode cX12_cutUp 0 = .ok (.iload_n 1, 1) := by decide +kernel
theorem dX12_cutUp_1 : decode cX12_cutUp 1 = .ok (.ifCond .le 13, 3) := by decide +kernel
theorem dX12_cutUp_4 : decode cX12_cutUp 4 = .ok (.iload_n 0, 1) := by decide +kernel
theorem dX12_cutUp_5 : decode cX12_cutUp 5 = .ok (.iload_n 1, 1) := by decide +kernel
theorem dX12_cutUp_6 : decode cX12_cutUp 6 = .ok (.iadd, 1) := by decide +kernel
theorem dX12_cutUp_7 : decode cX12_cutUp 7 = .ok (.iconst 1, 1) := by decide +kernel
theorem dX12_cutUp_8 : decode cX12_cutUp 8 = .ok (.isub, 1) := by decide +kernel
theorem dX12_cutUp_9 : decode cX12_cutUp 9 = .ok (.iload_n 1, 1) := by decide +kernel
theorem dX12_cutUp_10 : decode cX12_cutUp 10 = .ok (.idiv, 1) := by decide +kernel
theorem dX12_cutUp_11 : decode cX12_cutUp 11 = .ok (.goto 4, 3) := by decide +kernel
theorem dX12_cutUp_14 : decode cX12_cutUp 14 = .ok (.iconst 0, 1) := by decide +kernel
theorem dX12_cutUp_15 : decode cX12_cutUp 15 = .ok (.ireturn, 1) := by decide +kernel
set_option maxRecDepth 100000 in
theorem s_X12_cutUp (l : Launch) (dd : Nat) (x y : Int32) : zSp l mX12_cutUp dd 0 0 [.int x, .int y] [] (fun r K' => r = some (.int (if 0 < y then (x + y - 1) / y else 0)) ∧ K' = []) := by
  refine zSp.of (by decide) (Nat.le_of_ble_eq_true rfl) (fun h0 => ?_)
  show zS _ 0 0 0 [(0, .int x), (1, .int y)] [] []
  refine zs_iload_n dX12_cutUp_0 rfl ?_
  refine zs_if_le (tgt := 14) dX12_cutUp_1 (by decide) (fun c_1 => ?_) (fun c_1 => ?_)
  · refine zs_iconst (v := 0) dX12_cutUp_14 (by decide) ?_
    exact zs_iret dX12_cutUp_15 rfl ⟨by simp_all, rfl⟩
  · refine zs_iload_n dX12_cutUp_4 rfl ?_
    refine zs_iload_n dX12_cutUp_5 rfl ?_
    refine zs_iadd dX12_cutUp_6 ?_
    refine zs_iconst (v := 1) dX12_cutUp_7 (by decide) ?_
    refine zs_isub dX12_cutUp_8 ?_
    refine zs_iload_n dX12_cutUp_9 rfl ?_
    refine zs_idiv dX12_cutUp_10 (fun hz => by simp_all) ?_
    refine zs_goto (tgt := 15) dX12_cutUp_11 (by decide) ?_
    exact zs_iret dX12_cutUp_15 rfl ⟨by simp_all, rfl⟩
