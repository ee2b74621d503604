/-! ===== the reference: neighbours, heat ===== -/
theorem dX13_neighbour_0 : decode cX13_neighbour 0 = .ok (.iload_n 1, 1) := by decide +kernel
theorem dX13_neighbour_1 : decode cX13_neighbour 1 = .ok (.aload_n 0, 1) := by decide +kernel
theorem dX13_neighbour_2 : decode cX13_neighbour 2 = .ok (.invokevirtual 298, 3) := by decide +kernel
theorem dX13_neighbour_5 : decode cX13_neighbour 5 = .ok (.irem, 1) := by decide +kernel
theorem dX13_neighbour_6 : decode cX13_neighbour 6 = .ok (.iload_n 2, 1) := by decide +kernel
theorem dX13_neighbour_7 : decode cX13_neighbour 7 = .ok (.iconst 1, 1) := by decide +kernel
theorem dX13_neighbour_8 : decode cX13_neighbour 8 = .ok (.if_icmp .ne 7, 3) := by decide +kernel
theorem dX13_neighbour_11 : decode cX13_neighbour 11 = .ok (.iconst 1, 1) := by decide +kernel
theorem dX13_neighbour_12 : decode cX13_neighbour 12 = .ok (.goto 13, 3) := by decide +kernel
theorem dX13_neighbour_15 : decode cX13_neighbour 15 = .ok (.iload_n 2, 1) := by decide +kernel
theorem dX13_neighbour_16 : decode cX13_neighbour 16 = .ok (.iconst 3, 1) := by decide +kernel
theorem dX13_neighbour_17 : decode cX13_neighbour 17 = .ok (.if_icmp .ne 7, 3) := by decide +kernel
theorem dX13_neighbour_20 : decode cX13_neighbour 20 = .ok (.iconst (-1), 1) := by decide +kernel
theorem dX13_neighbour_21 : decode cX13_neighbour 21 = .ok (.goto 4, 3) := by decide +kernel
theorem dX13_neighbour_24 : decode cX13_neighbour 24 = .ok (.iconst 0, 1) := by decide +kernel
theorem dX13_neighbour_25 : decode cX13_neighbour 25 = .ok (.iadd, 1) := by decide +kernel
theorem dX13_neighbour_26 : decode cX13_neighbour 26 = .ok (.istore_n 3, 1) := by decide +kernel
theorem dX13_neighbour_27 : decode cX13_neighbour 27 = .ok (.iload_n 1, 1) := by decide +kernel
theorem dX13_neighbour_28 : decode cX13_neighbour 28 = .ok (.aload_n 0, 1) := by decide +kernel
theorem dX13_neighbour_29 : decode cX13_neighbour 29 = .ok (.invokevirtual 298, 3) := by decide +kernel
theorem dX13_neighbour_32 : decode cX13_neighbour 32 = .ok (.idiv, 1) := by decide +kernel
theorem dX13_neighbour_33 : decode cX13_neighbour 33 = .ok (.iload_n 2, 1) := by decide +kernel
theorem dX13_neighbour_34 : decode cX13_neighbour 34 = .ok (.iconst 2, 1) := by decide +kernel
theorem dX13_neighbour_35 : decode cX13_neighbour 35 = .ok (.if_icmp .ne 7, 3) := by decide +kernel
theorem dX13_neighbour_38 : decode cX13_neighbour 38 = .ok (.iconst 1, 1) := by decide +kernel
theorem dX13_neighbour_39 : decode cX13_neighbour 39 = .ok (.goto 12, 3) := by decide +kernel
theorem dX13_neighbour_42 : decode cX13_neighbour 42 = .ok (.iload_n 2, 1) := by decide +kernel
theorem dX13_neighbour_43 : decode cX13_neighbour 43 = .ok (.ifCond .ne 7, 3) := by decide +kernel
theorem dX13_neighbour_46 : decode cX13_neighbour 46 = .ok (.iconst (-1), 1) := by decide +kernel
theorem dX13_neighbour_47 : decode cX13_neighbour 47 = .ok (.goto 4, 3) := by decide +kernel
theorem dX13_neighbour_50 : decode cX13_neighbour 50 = .ok (.iconst 0, 1) := by decide +kernel
theorem dX13_neighbour_51 : decode cX13_neighbour 51 = .ok (.iadd, 1) := by decide +kernel
theorem dX13_neighbour_52 : decode cX13_neighbour 52 = .ok (.istore 4, 2) := by decide +kernel
theorem dX13_neighbour_54 : decode cX13_neighbour 54 = .ok (.iload_n 3, 1) := by decide +kernel
theorem dX13_neighbour_55 : decode cX13_neighbour 55 = .ok (.ifCond .lt 28, 3) := by decide +kernel
theorem dX13_neighbour_58 : decode cX13_neighbour 58 = .ok (.iload_n 3, 1) := by decide +kernel
theorem dX13_neighbour_59 : decode cX13_neighbour 59 = .ok (.aload_n 0, 1) := by decide +kernel
theorem dX13_neighbour_60 : decode cX13_neighbour 60 = .ok (.invokevirtual 298, 3) := by decide +kernel
theorem dX13_neighbour_63 : decode cX13_neighbour 63 = .ok (.if_icmp .ge 20, 3) := by decide +kernel
theorem dX13_neighbour_66 : decode cX13_neighbour 66 = .ok (.iload 4, 2) := by decide +kernel
theorem dX13_neighbour_68 : decode cX13_neighbour 68 = .ok (.ifCond .lt 15, 3) := by decide +kernel
theorem dX13_neighbour_71 : decode cX13_neighbour 71 = .ok (.iload 4, 2) := by decide +kernel
theorem dX13_neighbour_73 : decode cX13_neighbour 73 = .ok (.aload_n 0, 1) := by decide +kernel
theorem dX13_neighbour_74 : decode cX13_neighbour 74 = .ok (.getfield 13, 3) := by decide +kernel
theorem dX13_neighbour_77 : decode cX13_neighbour 77 = .ok (.bipush 10, 2) := by decide +kernel
theorem dX13_neighbour_79 : decode cX13_neighbour 79 = .ok (.iaload, 1) := by decide +kernel
theorem dX13_neighbour_80 : decode cX13_neighbour 80 = .ok (.if_icmp .lt 7, 3) := by decide +kernel
theorem dX13_neighbour_83 : decode cX13_neighbour 83 = .ok (.iconst (-1), 1) := by decide +kernel
theorem dX13_neighbour_84 : decode cX13_neighbour 84 = .ok (.goto 12, 3) := by decide +kernel
theorem dX13_neighbour_87 : decode cX13_neighbour 87 = .ok (.aload_n 0, 1) := by decide +kernel
theorem dX13_neighbour_88 : decode cX13_neighbour 88 = .ok (.invokevirtual 298, 3) := by decide +kernel
theorem dX13_neighbour_91 : decode cX13_neighbour 91 = .ok (.iload 4, 2) := by decide +kernel
theorem dX13_neighbour_93 : decode cX13_neighbour 93 = .ok (.imul, 1) := by decide +kernel
theorem dX13_neighbour_94 : decode cX13_neighbour 94 = .ok (.iload_n 3, 1) := by decide +kernel
theorem dX13_neighbour_95 : decode cX13_neighbour 95 = .ok (.iadd, 1) := by decide +kernel
theorem dX13_neighbour_96 : decode cX13_neighbour 96 = .ok (.ireturn, 1) := by decide +kernel
theorem dX13_heatOf_0 : decode cX13_heatOf 0 = .ok (.aload_n 3, 1) := by decide +kernel
theorem dX13_heatOf_1 : decode cX13_heatOf 1 = .ok (.iload 4, 2) := by decide +kernel
theorem dX13_heatOf_3 : decode cX13_heatOf 3 = .ok (.iload_n 1, 1) := by decide +kernel
theorem dX13_heatOf_4 : decode cX13_heatOf 4 = .ok (.iadd, 1) := by decide +kernel
theorem dX13_heatOf_5 : decode cX13_heatOf 5 = .ok (.iaload, 1) := by decide +kernel
theorem dX13_heatOf_6 : decode cX13_heatOf 6 = .ok (.iconst 1, 1) := by decide +kernel
theorem dX13_heatOf_7 : decode cX13_heatOf 7 = .ok (.if_icmp .eq 12, 3) := by decide +kernel
theorem dX13_heatOf_10 : decode cX13_heatOf 10 = .ok (.aload_n 2, 1) := by decide +kernel
theorem dX13_heatOf_11 : decode cX13_heatOf 11 = .ok (.iload 4, 2) := by decide +kernel
theorem dX13_heatOf_13 : decode cX13_heatOf 13 = .ok (.iload_n 1, 1) := by decide +kernel
theorem dX13_heatOf_14 : decode cX13_heatOf 14 = .ok (.iadd, 1) := by decide +kernel
theorem dX13_heatOf_15 : decode cX13_heatOf 15 = .ok (.iaload, 1) := by decide +kernel
theorem dX13_heatOf_16 : decode cX13_heatOf 16 = .ok (.ifCond .ne 5, 3) := by decide +kernel
theorem dX13_heatOf_19 : decode cX13_heatOf 19 = .ok (.iconst 0, 1) := by decide +kernel
theorem dX13_heatOf_20 : decode cX13_heatOf 20 = .ok (.ireturn, 1) := by decide +kernel
theorem dX13_heatOf_21 : decode cX13_heatOf 21 = .ok (.iconst 0, 1) := by decide +kernel
theorem dX13_heatOf_22 : decode cX13_heatOf 22 = .ok (.istore 5, 2) := by decide +kernel
theorem dX13_heatOf_24 : decode cX13_heatOf 24 = .ok (.iconst 0, 1) := by decide +kernel
theorem dX13_heatOf_25 : decode cX13_heatOf 25 = .ok (.istore 6, 2) := by decide +kernel
theorem dX13_heatOf_27 : decode cX13_heatOf 27 = .ok (.iload 6, 2) := by decide +kernel
theorem dX13_heatOf_29 : decode cX13_heatOf 29 = .ok (.iconst 4, 1) := by decide +kernel
theorem dX13_heatOf_30 : decode cX13_heatOf 30 = .ok (.if_icmp .ge 106, 3) := by decide +kernel
theorem dX13_heatOf_33 : decode cX13_heatOf 33 = .ok (.aload_n 0, 1) := by decide +kernel
theorem dX13_heatOf_34 : decode cX13_heatOf 34 = .ok (.iload_n 1, 1) := by decide +kernel
theorem dX13_heatOf_35 : decode cX13_heatOf 35 = .ok (.iload 6, 2) := by decide +kernel
theorem dX13_heatOf_37 : decode cX13_heatOf 37 = .ok (.invokevirtual 429, 3) := by decide +kernel
theorem dX13_heatOf_40 : decode cX13_heatOf 40 = .ok (.istore 7, 2) := by decide +kernel
theorem dX13_heatOf_42 : decode cX13_heatOf 42 = .ok (.iload 7, 2) := by decide +kernel
theorem dX13_heatOf_44 : decode cX13_heatOf 44 = .ok (.iconst (-1), 1) := by decide +kernel
theorem dX13_heatOf_45 : decode cX13_heatOf 45 = .ok (.if_icmp .eq 85, 3) := by decide +kernel
theorem dX13_heatOf_48 : decode cX13_heatOf 48 = .ok (.aload_n 3, 1) := by decide +kernel
theorem dX13_heatOf_49 : decode cX13_heatOf 49 = .ok (.iload 4, 2) := by decide +kernel
theorem dX13_heatOf_51 : decode cX13_heatOf 51 = .ok (.iload 7, 2) := by decide +kernel
theorem dX13_heatOf_53 : decode cX13_heatOf 53 = .ok (.iadd, 1) := by decide +kernel
theorem dX13_heatOf_54 : decode cX13_heatOf 54 = .ok (.iaload, 1) := by decide +kernel
theorem dX13_heatOf_55 : decode cX13_heatOf 55 = .ok (.ifCond .ne 6, 3) := by decide +kernel
theorem dX13_heatOf_58 : decode cX13_heatOf 58 = .ok (.goto 72, 3) := by decide +kernel
theorem dX13_heatOf_61 : decode cX13_heatOf 61 = .ok (.aload_n 0, 1) := by decide +kernel
theorem dX13_heatOf_62 : decode cX13_heatOf 62 = .ok (.getfield 13, 3) := by decide +kernel
theorem dX13_heatOf_65 : decode cX13_heatOf 65 = .ok (.bipush 11, 2) := by decide +kernel
theorem dX13_heatOf_67 : decode cX13_heatOf 67 = .ok (.iaload, 1) := by decide +kernel
theorem dX13_heatOf_68 : decode cX13_heatOf 68 = .ok (.iconst (-1), 1) := by decide +kernel
theorem dX13_heatOf_69 : decode cX13_heatOf 69 = .ok (.if_icmp .ne 7, 3) := by decide +kernel
theorem dX13_heatOf_72 : decode cX13_heatOf 72 = .ok (.iconst 1, 1) := by decide +kernel
theorem dX13_heatOf_73 : decode cX13_heatOf 73 = .ok (.goto 40, 3) := by decide +kernel
theorem dX13_heatOf_76 : decode cX13_heatOf 76 = .ok (.aload_n 0, 1) := by decide +kernel
theorem dX13_heatOf_77 : decode cX13_heatOf 77 = .ok (.getfield 13, 3) := by decide +kernel
theorem dX13_heatOf_80 : decode cX13_heatOf 80 = .ok (.bipush 11, 2) := by decide +kernel
theorem dX13_heatOf_82 : decode cX13_heatOf 82 = .ok (.iaload, 1) := by decide +kernel
theorem dX13_heatOf_83 : decode cX13_heatOf 83 = .ok (.iload 6, 2) := by decide +kernel
theorem dX13_heatOf_85 : decode cX13_heatOf 85 = .ok (.iconst 2, 1) := by decide +kernel
theorem dX13_heatOf_86 : decode cX13_heatOf 86 = .ok (.iadd, 1) := by decide +kernel
theorem dX13_heatOf_87 : decode cX13_heatOf 87 = .ok (.iconst 4, 1) := by decide +kernel
theorem dX13_heatOf_88 : decode cX13_heatOf 88 = .ok (.irem, 1) := by decide +kernel
theorem dX13_heatOf_89 : decode cX13_heatOf 89 = .ok (.if_icmp .ne 7, 3) := by decide +kernel
theorem dX13_heatOf_92 : decode cX13_heatOf 92 = .ok (.iconst 2, 1) := by decide +kernel
theorem dX13_heatOf_93 : decode cX13_heatOf 93 = .ok (.goto 20, 3) := by decide +kernel
theorem dX13_heatOf_96 : decode cX13_heatOf 96 = .ok (.aload_n 0, 1) := by decide +kernel
theorem dX13_heatOf_97 : decode cX13_heatOf 97 = .ok (.getfield 13, 3) := by decide +kernel
theorem dX13_heatOf_100 : decode cX13_heatOf 100 = .ok (.bipush 11, 2) := by decide +kernel
theorem dX13_heatOf_102 : decode cX13_heatOf 102 = .ok (.iaload, 1) := by decide +kernel
theorem dX13_heatOf_103 : decode cX13_heatOf 103 = .ok (.iload 6, 2) := by decide +kernel
theorem dX13_heatOf_105 : decode cX13_heatOf 105 = .ok (.if_icmp .ne 7, 3) := by decide +kernel
theorem dX13_heatOf_108 : decode cX13_heatOf 108 = .ok (.iconst 0, 1) := by decide +kernel
theorem dX13_heatOf_109 : decode cX13_heatOf 109 = .ok (.goto 4, 3) := by decide +kernel
theorem dX13_heatOf_112 : decode cX13_heatOf 112 = .ok (.iconst 1, 1) := by decide +kernel
theorem dX13_heatOf_113 : decode cX13_heatOf 113 = .ok (.istore 8, 2) := by decide +kernel
theorem dX13_heatOf_115 : decode cX13_heatOf 115 = .ok (.iload 5, 2) := by decide +kernel
theorem dX13_heatOf_117 : decode cX13_heatOf 117 = .ok (.iload 8, 2) := by decide +kernel
theorem dX13_heatOf_119 : decode cX13_heatOf 119 = .ok (.aload_n 2, 1) := by decide +kernel
theorem dX13_heatOf_120 : decode cX13_heatOf 120 = .ok (.iload 4, 2) := by decide +kernel
theorem dX13_heatOf_122 : decode cX13_heatOf 122 = .ok (.iload 7, 2) := by decide +kernel
theorem dX13_heatOf_124 : decode cX13_heatOf 124 = .ok (.iadd, 1) := by decide +kernel
theorem dX13_heatOf_125 : decode cX13_heatOf 125 = .ok (.iaload, 1) := by decide +kernel
theorem dX13_heatOf_126 : decode cX13_heatOf 126 = .ok (.imul, 1) := by decide +kernel
theorem dX13_heatOf_127 : decode cX13_heatOf 127 = .ok (.iadd, 1) := by decide +kernel
theorem dX13_heatOf_128 : decode cX13_heatOf 128 = .ok (.istore 5, 2) := by decide +kernel
theorem dX13_heatOf_130 : decode cX13_heatOf 130 = .ok (.iinc 6 1, 3) := by decide +kernel
theorem dX13_heatOf_133 : decode cX13_heatOf 133 = .ok (.goto (-106), 3) := by decide +kernel
theorem dX13_heatOf_136 : decode cX13_heatOf 136 = .ok (.iload 5, 2) := by decide +kernel
theorem dX13_heatOf_138 : decode cX13_heatOf 138 = .ok (.ireturn, 1) := by decide +kernel
/-- a cell's neighbours: north, east, south, west -/
def nbP (C R y x d : Nat) : Bool := if d = 0 then decide (0 < y) else if d = 1 then decide (x + 1 < C) else if d = 2 then decide (y + 1 < R) else decide (0 < x)
def nbU (C y x d : Nat) : Nat := if d = 0 then (y - 1) * C + x else if d = 1 then y * C + (x + 1) else if d = 2 then (y + 1) * C + x else y * C + (x - 1)
def nbR (C R y x d : Nat) : Int32 := if nbP C R y x d = true then nI (nbU C y x d) else -1
theorem nb_y {C R y x d : Nat} {v : Int32} (h : nbP C R y x d = true) (e : v = nI (nbU C y x d)) : v = nbR C R y x d := e.trans (if_pos h).symm
theorem nb_n {C R y x d : Nat} (h : nbP C R y x d = false) : -1 = nbR C R y x d := (if_neg (by rw [h]; decide)).symm
theorem yx_m {C y x : Nat} (h : x < C) : (y * C + x) % C = x := by rw [Nat.mul_comm, Nat.mul_add_mod, Nat.mod_eq_of_lt h]
theorem yx_d {C y x : Nat} (h : x < C) : (y * C + x) / C = y := by rw [Nat.mul_comm, Nat.mul_add_div (by omega), Nat.div_eq_of_lt h, Nat.add_zero]
theorem yx_l {C R y x : Nat} (hx : x < C) (hy : y < R) : y * C + x < C * R := by
  have h1 := Nat.mul_le_mul_right C (show y + 1 ≤ R from hy)
  rw [Nat.succ_mul, Nat.mul_comm R C] at h1
  omega
theorem nI_mn {x : Nat} (h : 1 ≤ x) : nI x + -1 = nI (x - 1) := (Int32.sub_eq_add_neg (nI x) 1).symm.trans (nI_sub h)
set_option maxRecDepth 100000 in
theorem s_mNb0s (l : Launch) (dd : Nat) (mo : Nat) (e : Nat → Nat) (g : Nat → Int32) (w : Int64) (nw : Nat → Int32) (D : zYd) (y x : Nat) (hd : 1 ≤ dd) (hR : yR D nw) (hC : D.1 14 ≤ 8) (hRo : D.1 15 ≤ 8) (hx : x < D.1 14) (hy : y < D.1 15) (hq : 1 ≤ y) : zSp l mX13_neighbour dd 0 0 [.ref mo, .int (nI (y * D.1 14 + x)), .int (nI 0)] [(mo, .inr (11, fMo e g w)), ((e 14), .inl (0, 800, .inl nw))] (fun r K' => r = some (.int (nbR (D.1 14) (D.1 15) y x 0)) ∧ K' = [(mo, .inr (11, fMo e g w)), ((e 14), .inl (0, 800, .inl nw))]) := by
  refine zSp.of (by decide) (Nat.le_of_ble_eq_true rfl) (fun h0 => ?_)
  show zS _ 0 0 0 [(0, .ref mo), (1, .int (nI (y * D.1 14 + x))), (2, .int (nI 0))] [] [(mo, .inr (11, fMo e g w)), ((e 14), .inl (0, 800, .inl nw))]
  have hlt := yx_l hx hy
  have h64 : D.1 14 * D.1 15 ≤ 64 := Nat.mul_le_mul hC hRo
  refine zs_iload_n dX13_neighbour_0 rfl ?_
  refine zs_aload_n dX13_neighbour_1 rfl rfl ?_
  refine zs_callV (M := mX13_columns) (As := []) (st := [.int (nI (y * D.1 14 + x))]) (Kc := [(mo, .inr (11, fMo e g w)), ((e 14), .inl (0, 800, .inl nw))]) (Kr := []) [0, 1] [] 0 dX13_neighbour_2 zl_RX13_298 kX13_columns rfl rfl rfl rfl rfl (by decide) rfl rfl (show dd - 1 + 1 ≤ dd by omega) (Nat.zero_le _) (Nat.zero_le _) (Nat.le_of_ble_eq_true rfl) (s_mCols l (dd - 1) mo e g w nw D hR) (fun r K1 hr => ?_)
  obtain ⟨rfl, rfl⟩ := hr
  refine zs_K (K' := [(mo, .inr (11, fMo e g w)), ((e 14), .inl (0, 800, .inl nw))]) [0, 1] rfl (by decide) ?_
  refine zs_irem dX13_neighbour_5 (fun hz => by rw [show (0 : Int32) = nI 0 from rfl, nI_eq' (by omega) (by omega)] at hz; omega) ?_
  refine zs_as (y := nI x) ((nI_rem (by omega) (by omega) (by omega)).trans (congrArg nI (yx_m hx))) ?_
  refine zs_iload_n dX13_neighbour_6 rfl ?_
  refine zs_iconst (v := nI 1) dX13_neighbour_7 (by decide) ?_
  refine zs_icmp_ne (tgt := 15) dX13_neighbour_8 (by decide) (fun c_1 => ?_) (fun c_1 => (by first | exact absurd c_1 (by decide) | exact absurd (by decide) c_1 : False).elim)
  refine zs_iload_n dX13_neighbour_15 rfl ?_
  refine zs_iconst (v := nI 3) dX13_neighbour_16 (by decide) ?_
  refine zs_icmp_ne (tgt := 24) dX13_neighbour_17 (by decide) (fun c_2 => ?_) (fun c_2 => (by first | exact absurd c_2 (by decide) | exact absurd (by decide) c_2 : False).elim)
  refine zs_iconst (v := nI 0) dX13_neighbour_24 (by decide) ?_
  refine zs_iadd dX13_neighbour_25 ?_
  refine zs_as (y := nI x) (nI_add x 0) ?_
  refine zs_istore_n (lv' := [(3, .int (nI x)), (0, .ref mo), (1, .int (nI (y * D.1 14 + x))), (2, .int (nI 0))]) dX13_neighbour_26 (Nat.le_of_ble_eq_true rfl) rfl ?_
  refine zs_iload_n dX13_neighbour_27 rfl ?_
  refine zs_aload_n dX13_neighbour_28 rfl rfl ?_
  refine zs_callV (M := mX13_columns) (As := []) (st := [.int (nI (y * D.1 14 + x))]) (Kc := [(mo, .inr (11, fMo e g w)), ((e 14), .inl (0, 800, .inl nw))]) (Kr := []) [0, 1] [] 0 dX13_neighbour_29 zl_RX13_298 kX13_columns rfl rfl rfl rfl rfl (by decide) rfl rfl (show dd - 1 + 1 ≤ dd by omega) (Nat.zero_le _) (Nat.zero_le _) (Nat.le_of_ble_eq_true rfl) (s_mCols l (dd - 1) mo e g w nw D hR) (fun r K1 hr => ?_)
  obtain ⟨rfl, rfl⟩ := hr
  refine zs_K (K' := [(mo, .inr (11, fMo e g w)), ((e 14), .inl (0, 800, .inl nw))]) [0, 1] rfl (by decide) ?_
  refine zs_idiv dX13_neighbour_32 (fun hz => by rw [show (0 : Int32) = nI 0 from rfl, nI_eq' (by omega) (by omega)] at hz; omega) ?_
  refine zs_as (y := nI y) ((nI_div (by omega) (by omega) (by omega)).trans (congrArg nI (yx_d hx))) ?_
  refine zs_iload_n dX13_neighbour_33 rfl ?_
  refine zs_iconst (v := nI 2) dX13_neighbour_34 (by decide) ?_
  refine zs_icmp_ne (tgt := 42) dX13_neighbour_35 (by decide) (fun c_3 => ?_) (fun c_3 => (by first | exact absurd c_3 (by decide) | exact absurd (by decide) c_3 : False).elim)
  refine zs_iload_n dX13_neighbour_42 rfl ?_
  refine zs_if_ne (tgt := 50) dX13_neighbour_43 (by decide) (fun c_4 => (by first | exact absurd c_4 (by decide) | exact absurd (by decide) c_4 : False).elim) (fun c_4 => ?_)
  refine zs_iconst (v := (-1)) dX13_neighbour_46 (by decide) ?_
  refine zs_goto (tgt := 51) dX13_neighbour_47 (by decide) ?_
  refine zs_iadd dX13_neighbour_51 ?_
  refine zs_as (y := nI (y - 1)) (nI_mn hq) ?_
  refine zs_istore (lv' := [(4, .int (nI (y - 1))), (3, .int (nI x)), (0, .ref mo), (1, .int (nI (y * D.1 14 + x))), (2, .int (nI 0))]) dX13_neighbour_52 (Nat.le_of_ble_eq_true rfl) rfl ?_
  refine zs_iload_n dX13_neighbour_54 rfl ?_
  refine zs_if_lt (tgt := 83) dX13_neighbour_55 (by decide) (fun c_5 => ?_) (fun c_5 => ?_)
  · have c_5 : x < 0 := by have hc := c_5; rw [show (0 : Int32) = nI 0 from rfl] at hc; rw [nI_lt' (by omega) (by omega)] at hc; exact hc
    refine zs_iconst (v := (-1)) dX13_neighbour_83 (by decide) ?_
    refine zs_goto (tgt := 96) dX13_neighbour_84 (by decide) ?_
    refine zs_iret dX13_neighbour_96 rfl ⟨congrArg (fun v => some (Value.int v)) (nb_n ?_), rfl⟩
    exact decide_eq_false (by omega)
  · have c_5 : ¬ (x < 0) := by have hc := c_5; rw [show (0 : Int32) = nI 0 from rfl] at hc; rw [nI_lt' (by omega) (by omega)] at hc; exact hc
    refine zs_iload_n dX13_neighbour_58 rfl ?_
    refine zs_aload_n dX13_neighbour_59 rfl rfl ?_
    refine zs_callV (M := mX13_columns) (As := []) (st := [.int (nI x)]) (Kc := [(mo, .inr (11, fMo e g w)), ((e 14), .inl (0, 800, .inl nw))]) (Kr := []) [0, 1] [] 0 dX13_neighbour_60 zl_RX13_298 kX13_columns rfl rfl rfl rfl rfl (by decide) rfl rfl (show dd - 1 + 1 ≤ dd by omega) (Nat.zero_le _) (Nat.zero_le _) (Nat.le_of_ble_eq_true rfl) (s_mCols l (dd - 1) mo e g w nw D hR) (fun r K1 hr => ?_)
    obtain ⟨rfl, rfl⟩ := hr
    refine zs_K (K' := [(mo, .inr (11, fMo e g w)), ((e 14), .inl (0, 800, .inl nw))]) [0, 1] rfl (by decide) ?_
    refine zs_icmp_ge (tgt := 83) dX13_neighbour_63 (by decide) (fun c_6 => ?_) (fun c_6 => ?_)
    · have c_6 : (D.1 14) ≤ x := by have hc := c_6; rw [nI_le' (by omega) (by omega)] at hc; exact hc
      refine zs_iconst (v := (-1)) dX13_neighbour_83 (by decide) ?_
      refine zs_goto (tgt := 96) dX13_neighbour_84 (by decide) ?_
      refine zs_iret dX13_neighbour_96 rfl ⟨congrArg (fun v => some (Value.int v)) (nb_n ?_), rfl⟩
      exact decide_eq_false (by omega)
    · have c_6 : ¬ ((D.1 14) ≤ x) := by have hc := c_6; rw [nI_le' (by omega) (by omega)] at hc; exact hc
      refine zs_iload dX13_neighbour_66 rfl ?_
      refine zs_if_lt (tgt := 83) dX13_neighbour_68 (by decide) (fun c_7 => ?_) (fun c_7 => ?_)
      · have c_7 : (y - 1) < 0 := by have hc := c_7; rw [show (0 : Int32) = nI 0 from rfl] at hc; rw [nI_lt' (by omega) (by omega)] at hc; exact hc
        refine zs_iconst (v := (-1)) dX13_neighbour_83 (by decide) ?_
        refine zs_goto (tgt := 96) dX13_neighbour_84 (by decide) ?_
        refine zs_iret dX13_neighbour_96 rfl ⟨congrArg (fun v => some (Value.int v)) (nb_n ?_), rfl⟩
        exact decide_eq_false (by omega)
      · have c_7 : ¬ ((y - 1) < 0) := by have hc := c_7; rw [show (0 : Int32) = nI 0 from rfl] at hc; rw [nI_lt' (by omega) (by omega)] at hc; exact hc
        refine zs_iload dX13_neighbour_71 rfl ?_
        refine zs_aload_n dX13_neighbour_73 rfl rfl ?_
        refine zs_get 0 dX13_neighbour_74 zf_RX13_13 rfl (v := .ref (e 14)) rfl ?_
        refine zs_bipush (v := nI 10) dX13_neighbour_77 (by decide) ?_
        refine zs_iald 1 dX13_neighbour_79 rfl (vp_in_nI (by omega) (by omega)) ?_
        refine zs_as (y := nI (D.1 15)) (by rw [nI_c (n := 10) (by omega)]; exact hR.2.2.2.2.2.2.2.2.2.2.1) ?_
        refine zs_icmp_lt (tgt := 87) dX13_neighbour_80 (by decide) (fun c_8 => ?_) (fun c_8 => ?_)
        · have c_8 : (y - 1) < (D.1 15) := by have hc := c_8; rw [nI_lt' (by omega) (by omega)] at hc; exact hc
          refine zs_aload_n dX13_neighbour_87 rfl rfl ?_
          refine zs_callV (M := mX13_columns) (As := []) (st := []) (Kc := [(mo, .inr (11, fMo e g w)), ((e 14), .inl (0, 800, .inl nw))]) (Kr := []) [0, 1] [] 0 dX13_neighbour_88 zl_RX13_298 kX13_columns rfl rfl rfl rfl rfl (by decide) rfl rfl (show dd - 1 + 1 ≤ dd by omega) (Nat.zero_le _) (Nat.zero_le _) (Nat.le_of_ble_eq_true rfl) (s_mCols l (dd - 1) mo e g w nw D hR) (fun r K1 hr => ?_)
          obtain ⟨rfl, rfl⟩ := hr
          refine zs_K (K' := [(mo, .inr (11, fMo e g w)), ((e 14), .inl (0, 800, .inl nw))]) [0, 1] rfl (by decide) ?_
          refine zs_iload dX13_neighbour_91 rfl ?_
          refine zs_imul dX13_neighbour_93 ?_
          refine zs_as (y := nI ((D.1 14) * (y - 1))) (nI_mul _ _) ?_
          refine zs_iload_n dX13_neighbour_94 rfl ?_
          refine zs_iadd dX13_neighbour_95 ?_
          refine zs_as (y := nI (((D.1 14) * (y - 1)) + x)) (nI_add _ _) ?_
          refine zs_iret dX13_neighbour_96 rfl ⟨congrArg (fun v => some (Value.int v)) (nb_y ?_ (congrArg nI ?_)), rfl⟩
          · exact decide_eq_true (by omega)
          · exact congrArg (· + x) (Nat.mul_comm (D.1 14) (y - 1))
        · have c_8 : ¬ ((y - 1) < (D.1 15)) := by have hc := c_8; rw [nI_lt' (by omega) (by omega)] at hc; exact hc
          refine zs_iconst (v := (-1)) dX13_neighbour_83 (by decide) ?_
          refine zs_goto (tgt := 96) dX13_neighbour_84 (by decide) ?_
          refine zs_iret dX13_neighbour_96 rfl ⟨congrArg (fun v => some (Value.int v)) (nb_n ?_), rfl⟩
          exact decide_eq_false (by omega)
set_option maxRecDepth 100000 in
theorem s_mNb0z (l : Launch) (dd : Nat) (mo : Nat) (e : Nat → Nat) (g : Nat → Int32) (w : Int64) (nw : Nat → Int32) (D : zYd) (y x : Nat) (hd : 1 ≤ dd) (hR : yR D nw) (hC : D.1 14 ≤ 8) (hRo : D.1 15 ≤ 8) (hx : x < D.1 14) (hy : y < D.1 15) (hq : y = 0) : zSp l mX13_neighbour dd 0 0 [.ref mo, .int (nI (y * D.1 14 + x)), .int (nI 0)] [(mo, .inr (11, fMo e g w)), ((e 14), .inl (0, 800, .inl nw))] (fun r K' => r = some (.int (nbR (D.1 14) (D.1 15) y x 0)) ∧ K' = [(mo, .inr (11, fMo e g w)), ((e 14), .inl (0, 800, .inl nw))]) := by
  refine zSp.of (by decide) (Nat.le_of_ble_eq_true rfl) (fun h0 => ?_)
  show zS _ 0 0 0 [(0, .ref mo), (1, .int (nI (y * D.1 14 + x))), (2, .int (nI 0))] [] [(mo, .inr (11, fMo e g w)), ((e 14), .inl (0, 800, .inl nw))]
  have hlt := yx_l hx hy
  have h64 : D.1 14 * D.1 15 ≤ 64 := Nat.mul_le_mul hC hRo
  refine zs_iload_n dX13_neighbour_0 rfl ?_
  refine zs_aload_n dX13_neighbour_1 rfl rfl ?_
  refine zs_callV (M := mX13_columns) (As := []) (st := [.int (nI (y * D.1 14 + x))]) (Kc := [(mo, .inr (11, fMo e g w)), ((e 14), .inl (0, 800, .inl nw))]) (Kr := []) [0, 1] [] 0 dX13_neighbour_2 zl_RX13_298 kX13_columns rfl rfl rfl rfl rfl (by decide) rfl rfl (show dd - 1 + 1 ≤ dd by omega) (Nat.zero_le _) (Nat.zero_le _) (Nat.le_of_ble_eq_true rfl) (s_mCols l (dd - 1) mo e g w nw D hR) (fun r K1 hr => ?_)
  obtain ⟨rfl, rfl⟩ := hr
  refine zs_K (K' := [(mo, .inr (11, fMo e g w)), ((e 14), .inl (0, 800, .inl nw))]) [0, 1] rfl (by decide) ?_
  refine zs_irem dX13_neighbour_5 (fun hz => by rw [show (0 : Int32) = nI 0 from rfl, nI_eq' (by omega) (by omega)] at hz; omega) ?_
  refine zs_as (y := nI x) ((nI_rem (by omega) (by omega) (by omega)).trans (congrArg nI (yx_m hx))) ?_
  refine zs_iload_n dX13_neighbour_6 rfl ?_
  refine zs_iconst (v := nI 1) dX13_neighbour_7 (by decide) ?_
  refine zs_icmp_ne (tgt := 15) dX13_neighbour_8 (by decide) (fun c_1 => ?_) (fun c_1 => (by first | exact absurd c_1 (by decide) | exact absurd (by decide) c_1 : False).elim)
  refine zs_iload_n dX13_neighbour_15 rfl ?_
  refine zs_iconst (v := nI 3) dX13_neighbour_16 (by decide) ?_
  refine zs_icmp_ne (tgt := 24) dX13_neighbour_17 (by decide) (fun c_2 => ?_) (fun c_2 => (by first | exact absurd c_2 (by decide) | exact absurd (by decide) c_2 : False).elim)
  refine zs_iconst (v := nI 0) dX13_neighbour_24 (by decide) ?_
  refine zs_iadd dX13_neighbour_25 ?_
  refine zs_as (y := nI x) (nI_add x 0) ?_
  refine zs_istore_n (lv' := [(3, .int (nI x)), (0, .ref mo), (1, .int (nI (y * D.1 14 + x))), (2, .int (nI 0))]) dX13_neighbour_26 (Nat.le_of_ble_eq_true rfl) rfl ?_
  refine zs_iload_n dX13_neighbour_27 rfl ?_
  refine zs_aload_n dX13_neighbour_28 rfl rfl ?_
  refine zs_callV (M := mX13_columns) (As := []) (st := [.int (nI (y * D.1 14 + x))]) (Kc := [(mo, .inr (11, fMo e g w)), ((e 14), .inl (0, 800, .inl nw))]) (Kr := []) [0, 1] [] 0 dX13_neighbour_29 zl_RX13_298 kX13_columns rfl rfl rfl rfl rfl (by decide) rfl rfl (show dd - 1 + 1 ≤ dd by omega) (Nat.zero_le _) (Nat.zero_le _) (Nat.le_of_ble_eq_true rfl) (s_mCols l (dd - 1) mo e g w nw D hR) (fun r K1 hr => ?_)
  obtain ⟨rfl, rfl⟩ := hr
  refine zs_K (K' := [(mo, .inr (11, fMo e g w)), ((e 14), .inl (0, 800, .inl nw))]) [0, 1] rfl (by decide) ?_
  refine zs_idiv dX13_neighbour_32 (fun hz => by rw [show (0 : Int32) = nI 0 from rfl, nI_eq' (by omega) (by omega)] at hz; omega) ?_
  refine zs_as (y := nI y) ((nI_div (by omega) (by omega) (by omega)).trans (congrArg nI (yx_d hx))) ?_
  refine zs_iload_n dX13_neighbour_33 rfl ?_
  refine zs_iconst (v := nI 2) dX13_neighbour_34 (by decide) ?_
  refine zs_icmp_ne (tgt := 42) dX13_neighbour_35 (by decide) (fun c_3 => ?_) (fun c_3 => (by first | exact absurd c_3 (by decide) | exact absurd (by decide) c_3 : False).elim)
  refine zs_iload_n dX13_neighbour_42 rfl ?_
  refine zs_if_ne (tgt := 50) dX13_neighbour_43 (by decide) (fun c_4 => (by first | exact absurd c_4 (by decide) | exact absurd (by decide) c_4 : False).elim) (fun c_4 => ?_)
  refine zs_iconst (v := (-1)) dX13_neighbour_46 (by decide) ?_
  refine zs_goto (tgt := 51) dX13_neighbour_47 (by decide) ?_
  refine zs_iadd dX13_neighbour_51 ?_
  refine zs_as (y := (-1)) (by rw [hq]; rfl) ?_
  refine zs_istore (lv' := [(4, .int (-1)), (3, .int (nI x)), (0, .ref mo), (1, .int (nI (y * D.1 14 + x))), (2, .int (nI 0))]) dX13_neighbour_52 (Nat.le_of_ble_eq_true rfl) rfl ?_
  refine zs_iload_n dX13_neighbour_54 rfl ?_
  refine zs_if_lt (tgt := 83) dX13_neighbour_55 (by decide) (fun c_5 => ?_) (fun c_5 => ?_)
  · have c_5 : x < 0 := by have hc := c_5; rw [show (0 : Int32) = nI 0 from rfl] at hc; rw [nI_lt' (by omega) (by omega)] at hc; exact hc
    refine zs_iconst (v := (-1)) dX13_neighbour_83 (by decide) ?_
    refine zs_goto (tgt := 96) dX13_neighbour_84 (by decide) ?_
    refine zs_iret dX13_neighbour_96 rfl ⟨congrArg (fun v => some (Value.int v)) (nb_n ?_), rfl⟩
    exact decide_eq_false (by omega)
  · have c_5 : ¬ (x < 0) := by have hc := c_5; rw [show (0 : Int32) = nI 0 from rfl] at hc; rw [nI_lt' (by omega) (by omega)] at hc; exact hc
    refine zs_iload_n dX13_neighbour_58 rfl ?_
    refine zs_aload_n dX13_neighbour_59 rfl rfl ?_
    refine zs_callV (M := mX13_columns) (As := []) (st := [.int (nI x)]) (Kc := [(mo, .inr (11, fMo e g w)), ((e 14), .inl (0, 800, .inl nw))]) (Kr := []) [0, 1] [] 0 dX13_neighbour_60 zl_RX13_298 kX13_columns rfl rfl rfl rfl rfl (by decide) rfl rfl (show dd - 1 + 1 ≤ dd by omega) (Nat.zero_le _) (Nat.zero_le _) (Nat.le_of_ble_eq_true rfl) (s_mCols l (dd - 1) mo e g w nw D hR) (fun r K1 hr => ?_)
    obtain ⟨rfl, rfl⟩ := hr
    refine zs_K (K' := [(mo, .inr (11, fMo e g w)), ((e 14), .inl (0, 800, .inl nw))]) [0, 1] rfl (by decide) ?_
    refine zs_icmp_ge (tgt := 83) dX13_neighbour_63 (by decide) (fun c_6 => ?_) (fun c_6 => ?_)
    · have c_6 : (D.1 14) ≤ x := by have hc := c_6; rw [nI_le' (by omega) (by omega)] at hc; exact hc
      refine zs_iconst (v := (-1)) dX13_neighbour_83 (by decide) ?_
      refine zs_goto (tgt := 96) dX13_neighbour_84 (by decide) ?_
      refine zs_iret dX13_neighbour_96 rfl ⟨congrArg (fun v => some (Value.int v)) (nb_n ?_), rfl⟩
      exact decide_eq_false (by omega)
    · have c_6 : ¬ ((D.1 14) ≤ x) := by have hc := c_6; rw [nI_le' (by omega) (by omega)] at hc; exact hc
      refine zs_iload dX13_neighbour_66 rfl ?_
      refine zs_if_lt (tgt := 83) dX13_neighbour_68 (by decide) (fun c_7 => ?_) (fun c_7 => (by first | exact absurd c_7 (by decide) | exact absurd (by decide) c_7 : False).elim)
      refine zs_iconst (v := (-1)) dX13_neighbour_83 (by decide) ?_
      refine zs_goto (tgt := 96) dX13_neighbour_84 (by decide) ?_
      refine zs_iret dX13_neighbour_96 rfl ⟨congrArg (fun v => some (Value.int v)) (nb_n ?_), rfl⟩
      exact decide_eq_false (by omega)
set_option maxRecDepth 100000 in
theorem s_mNb1 (l : Launch) (dd : Nat) (mo : Nat) (e : Nat → Nat) (g : Nat → Int32) (w : Int64) (nw : Nat → Int32) (D : zYd) (y x : Nat) (hd : 1 ≤ dd) (hR : yR D nw) (hC : D.1 14 ≤ 8) (hRo : D.1 15 ≤ 8) (hx : x < D.1 14) (hy : y < D.1 15)  : zSp l mX13_neighbour dd 0 0 [.ref mo, .int (nI (y * D.1 14 + x)), .int (nI 1)] [(mo, .inr (11, fMo e g w)), ((e 14), .inl (0, 800, .inl nw))] (fun r K' => r = some (.int (nbR (D.1 14) (D.1 15) y x 1)) ∧ K' = [(mo, .inr (11, fMo e g w)), ((e 14), .inl (0, 800, .inl nw))]) := by
  refine zSp.of (by decide) (Nat.le_of_ble_eq_true rfl) (fun h0 => ?_)
  show zS _ 0 0 0 [(0, .ref mo), (1, .int (nI (y * D.1 14 + x))), (2, .int (nI 1))] [] [(mo, .inr (11, fMo e g w)), ((e 14), .inl (0, 800, .inl nw))]
  have hlt := yx_l hx hy
  have h64 : D.1 14 * D.1 15 ≤ 64 := Nat.mul_le_mul hC hRo
  refine zs_iload_n dX13_neighbour_0 rfl ?_
  refine zs_aload_n dX13_neighbour_1 rfl rfl ?_
  refine zs_callV (M := mX13_columns) (As := []) (st := [.int (nI (y * D.1 14 + x))]) (Kc := [(mo, .inr (11, fMo e g w)), ((e 14), .inl (0, 800, .inl nw))]) (Kr := []) [0, 1] [] 0 dX13_neighbour_2 zl_RX13_298 kX13_columns rfl rfl rfl rfl rfl (by decide) rfl rfl (show dd - 1 + 1 ≤ dd by omega) (Nat.zero_le _) (Nat.zero_le _) (Nat.le_of_ble_eq_true rfl) (s_mCols l (dd - 1) mo e g w nw D hR) (fun r K1 hr => ?_)
  obtain ⟨rfl, rfl⟩ := hr
  refine zs_K (K' := [(mo, .inr (11, fMo e g w)), ((e 14), .inl (0, 800, .inl nw))]) [0, 1] rfl (by decide) ?_
  refine zs_irem dX13_neighbour_5 (fun hz => by rw [show (0 : Int32) = nI 0 from rfl, nI_eq' (by omega) (by omega)] at hz; omega) ?_
  refine zs_as (y := nI x) ((nI_rem (by omega) (by omega) (by omega)).trans (congrArg nI (yx_m hx))) ?_
  refine zs_iload_n dX13_neighbour_6 rfl ?_
  refine zs_iconst (v := nI 1) dX13_neighbour_7 (by decide) ?_
  refine zs_icmp_ne (tgt := 15) dX13_neighbour_8 (by decide) (fun c_1 => (by first | exact absurd c_1 (by decide) | exact absurd (by decide) c_1 : False).elim) (fun c_1 => ?_)
  refine zs_iconst (v := nI 1) dX13_neighbour_11 (by decide) ?_
  refine zs_goto (tgt := 25) dX13_neighbour_12 (by decide) ?_
  refine zs_iadd dX13_neighbour_25 ?_
  refine zs_as (y := nI (x + 1)) (nI_add x 1) ?_
  refine zs_istore_n (lv' := [(3, .int (nI (x + 1))), (0, .ref mo), (1, .int (nI (y * D.1 14 + x))), (2, .int (nI 1))]) dX13_neighbour_26 (Nat.le_of_ble_eq_true rfl) rfl ?_
  refine zs_iload_n dX13_neighbour_27 rfl ?_
  refine zs_aload_n dX13_neighbour_28 rfl rfl ?_
  refine zs_callV (M := mX13_columns) (As := []) (st := [.int (nI (y * D.1 14 + x))]) (Kc := [(mo, .inr (11, fMo e g w)), ((e 14), .inl (0, 800, .inl nw))]) (Kr := []) [0, 1] [] 0 dX13_neighbour_29 zl_RX13_298 kX13_columns rfl rfl rfl rfl rfl (by decide) rfl rfl (show dd - 1 + 1 ≤ dd by omega) (Nat.zero_le _) (Nat.zero_le _) (Nat.le_of_ble_eq_true rfl) (s_mCols l (dd - 1) mo e g w nw D hR) (fun r K1 hr => ?_)
  obtain ⟨rfl, rfl⟩ := hr
  refine zs_K (K' := [(mo, .inr (11, fMo e g w)), ((e 14), .inl (0, 800, .inl nw))]) [0, 1] rfl (by decide) ?_
  refine zs_idiv dX13_neighbour_32 (fun hz => by rw [show (0 : Int32) = nI 0 from rfl, nI_eq' (by omega) (by omega)] at hz; omega) ?_
  refine zs_as (y := nI y) ((nI_div (by omega) (by omega) (by omega)).trans (congrArg nI (yx_d hx))) ?_
  refine zs_iload_n dX13_neighbour_33 rfl ?_
  refine zs_iconst (v := nI 2) dX13_neighbour_34 (by decide) ?_
  refine zs_icmp_ne (tgt := 42) dX13_neighbour_35 (by decide) (fun c_2 => ?_) (fun c_2 => (by first | exact absurd c_2 (by decide) | exact absurd (by decide) c_2 : False).elim)
  refine zs_iload_n dX13_neighbour_42 rfl ?_
  refine zs_if_ne (tgt := 50) dX13_neighbour_43 (by decide) (fun c_3 => ?_) (fun c_3 => (by first | exact absurd c_3 (by decide) | exact absurd (by decide) c_3 : False).elim)
  refine zs_iconst (v := nI 0) dX13_neighbour_50 (by decide) ?_
  refine zs_iadd dX13_neighbour_51 ?_
  refine zs_as (y := nI y) (nI_add y 0) ?_
  refine zs_istore (lv' := [(4, .int (nI y)), (3, .int (nI (x + 1))), (0, .ref mo), (1, .int (nI (y * D.1 14 + x))), (2, .int (nI 1))]) dX13_neighbour_52 (Nat.le_of_ble_eq_true rfl) rfl ?_
  refine zs_iload_n dX13_neighbour_54 rfl ?_
  refine zs_if_lt (tgt := 83) dX13_neighbour_55 (by decide) (fun c_4 => ?_) (fun c_4 => ?_)
  · have c_4 : (x + 1) < 0 := by have hc := c_4; rw [show (0 : Int32) = nI 0 from rfl] at hc; rw [nI_lt' (by omega) (by omega)] at hc; exact hc
    refine zs_iconst (v := (-1)) dX13_neighbour_83 (by decide) ?_
    refine zs_goto (tgt := 96) dX13_neighbour_84 (by decide) ?_
    refine zs_iret dX13_neighbour_96 rfl ⟨congrArg (fun v => some (Value.int v)) (nb_n ?_), rfl⟩
    exact decide_eq_false (by omega)
  · have c_4 : ¬ ((x + 1) < 0) := by have hc := c_4; rw [show (0 : Int32) = nI 0 from rfl] at hc; rw [nI_lt' (by omega) (by omega)] at hc; exact hc
    refine zs_iload_n dX13_neighbour_58 rfl ?_
    refine zs_aload_n dX13_neighbour_59 rfl rfl ?_
    refine zs_callV (M := mX13_columns) (As := []) (st := [.int (nI (x + 1))]) (Kc := [(mo, .inr (11, fMo e g w)), ((e 14), .inl (0, 800, .inl nw))]) (Kr := []) [0, 1] [] 0 dX13_neighbour_60 zl_RX13_298 kX13_columns rfl rfl rfl rfl rfl (by decide) rfl rfl (show dd - 1 + 1 ≤ dd by omega) (Nat.zero_le _) (Nat.zero_le _) (Nat.le_of_ble_eq_true rfl) (s_mCols l (dd - 1) mo e g w nw D hR) (fun r K1 hr => ?_)
    obtain ⟨rfl, rfl⟩ := hr
    refine zs_K (K' := [(mo, .inr (11, fMo e g w)), ((e 14), .inl (0, 800, .inl nw))]) [0, 1] rfl (by decide) ?_
    refine zs_icmp_ge (tgt := 83) dX13_neighbour_63 (by decide) (fun c_5 => ?_) (fun c_5 => ?_)
    · have c_5 : (D.1 14) ≤ (x + 1) := by have hc := c_5; rw [nI_le' (by omega) (by omega)] at hc; exact hc
      refine zs_iconst (v := (-1)) dX13_neighbour_83 (by decide) ?_
      refine zs_goto (tgt := 96) dX13_neighbour_84 (by decide) ?_
      refine zs_iret dX13_neighbour_96 rfl ⟨congrArg (fun v => some (Value.int v)) (nb_n ?_), rfl⟩
      exact decide_eq_false (by omega)
    · have c_5 : ¬ ((D.1 14) ≤ (x + 1)) := by have hc := c_5; rw [nI_le' (by omega) (by omega)] at hc; exact hc
      refine zs_iload dX13_neighbour_66 rfl ?_
      refine zs_if_lt (tgt := 83) dX13_neighbour_68 (by decide) (fun c_6 => ?_) (fun c_6 => ?_)
      · have c_6 : y < 0 := by have hc := c_6; rw [show (0 : Int32) = nI 0 from rfl] at hc; rw [nI_lt' (by omega) (by omega)] at hc; exact hc
        refine zs_iconst (v := (-1)) dX13_neighbour_83 (by decide) ?_
        refine zs_goto (tgt := 96) dX13_neighbour_84 (by decide) ?_
        refine zs_iret dX13_neighbour_96 rfl ⟨congrArg (fun v => some (Value.int v)) (nb_n ?_), rfl⟩
        exact decide_eq_false (by omega)
      · have c_6 : ¬ (y < 0) := by have hc := c_6; rw [show (0 : Int32) = nI 0 from rfl] at hc; rw [nI_lt' (by omega) (by omega)] at hc; exact hc
        refine zs_iload dX13_neighbour_71 rfl ?_
        refine zs_aload_n dX13_neighbour_73 rfl rfl ?_
        refine zs_get 0 dX13_neighbour_74 zf_RX13_13 rfl (v := .ref (e 14)) rfl ?_
        refine zs_bipush (v := nI 10) dX13_neighbour_77 (by decide) ?_
        refine zs_iald 1 dX13_neighbour_79 rfl (vp_in_nI (by omega) (by omega)) ?_
        refine zs_as (y := nI (D.1 15)) (by rw [nI_c (n := 10) (by omega)]; exact hR.2.2.2.2.2.2.2.2.2.2.1) ?_
        refine zs_icmp_lt (tgt := 87) dX13_neighbour_80 (by decide) (fun c_7 => ?_) (fun c_7 => ?_)
        · have c_7 : y < (D.1 15) := by have hc := c_7; rw [nI_lt' (by omega) (by omega)] at hc; exact hc
          refine zs_aload_n dX13_neighbour_87 rfl rfl ?_
          refine zs_callV (M := mX13_columns) (As := []) (st := []) (Kc := [(mo, .inr (11, fMo e g w)), ((e 14), .inl (0, 800, .inl nw))]) (Kr := []) [0, 1] [] 0 dX13_neighbour_88 zl_RX13_298 kX13_columns rfl rfl rfl rfl rfl (by decide) rfl rfl (show dd - 1 + 1 ≤ dd by omega) (Nat.zero_le _) (Nat.zero_le _) (Nat.le_of_ble_eq_true rfl) (s_mCols l (dd - 1) mo e g w nw D hR) (fun r K1 hr => ?_)
          obtain ⟨rfl, rfl⟩ := hr
          refine zs_K (K' := [(mo, .inr (11, fMo e g w)), ((e 14), .inl (0, 800, .inl nw))]) [0, 1] rfl (by decide) ?_
          refine zs_iload dX13_neighbour_91 rfl ?_
          refine zs_imul dX13_neighbour_93 ?_
          refine zs_as (y := nI ((D.1 14) * y)) (nI_mul _ _) ?_
          refine zs_iload_n dX13_neighbour_94 rfl ?_
          refine zs_iadd dX13_neighbour_95 ?_
          refine zs_as (y := nI (((D.1 14) * y) + (x + 1))) (nI_add _ _) ?_
          refine zs_iret dX13_neighbour_96 rfl ⟨congrArg (fun v => some (Value.int v)) (nb_y ?_ (congrArg nI ?_)), rfl⟩
          · exact decide_eq_true (by omega)
          · exact congrArg (· + (x + 1)) (Nat.mul_comm (D.1 14) y)
        · have c_7 : ¬ (y < (D.1 15)) := by have hc := c_7; rw [nI_lt' (by omega) (by omega)] at hc; exact hc
          refine zs_iconst (v := (-1)) dX13_neighbour_83 (by decide) ?_
          refine zs_goto (tgt := 96) dX13_neighbour_84 (by decide) ?_
          refine zs_iret dX13_neighbour_96 rfl ⟨congrArg (fun v => some (Value.int v)) (nb_n ?_), rfl⟩
          exact decide_eq_false (by omega)
set_option maxRecDepth 100000 in
theorem s_mNb2 (l : Launch) (dd : Nat) (mo : Nat) (e : Nat → Nat) (g : Nat → Int32) (w : Int64) (nw : Nat → Int32) (D : zYd) (y x : Nat) (hd : 1 ≤ dd) (hR : yR D nw) (hC : D.1 14 ≤ 8) (hRo : D.1 15 ≤ 8) (hx : x < D.1 14) (hy : y < D.1 15)  : zSp l mX13_neighbour dd 0 0 [.ref mo, .int (nI (y * D.1 14 + x)), .int (nI 2)] [(mo, .inr (11, fMo e g w)), ((e 14), .inl (0, 800, .inl nw))] (fun r K' => r = some (.int (nbR (D.1 14) (D.1 15) y x 2)) ∧ K' = [(mo, .inr (11, fMo e g w)), ((e 14), .inl (0, 800, .inl nw))]) := by
  refine zSp.of (by decide) (Nat.le_of_ble_eq_true rfl) (fun h0 => ?_)
  show zS _ 0 0 0 [(0, .ref mo), (1, .int (nI (y * D.1 14 + x))), (2, .int (nI 2))] [] [(mo, .inr (11, fMo e g w)), ((e 14), .inl (0, 800, .inl nw))]
  have hlt := yx_l hx hy
  have h64 : D.1 14 * D.1 15 ≤ 64 := Nat.mul_le_mul hC hRo
  refine zs_iload_n dX13_neighbour_0 rfl ?_
  refine zs_aload_n dX13_neighbour_1 rfl rfl ?_
  refine zs_callV (M := mX13_columns) (As := []) (st := [.int (nI (y * D.1 14 + x))]) (Kc := [(mo, .inr (11, fMo e g w)), ((e 14), .inl (0, 800, .inl nw))]) (Kr := []) [0, 1] [] 0 dX13_neighbour_2 zl_RX13_298 kX13_columns rfl rfl rfl rfl rfl (by decide) rfl rfl (show dd - 1 + 1 ≤ dd by omega) (Nat.zero_le _) (Nat.zero_le _) (Nat.le_of_ble_eq_true rfl) (s_mCols l (dd - 1) mo e g w nw D hR) (fun r K1 hr => ?_)
  obtain ⟨rfl, rfl⟩ := hr
  refine zs_K (K' := [(mo, .inr (11, fMo e g w)), ((e 14), .inl (0, 800, .inl nw))]) [0, 1] rfl (by decide) ?_
  refine zs_irem dX13_neighbour_5 (fun hz => by rw [show (0 : Int32) = nI 0 from rfl, nI_eq' (by omega) (by omega)] at hz; omega) ?_
  refine zs_as (y := nI x) ((nI_rem (by omega) (by omega) (by omega)).trans (congrArg nI (yx_m hx))) ?_
  refine zs_iload_n dX13_neighbour_6 rfl ?_
  refine zs_iconst (v := nI 1) dX13_neighbour_7 (by decide) ?_
  refine zs_icmp_ne (tgt := 15) dX13_neighbour_8 (by decide) (fun c_1 => ?_) (fun c_1 => (by first | exact absurd c_1 (by decide) | exact absurd (by decide) c_1 : False).elim)
  refine zs_iload_n dX13_neighbour_15 rfl ?_
  refine zs_iconst (v := nI 3) dX13_neighbour_16 (by decide) ?_
  refine zs_icmp_ne (tgt := 24) dX13_neighbour_17 (by decide) (fun c_2 => ?_) (fun c_2 => (by first | exact absurd c_2 (by decide) | exact absurd (by decide) c_2 : False).elim)
  refine zs_iconst (v := nI 0) dX13_neighbour_24 (by decide) ?_
  refine zs_iadd dX13_neighbour_25 ?_
  refine zs_as (y := nI x) (nI_add x 0) ?_
  refine zs_istore_n (lv' := [(3, .int (nI x)), (0, .ref mo), (1, .int (nI (y * D.1 14 + x))), (2, .int (nI 2))]) dX13_neighbour_26 (Nat.le_of_ble_eq_true rfl) rfl ?_
  refine zs_iload_n dX13_neighbour_27 rfl ?_
  refine zs_aload_n dX13_neighbour_28 rfl rfl ?_
  refine zs_callV (M := mX13_columns) (As := []) (st := [.int (nI (y * D.1 14 + x))]) (Kc := [(mo, .inr (11, fMo e g w)), ((e 14), .inl (0, 800, .inl nw))]) (Kr := []) [0, 1] [] 0 dX13_neighbour_29 zl_RX13_298 kX13_columns rfl rfl rfl rfl rfl (by decide) rfl rfl (show dd - 1 + 1 ≤ dd by omega) (Nat.zero_le _) (Nat.zero_le _) (Nat.le_of_ble_eq_true rfl) (s_mCols l (dd - 1) mo e g w nw D hR) (fun r K1 hr => ?_)
  obtain ⟨rfl, rfl⟩ := hr
  refine zs_K (K' := [(mo, .inr (11, fMo e g w)), ((e 14), .inl (0, 800, .inl nw))]) [0, 1] rfl (by decide) ?_
  refine zs_idiv dX13_neighbour_32 (fun hz => by rw [show (0 : Int32) = nI 0 from rfl, nI_eq' (by omega) (by omega)] at hz; omega) ?_
  refine zs_as (y := nI y) ((nI_div (by omega) (by omega) (by omega)).trans (congrArg nI (yx_d hx))) ?_
  refine zs_iload_n dX13_neighbour_33 rfl ?_
  refine zs_iconst (v := nI 2) dX13_neighbour_34 (by decide) ?_
  refine zs_icmp_ne (tgt := 42) dX13_neighbour_35 (by decide) (fun c_3 => (by first | exact absurd c_3 (by decide) | exact absurd (by decide) c_3 : False).elim) (fun c_3 => ?_)
  refine zs_iconst (v := nI 1) dX13_neighbour_38 (by decide) ?_
  refine zs_goto (tgt := 51) dX13_neighbour_39 (by decide) ?_
  refine zs_iadd dX13_neighbour_51 ?_
  refine zs_as (y := nI (y + 1)) (nI_add y 1) ?_
  refine zs_istore (lv' := [(4, .int (nI (y + 1))), (3, .int (nI x)), (0, .ref mo), (1, .int (nI (y * D.1 14 + x))), (2, .int (nI 2))]) dX13_neighbour_52 (Nat.le_of_ble_eq_true rfl) rfl ?_
  refine zs_iload_n dX13_neighbour_54 rfl ?_
  refine zs_if_lt (tgt := 83) dX13_neighbour_55 (by decide) (fun c_4 => ?_) (fun c_4 => ?_)
  · have c_4 : x < 0 := by have hc := c_4; rw [show (0 : Int32) = nI 0 from rfl] at hc; rw [nI_lt' (by omega) (by omega)] at hc; exact hc
    refine zs_iconst (v := (-1)) dX13_neighbour_83 (by decide) ?_
    refine zs_goto (tgt := 96) dX13_neighbour_84 (by decide) ?_
    refine zs_iret dX13_neighbour_96 rfl ⟨congrArg (fun v => some (Value.int v)) (nb_n ?_), rfl⟩
    exact decide_eq_false (by omega)
  · have c_4 : ¬ (x < 0) := by have hc := c_4; rw [show (0 : Int32) = nI 0 from rfl] at hc; rw [nI_lt' (by omega) (by omega)] at hc; exact hc
    refine zs_iload_n dX13_neighbour_58 rfl ?_
    refine zs_aload_n dX13_neighbour_59 rfl rfl ?_
    refine zs_callV (M := mX13_columns) (As := []) (st := [.int (nI x)]) (Kc := [(mo, .inr (11, fMo e g w)), ((e 14), .inl (0, 800, .inl nw))]) (Kr := []) [0, 1] [] 0 dX13_neighbour_60 zl_RX13_298 kX13_columns rfl rfl rfl rfl rfl (by decide) rfl rfl (show dd - 1 + 1 ≤ dd by omega) (Nat.zero_le _) (Nat.zero_le _) (Nat.le_of_ble_eq_true rfl) (s_mCols l (dd - 1) mo e g w nw D hR) (fun r K1 hr => ?_)
    obtain ⟨rfl, rfl⟩ := hr
    refine zs_K (K' := [(mo, .inr (11, fMo e g w)), ((e 14), .inl (0, 800, .inl nw))]) [0, 1] rfl (by decide) ?_
    refine zs_icmp_ge (tgt := 83) dX13_neighbour_63 (by decide) (fun c_5 => ?_) (fun c_5 => ?_)
    · have c_5 : (D.1 14) ≤ x := by have hc := c_5; rw [nI_le' (by omega) (by omega)] at hc; exact hc
      refine zs_iconst (v := (-1)) dX13_neighbour_83 (by decide) ?_
      refine zs_goto (tgt := 96) dX13_neighbour_84 (by decide) ?_
      refine zs_iret dX13_neighbour_96 rfl ⟨congrArg (fun v => some (Value.int v)) (nb_n ?_), rfl⟩
      exact decide_eq_false (by omega)
    · have c_5 : ¬ ((D.1 14) ≤ x) := by have hc := c_5; rw [nI_le' (by omega) (by omega)] at hc; exact hc
      refine zs_iload dX13_neighbour_66 rfl ?_
      refine zs_if_lt (tgt := 83) dX13_neighbour_68 (by decide) (fun c_6 => ?_) (fun c_6 => ?_)
      · have c_6 : (y + 1) < 0 := by have hc := c_6; rw [show (0 : Int32) = nI 0 from rfl] at hc; rw [nI_lt' (by omega) (by omega)] at hc; exact hc
        refine zs_iconst (v := (-1)) dX13_neighbour_83 (by decide) ?_
        refine zs_goto (tgt := 96) dX13_neighbour_84 (by decide) ?_
        refine zs_iret dX13_neighbour_96 rfl ⟨congrArg (fun v => some (Value.int v)) (nb_n ?_), rfl⟩
        exact decide_eq_false (by omega)
      · have c_6 : ¬ ((y + 1) < 0) := by have hc := c_6; rw [show (0 : Int32) = nI 0 from rfl] at hc; rw [nI_lt' (by omega) (by omega)] at hc; exact hc
        refine zs_iload dX13_neighbour_71 rfl ?_
        refine zs_aload_n dX13_neighbour_73 rfl rfl ?_
        refine zs_get 0 dX13_neighbour_74 zf_RX13_13 rfl (v := .ref (e 14)) rfl ?_
        refine zs_bipush (v := nI 10) dX13_neighbour_77 (by decide) ?_
        refine zs_iald 1 dX13_neighbour_79 rfl (vp_in_nI (by omega) (by omega)) ?_
        refine zs_as (y := nI (D.1 15)) (by rw [nI_c (n := 10) (by omega)]; exact hR.2.2.2.2.2.2.2.2.2.2.1) ?_
        refine zs_icmp_lt (tgt := 87) dX13_neighbour_80 (by decide) (fun c_7 => ?_) (fun c_7 => ?_)
        · have c_7 : (y + 1) < (D.1 15) := by have hc := c_7; rw [nI_lt' (by omega) (by omega)] at hc; exact hc
          refine zs_aload_n dX13_neighbour_87 rfl rfl ?_
          refine zs_callV (M := mX13_columns) (As := []) (st := []) (Kc := [(mo, .inr (11, fMo e g w)), ((e 14), .inl (0, 800, .inl nw))]) (Kr := []) [0, 1] [] 0 dX13_neighbour_88 zl_RX13_298 kX13_columns rfl rfl rfl rfl rfl (by decide) rfl rfl (show dd - 1 + 1 ≤ dd by omega) (Nat.zero_le _) (Nat.zero_le _) (Nat.le_of_ble_eq_true rfl) (s_mCols l (dd - 1) mo e g w nw D hR) (fun r K1 hr => ?_)
          obtain ⟨rfl, rfl⟩ := hr
          refine zs_K (K' := [(mo, .inr (11, fMo e g w)), ((e 14), .inl (0, 800, .inl nw))]) [0, 1] rfl (by decide) ?_
          refine zs_iload dX13_neighbour_91 rfl ?_
          refine zs_imul dX13_neighbour_93 ?_
          refine zs_as (y := nI ((D.1 14) * (y + 1))) (nI_mul _ _) ?_
          refine zs_iload_n dX13_neighbour_94 rfl ?_
          refine zs_iadd dX13_neighbour_95 ?_
          refine zs_as (y := nI (((D.1 14) * (y + 1)) + x)) (nI_add _ _) ?_
          refine zs_iret dX13_neighbour_96 rfl ⟨congrArg (fun v => some (Value.int v)) (nb_y ?_ (congrArg nI ?_)), rfl⟩
          · exact decide_eq_true (by omega)
          · exact congrArg (· + x) (Nat.mul_comm (D.1 14) (y + 1))
        · have c_7 : ¬ ((y + 1) < (D.1 15)) := by have hc := c_7; rw [nI_lt' (by omega) (by omega)] at hc; exact hc
          refine zs_iconst (v := (-1)) dX13_neighbour_83 (by decide) ?_
          refine zs_goto (tgt := 96) dX13_neighbour_84 (by decide) ?_
          refine zs_iret dX13_neighbour_96 rfl ⟨congrArg (fun v => some (Value.int v)) (nb_n ?_), rfl⟩
          exact decide_eq_false (by omega)
set_option maxRecDepth 100000 in
theorem s_mNb3s (l : Launch) (dd : Nat) (mo : Nat) (e : Nat → Nat) (g : Nat → Int32) (w : Int64) (nw : Nat → Int32) (D : zYd) (y x : Nat) (hd : 1 ≤ dd) (hR : yR D nw) (hC : D.1 14 ≤ 8) (hRo : D.1 15 ≤ 8) (hx : x < D.1 14) (hy : y < D.1 15) (hq : 1 ≤ x) : zSp l mX13_neighbour dd 0 0 [.ref mo, .int (nI (y * D.1 14 + x)), .int (nI 3)] [(mo, .inr (11, fMo e g w)), ((e 14), .inl (0, 800, .inl nw))] (fun r K' => r = some (.int (nbR (D.1 14) (D.1 15) y x 3)) ∧ K' = [(mo, .inr (11, fMo e g w)), ((e 14), .inl (0, 800, .inl nw))]) := by
  refine zSp.of (by decide) (Nat.le_of_ble_eq_true rfl) (fun h0 => ?_)
  show zS _ 0 0 0 [(0, .ref mo), (1, .int (nI (y * D.1 14 + x))), (2, .int (nI 3))] [] [(mo, .inr (11, fMo e g w)), ((e 14), .inl (0, 800, .inl nw))]
  have hlt := yx_l hx hy
  have h64 : D.1 14 * D.1 15 ≤ 64 := Nat.mul_le_mul hC hRo
  refine zs_iload_n dX13_neighbour_0 rfl ?_
  refine zs_aload_n dX13_neighbour_1 rfl rfl ?_
  refine zs_callV (M := mX13_columns) (As := []) (st := [.int (nI (y * D.1 14 + x))]) (Kc := [(mo, .inr (11, fMo e g w)), ((e 14), .inl (0, 800, .inl nw))]) (Kr := []) [0, 1] [] 0 dX13_neighbour_2 zl_RX13_298 kX13_columns rfl rfl rfl rfl rfl (by decide) rfl rfl (show dd - 1 + 1 ≤ dd by omega) (Nat.zero_le _) (Nat.zero_le _) (Nat.le_of_ble_eq_true rfl) (s_mCols l (dd - 1) mo e g w nw D hR) (fun r K1 hr => ?_)
  obtain ⟨rfl, rfl⟩ := hr
  refine zs_K (K' := [(mo, .inr (11, fMo e g w)), ((e 14), .inl (0, 800, .inl nw))]) [0, 1] rfl (by decide) ?_
  refine zs_irem dX13_neighbour_5 (fun hz => by rw [show (0 : Int32) = nI 0 from rfl, nI_eq' (by omega) (by omega)] at hz; omega) ?_
  refine zs_as (y := nI x) ((nI_rem (by omega) (by omega) (by omega)).trans (congrArg nI (yx_m hx))) ?_
  refine zs_iload_n dX13_neighbour_6 rfl ?_
  refine zs_iconst (v := nI 1) dX13_neighbour_7 (by decide) ?_
  refine zs_icmp_ne (tgt := 15) dX13_neighbour_8 (by decide) (fun c_1 => ?_) (fun c_1 => (by first | exact absurd c_1 (by decide) | exact absurd (by decide) c_1 : False).elim)
  refine zs_iload_n dX13_neighbour_15 rfl ?_
  refine zs_iconst (v := nI 3) dX13_neighbour_16 (by decide) ?_
  refine zs_icmp_ne (tgt := 24) dX13_neighbour_17 (by decide) (fun c_2 => (by first | exact absurd c_2 (by decide) | exact absurd (by decide) c_2 : False).elim) (fun c_2 => ?_)
  refine zs_iconst (v := (-1)) dX13_neighbour_20 (by decide) ?_
  refine zs_goto (tgt := 25) dX13_neighbour_21 (by decide) ?_
  refine zs_iadd dX13_neighbour_25 ?_
  refine zs_as (y := nI (x - 1)) (nI_mn hq) ?_
  refine zs_istore_n (lv' := [(3, .int (nI (x - 1))), (0, .ref mo), (1, .int (nI (y * D.1 14 + x))), (2, .int (nI 3))]) dX13_neighbour_26 (Nat.le_of_ble_eq_true rfl) rfl ?_
  refine zs_iload_n dX13_neighbour_27 rfl ?_
  refine zs_aload_n dX13_neighbour_28 rfl rfl ?_
  refine zs_callV (M := mX13_columns) (As := []) (st := [.int (nI (y * D.1 14 + x))]) (Kc := [(mo, .inr (11, fMo e g w)), ((e 14), .inl (0, 800, .inl nw))]) (Kr := []) [0, 1] [] 0 dX13_neighbour_29 zl_RX13_298 kX13_columns rfl rfl rfl rfl rfl (by decide) rfl rfl (show dd - 1 + 1 ≤ dd by omega) (Nat.zero_le _) (Nat.zero_le _) (Nat.le_of_ble_eq_true rfl) (s_mCols l (dd - 1) mo e g w nw D hR) (fun r K1 hr => ?_)
  obtain ⟨rfl, rfl⟩ := hr
  refine zs_K (K' := [(mo, .inr (11, fMo e g w)), ((e 14), .inl (0, 800, .inl nw))]) [0, 1] rfl (by decide) ?_
  refine zs_idiv dX13_neighbour_32 (fun hz => by rw [show (0 : Int32) = nI 0 from rfl, nI_eq' (by omega) (by omega)] at hz; omega) ?_
  refine zs_as (y := nI y) ((nI_div (by omega) (by omega) (by omega)).trans (congrArg nI (yx_d hx))) ?_
  refine zs_iload_n dX13_neighbour_33 rfl ?_
  refine zs_iconst (v := nI 2) dX13_neighbour_34 (by decide) ?_
  refine zs_icmp_ne (tgt := 42) dX13_neighbour_35 (by decide) (fun c_3 => ?_) (fun c_3 => (by first | exact absurd c_3 (by decide) | exact absurd (by decide) c_3 : False).elim)
  refine zs_iload_n dX13_neighbour_42 rfl ?_
  refine zs_if_ne (tgt := 50) dX13_neighbour_43 (by decide) (fun c_4 => ?_) (fun c_4 => (by first | exact absurd c_4 (by decide) | exact absurd (by decide) c_4 : False).elim)
  refine zs_iconst (v := nI 0) dX13_neighbour_50 (by decide) ?_
  refine zs_iadd dX13_neighbour_51 ?_
  refine zs_as (y := nI y) (nI_add y 0) ?_
  refine zs_istore (lv' := [(4, .int (nI y)), (3, .int (nI (x - 1))), (0, .ref mo), (1, .int (nI (y * D.1 14 + x))), (2, .int (nI 3))]) dX13_neighbour_52 (Nat.le_of_ble_eq_true rfl) rfl ?_
  refine zs_iload_n dX13_neighbour_54 rfl ?_
  refine zs_if_lt (tgt := 83) dX13_neighbour_55 (by decide) (fun c_5 => ?_) (fun c_5 => ?_)
  · have c_5 : (x - 1) < 0 := by have hc := c_5; rw [show (0 : Int32) = nI 0 from rfl] at hc; rw [nI_lt' (by omega) (by omega)] at hc; exact hc
    refine zs_iconst (v := (-1)) dX13_neighbour_83 (by decide) ?_
    refine zs_goto (tgt := 96) dX13_neighbour_84 (by decide) ?_
    refine zs_iret dX13_neighbour_96 rfl ⟨congrArg (fun v => some (Value.int v)) (nb_n ?_), rfl⟩
    exact decide_eq_false (by omega)
  · have c_5 : ¬ ((x - 1) < 0) := by have hc := c_5; rw [show (0 : Int32) = nI 0 from rfl] at hc; rw [nI_lt' (by omega) (by omega)] at hc; exact hc
    refine zs_iload_n dX13_neighbour_58 rfl ?_
    refine zs_aload_n dX13_neighbour_59 rfl rfl ?_
    refine zs_callV (M := mX13_columns) (As := []) (st := [.int (nI (x - 1))]) (Kc := [(mo, .inr (11, fMo e g w)), ((e 14), .inl (0, 800, .inl nw))]) (Kr := []) [0, 1] [] 0 dX13_neighbour_60 zl_RX13_298 kX13_columns rfl rfl rfl rfl rfl (by decide) rfl rfl (show dd - 1 + 1 ≤ dd by omega) (Nat.zero_le _) (Nat.zero_le _) (Nat.le_of_ble_eq_true rfl) (s_mCols l (dd - 1) mo e g w nw D hR) (fun r K1 hr => ?_)
    obtain ⟨rfl, rfl⟩ := hr
    refine zs_K (K' := [(mo, .inr (11, fMo e g w)), ((e 14), .inl (0, 800, .inl nw))]) [0, 1] rfl (by decide) ?_
    refine zs_icmp_ge (tgt := 83) dX13_neighbour_63 (by decide) (fun c_6 => ?_) (fun c_6 => ?_)
    · have c_6 : (D.1 14) ≤ (x - 1) := by have hc := c_6; rw [nI_le' (by omega) (by omega)] at hc; exact hc
      refine zs_iconst (v := (-1)) dX13_neighbour_83 (by decide) ?_
      refine zs_goto (tgt := 96) dX13_neighbour_84 (by decide) ?_
      refine zs_iret dX13_neighbour_96 rfl ⟨congrArg (fun v => some (Value.int v)) (nb_n ?_), rfl⟩
      exact decide_eq_false (by omega)
    · have c_6 : ¬ ((D.1 14) ≤ (x - 1)) := by have hc := c_6; rw [nI_le' (by omega) (by omega)] at hc; exact hc
      refine zs_iload dX13_neighbour_66 rfl ?_
      refine zs_if_lt (tgt := 83) dX13_neighbour_68 (by decide) (fun c_7 => ?_) (fun c_7 => ?_)
      · have c_7 : y < 0 := by have hc := c_7; rw [show (0 : Int32) = nI 0 from rfl] at hc; rw [nI_lt' (by omega) (by omega)] at hc; exact hc
        refine zs_iconst (v := (-1)) dX13_neighbour_83 (by decide) ?_
        refine zs_goto (tgt := 96) dX13_neighbour_84 (by decide) ?_
        refine zs_iret dX13_neighbour_96 rfl ⟨congrArg (fun v => some (Value.int v)) (nb_n ?_), rfl⟩
        exact decide_eq_false (by omega)
      · have c_7 : ¬ (y < 0) := by have hc := c_7; rw [show (0 : Int32) = nI 0 from rfl] at hc; rw [nI_lt' (by omega) (by omega)] at hc; exact hc
        refine zs_iload dX13_neighbour_71 rfl ?_
        refine zs_aload_n dX13_neighbour_73 rfl rfl ?_
        refine zs_get 0 dX13_neighbour_74 zf_RX13_13 rfl (v := .ref (e 14)) rfl ?_
        refine zs_bipush (v := nI 10) dX13_neighbour_77 (by decide) ?_
        refine zs_iald 1 dX13_neighbour_79 rfl (vp_in_nI (by omega) (by omega)) ?_
        refine zs_as (y := nI (D.1 15)) (by rw [nI_c (n := 10) (by omega)]; exact hR.2.2.2.2.2.2.2.2.2.2.1) ?_
        refine zs_icmp_lt (tgt := 87) dX13_neighbour_80 (by decide) (fun c_8 => ?_) (fun c_8 => ?_)
        · have c_8 : y < (D.1 15) := by have hc := c_8; rw [nI_lt' (by omega) (by omega)] at hc; exact hc
          refine zs_aload_n dX13_neighbour_87 rfl rfl ?_
          refine zs_callV (M := mX13_columns) (As := []) (st := []) (Kc := [(mo, .inr (11, fMo e g w)), ((e 14), .inl (0, 800, .inl nw))]) (Kr := []) [0, 1] [] 0 dX13_neighbour_88 zl_RX13_298 kX13_columns rfl rfl rfl rfl rfl (by decide) rfl rfl (show dd - 1 + 1 ≤ dd by omega) (Nat.zero_le _) (Nat.zero_le _) (Nat.le_of_ble_eq_true rfl) (s_mCols l (dd - 1) mo e g w nw D hR) (fun r K1 hr => ?_)
          obtain ⟨rfl, rfl⟩ := hr
          refine zs_K (K' := [(mo, .inr (11, fMo e g w)), ((e 14), .inl (0, 800, .inl nw))]) [0, 1] rfl (by decide) ?_
          refine zs_iload dX13_neighbour_91 rfl ?_
          refine zs_imul dX13_neighbour_93 ?_
          refine zs_as (y := nI ((D.1 14) * y)) (nI_mul _ _) ?_
          refine zs_iload_n dX13_neighbour_94 rfl ?_
          refine zs_iadd dX13_neighbour_95 ?_
          refine zs_as (y := nI (((D.1 14) * y) + (x - 1))) (nI_add _ _) ?_
          refine zs_iret dX13_neighbour_96 rfl ⟨congrArg (fun v => some (Value.int v)) (nb_y ?_ (congrArg nI ?_)), rfl⟩
          · exact decide_eq_true (by omega)
          · exact congrArg (· + (x - 1)) (Nat.mul_comm (D.1 14) y)
        · have c_8 : ¬ (y < (D.1 15)) := by have hc := c_8; rw [nI_lt' (by omega) (by omega)] at hc; exact hc
          refine zs_iconst (v := (-1)) dX13_neighbour_83 (by decide) ?_
          refine zs_goto (tgt := 96) dX13_neighbour_84 (by decide) ?_
          refine zs_iret dX13_neighbour_96 rfl ⟨congrArg (fun v => some (Value.int v)) (nb_n ?_), rfl⟩
          exact decide_eq_false (by omega)
set_option maxRecDepth 100000 in
theorem s_mNb3z (l : Launch) (dd : Nat) (mo : Nat) (e : Nat → Nat) (g : Nat → Int32) (w : Int64) (nw : Nat → Int32) (D : zYd) (y x : Nat) (hd : 1 ≤ dd) (hR : yR D nw) (hC : D.1 14 ≤ 8) (hRo : D.1 15 ≤ 8) (hx : x < D.1 14) (hy : y < D.1 15) (hq : x = 0) : zSp l mX13_neighbour dd 0 0 [.ref mo, .int (nI (y * D.1 14 + x)), .int (nI 3)] [(mo, .inr (11, fMo e g w)), ((e 14), .inl (0, 800, .inl nw))] (fun r K' => r = some (.int (nbR (D.1 14) (D.1 15) y x 3)) ∧ K' = [(mo, .inr (11, fMo e g w)), ((e 14), .inl (0, 800, .inl nw))]) := by
  refine zSp.of (by decide) (Nat.le_of_ble_eq_true rfl) (fun h0 => ?_)
  show zS _ 0 0 0 [(0, .ref mo), (1, .int (nI (y * D.1 14 + x))), (2, .int (nI 3))] [] [(mo, .inr (11, fMo e g w)), ((e 14), .inl (0, 800, .inl nw))]
  have hlt := yx_l hx hy
  have h64 : D.1 14 * D.1 15 ≤ 64 := Nat.mul_le_mul hC hRo
  refine zs_iload_n dX13_neighbour_0 rfl ?_
  refine zs_aload_n dX13_neighbour_1 rfl rfl ?_
  refine zs_callV (M := mX13_columns) (As := []) (st := [.int (nI (y * D.1 14 + x))]) (Kc := [(mo, .inr (11, fMo e g w)), ((e 14), .inl (0, 800, .inl nw))]) (Kr := []) [0, 1] [] 0 dX13_neighbour_2 zl_RX13_298 kX13_columns rfl rfl rfl rfl rfl (by decide) rfl rfl (show dd - 1 + 1 ≤ dd by omega) (Nat.zero_le _) (Nat.zero_le _) (Nat.le_of_ble_eq_true rfl) (s_mCols l (dd - 1) mo e g w nw D hR) (fun r K1 hr => ?_)
  obtain ⟨rfl, rfl⟩ := hr
  refine zs_K (K' := [(mo, .inr (11, fMo e g w)), ((e 14), .inl (0, 800, .inl nw))]) [0, 1] rfl (by decide) ?_
  refine zs_irem dX13_neighbour_5 (fun hz => by rw [show (0 : Int32) = nI 0 from rfl, nI_eq' (by omega) (by omega)] at hz; omega) ?_
  refine zs_as (y := nI x) ((nI_rem (by omega) (by omega) (by omega)).trans (congrArg nI (yx_m hx))) ?_
  refine zs_iload_n dX13_neighbour_6 rfl ?_
  refine zs_iconst (v := nI 1) dX13_neighbour_7 (by decide) ?_
  refine zs_icmp_ne (tgt := 15) dX13_neighbour_8 (by decide) (fun c_1 => ?_) (fun c_1 => (by first | exact absurd c_1 (by decide) | exact absurd (by decide) c_1 : False).elim)
  refine zs_iload_n dX13_neighbour_15 rfl ?_
  refine zs_iconst (v := nI 3) dX13_neighbour_16 (by decide) ?_
  refine zs_icmp_ne (tgt := 24) dX13_neighbour_17 (by decide) (fun c_2 => (by first | exact absurd c_2 (by decide) | exact absurd (by decide) c_2 : False).elim) (fun c_2 => ?_)
  refine zs_iconst (v := (-1)) dX13_neighbour_20 (by decide) ?_
  refine zs_goto (tgt := 25) dX13_neighbour_21 (by decide) ?_
  refine zs_iadd dX13_neighbour_25 ?_
  refine zs_as (y := (-1)) (by rw [hq]; rfl) ?_
  refine zs_istore_n (lv' := [(3, .int (-1)), (0, .ref mo), (1, .int (nI (y * D.1 14 + x))), (2, .int (nI 3))]) dX13_neighbour_26 (Nat.le_of_ble_eq_true rfl) rfl ?_
  refine zs_iload_n dX13_neighbour_27 rfl ?_
  refine zs_aload_n dX13_neighbour_28 rfl rfl ?_
  refine zs_callV (M := mX13_columns) (As := []) (st := [.int (nI (y * D.1 14 + x))]) (Kc := [(mo, .inr (11, fMo e g w)), ((e 14), .inl (0, 800, .inl nw))]) (Kr := []) [0, 1] [] 0 dX13_neighbour_29 zl_RX13_298 kX13_columns rfl rfl rfl rfl rfl (by decide) rfl rfl (show dd - 1 + 1 ≤ dd by omega) (Nat.zero_le _) (Nat.zero_le _) (Nat.le_of_ble_eq_true rfl) (s_mCols l (dd - 1) mo e g w nw D hR) (fun r K1 hr => ?_)
  obtain ⟨rfl, rfl⟩ := hr
  refine zs_K (K' := [(mo, .inr (11, fMo e g w)), ((e 14), .inl (0, 800, .inl nw))]) [0, 1] rfl (by decide) ?_
  refine zs_idiv dX13_neighbour_32 (fun hz => by rw [show (0 : Int32) = nI 0 from rfl, nI_eq' (by omega) (by omega)] at hz; omega) ?_
  refine zs_as (y := nI y) ((nI_div (by omega) (by omega) (by omega)).trans (congrArg nI (yx_d hx))) ?_
  refine zs_iload_n dX13_neighbour_33 rfl ?_
  refine zs_iconst (v := nI 2) dX13_neighbour_34 (by decide) ?_
  refine zs_icmp_ne (tgt := 42) dX13_neighbour_35 (by decide) (fun c_3 => ?_) (fun c_3 => (by first | exact absurd c_3 (by decide) | exact absurd (by decide) c_3 : False).elim)
  refine zs_iload_n dX13_neighbour_42 rfl ?_
  refine zs_if_ne (tgt := 50) dX13_neighbour_43 (by decide) (fun c_4 => ?_) (fun c_4 => (by first | exact absurd c_4 (by decide) | exact absurd (by decide) c_4 : False).elim)
  refine zs_iconst (v := nI 0) dX13_neighbour_50 (by decide) ?_
  refine zs_iadd dX13_neighbour_51 ?_
  refine zs_as (y := nI y) (nI_add y 0) ?_
  refine zs_istore (lv' := [(4, .int (nI y)), (3, .int (-1)), (0, .ref mo), (1, .int (nI (y * D.1 14 + x))), (2, .int (nI 3))]) dX13_neighbour_52 (Nat.le_of_ble_eq_true rfl) rfl ?_
  refine zs_iload_n dX13_neighbour_54 rfl ?_
  refine zs_if_lt (tgt := 83) dX13_neighbour_55 (by decide) (fun c_5 => ?_) (fun c_5 => (by first | exact absurd c_5 (by decide) | exact absurd (by decide) c_5 : False).elim)
  refine zs_iconst (v := (-1)) dX13_neighbour_83 (by decide) ?_
  refine zs_goto (tgt := 96) dX13_neighbour_84 (by decide) ?_
  refine zs_iret dX13_neighbour_96 rfl ⟨congrArg (fun v => some (Value.int v)) (nb_n ?_), rfl⟩
  exact decide_eq_false (by omega)
theorem s_mNb (l : Launch) (dd : Nat) (mo : Nat) (e : Nat → Nat) (g : Nat → Int32) (w : Int64) (nw : Nat → Int32) (D : zYd) (y x d : Nat) (hd : 1 ≤ dd) (hR : yR D nw) (hC : D.1 14 ≤ 8) (hRo : D.1 15 ≤ 8) (hx : x < D.1 14) (hy : y < D.1 15) (h4 : d < 4) : zSp l mX13_neighbour dd 0 0 [.ref mo, .int (nI (y * D.1 14 + x)), .int (nI d)] [(mo, .inr (11, fMo e g w)), ((e 14), .inl (0, 800, .inl nw))] (fun r K' => r = some (.int (nbR (D.1 14) (D.1 15) y x d)) ∧ K' = [(mo, .inr (11, fMo e g w)), ((e 14), .inl (0, 800, .inl nw))]) := by
  match d, h4 with
  | 0, _ => exact (Nat.eq_zero_or_pos y).elim (fun h => s_mNb0z l dd mo e g w nw D y x hd hR hC hRo hx hy h) (fun h => s_mNb0s l dd mo e g w nw D y x hd hR hC hRo hx hy h)
  | 1, _ => exact s_mNb1 l dd mo e g w nw D y x hd hR hC hRo hx hy
  | 2, _ => exact s_mNb2 l dd mo e g w nw D y x hd hR hC hRo hx hy
  | 3, _ => exact (Nat.eq_zero_or_pos x).elim (fun h => s_mNb3z l dd mo e g w nw D y x hd hR hC hRo hx hy h) (fun h => s_mNb3s l dd mo e g w nw D y x hd hR hC hRo hx hy h)
theorem nb_t {C R y x d : Nat} (h : ¬ nbR C R y x d = -1) : nbP C R y x d = true := by
  by_cases q : nbP C R y x d = true
  · exact q
  · exact absurd (if_neg q) h
theorem nb_f {C R y x d : Nat} (hl : nbU C y x d < 2147483648) (h : nbR C R y x d = -1) : ¬ nbP C R y x d = true := fun q => by
  rw [nbR, if_pos q] at h
  exact nI_ne1 hl h
theorem nb_e {C R y x d : Nat} (h : nbP C R y x d = true) : nbR C R y x d = nI (nbU C y x d) := if_pos h
theorem nbU_l {C R y x d : Nat} (hx : x < C) (hy : y < R) (h4 : d < 4) (h : nbP C R y x d = true) : nbU C y x d < C * R := by
  match d, h4 with
  | 0, _ => exact yx_l hx (show y - 1 < R by omega)
  | 1, _ => exact yx_l (of_decide_eq_true h) hy
  | 2, _ => exact yx_l hx (of_decide_eq_true h)
  | 3, _ => exact yx_l (show x - 1 < C by omega) hy
theorem nbU_s {C R y x d : Nat} (hC : C ≤ 8) (hR : R ≤ 8) (hx : x < C) (hy : y < R) : nbU C y x d < 2147483648 := by
  have h1 := Nat.mul_le_mul (show y + 1 ≤ 8 by omega) hC
  have h2 : (y + 1) * C = y * C + C := Nat.succ_mul y C
  have h3 : (y - 1) * C ≤ y * C := Nat.mul_le_mul_right C (Nat.sub_le y 1)
  unfold nbU
  split
  · omega
  · split
    · omega
    · split <;> omega
theorem hw_c {d : Nat} (h : d < 4) : (nI ((d + 2) % 4) + 2) - (nI ((d + 2) % 4) + 2) / 4 * 4 = nI d := by
  match d, h with
  | 0, _ => decide
  | 1, _ => decide
  | 2, _ => decide
  | 3, _ => decide
theorem hw_1 {wi : Int32} {d : Nat} (h : d < 4) (hw : wi = -1) : nI 1 = pWind wi (nI ((d + 2) % 4)) := by
  subst hw
  match d, h with
  | 0, _ => decide
  | 1, _ => decide
  | 2, _ => decide
  | 3, _ => decide
theorem hw_2 {wi : Int32} {d : Nat} (hw : wi = nI ((d + 2) % 4)) : nI 2 = pWind wi (nI ((d + 2) % 4)) := (if_pos hw).symm
theorem hw_0 {wi : Int32} {d : Nat} (h : d < 4) (h1 : ¬ wi = nI ((d + 2) % 4)) (hw : wi = nI d) : nI 0 = pWind wi (nI ((d + 2) % 4)) := ((if_neg h1).trans (if_pos (hw.trans (hw_c h).symm))).symm
theorem hw_e {wi : Int32} {d : Nat} (h : d < 4) (h1 : ¬ wi = nI ((d + 2) % 4)) (hw : ¬ wi = nI d) : nI 1 = pWind wi (nI ((d + 2) % 4)) := ((if_neg h1).trans (if_neg (fun q => hw (q.trans (hw_c h))))).symm
/-- the heat from the first d sides -/
def hSm (C R : Nat) (wi : Int32) (fu bu : Nat → Int32) (y x : Nat) : Nat → Int32
  | 0 => nI 0
  | d + 1 => hSm C R wi fu bu y x d + tm fu bu (nbP C R y x d) (nbU C y x d) (C * R) (pWind wi (nI ((d + 2) % 4)))
section
variable {C R : Nat} {wi : Int32} {fu bu : Nat → Int32} {y x d : Nat}
theorem hSm_f (h : ¬ nbP C R y x d = true) : hSm C R wi fu bu y x d = hSm C R wi fu bu y x (d + 1) := by
  rw [hSm, tm, if_neg (fun z => h z.1), Int32.add_zero]
theorem hSm_b (h : bu (nbU C y x d) = 0) : hSm C R wi fu bu y x d = hSm C R wi fu bu y x (d + 1) := by
  rw [hSm, tm, if_neg (fun z => z.2.2 h), Int32.add_zero]
theorem hSm_y {w : Int32} (h : nbP C R y x d = true) (h2 : nbU C y x d < C * R) (h3 : ¬ bu (nbU C y x d) = 0) (hw : w = pWind wi (nI ((d + 2) % 4))) : hSm C R wi fu bu y x d + w * fu (nbU C y x d) = hSm C R wi fu bu y x (d + 1) := by
  rw [hSm, tm, if_pos ⟨h, h2, h3⟩, hw, Int32.mul_comm]
theorem hSm_4 (hx : x < C) (hy : y < R) : hSm C R wi fu bu y x 4 = pH0 C R wi fu bu (y * C + x) := by
  rw [heat_c hy hx]
  show (nI 0 + tm fu bu (nbP C R y x 0) (nbU C y x 0) (C * R) (pWind wi (nI 2)) + tm fu bu (nbP C R y x 1) (nbU C y x 1) (C * R) (pWind wi (nI 3)) + tm fu bu (nbP C R y x 2) (nbU C y x 2) (C * R) (pWind wi (nI 0)) + tm fu bu (nbP C R y x 3) (nbU C y x 3) (C * R) (pWind wi (nI 1))) = _
  rw [show (nI 0 : Int32) = 0 from rfl, Int32.zero_add]
  rfl
end
/-- a cell's heat; that of what burns or has nothing left counts as 0 -/
def hO (C R : Nat) (wi : Int32) (fu bu : Nat → Int32) (y x : Nat) : Int32 := if bu (y * C + x) = nI 1 then nI 0 else if fu (y * C + x) = 0 then nI 0 else hSm C R wi fu bu y x 4
set_option maxRecDepth 100000 in
theorem lp_heat {l : Launch} {dd : Nat} {Po : zPo} {K0 : zK} {h0 : List va_E} {Xo : zK → Prop} {Gc : zG → Prop} (mo : Nat) (e : Nat → Nat) (g : Nat → Int32) (w : Int64) (nw : Nat → Int32) (D : zYd) (p q N B : Nat) (ff fb : Nat → Int32) (y x : Nat) (hd : 2 ≤ dd) (hR : yR D nw) (hC : D.1 14 ≤ 8) (hRo : D.1 15 ≤ 8) (hx : x < D.1 14) (hy : y < D.1 15) (hN : B + 64 ≤ N) (hN2 : N < 2147483648)
    (hk : zS (l, mX13_heatOf, dd, Po, K0, h0, Xo, Gc) 0 0 136 [(5, .int (hSm (D.1 14) (D.1 15) D.2.1 (fun j => ff (B + j)) (fun j => fb (B + j)) y x 4))] [] [(mo, .inr (11, fMo e g w)), ((e 14), .inl (0, 800, .inl nw)), (p, .inl (0, N, .inl ff)), (q, .inl (0, N, .inl fb))]) :
    ∀ (m i : Nat) , i + m = 4 → zS (l, mX13_heatOf, dd, Po, K0, h0, Xo, Gc) 0 0 27 [(0, .ref mo), (1, .int (nI (y * D.1 14 + x))), (2, .ref p), (3, .ref q), (4, .int (nI B)), (5, .int (hSm (D.1 14) (D.1 15) D.2.1 (fun j => ff (B + j)) (fun j => fb (B + j)) y x i)), (6, .int (nI i))] [] [(mo, .inr (11, fMo e g w)), ((e 14), .inl (0, 800, .inl nw)), (p, .inl (0, N, .inl ff)), (q, .inl (0, N, .inl fb))] := by
  intro m
  induction m with
  | zero =>
    intro i hi
    refine zs_iload dX13_heatOf_27 rfl ?_
    refine zs_iconst (v := nI 4) dX13_heatOf_29 (by decide) ?_
    refine zs_icmp_ge (tgt := 136) dX13_heatOf_30 (by decide) (fun c_1 => ?_) (fun c_1 => (c_1 (by rw [show i = 4 by omega]; exact Int32.le_refl _) : False).elim)
    rw [show i = 4 by omega]
    refine zs_lv [5] rfl ?_
    exact hk
  | succ m ih =>
    intro i hi
    have hlt := yx_l hx hy
    have h64 : D.1 14 * D.1 15 ≤ 64 := Nat.mul_le_mul hC hRo
    refine zs_iload dX13_heatOf_27 rfl ?_
    refine zs_iconst (v := nI 4) dX13_heatOf_29 (by decide) ?_
    refine zs_icmp_ge (tgt := 136) dX13_heatOf_30 (by decide) (fun c_1 => (nI_ge (show i < 4 by omega) (by omega) c_1 : False).elim) (fun c_1 => ?_)
    refine zs_aload_n dX13_heatOf_33 rfl rfl ?_
    refine zs_iload_n dX13_heatOf_34 rfl ?_
    refine zs_iload dX13_heatOf_35 rfl ?_
    refine zs_callV (M := mX13_neighbour) (As := [.int (nI (y * D.1 14 + x)), .int (nI i)]) (st := []) (Kc := [(mo, .inr (11, fMo e g w)), ((e 14), .inl (0, 800, .inl nw))]) (Kr := [(p, .inl (0, N, .inl ff)), (q, .inl (0, N, .inl fb))]) [0, 1] [2, 3] 0 dX13_heatOf_37 zl_RX13_429 kX13_neighbour rfl rfl rfl rfl rfl (by decide) rfl rfl (show dd - 1 + 1 ≤ dd by omega) (Nat.zero_le _) (Nat.zero_le _) (Nat.le_of_ble_eq_true rfl) (s_mNb l (dd - 1) mo e g w nw D y x i (by omega) hR hC hRo hx hy (by omega)) (fun r K1 hr => ?_)
    obtain ⟨rfl, rfl⟩ := hr
    refine zs_K (K' := [(mo, .inr (11, fMo e g w)), ((e 14), .inl (0, 800, .inl nw)), (p, .inl (0, N, .inl ff)), (q, .inl (0, N, .inl fb))]) [2, 3, 0, 1] rfl (by decide) ?_
    refine zs_istore (lv' := [(7, .int (nbR (D.1 14) (D.1 15) y x i)), (0, .ref mo), (1, .int (nI (y * D.1 14 + x))), (2, .ref p), (3, .ref q), (4, .int (nI B)), (5, .int (hSm (D.1 14) (D.1 15) D.2.1 (fun j => ff (B + j)) (fun j => fb (B + j)) y x i)), (6, .int (nI i))]) dX13_heatOf_40 (Nat.le_of_ble_eq_true rfl) rfl ?_
    refine zs_iload dX13_heatOf_42 rfl ?_
    refine zs_iconst (v := (-1)) dX13_heatOf_44 (by decide) ?_
    refine zs_icmp_eq (tgt := 130) dX13_heatOf_45 (by decide) (fun c_2 => ?_) (fun c_2 => ?_)
    · have hnP := nb_f (nbU_s hC hRo hx hy) c_2
      refine zs_iinc (v := (nI (i + 1))) (lv' := [(6, .int (nI (i + 1))), (7, .int (nbR (D.1 14) (D.1 15) y x i)), (0, .ref mo), (1, .int (nI (y * D.1 14 + x))), (2, .ref p), (3, .ref q), (4, .int (nI B)), (5, .int (hSm (D.1 14) (D.1 15) D.2.1 (fun j => ff (B + j)) (fun j => fb (B + j)) y x i))]) dX13_heatOf_130 rfl (nI_add _ 1) (Nat.le_of_ble_eq_true rfl) rfl ?_
      refine zs_goto (tgt := 27) dX13_heatOf_133 (by decide) ?_
      rw [show (hSm (D.1 14) (D.1 15) D.2.1 (fun j => ff (B + j)) (fun j => fb (B + j)) y x i) = (hSm (D.1 14) (D.1 15) D.2.1 (fun j => ff (B + j)) (fun j => fb (B + j)) y x (i + 1)) from hSm_f hnP]
      refine zs_lv [2, 3, 4, 5, 6, 7, 0] rfl ?_
      exact ih (i + 1) (by omega)
    · have hP := nb_t c_2
      have hu := nbU_l hx hy (by omega) hP
      rw [nb_e hP]
      refine zs_aload_n dX13_heatOf_48 rfl rfl ?_
      refine zs_iload dX13_heatOf_49 rfl ?_
      refine zs_iload dX13_heatOf_51 rfl ?_
      refine zs_iadd dX13_heatOf_53 ?_
      refine zs_as (y := nI (B + (nbU (D.1 14) y x i))) (nI_add _ _) ?_
      refine zs_iald 3 dX13_heatOf_54 rfl (vp_in_nI (by omega) (by omega)) ?_
      refine zs_as (y := fb (B + (nbU (D.1 14) y x i))) (by rw [nI_c (n := B + (nbU (D.1 14) y x i)) (by omega)]) ?_
      refine zs_if_ne (tgt := 61) dX13_heatOf_55 (by decide) (fun c_3 => ?_) (fun c_3 => ?_)
      · have hwarm := c_3
        refine zs_aload_n dX13_heatOf_61 rfl rfl ?_
        refine zs_get 0 dX13_heatOf_62 zf_RX13_13 rfl (v := .ref (e 14)) rfl ?_
        refine zs_bipush (v := nI 11) dX13_heatOf_65 (by decide) ?_
        refine zs_iald 1 dX13_heatOf_67 rfl (vp_in_nI (by omega) (by omega)) ?_
        refine zs_as (y := D.2.1) (by rw [nI_c (n := 11) (by omega)]; exact hR.2.2.2.2.2.2.2.2.2.2.2.1) ?_
        refine zs_iconst (v := (-1)) dX13_heatOf_68 (by decide) ?_
        refine zs_icmp_ne (tgt := 76) dX13_heatOf_69 (by decide) (fun c_4 => ?_) (fun c_4 => ?_)
        · have hw1n := c_4
          refine zs_aload_n dX13_heatOf_76 rfl rfl ?_
          refine zs_get 0 dX13_heatOf_77 zf_RX13_13 rfl (v := .ref (e 14)) rfl ?_
          refine zs_bipush (v := nI 11) dX13_heatOf_80 (by decide) ?_
          refine zs_iald 1 dX13_heatOf_82 rfl (vp_in_nI (by omega) (by omega)) ?_
          refine zs_as (y := D.2.1) (by rw [nI_c (n := 11) (by omega)]; exact hR.2.2.2.2.2.2.2.2.2.2.2.1) ?_
          refine zs_iload dX13_heatOf_83 rfl ?_
          refine zs_iconst (v := nI 2) dX13_heatOf_85 (by decide) ?_
          refine zs_iadd dX13_heatOf_86 ?_
          refine zs_as (y := nI (i + 2)) (nI_add _ _) ?_
          refine zs_iconst (v := nI 4) dX13_heatOf_87 (by decide) ?_
          refine zs_irem dX13_heatOf_88 (fun hz => by rw [show (0 : Int32) = nI 0 from rfl, nI_eq' (by omega) (by omega)] at hz; omega) ?_
          refine zs_as (y := nI ((i + 2) % 4)) (nI_rem (by omega) (by omega) (by omega)) ?_
          refine zs_icmp_ne (tgt := 96) dX13_heatOf_89 (by decide) (fun c_5 => ?_) (fun c_5 => ?_)
          · have hw2 := c_5
            refine zs_aload_n dX13_heatOf_96 rfl rfl ?_
            refine zs_get 0 dX13_heatOf_97 zf_RX13_13 rfl (v := .ref (e 14)) rfl ?_
            refine zs_bipush (v := nI 11) dX13_heatOf_100 (by decide) ?_
            refine zs_iald 1 dX13_heatOf_102 rfl (vp_in_nI (by omega) (by omega)) ?_
            refine zs_as (y := D.2.1) (by rw [nI_c (n := 11) (by omega)]; exact hR.2.2.2.2.2.2.2.2.2.2.2.1) ?_
            refine zs_iload dX13_heatOf_103 rfl ?_
            refine zs_icmp_ne (tgt := 112) dX13_heatOf_105 (by decide) (fun c_6 => ?_) (fun c_6 => ?_)
            · have hw0 := c_6
              refine zs_iconst (v := nI 1) dX13_heatOf_112 (by decide) ?_
              refine zs_istore (lv' := [(8, .int (nI 1)), (7, .int (nI (nbU (D.1 14) y x i))), (0, .ref mo), (1, .int (nI (y * D.1 14 + x))), (2, .ref p), (3, .ref q), (4, .int (nI B)), (5, .int (hSm (D.1 14) (D.1 15) D.2.1 (fun j => ff (B + j)) (fun j => fb (B + j)) y x i)), (6, .int (nI i))]) dX13_heatOf_113 (Nat.le_of_ble_eq_true rfl) rfl ?_
              refine zs_iload dX13_heatOf_115 rfl ?_
              refine zs_iload dX13_heatOf_117 rfl ?_
              refine zs_aload_n dX13_heatOf_119 rfl rfl ?_
              refine zs_iload dX13_heatOf_120 rfl ?_
              refine zs_iload dX13_heatOf_122 rfl ?_
              refine zs_iadd dX13_heatOf_124 ?_
              refine zs_as (y := nI (B + (nbU (D.1 14) y x i))) (nI_add _ _) ?_
              refine zs_iald 2 dX13_heatOf_125 rfl (vp_in_nI (by omega) (by omega)) ?_
              refine zs_as (y := ff (B + (nbU (D.1 14) y x i))) (by rw [nI_c (n := B + (nbU (D.1 14) y x i)) (by omega)]) ?_
              refine zs_imul dX13_heatOf_126 ?_
              refine zs_iadd dX13_heatOf_127 ?_
              refine zs_istore (lv' := [(5, .int ((hSm (D.1 14) (D.1 15) D.2.1 (fun j => ff (B + j)) (fun j => fb (B + j)) y x i) + ((nI 1) * (ff (B + (nbU (D.1 14) y x i)))))), (8, .int (nI 1)), (7, .int (nI (nbU (D.1 14) y x i))), (0, .ref mo), (1, .int (nI (y * D.1 14 + x))), (2, .ref p), (3, .ref q), (4, .int (nI B)), (6, .int (nI i))]) dX13_heatOf_128 (Nat.le_of_ble_eq_true rfl) rfl ?_
              refine zs_iinc (v := (nI (i + 1))) (lv' := [(6, .int (nI (i + 1))), (5, .int ((hSm (D.1 14) (D.1 15) D.2.1 (fun j => ff (B + j)) (fun j => fb (B + j)) y x i) + ((nI 1) * (ff (B + (nbU (D.1 14) y x i)))))), (8, .int (nI 1)), (7, .int (nI (nbU (D.1 14) y x i))), (0, .ref mo), (1, .int (nI (y * D.1 14 + x))), (2, .ref p), (3, .ref q), (4, .int (nI B))]) dX13_heatOf_130 rfl (nI_add _ 1) (Nat.le_of_ble_eq_true rfl) rfl ?_
              refine zs_goto (tgt := 27) dX13_heatOf_133 (by decide) ?_
              rw [show (hSm (D.1 14) (D.1 15) D.2.1 (fun j => ff (B + j)) (fun j => fb (B + j)) y x i) + ((nI 1) * (ff (B + (nbU (D.1 14) y x i)))) = (hSm (D.1 14) (D.1 15) D.2.1 (fun j => ff (B + j)) (fun j => fb (B + j)) y x (i + 1)) from hSm_y (fu := (fun j => ff (B + j))) (bu := (fun j => fb (B + j))) hP hu hwarm (hw_e (by omega) hw2 hw0)]
              refine zs_lv [4, 5, 6, 7, 8, 1, 0] rfl ?_
              exact ih (i + 1) (by omega)
            · have hw0 := c_6
              refine zs_iconst (v := nI 0) dX13_heatOf_108 (by decide) ?_
              refine zs_goto (tgt := 113) dX13_heatOf_109 (by decide) ?_
              refine zs_istore (lv' := [(8, .int (nI 0)), (7, .int (nI (nbU (D.1 14) y x i))), (0, .ref mo), (1, .int (nI (y * D.1 14 + x))), (2, .ref p), (3, .ref q), (4, .int (nI B)), (5, .int (hSm (D.1 14) (D.1 15) D.2.1 (fun j => ff (B + j)) (fun j => fb (B + j)) y x i)), (6, .int (nI i))]) dX13_heatOf_113 (Nat.le_of_ble_eq_true rfl) rfl ?_
              refine zs_iload dX13_heatOf_115 rfl ?_
              refine zs_iload dX13_heatOf_117 rfl ?_
              refine zs_aload_n dX13_heatOf_119 rfl rfl ?_
              refine zs_iload dX13_heatOf_120 rfl ?_
              refine zs_iload dX13_heatOf_122 rfl ?_
              refine zs_iadd dX13_heatOf_124 ?_
              refine zs_as (y := nI (B + (nbU (D.1 14) y x i))) (nI_add _ _) ?_
              refine zs_iald 2 dX13_heatOf_125 rfl (vp_in_nI (by omega) (by omega)) ?_
              refine zs_as (y := ff (B + (nbU (D.1 14) y x i))) (by rw [nI_c (n := B + (nbU (D.1 14) y x i)) (by omega)]) ?_
              refine zs_imul dX13_heatOf_126 ?_
              refine zs_iadd dX13_heatOf_127 ?_
              refine zs_istore (lv' := [(5, .int ((hSm (D.1 14) (D.1 15) D.2.1 (fun j => ff (B + j)) (fun j => fb (B + j)) y x i) + ((nI 0) * (ff (B + (nbU (D.1 14) y x i)))))), (8, .int (nI 0)), (7, .int (nI (nbU (D.1 14) y x i))), (0, .ref mo), (1, .int (nI (y * D.1 14 + x))), (2, .ref p), (3, .ref q), (4, .int (nI B)), (6, .int (nI i))]) dX13_heatOf_128 (Nat.le_of_ble_eq_true rfl) rfl ?_
              refine zs_iinc (v := (nI (i + 1))) (lv' := [(6, .int (nI (i + 1))), (5, .int ((hSm (D.1 14) (D.1 15) D.2.1 (fun j => ff (B + j)) (fun j => fb (B + j)) y x i) + ((nI 0) * (ff (B + (nbU (D.1 14) y x i)))))), (8, .int (nI 0)), (7, .int (nI (nbU (D.1 14) y x i))), (0, .ref mo), (1, .int (nI (y * D.1 14 + x))), (2, .ref p), (3, .ref q), (4, .int (nI B))]) dX13_heatOf_130 rfl (nI_add _ 1) (Nat.le_of_ble_eq_true rfl) rfl ?_
              refine zs_goto (tgt := 27) dX13_heatOf_133 (by decide) ?_
              rw [show (hSm (D.1 14) (D.1 15) D.2.1 (fun j => ff (B + j)) (fun j => fb (B + j)) y x i) + ((nI 0) * (ff (B + (nbU (D.1 14) y x i)))) = (hSm (D.1 14) (D.1 15) D.2.1 (fun j => ff (B + j)) (fun j => fb (B + j)) y x (i + 1)) from hSm_y (fu := (fun j => ff (B + j))) (bu := (fun j => fb (B + j))) hP hu hwarm (hw_0 (by omega) hw2 hw0)]
              refine zs_lv [4, 5, 6, 7, 8, 1, 0] rfl ?_
              exact ih (i + 1) (by omega)
          · have hw2 := c_5
            refine zs_iconst (v := nI 2) dX13_heatOf_92 (by decide) ?_
            refine zs_goto (tgt := 113) dX13_heatOf_93 (by decide) ?_
            refine zs_istore (lv' := [(8, .int (nI 2)), (7, .int (nI (nbU (D.1 14) y x i))), (0, .ref mo), (1, .int (nI (y * D.1 14 + x))), (2, .ref p), (3, .ref q), (4, .int (nI B)), (5, .int (hSm (D.1 14) (D.1 15) D.2.1 (fun j => ff (B + j)) (fun j => fb (B + j)) y x i)), (6, .int (nI i))]) dX13_heatOf_113 (Nat.le_of_ble_eq_true rfl) rfl ?_
            refine zs_iload dX13_heatOf_115 rfl ?_
            refine zs_iload dX13_heatOf_117 rfl ?_
            refine zs_aload_n dX13_heatOf_119 rfl rfl ?_
            refine zs_iload dX13_heatOf_120 rfl ?_
            refine zs_iload dX13_heatOf_122 rfl ?_
            refine zs_iadd dX13_heatOf_124 ?_
            refine zs_as (y := nI (B + (nbU (D.1 14) y x i))) (nI_add _ _) ?_
            refine zs_iald 2 dX13_heatOf_125 rfl (vp_in_nI (by omega) (by omega)) ?_
            refine zs_as (y := ff (B + (nbU (D.1 14) y x i))) (by rw [nI_c (n := B + (nbU (D.1 14) y x i)) (by omega)]) ?_
            refine zs_imul dX13_heatOf_126 ?_
            refine zs_iadd dX13_heatOf_127 ?_
            refine zs_istore (lv' := [(5, .int ((hSm (D.1 14) (D.1 15) D.2.1 (fun j => ff (B + j)) (fun j => fb (B + j)) y x i) + ((nI 2) * (ff (B + (nbU (D.1 14) y x i)))))), (8, .int (nI 2)), (7, .int (nI (nbU (D.1 14) y x i))), (0, .ref mo), (1, .int (nI (y * D.1 14 + x))), (2, .ref p), (3, .ref q), (4, .int (nI B)), (6, .int (nI i))]) dX13_heatOf_128 (Nat.le_of_ble_eq_true rfl) rfl ?_
            refine zs_iinc (v := (nI (i + 1))) (lv' := [(6, .int (nI (i + 1))), (5, .int ((hSm (D.1 14) (D.1 15) D.2.1 (fun j => ff (B + j)) (fun j => fb (B + j)) y x i) + ((nI 2) * (ff (B + (nbU (D.1 14) y x i)))))), (8, .int (nI 2)), (7, .int (nI (nbU (D.1 14) y x i))), (0, .ref mo), (1, .int (nI (y * D.1 14 + x))), (2, .ref p), (3, .ref q), (4, .int (nI B))]) dX13_heatOf_130 rfl (nI_add _ 1) (Nat.le_of_ble_eq_true rfl) rfl ?_
            refine zs_goto (tgt := 27) dX13_heatOf_133 (by decide) ?_
            rw [show (hSm (D.1 14) (D.1 15) D.2.1 (fun j => ff (B + j)) (fun j => fb (B + j)) y x i) + ((nI 2) * (ff (B + (nbU (D.1 14) y x i)))) = (hSm (D.1 14) (D.1 15) D.2.1 (fun j => ff (B + j)) (fun j => fb (B + j)) y x (i + 1)) from hSm_y (fu := (fun j => ff (B + j))) (bu := (fun j => fb (B + j))) hP hu hwarm (hw_2 hw2)]
            refine zs_lv [4, 5, 6, 7, 8, 1, 0] rfl ?_
            exact ih (i + 1) (by omega)
        · have hw1 := c_4
          refine zs_iconst (v := nI 1) dX13_heatOf_72 (by decide) ?_
          refine zs_goto (tgt := 113) dX13_heatOf_73 (by decide) ?_
          refine zs_istore (lv' := [(8, .int (nI 1)), (7, .int (nI (nbU (D.1 14) y x i))), (0, .ref mo), (1, .int (nI (y * D.1 14 + x))), (2, .ref p), (3, .ref q), (4, .int (nI B)), (5, .int (hSm (D.1 14) (D.1 15) D.2.1 (fun j => ff (B + j)) (fun j => fb (B + j)) y x i)), (6, .int (nI i))]) dX13_heatOf_113 (Nat.le_of_ble_eq_true rfl) rfl ?_
          refine zs_iload dX13_heatOf_115 rfl ?_
          refine zs_iload dX13_heatOf_117 rfl ?_
          refine zs_aload_n dX13_heatOf_119 rfl rfl ?_
          refine zs_iload dX13_heatOf_120 rfl ?_
          refine zs_iload dX13_heatOf_122 rfl ?_
          refine zs_iadd dX13_heatOf_124 ?_
          refine zs_as (y := nI (B + (nbU (D.1 14) y x i))) (nI_add _ _) ?_
          refine zs_iald 2 dX13_heatOf_125 rfl (vp_in_nI (by omega) (by omega)) ?_
          refine zs_as (y := ff (B + (nbU (D.1 14) y x i))) (by rw [nI_c (n := B + (nbU (D.1 14) y x i)) (by omega)]) ?_
          refine zs_imul dX13_heatOf_126 ?_
          refine zs_iadd dX13_heatOf_127 ?_
          refine zs_istore (lv' := [(5, .int ((hSm (D.1 14) (D.1 15) D.2.1 (fun j => ff (B + j)) (fun j => fb (B + j)) y x i) + ((nI 1) * (ff (B + (nbU (D.1 14) y x i)))))), (8, .int (nI 1)), (7, .int (nI (nbU (D.1 14) y x i))), (0, .ref mo), (1, .int (nI (y * D.1 14 + x))), (2, .ref p), (3, .ref q), (4, .int (nI B)), (6, .int (nI i))]) dX13_heatOf_128 (Nat.le_of_ble_eq_true rfl) rfl ?_
          refine zs_iinc (v := (nI (i + 1))) (lv' := [(6, .int (nI (i + 1))), (5, .int ((hSm (D.1 14) (D.1 15) D.2.1 (fun j => ff (B + j)) (fun j => fb (B + j)) y x i) + ((nI 1) * (ff (B + (nbU (D.1 14) y x i)))))), (8, .int (nI 1)), (7, .int (nI (nbU (D.1 14) y x i))), (0, .ref mo), (1, .int (nI (y * D.1 14 + x))), (2, .ref p), (3, .ref q), (4, .int (nI B))]) dX13_heatOf_130 rfl (nI_add _ 1) (Nat.le_of_ble_eq_true rfl) rfl ?_
          refine zs_goto (tgt := 27) dX13_heatOf_133 (by decide) ?_
          rw [show (hSm (D.1 14) (D.1 15) D.2.1 (fun j => ff (B + j)) (fun j => fb (B + j)) y x i) + ((nI 1) * (ff (B + (nbU (D.1 14) y x i)))) = (hSm (D.1 14) (D.1 15) D.2.1 (fun j => ff (B + j)) (fun j => fb (B + j)) y x (i + 1)) from hSm_y (fu := (fun j => ff (B + j))) (bu := (fun j => fb (B + j))) hP hu hwarm (hw_1 (by omega) hw1)]
          refine zs_lv [4, 5, 6, 7, 8, 1, 0] rfl ?_
          exact ih (i + 1) (by omega)
      · have hcold := c_3
        refine zs_goto (tgt := 130) dX13_heatOf_58 (by decide) ?_
        refine zs_iinc (v := (nI (i + 1))) (lv' := [(6, .int (nI (i + 1))), (7, .int (nI (nbU (D.1 14) y x i))), (0, .ref mo), (1, .int (nI (y * D.1 14 + x))), (2, .ref p), (3, .ref q), (4, .int (nI B)), (5, .int (hSm (D.1 14) (D.1 15) D.2.1 (fun j => ff (B + j)) (fun j => fb (B + j)) y x i))]) dX13_heatOf_130 rfl (nI_add _ 1) (Nat.le_of_ble_eq_true rfl) rfl ?_
        refine zs_goto (tgt := 27) dX13_heatOf_133 (by decide) ?_
        rw [show (hSm (D.1 14) (D.1 15) D.2.1 (fun j => ff (B + j)) (fun j => fb (B + j)) y x i) = (hSm (D.1 14) (D.1 15) D.2.1 (fun j => ff (B + j)) (fun j => fb (B + j)) y x (i + 1)) from hSm_b (bu := (fun j => fb (B + j))) hcold]
        refine zs_lv [2, 3, 4, 5, 6, 7, 0] rfl ?_
        exact ih (i + 1) (by omega)
set_option maxRecDepth 100000 in
theorem s_mHeatOf (l : Launch) (dd : Nat) (mo : Nat) (e : Nat → Nat) (g : Nat → Int32) (w : Int64) (nw : Nat → Int32) (D : zYd) (p q N B : Nat) (ff fb : Nat → Int32) (y x : Nat) (hd : 2 ≤ dd) (hR : yR D nw) (hC : D.1 14 ≤ 8) (hRo : D.1 15 ≤ 8) (hx : x < D.1 14) (hy : y < D.1 15) (hN : B + 64 ≤ N) (hN2 : N < 2147483648) : zSp l mX13_heatOf dd 0 0 [.ref mo, .int (nI (y * D.1 14 + x)), .ref p, .ref q, .int (nI B)] [(mo, .inr (11, fMo e g w)), ((e 14), .inl (0, 800, .inl nw)), (p, .inl (0, N, .inl ff)), (q, .inl (0, N, .inl fb))] (fun r K' => r = some (.int (hO (D.1 14) (D.1 15) D.2.1 (fun j => ff (B + j)) (fun j => fb (B + j)) y x)) ∧ K' = [(mo, .inr (11, fMo e g w)), ((e 14), .inl (0, 800, .inl nw)), (p, .inl (0, N, .inl ff)), (q, .inl (0, N, .inl fb))]) := by
  refine zSp.of (by decide) (Nat.le_of_ble_eq_true rfl) (fun h0 => ?_)
  show zS _ 0 0 0 [(0, .ref mo), (1, .int (nI (y * D.1 14 + x))), (2, .ref p), (3, .ref q), (4, .int (nI B))] [] [(mo, .inr (11, fMo e g w)), ((e 14), .inl (0, 800, .inl nw)), (p, .inl (0, N, .inl ff)), (q, .inl (0, N, .inl fb))]
  have hlt := yx_l hx hy
  have h64 : D.1 14 * D.1 15 ≤ 64 := Nat.mul_le_mul hC hRo
  refine zs_aload_n dX13_heatOf_0 rfl rfl ?_
  refine zs_iload dX13_heatOf_1 rfl ?_
  refine zs_iload_n dX13_heatOf_3 rfl ?_
  refine zs_iadd dX13_heatOf_4 ?_
  refine zs_as (y := nI (B + (y * D.1 14 + x))) (nI_add _ _) ?_
  refine zs_iald 3 dX13_heatOf_5 rfl (vp_in_nI (by omega) (by omega)) ?_
  refine zs_as (y := fb (B + (y * D.1 14 + x))) (by rw [nI_c (n := B + (y * D.1 14 + x)) (by omega)]) ?_
  refine zs_iconst (v := nI 1) dX13_heatOf_6 (by decide) ?_
  refine zs_icmp_eq (tgt := 19) dX13_heatOf_7 (by decide) (fun c_1 => ?_) (fun c_1 => ?_)
  · have hb1 := c_1
    refine zs_iconst (v := nI 0) dX13_heatOf_19 (by decide) ?_
    exact zs_iret dX13_heatOf_20 rfl ⟨congrArg (fun v => some (Value.int v)) (by rw [hO, if_pos hb1]), rfl⟩
  · have hb1 := c_1
    refine zs_aload_n dX13_heatOf_10 rfl rfl ?_
    refine zs_iload dX13_heatOf_11 rfl ?_
    refine zs_iload_n dX13_heatOf_13 rfl ?_
    refine zs_iadd dX13_heatOf_14 ?_
    refine zs_as (y := nI (B + (y * D.1 14 + x))) (nI_add _ _) ?_
    refine zs_iald 2 dX13_heatOf_15 rfl (vp_in_nI (by omega) (by omega)) ?_
    refine zs_as (y := ff (B + (y * D.1 14 + x))) (by rw [nI_c (n := B + (y * D.1 14 + x)) (by omega)]) ?_
    refine zs_if_ne (tgt := 21) dX13_heatOf_16 (by decide) (fun c_2 => ?_) (fun c_2 => ?_)
    · have hf0 := c_2
      refine zs_iconst (v := nI 0) dX13_heatOf_21 (by decide) ?_
      refine zs_istore (lv' := [(5, .int (nI 0)), (0, .ref mo), (1, .int (nI (y * D.1 14 + x))), (2, .ref p), (3, .ref q), (4, .int (nI B))]) dX13_heatOf_22 (Nat.le_of_ble_eq_true rfl) rfl ?_
      refine zs_iconst (v := nI 0) dX13_heatOf_24 (by decide) ?_
      refine zs_istore (lv' := [(6, .int (nI 0)), (5, .int (nI 0)), (0, .ref mo), (1, .int (nI (y * D.1 14 + x))), (2, .ref p), (3, .ref q), (4, .int (nI B))]) dX13_heatOf_25 (Nat.le_of_ble_eq_true rfl) rfl ?_
      refine zs_lv [2, 3, 4, 5, 6, 1, 0] rfl ?_
      refine lp_heat mo e g w nw D p q N B ff fb y x hd hR hC hRo hx hy hN hN2 ?_ 4 0 (Nat.zero_add 4)
      refine zs_iload (i := 5) dX13_heatOf_136 rfl ?_
      exact zs_iret dX13_heatOf_138 rfl ⟨congrArg (fun v => some (Value.int v)) (by rw [hO, if_neg hb1, if_neg hf0]), rfl⟩
    · have hf0 := c_2
      refine zs_iconst (v := nI 0) dX13_heatOf_19 (by decide) ?_
      exact zs_iret dX13_heatOf_20 rfl ⟨congrArg (fun v => some (Value.int v)) (by rw [hO, if_neg hb1, if_pos hf0]), rfl⟩
