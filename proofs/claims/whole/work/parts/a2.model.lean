/-! ===== the reference: one of a sentence ===== -/
theorem mFr_9 {g g2 : Nat → Int32} {v : Int32} (h : mFr [5, 6, 7, 8, 9, 13, 87, 88, 89, 90] g g2) (hv : g 89 = v) : mFr [5, 6, 7, 8, 9, 13, 87, 88, 90] g (upd g2 89 v) := fun j hj => by
  by_cases h9 : j = 89
  · rw [h9, upd_s, hv]
  · rw [upd_x h9]
    exact h j (fun hq => by
      have hq : j ∈ [5, 6, 7, 8, 9, 13, 87, 88, 89, 90] := hq
      simp only [List.mem_cons, List.not_mem_nil, or_false] at hq hj
      omega)
theorem mFr_9b {g g2 : Nat → Int32} {v : Int32} (h : mFr [5, 6, 7, 8, 9, 10, 11, 13, 87, 88, 89, 90] g g2) (hv : g 89 = v) : mFr [5, 6, 7, 8, 9, 10, 11, 13, 87, 88, 90] g (upd g2 89 v) := fun j hj => by
  by_cases h9 : j = 89
  · rw [h9, upd_s, hv]
  · rw [upd_x h9]
    exact h j (fun hq => by
      have hq : j ∈ [5, 6, 7, 8, 9, 10, 11, 13, 87, 88, 89, 90] := hq
      simp only [List.mem_cons, List.not_mem_nil, or_false] at hq hj
      omega)
theorem mOf_0 {w : Option Nat} (h4 : ¬ w = some 24) (h5 : ¬ w = some 25) (h6 : ¬ w = some 26) (h7 : ¬ w = some 27) (h8 : ¬ w = some 28) : mOf w = 0 := by
  unfold mOf
  rw [if_neg h4, if_neg h5, if_neg h6, if_neg h7, if_neg h8]
theorem dX13_readOne_0 : decode cX13_readOne 0 = .ok (.aload_n 0, 1) := by decide +kernel
theorem dX13_readOne_1 : decode cX13_readOne 1 = .ok (.bipush 40, 2) := by decide +kernel
theorem dX13_readOne_3 : decode cX13_readOne 3 = .ok (.invokevirtual 229, 3) := by decide +kernel
theorem dX13_readOne_6 : decode cX13_readOne 6 = .ok (.istore_n 1, 1) := by decide +kernel
theorem dX13_readOne_7 : decode cX13_readOne 7 = .ok (.bipush 22, 2) := by decide +kernel
theorem dX13_readOne_9 : decode cX13_readOne 9 = .ok (.istore_n 2, 1) := by decide +kernel
theorem dX13_readOne_10 : decode cX13_readOne 10 = .ok (.iload_n 2, 1) := by decide +kernel
theorem dX13_readOne_11 : decode cX13_readOne 11 = .ok (.bipush 28, 2) := by decide +kernel
theorem dX13_readOne_13 : decode cX13_readOne 13 = .ok (.if_icmp .gt 17, 3) := by decide +kernel
theorem dX13_readOne_16 : decode cX13_readOne 16 = .ok (.aload_n 0, 1) := by decide +kernel
theorem dX13_readOne_17 : decode cX13_readOne 17 = .ok (.iload_n 2, 1) := by decide +kernel
theorem dX13_readOne_18 : decode cX13_readOne 18 = .ok (.invokevirtual 264, 3) := by decide +kernel
theorem dX13_readOne_21 : decode cX13_readOne 21 = .ok (.ifCond .ne 9, 3) := by decide +kernel
theorem dX13_readOne_24 : decode cX13_readOne 24 = .ok (.iinc 2 1, 3) := by decide +kernel
theorem dX13_readOne_27 : decode cX13_readOne 27 = .ok (.goto (-17), 3) := by decide +kernel
theorem dX13_readOne_30 : decode cX13_readOne 30 = .ok (.iload_n 1, 1) := by decide +kernel
theorem dX13_readOne_31 : decode cX13_readOne 31 = .ok (.ifCond .ne 15, 3) := by decide +kernel
theorem dX13_readOne_34 : decode cX13_readOne 34 = .ok (.iload_n 2, 1) := by decide +kernel
theorem dX13_readOne_35 : decode cX13_readOne 35 = .ok (.bipush 28, 2) := by decide +kernel
theorem dX13_readOne_37 : decode cX13_readOne 37 = .ok (.if_icmp .le 9, 3) := by decide +kernel
theorem dX13_readOne_40 : decode cX13_readOne 40 = .ok (.aload_n 0, 1) := by decide +kernel
theorem dX13_readOne_41 : decode cX13_readOne 41 = .ok (.iconst 1, 1) := by decide +kernel
theorem dX13_readOne_42 : decode cX13_readOne 42 = .ok (.invokevirtual 216, 3) := by decide +kernel
theorem dX13_readOne_45 : decode cX13_readOne 45 = .ok (.ireturn, 1) := by decide +kernel
theorem dX13_readOne_46 : decode cX13_readOne 46 = .ok (.aload_n 0, 1) := by decide +kernel
theorem dX13_readOne_47 : decode cX13_readOne 47 = .ok (.getfield 518, 3) := by decide +kernel
theorem dX13_readOne_50 : decode cX13_readOne 50 = .ok (.bipush 20, 2) := by decide +kernel
theorem dX13_readOne_52 : decode cX13_readOne 52 = .ok (.if_icmp .eq 12, 3) := by decide +kernel
theorem dX13_readOne_55 : decode cX13_readOne 55 = .ok (.aload_n 0, 1) := by decide +kernel
theorem dX13_readOne_56 : decode cX13_readOne 56 = .ok (.getfield 521, 3) := by decide +kernel
theorem dX13_readOne_59 : decode cX13_readOne 59 = .ok (.bipush 8, 2) := by decide +kernel
theorem dX13_readOne_61 : decode cX13_readOne 61 = .ok (.if_icmp .ne 9, 3) := by decide +kernel
theorem dX13_readOne_64 : decode cX13_readOne 64 = .ok (.aload_n 0, 1) := by decide +kernel
theorem dX13_readOne_65 : decode cX13_readOne 65 = .ok (.iconst 4, 1) := by decide +kernel
theorem dX13_readOne_66 : decode cX13_readOne 66 = .ok (.invokevirtual 216, 3) := by decide +kernel
theorem dX13_readOne_69 : decode cX13_readOne 69 = .ok (.ireturn, 1) := by decide +kernel
theorem dX13_readOne_70 : decode cX13_readOne 70 = .ok (.aload_n 0, 1) := by decide +kernel
theorem dX13_readOne_71 : decode cX13_readOne 71 = .ok (.dup, 1) := by decide +kernel
theorem dX13_readOne_72 : decode cX13_readOne 72 = .ok (.getfield 518, 3) := by decide +kernel
theorem dX13_readOne_75 : decode cX13_readOne 75 = .ok (.iconst 1, 1) := by decide +kernel
theorem dX13_readOne_76 : decode cX13_readOne 76 = .ok (.iadd, 1) := by decide +kernel
theorem dX13_readOne_77 : decode cX13_readOne 77 = .ok (.putfield 518, 3) := by decide +kernel
theorem dX13_readOne_80 : decode cX13_readOne 80 = .ok (.aload_n 0, 1) := by decide +kernel
theorem dX13_readOne_81 : decode cX13_readOne 81 = .ok (.dup, 1) := by decide +kernel
theorem dX13_readOne_82 : decode cX13_readOne 82 = .ok (.getfield 521, 3) := by decide +kernel
theorem dX13_readOne_85 : decode cX13_readOne 85 = .ok (.iconst 1, 1) := by decide +kernel
theorem dX13_readOne_86 : decode cX13_readOne 86 = .ok (.iadd, 1) := by decide +kernel
theorem dX13_readOne_87 : decode cX13_readOne 87 = .ok (.putfield 521, 3) := by decide +kernel
theorem dX13_readOne_90 : decode cX13_readOne 90 = .ok (.aload_n 0, 1) := by decide +kernel
theorem dX13_readOne_91 : decode cX13_readOne 91 = .ok (.invokevirtual 226, 3) := by decide +kernel
theorem dX13_readOne_94 : decode cX13_readOne 94 = .ok (.iconst 1, 1) := by decide +kernel
theorem dX13_readOne_95 : decode cX13_readOne 95 = .ok (.istore_n 3, 1) := by decide +kernel
theorem dX13_readOne_96 : decode cX13_readOne 96 = .ok (.iload_n 1, 1) := by decide +kernel
theorem dX13_readOne_97 : decode cX13_readOne 97 = .ok (.ifCond .eq 11, 3) := by decide +kernel
theorem dX13_readOne_100 : decode cX13_readOne 100 = .ok (.aload_n 0, 1) := by decide +kernel
theorem dX13_readOne_101 : decode cX13_readOne 101 = .ok (.invokevirtual 524, 3) := by decide +kernel
theorem dX13_readOne_104 : decode cX13_readOne 104 = .ok (.istore_n 3, 1) := by decide +kernel
theorem dX13_readOne_105 : decode cX13_readOne 105 = .ok (.goto 44, 3) := by decide +kernel
theorem dX13_readOne_108 : decode cX13_readOne 108 = .ok (.iload_n 2, 1) := by decide +kernel
theorem dX13_readOne_109 : decode cX13_readOne 109 = .ok (.bipush 22, 2) := by decide +kernel
theorem dX13_readOne_111 : decode cX13_readOne 111 = .ok (.if_icmp .ne 11, 3) := by decide +kernel
theorem dX13_readOne_114 : decode cX13_readOne 114 = .ok (.aload_n 0, 1) := by decide +kernel
theorem dX13_readOne_115 : decode cX13_readOne 115 = .ok (.invokevirtual 527, 3) := by decide +kernel
theorem dX13_readOne_118 : decode cX13_readOne 118 = .ok (.istore_n 3, 1) := by decide +kernel
theorem dX13_readOne_119 : decode cX13_readOne 119 = .ok (.goto 30, 3) := by decide +kernel
theorem dX13_readOne_122 : decode cX13_readOne 122 = .ok (.iload_n 2, 1) := by decide +kernel
theorem dX13_readOne_123 : decode cX13_readOne 123 = .ok (.bipush 23, 2) := by decide +kernel
theorem dX13_readOne_125 : decode cX13_readOne 125 = .ok (.if_icmp .ne 18, 3) := by decide +kernel
theorem dX13_readOne_128 : decode cX13_readOne 128 = .ok (.aload_n 0, 1) := by decide +kernel
theorem dX13_readOne_129 : decode cX13_readOne 129 = .ok (.aload_n 0, 1) := by decide +kernel
theorem dX13_readOne_130 : decode cX13_readOne 130 = .ok (.iconst 4, 1) := by decide +kernel
theorem dX13_readOne_131 : decode cX13_readOne 131 = .ok (.iconst 0, 1) := by decide +kernel
theorem dX13_readOne_132 : decode cX13_readOne 132 = .ok (.iconst 0, 1) := by decide +kernel
theorem dX13_readOne_133 : decode cX13_readOne 133 = .ok (.iconst 0, 1) := by decide +kernel
theorem dX13_readOne_134 : decode cX13_readOne 134 = .ok (.invokevirtual 512, 3) := by decide +kernel
theorem dX13_readOne_137 : decode cX13_readOne 137 = .ok (.putfield 509, 3) := by decide +kernel
theorem dX13_readOne_140 : decode cX13_readOne 140 = .ok (.goto 9, 3) := by decide +kernel
theorem dX13_readOne_143 : decode cX13_readOne 143 = .ok (.aload_n 0, 1) := by decide +kernel
theorem dX13_readOne_144 : decode cX13_readOne 144 = .ok (.iload_n 2, 1) := by decide +kernel
theorem dX13_readOne_145 : decode cX13_readOne 145 = .ok (.invokevirtual 530, 3) := by decide +kernel
theorem dX13_readOne_148 : decode cX13_readOne 148 = .ok (.istore_n 3, 1) := by decide +kernel
theorem dX13_readOne_149 : decode cX13_readOne 149 = .ok (.aload_n 0, 1) := by decide +kernel
theorem dX13_readOne_150 : decode cX13_readOne 150 = .ok (.dup, 1) := by decide +kernel
theorem dX13_readOne_151 : decode cX13_readOne 151 = .ok (.getfield 521, 3) := by decide +kernel
theorem dX13_readOne_154 : decode cX13_readOne 154 = .ok (.iconst 1, 1) := by decide +kernel
theorem dX13_readOne_155 : decode cX13_readOne 155 = .ok (.isub, 1) := by decide +kernel
theorem dX13_readOne_156 : decode cX13_readOne 156 = .ok (.putfield 521, 3) := by decide +kernel
theorem dX13_readOne_159 : decode cX13_readOne 159 = .ok (.iload_n 3, 1) := by decide +kernel
theorem dX13_readOne_160 : decode cX13_readOne 160 = .ok (.ireturn, 1) := by decide +kernel
set_option maxRecDepth 100000 in
theorem s_mOne0 (l : Launch) (dd : Nat) (mo : Nat) (e : Nat → Nat) (n L : Nat) (bt : Nat → Nat) (hn : n ≤ 740) (hL : L ≤ 740) (hbt : ∀ j, bt j < 256) (hd : 8 ≤ dd) : rCt l mX13_readOne dd 0 mo e n L bt (sOne bt n L 0) := fun t tk S g w nd h3 h4 hT hW hO htk hS h87 h88 h89 => by
  have hS2 := hS.2
  have hS1 := hS.1
  have h14 := hO.1
  have hkd := mKd_4 (n := n) (L := L) hO.1
  refine zSp.of (by decide) (Nat.le_of_ble_eq_true rfl) (fun h0 => ?_)
  show zS _ 0 0 0 [(0, .ref mo)] [] [(mo, .inr (11, fMo e g w)), ((e 1), .inl (0, 740, .inl (nF bt))), ((e 86), .inl (0, 240, .inl nd))]
  refine zs_aload_n dX13_readOne_0 rfl rfl ?_
  refine zs_bipush (v := nI 40) dX13_readOne_1 (by decide) ?_
  refine zs_callV (M := mX13_isSign) (As := [.int (nI 40)]) (st := []) (Kc := [(mo, .inr (11, fMo e g w))]) (Kr := [((e 1), .inl (0, 740, .inl (nF bt))), ((e 86), .inl (0, 240, .inl nd))]) [0] [1, 2] 0 dX13_readOne_3 zl_RX13_229 kX13_isSign rfl rfl rfl rfl rfl (by decide) rfl rfl (show dd - 1 + 1 ≤ dd by omega) (Nat.zero_le _) (Nat.zero_le _) (Nat.le_of_ble_eq_true rfl) (s_mIsSign l (dd - 1) mo e g w n L t 40 hT hW hO (by decide)) (fun r K1 hr => ?_)
  obtain ⟨rfl, rfl⟩ := hr
  refine zs_K (K' := [(mo, .inr (11, fMo e g w)), ((e 1), .inl (0, 740, .inl (nF bt))), ((e 86), .inl (0, 240, .inl nd))]) [2, 0, 1] rfl (by decide) ?_
  cases hop : tAt t 40 with
  | true =>
    have h4k : t.1 = 4 := (tAt_i hop).1
    have hnw : t.2.2.2.2 = none := hW.2.2.1 (by omega)
    have hnb : ¬ sBad t := fun h => by rw [h.1] at hop; exact absurd hop (by decide)
    refine zs_as (y := nI 1) rfl ?_
    refine zs_istore_n (lv' := [(1, .int (nI 1)), (0, .ref mo)]) dX13_readOne_6 (Nat.le_of_ble_eq_true rfl) rfl ?_
    refine zs_bipush (v := nI 22) dX13_readOne_7 (by decide) ?_
    refine zs_istore_n (lv' := [(2, .int (nI 22)), (1, .int (nI 1)), (0, .ref mo)]) dX13_readOne_9 (Nat.le_of_ble_eq_true rfl) rfl ?_
    refine zs_iload_n dX13_readOne_10 rfl ?_
    refine zs_bipush (v := nI 28) dX13_readOne_11 (by decide) ?_
    refine zs_icmp_gt (tgt := 30) dX13_readOne_13 (by decide) (fun c_1 => (by first | exact absurd c_1 (by decide) | exact absurd (by decide) c_1 : False).elim) (fun c_1 => ?_)
    refine zs_aload_n dX13_readOne_16 rfl rfl ?_
    refine zs_iload_n dX13_readOne_17 rfl ?_
    refine zs_callV (M := mX13_isWord) (As := [.int (nI 22)]) (st := []) (Kc := [(mo, .inr (11, fMo e g w))]) (Kr := [((e 1), .inl (0, 740, .inl (nF bt))), ((e 86), .inl (0, 240, .inl nd))]) [0] [1, 2] 0 dX13_readOne_18 zl_RX13_264 kX13_isWord rfl rfl rfl rfl rfl (by decide) rfl rfl (show dd - 1 + 1 ≤ dd by omega) (Nat.zero_le _) (Nat.zero_le _) (Nat.le_of_ble_eq_true rfl) (s_mIsWord l (dd - 1) mo e g w n L t 22 (by omega) (by omega) hT hW hO) (fun r K1 hr => ?_)
    obtain ⟨rfl, rfl⟩ := hr
    refine zs_K (K' := [(mo, .inr (11, fMo e g w)), ((e 1), .inl (0, 740, .inl (nF bt))), ((e 86), .inl (0, 240, .inl nd))]) [2, 0, 1] rfl (by decide) ?_
    refine zs_as (y := nI 0) (bI_e (by rw [hnw]; exact fun h => absurd h (by simp))) ?_
    refine zs_if_ne (tgt := 30) dX13_readOne_21 (by decide) (fun c_2 => (by first | exact absurd c_2 (by decide) | exact absurd (by decide) c_2 : False).elim) (fun c_2 => ?_)
    refine zs_iinc (v := (nI 23)) (lv' := [(2, .int (nI 23)), (1, .int (nI 1)), (0, .ref mo)]) dX13_readOne_24 rfl (nI_add _ 1) (Nat.le_of_ble_eq_true rfl) rfl ?_
    refine zs_goto (tgt := 10) dX13_readOne_27 (by decide) ?_
    refine zs_iload_n dX13_readOne_10 rfl ?_
    refine zs_bipush (v := nI 28) dX13_readOne_11 (by decide) ?_
    refine zs_icmp_gt (tgt := 30) dX13_readOne_13 (by decide) (fun c_3 => (by first | exact absurd c_3 (by decide) | exact absurd (by decide) c_3 : False).elim) (fun c_3 => ?_)
    refine zs_aload_n dX13_readOne_16 rfl rfl ?_
    refine zs_iload_n dX13_readOne_17 rfl ?_
    refine zs_callV (M := mX13_isWord) (As := [.int (nI 23)]) (st := []) (Kc := [(mo, .inr (11, fMo e g w))]) (Kr := [((e 1), .inl (0, 740, .inl (nF bt))), ((e 86), .inl (0, 240, .inl nd))]) [0] [1, 2] 0 dX13_readOne_18 zl_RX13_264 kX13_isWord rfl rfl rfl rfl rfl (by decide) rfl rfl (show dd - 1 + 1 ≤ dd by omega) (Nat.zero_le _) (Nat.zero_le _) (Nat.le_of_ble_eq_true rfl) (s_mIsWord l (dd - 1) mo e g w n L t 23 (by omega) (by omega) hT hW hO) (fun r K1 hr => ?_)
    obtain ⟨rfl, rfl⟩ := hr
    refine zs_K (K' := [(mo, .inr (11, fMo e g w)), ((e 1), .inl (0, 740, .inl (nF bt))), ((e 86), .inl (0, 240, .inl nd))]) [2, 0, 1] rfl (by decide) ?_
    refine zs_as (y := nI 0) (bI_e (by rw [hnw]; exact fun h => absurd h (by simp))) ?_
    refine zs_if_ne (tgt := 30) dX13_readOne_21 (by decide) (fun c_4 => (by first | exact absurd c_4 (by decide) | exact absurd (by decide) c_4 : False).elim) (fun c_4 => ?_)
    refine zs_iinc (v := (nI 24)) (lv' := [(2, .int (nI 24)), (1, .int (nI 1)), (0, .ref mo)]) dX13_readOne_24 rfl (nI_add _ 1) (Nat.le_of_ble_eq_true rfl) rfl ?_
    refine zs_goto (tgt := 10) dX13_readOne_27 (by decide) ?_
    refine zs_iload_n dX13_readOne_10 rfl ?_
    refine zs_bipush (v := nI 28) dX13_readOne_11 (by decide) ?_
    refine zs_icmp_gt (tgt := 30) dX13_readOne_13 (by decide) (fun c_5 => (by first | exact absurd c_5 (by decide) | exact absurd (by decide) c_5 : False).elim) (fun c_5 => ?_)
    refine zs_aload_n dX13_readOne_16 rfl rfl ?_
    refine zs_iload_n dX13_readOne_17 rfl ?_
    refine zs_callV (M := mX13_isWord) (As := [.int (nI 24)]) (st := []) (Kc := [(mo, .inr (11, fMo e g w))]) (Kr := [((e 1), .inl (0, 740, .inl (nF bt))), ((e 86), .inl (0, 240, .inl nd))]) [0] [1, 2] 0 dX13_readOne_18 zl_RX13_264 kX13_isWord rfl rfl rfl rfl rfl (by decide) rfl rfl (show dd - 1 + 1 ≤ dd by omega) (Nat.zero_le _) (Nat.zero_le _) (Nat.le_of_ble_eq_true rfl) (s_mIsWord l (dd - 1) mo e g w n L t 24 (by omega) (by omega) hT hW hO) (fun r K1 hr => ?_)
    obtain ⟨rfl, rfl⟩ := hr
    refine zs_K (K' := [(mo, .inr (11, fMo e g w)), ((e 1), .inl (0, 740, .inl (nF bt))), ((e 86), .inl (0, 240, .inl nd))]) [2, 0, 1] rfl (by decide) ?_
    refine zs_as (y := nI 0) (bI_e (by rw [hnw]; exact fun h => absurd h (by simp))) ?_
    refine zs_if_ne (tgt := 30) dX13_readOne_21 (by decide) (fun c_6 => (by first | exact absurd c_6 (by decide) | exact absurd (by decide) c_6 : False).elim) (fun c_6 => ?_)
    refine zs_iinc (v := (nI 25)) (lv' := [(2, .int (nI 25)), (1, .int (nI 1)), (0, .ref mo)]) dX13_readOne_24 rfl (nI_add _ 1) (Nat.le_of_ble_eq_true rfl) rfl ?_
    refine zs_goto (tgt := 10) dX13_readOne_27 (by decide) ?_
    refine zs_iload_n dX13_readOne_10 rfl ?_
    refine zs_bipush (v := nI 28) dX13_readOne_11 (by decide) ?_
    refine zs_icmp_gt (tgt := 30) dX13_readOne_13 (by decide) (fun c_7 => (by first | exact absurd c_7 (by decide) | exact absurd (by decide) c_7 : False).elim) (fun c_7 => ?_)
    refine zs_aload_n dX13_readOne_16 rfl rfl ?_
    refine zs_iload_n dX13_readOne_17 rfl ?_
    refine zs_callV (M := mX13_isWord) (As := [.int (nI 25)]) (st := []) (Kc := [(mo, .inr (11, fMo e g w))]) (Kr := [((e 1), .inl (0, 740, .inl (nF bt))), ((e 86), .inl (0, 240, .inl nd))]) [0] [1, 2] 0 dX13_readOne_18 zl_RX13_264 kX13_isWord rfl rfl rfl rfl rfl (by decide) rfl rfl (show dd - 1 + 1 ≤ dd by omega) (Nat.zero_le _) (Nat.zero_le _) (Nat.le_of_ble_eq_true rfl) (s_mIsWord l (dd - 1) mo e g w n L t 25 (by omega) (by omega) hT hW hO) (fun r K1 hr => ?_)
    obtain ⟨rfl, rfl⟩ := hr
    refine zs_K (K' := [(mo, .inr (11, fMo e g w)), ((e 1), .inl (0, 740, .inl (nF bt))), ((e 86), .inl (0, 240, .inl nd))]) [2, 0, 1] rfl (by decide) ?_
    refine zs_as (y := nI 0) (bI_e (by rw [hnw]; exact fun h => absurd h (by simp))) ?_
    refine zs_if_ne (tgt := 30) dX13_readOne_21 (by decide) (fun c_8 => (by first | exact absurd c_8 (by decide) | exact absurd (by decide) c_8 : False).elim) (fun c_8 => ?_)
    refine zs_iinc (v := (nI 26)) (lv' := [(2, .int (nI 26)), (1, .int (nI 1)), (0, .ref mo)]) dX13_readOne_24 rfl (nI_add _ 1) (Nat.le_of_ble_eq_true rfl) rfl ?_
    refine zs_goto (tgt := 10) dX13_readOne_27 (by decide) ?_
    refine zs_iload_n dX13_readOne_10 rfl ?_
    refine zs_bipush (v := nI 28) dX13_readOne_11 (by decide) ?_
    refine zs_icmp_gt (tgt := 30) dX13_readOne_13 (by decide) (fun c_9 => (by first | exact absurd c_9 (by decide) | exact absurd (by decide) c_9 : False).elim) (fun c_9 => ?_)
    refine zs_aload_n dX13_readOne_16 rfl rfl ?_
    refine zs_iload_n dX13_readOne_17 rfl ?_
    refine zs_callV (M := mX13_isWord) (As := [.int (nI 26)]) (st := []) (Kc := [(mo, .inr (11, fMo e g w))]) (Kr := [((e 1), .inl (0, 740, .inl (nF bt))), ((e 86), .inl (0, 240, .inl nd))]) [0] [1, 2] 0 dX13_readOne_18 zl_RX13_264 kX13_isWord rfl rfl rfl rfl rfl (by decide) rfl rfl (show dd - 1 + 1 ≤ dd by omega) (Nat.zero_le _) (Nat.zero_le _) (Nat.le_of_ble_eq_true rfl) (s_mIsWord l (dd - 1) mo e g w n L t 26 (by omega) (by omega) hT hW hO) (fun r K1 hr => ?_)
    obtain ⟨rfl, rfl⟩ := hr
    refine zs_K (K' := [(mo, .inr (11, fMo e g w)), ((e 1), .inl (0, 740, .inl (nF bt))), ((e 86), .inl (0, 240, .inl nd))]) [2, 0, 1] rfl (by decide) ?_
    refine zs_as (y := nI 0) (bI_e (by rw [hnw]; exact fun h => absurd h (by simp))) ?_
    refine zs_if_ne (tgt := 30) dX13_readOne_21 (by decide) (fun c_10 => (by first | exact absurd c_10 (by decide) | exact absurd (by decide) c_10 : False).elim) (fun c_10 => ?_)
    refine zs_iinc (v := (nI 27)) (lv' := [(2, .int (nI 27)), (1, .int (nI 1)), (0, .ref mo)]) dX13_readOne_24 rfl (nI_add _ 1) (Nat.le_of_ble_eq_true rfl) rfl ?_
    refine zs_goto (tgt := 10) dX13_readOne_27 (by decide) ?_
    refine zs_iload_n dX13_readOne_10 rfl ?_
    refine zs_bipush (v := nI 28) dX13_readOne_11 (by decide) ?_
    refine zs_icmp_gt (tgt := 30) dX13_readOne_13 (by decide) (fun c_11 => (by first | exact absurd c_11 (by decide) | exact absurd (by decide) c_11 : False).elim) (fun c_11 => ?_)
    refine zs_aload_n dX13_readOne_16 rfl rfl ?_
    refine zs_iload_n dX13_readOne_17 rfl ?_
    refine zs_callV (M := mX13_isWord) (As := [.int (nI 27)]) (st := []) (Kc := [(mo, .inr (11, fMo e g w))]) (Kr := [((e 1), .inl (0, 740, .inl (nF bt))), ((e 86), .inl (0, 240, .inl nd))]) [0] [1, 2] 0 dX13_readOne_18 zl_RX13_264 kX13_isWord rfl rfl rfl rfl rfl (by decide) rfl rfl (show dd - 1 + 1 ≤ dd by omega) (Nat.zero_le _) (Nat.zero_le _) (Nat.le_of_ble_eq_true rfl) (s_mIsWord l (dd - 1) mo e g w n L t 27 (by omega) (by omega) hT hW hO) (fun r K1 hr => ?_)
    obtain ⟨rfl, rfl⟩ := hr
    refine zs_K (K' := [(mo, .inr (11, fMo e g w)), ((e 1), .inl (0, 740, .inl (nF bt))), ((e 86), .inl (0, 240, .inl nd))]) [2, 0, 1] rfl (by decide) ?_
    refine zs_as (y := nI 0) (bI_e (by rw [hnw]; exact fun h => absurd h (by simp))) ?_
    refine zs_if_ne (tgt := 30) dX13_readOne_21 (by decide) (fun c_12 => (by first | exact absurd c_12 (by decide) | exact absurd (by decide) c_12 : False).elim) (fun c_12 => ?_)
    refine zs_iinc (v := (nI 28)) (lv' := [(2, .int (nI 28)), (1, .int (nI 1)), (0, .ref mo)]) dX13_readOne_24 rfl (nI_add _ 1) (Nat.le_of_ble_eq_true rfl) rfl ?_
    refine zs_goto (tgt := 10) dX13_readOne_27 (by decide) ?_
    refine zs_iload_n dX13_readOne_10 rfl ?_
    refine zs_bipush (v := nI 28) dX13_readOne_11 (by decide) ?_
    refine zs_icmp_gt (tgt := 30) dX13_readOne_13 (by decide) (fun c_13 => (by first | exact absurd c_13 (by decide) | exact absurd (by decide) c_13 : False).elim) (fun c_13 => ?_)
    refine zs_aload_n dX13_readOne_16 rfl rfl ?_
    refine zs_iload_n dX13_readOne_17 rfl ?_
    refine zs_callV (M := mX13_isWord) (As := [.int (nI 28)]) (st := []) (Kc := [(mo, .inr (11, fMo e g w))]) (Kr := [((e 1), .inl (0, 740, .inl (nF bt))), ((e 86), .inl (0, 240, .inl nd))]) [0] [1, 2] 0 dX13_readOne_18 zl_RX13_264 kX13_isWord rfl rfl rfl rfl rfl (by decide) rfl rfl (show dd - 1 + 1 ≤ dd by omega) (Nat.zero_le _) (Nat.zero_le _) (Nat.le_of_ble_eq_true rfl) (s_mIsWord l (dd - 1) mo e g w n L t 28 (by omega) (by omega) hT hW hO) (fun r K1 hr => ?_)
    obtain ⟨rfl, rfl⟩ := hr
    refine zs_K (K' := [(mo, .inr (11, fMo e g w)), ((e 1), .inl (0, 740, .inl (nF bt))), ((e 86), .inl (0, 240, .inl nd))]) [2, 0, 1] rfl (by decide) ?_
    refine zs_as (y := nI 0) (bI_e (by rw [hnw]; exact fun h => absurd h (by simp))) ?_
    refine zs_if_ne (tgt := 30) dX13_readOne_21 (by decide) (fun c_14 => (by first | exact absurd c_14 (by decide) | exact absurd (by decide) c_14 : False).elim) (fun c_14 => ?_)
    refine zs_iinc (v := (nI 29)) (lv' := [(2, .int (nI 29)), (1, .int (nI 1)), (0, .ref mo)]) dX13_readOne_24 rfl (nI_add _ 1) (Nat.le_of_ble_eq_true rfl) rfl ?_
    refine zs_goto (tgt := 10) dX13_readOne_27 (by decide) ?_
    refine zs_iload_n dX13_readOne_10 rfl ?_
    refine zs_bipush (v := nI 28) dX13_readOne_11 (by decide) ?_
    refine zs_icmp_gt (tgt := 30) dX13_readOne_13 (by decide) (fun c_15 => ?_) (fun c_15 => (by first | exact absurd c_15 (by decide) | exact absurd (by decide) c_15 : False).elim)
    refine zs_iload_n dX13_readOne_30 rfl ?_
    refine zs_if_ne (tgt := 46) dX13_readOne_31 (by decide) (fun c_16 => ?_) (fun c_16 => (by first | exact absurd c_16 (by decide) | exact absurd (by decide) c_16 : False).elim)
    refine zs_aload_n dX13_readOne_46 rfl rfl ?_
    refine zs_get 0 dX13_readOne_47 zf_RX13_518 rfl (v := .int (g 88)) rfl ?_
    refine zs_as (y := nI S.1) h88 ?_
    refine zs_bipush (v := nI 20) dX13_readOne_50 (by decide) ?_
    refine zs_icmp_eq (tgt := 64) dX13_readOne_52 (by decide) (fun c_17 => ?_) (fun c_17 => ?_)
    · have c_17 : S.1 = 20 := by have hc := c_17; rw [nI_eq' (by omega) (by omega)] at hc; exact hc
      refine zs_aload_n dX13_readOne_64 rfl rfl ?_
      refine zs_iconst (v := nI 4) dX13_readOne_65 (by decide) ?_
      refine zs_callV (M := mX13_bad) (As := [.int (nI 4)]) (st := []) (Kc := [(mo, .inr (11, fMo e g w))]) (Kr := [((e 1), .inl (0, 740, .inl (nF bt))), ((e 86), .inl (0, 240, .inl nd))]) [0] [1, 2] 0 dX13_readOne_66 zl_RX13_216 kX13_bad rfl rfl rfl rfl rfl (by decide) rfl rfl (show dd - 1 + 1 ≤ dd by omega) (Nat.zero_le _) (Nat.zero_le _) (Nat.le_of_ble_eq_true rfl) (s_mBad l (dd - 1) mo e g w n L t 4 hT hW hO) (fun r K1 hr => ?_)
      rw [mBad_e (by first | (intro; rfl) | (intro h; unfold mKd at h; split at h <;> omega))] at hr
      obtain ⟨rfl, rfl⟩ := hr
      refine zs_K (K' := [(mo, .inr (11, fMo e (mFa g 4 t) w)), ((e 1), .inl (0, 740, .inl (nF bt))), ((e 86), .inl (0, 240, .inl nd))]) [2, 0, 1] rfl (by decide) ?_
      have e1 : (sOne bt n L 0 t tk S).1 = 4 ∧ (sOne bt n L 0 t tk S).2.1 = t := by rw [sOne_4 hnb (by omega)]; exact ⟨rfl, rfl⟩
      exact zs_zret dX13_readOne_69 rfl (Or.inl rfl) (Or.inr ⟨by rw [e1.1]; exact (show ¬ (4 : Nat) = 0 by decide), rfl, mFa g 4 t, w, nd, mFr_fs mFr_r, by rw [e1.1]; rfl, by rw [e1.2]; rfl, rfl⟩)
    · have c_17 : ¬ (S.1 = 20) := by have hc := c_17; rw [nI_eq' (by omega) (by omega)] at hc; exact hc
      refine zs_aload_n dX13_readOne_55 rfl rfl ?_
      refine zs_get 0 dX13_readOne_56 zf_RX13_521 rfl (v := .int (g 89)) rfl ?_
      refine zs_as (y := nI 8) h89 ?_
      refine zs_bipush (v := nI 8) dX13_readOne_59 (by decide) ?_
      refine zs_icmp_ne (tgt := 70) dX13_readOne_61 (by decide) (fun c_18 => (c_18 rfl : False).elim) (fun c_18 => ?_)
      refine zs_aload_n dX13_readOne_64 rfl rfl ?_
      refine zs_iconst (v := nI 4) dX13_readOne_65 (by decide) ?_
      refine zs_callV (M := mX13_bad) (As := [.int (nI 4)]) (st := []) (Kc := [(mo, .inr (11, fMo e g w))]) (Kr := [((e 1), .inl (0, 740, .inl (nF bt))), ((e 86), .inl (0, 240, .inl nd))]) [0] [1, 2] 0 dX13_readOne_66 zl_RX13_216 kX13_bad rfl rfl rfl rfl rfl (by decide) rfl rfl (show dd - 1 + 1 ≤ dd by omega) (Nat.zero_le _) (Nat.zero_le _) (Nat.le_of_ble_eq_true rfl) (s_mBad l (dd - 1) mo e g w n L t 4 hT hW hO) (fun r K1 hr => ?_)
      rw [mBad_e (by first | (intro; rfl) | (intro h; unfold mKd at h; split at h <;> omega))] at hr
      obtain ⟨rfl, rfl⟩ := hr
      refine zs_K (K' := [(mo, .inr (11, fMo e (mFa g 4 t) w)), ((e 1), .inl (0, 740, .inl (nF bt))), ((e 86), .inl (0, 240, .inl nd))]) [2, 0, 1] rfl (by decide) ?_
      have e1 : (sOne bt n L 0 t tk S).1 = 4 ∧ (sOne bt n L 0 t tk S).2.1 = t := by rw [sOne_z hnb]; exact ⟨rfl, rfl⟩
      exact zs_zret dX13_readOne_69 rfl (Or.inl rfl) (Or.inr ⟨by rw [e1.1]; exact (show ¬ (4 : Nat) = 0 by decide), rfl, mFa g 4 t, w, nd, mFr_fs mFr_r, by rw [e1.1]; rfl, by rw [e1.2]; rfl, rfl⟩)
  | false =>
    refine zs_as (y := nI 0) rfl ?_
    refine zs_istore_n (lv' := [(1, .int (nI 0)), (0, .ref mo)]) dX13_readOne_6 (Nat.le_of_ble_eq_true rfl) rfl ?_
    refine zs_bipush (v := nI 22) dX13_readOne_7 (by decide) ?_
    refine zs_istore_n (lv' := [(2, .int (nI 22)), (1, .int (nI 0)), (0, .ref mo)]) dX13_readOne_9 (Nat.le_of_ble_eq_true rfl) rfl ?_
    refine zs_iload_n dX13_readOne_10 rfl ?_
    refine zs_bipush (v := nI 28) dX13_readOne_11 (by decide) ?_
    refine zs_icmp_gt (tgt := 30) dX13_readOne_13 (by decide) (fun c_19 => (by first | exact absurd c_19 (by decide) | exact absurd (by decide) c_19 : False).elim) (fun c_19 => ?_)
    refine zs_aload_n dX13_readOne_16 rfl rfl ?_
    refine zs_iload_n dX13_readOne_17 rfl ?_
    refine zs_callV (M := mX13_isWord) (As := [.int (nI 22)]) (st := []) (Kc := [(mo, .inr (11, fMo e g w))]) (Kr := [((e 1), .inl (0, 740, .inl (nF bt))), ((e 86), .inl (0, 240, .inl nd))]) [0] [1, 2] 0 dX13_readOne_18 zl_RX13_264 kX13_isWord rfl rfl rfl rfl rfl (by decide) rfl rfl (show dd - 1 + 1 ≤ dd by omega) (Nat.zero_le _) (Nat.zero_le _) (Nat.le_of_ble_eq_true rfl) (s_mIsWord l (dd - 1) mo e g w n L t 22 (by omega) (by omega) hT hW hO) (fun r K1 hr => ?_)
    obtain ⟨rfl, rfl⟩ := hr
    refine zs_K (K' := [(mo, .inr (11, fMo e g w)), ((e 1), .inl (0, 740, .inl (nF bt))), ((e 86), .inl (0, 240, .inl nd))]) [2, 0, 1] rfl (by decide) ?_
    refine zs_if_ne (tgt := 30) dX13_readOne_21 (by decide) (fun c_20 => ?_) (fun c_20 => ?_)
    · have hwk : t.2.2.2.2 = some 22 := of_decide_eq_true (bI_t c_20)
      have hk2 : t.1 = 2 := hO.2.2.2.2.2.2.2.2 _ hwk
      have hnb : ¬ sBad t := fun h => h.2.1 hwk
      refine zs_iload_n dX13_readOne_30 rfl ?_
      refine zs_if_ne (tgt := 46) dX13_readOne_31 (by decide) (fun c_21 => (by first | exact absurd c_21 (by decide) | exact absurd (by decide) c_21 : False).elim) (fun c_21 => ?_)
      refine zs_iload_n dX13_readOne_34 rfl ?_
      refine zs_bipush (v := nI 28) dX13_readOne_35 (by decide) ?_
      refine zs_icmp_le (tgt := 46) dX13_readOne_37 (by decide) (fun c_22 => ?_) (fun c_22 => (by first | exact absurd c_22 (by decide) | exact absurd (by decide) c_22 : False).elim)
      refine zs_aload_n dX13_readOne_46 rfl rfl ?_
      refine zs_get 0 dX13_readOne_47 zf_RX13_518 rfl (v := .int (g 88)) rfl ?_
      refine zs_as (y := nI S.1) h88 ?_
      refine zs_bipush (v := nI 20) dX13_readOne_50 (by decide) ?_
      refine zs_icmp_eq (tgt := 64) dX13_readOne_52 (by decide) (fun c_23 => ?_) (fun c_23 => ?_)
      · have c_23 : S.1 = 20 := by have hc := c_23; rw [nI_eq' (by omega) (by omega)] at hc; exact hc
        refine zs_aload_n dX13_readOne_64 rfl rfl ?_
        refine zs_iconst (v := nI 4) dX13_readOne_65 (by decide) ?_
        refine zs_callV (M := mX13_bad) (As := [.int (nI 4)]) (st := []) (Kc := [(mo, .inr (11, fMo e g w))]) (Kr := [((e 1), .inl (0, 740, .inl (nF bt))), ((e 86), .inl (0, 240, .inl nd))]) [0] [1, 2] 0 dX13_readOne_66 zl_RX13_216 kX13_bad rfl rfl rfl rfl rfl (by decide) rfl rfl (show dd - 1 + 1 ≤ dd by omega) (Nat.zero_le _) (Nat.zero_le _) (Nat.le_of_ble_eq_true rfl) (s_mBad l (dd - 1) mo e g w n L t 4 hT hW hO) (fun r K1 hr => ?_)
        rw [mBad_e (by first | (intro; rfl) | (intro h; unfold mKd at h; split at h <;> omega))] at hr
        obtain ⟨rfl, rfl⟩ := hr
        refine zs_K (K' := [(mo, .inr (11, fMo e (mFa g 4 t) w)), ((e 1), .inl (0, 740, .inl (nF bt))), ((e 86), .inl (0, 240, .inl nd))]) [2, 0, 1] rfl (by decide) ?_
        have e1 : (sOne bt n L 0 t tk S).1 = 4 ∧ (sOne bt n L 0 t tk S).2.1 = t := by rw [sOne_4 hnb (by omega)]; exact ⟨rfl, rfl⟩
        exact zs_zret dX13_readOne_69 rfl (Or.inl rfl) (Or.inr ⟨by rw [e1.1]; exact (show ¬ (4 : Nat) = 0 by decide), rfl, mFa g 4 t, w, nd, mFr_fs mFr_r, by rw [e1.1]; rfl, by rw [e1.2]; rfl, rfl⟩)
      · have c_23 : ¬ (S.1 = 20) := by have hc := c_23; rw [nI_eq' (by omega) (by omega)] at hc; exact hc
        refine zs_aload_n dX13_readOne_55 rfl rfl ?_
        refine zs_get 0 dX13_readOne_56 zf_RX13_521 rfl (v := .int (g 89)) rfl ?_
        refine zs_as (y := nI 8) h89 ?_
        refine zs_bipush (v := nI 8) dX13_readOne_59 (by decide) ?_
        refine zs_icmp_ne (tgt := 70) dX13_readOne_61 (by decide) (fun c_24 => (c_24 rfl : False).elim) (fun c_24 => ?_)
        refine zs_aload_n dX13_readOne_64 rfl rfl ?_
        refine zs_iconst (v := nI 4) dX13_readOne_65 (by decide) ?_
        refine zs_callV (M := mX13_bad) (As := [.int (nI 4)]) (st := []) (Kc := [(mo, .inr (11, fMo e g w))]) (Kr := [((e 1), .inl (0, 740, .inl (nF bt))), ((e 86), .inl (0, 240, .inl nd))]) [0] [1, 2] 0 dX13_readOne_66 zl_RX13_216 kX13_bad rfl rfl rfl rfl rfl (by decide) rfl rfl (show dd - 1 + 1 ≤ dd by omega) (Nat.zero_le _) (Nat.zero_le _) (Nat.le_of_ble_eq_true rfl) (s_mBad l (dd - 1) mo e g w n L t 4 hT hW hO) (fun r K1 hr => ?_)
        rw [mBad_e (by first | (intro; rfl) | (intro h; unfold mKd at h; split at h <;> omega))] at hr
        obtain ⟨rfl, rfl⟩ := hr
        refine zs_K (K' := [(mo, .inr (11, fMo e (mFa g 4 t) w)), ((e 1), .inl (0, 740, .inl (nF bt))), ((e 86), .inl (0, 240, .inl nd))]) [2, 0, 1] rfl (by decide) ?_
        have e1 : (sOne bt n L 0 t tk S).1 = 4 ∧ (sOne bt n L 0 t tk S).2.1 = t := by rw [sOne_z hnb]; exact ⟨rfl, rfl⟩
        exact zs_zret dX13_readOne_69 rfl (Or.inl rfl) (Or.inr ⟨by rw [e1.1]; exact (show ¬ (4 : Nat) = 0 by decide), rfl, mFa g 4 t, w, nd, mFr_fs mFr_r, by rw [e1.1]; rfl, by rw [e1.2]; rfl, rfl⟩)
    · have hx22 : ¬ t.2.2.2.2 = some 22 := of_decide_eq_false (bI_f c_20)
      refine zs_iinc (v := (nI 23)) (lv' := [(2, .int (nI 23)), (1, .int (nI 0)), (0, .ref mo)]) dX13_readOne_24 rfl (nI_add _ 1) (Nat.le_of_ble_eq_true rfl) rfl ?_
      refine zs_goto (tgt := 10) dX13_readOne_27 (by decide) ?_
      refine zs_iload_n dX13_readOne_10 rfl ?_
      refine zs_bipush (v := nI 28) dX13_readOne_11 (by decide) ?_
      refine zs_icmp_gt (tgt := 30) dX13_readOne_13 (by decide) (fun c_25 => (by first | exact absurd c_25 (by decide) | exact absurd (by decide) c_25 : False).elim) (fun c_25 => ?_)
      refine zs_aload_n dX13_readOne_16 rfl rfl ?_
      refine zs_iload_n dX13_readOne_17 rfl ?_
      refine zs_callV (M := mX13_isWord) (As := [.int (nI 23)]) (st := []) (Kc := [(mo, .inr (11, fMo e g w))]) (Kr := [((e 1), .inl (0, 740, .inl (nF bt))), ((e 86), .inl (0, 240, .inl nd))]) [0] [1, 2] 0 dX13_readOne_18 zl_RX13_264 kX13_isWord rfl rfl rfl rfl rfl (by decide) rfl rfl (show dd - 1 + 1 ≤ dd by omega) (Nat.zero_le _) (Nat.zero_le _) (Nat.le_of_ble_eq_true rfl) (s_mIsWord l (dd - 1) mo e g w n L t 23 (by omega) (by omega) hT hW hO) (fun r K1 hr => ?_)
      obtain ⟨rfl, rfl⟩ := hr
      refine zs_K (K' := [(mo, .inr (11, fMo e g w)), ((e 1), .inl (0, 740, .inl (nF bt))), ((e 86), .inl (0, 240, .inl nd))]) [2, 0, 1] rfl (by decide) ?_
      refine zs_if_ne (tgt := 30) dX13_readOne_21 (by decide) (fun c_26 => ?_) (fun c_26 => ?_)
      · have hwk : t.2.2.2.2 = some 23 := of_decide_eq_true (bI_t c_26)
        have hk2 : t.1 = 2 := hO.2.2.2.2.2.2.2.2 _ hwk
        have hnb : ¬ sBad t := fun h => h.2.2.1 hwk
        refine zs_iload_n dX13_readOne_30 rfl ?_
        refine zs_if_ne (tgt := 46) dX13_readOne_31 (by decide) (fun c_27 => (by first | exact absurd c_27 (by decide) | exact absurd (by decide) c_27 : False).elim) (fun c_27 => ?_)
        refine zs_iload_n dX13_readOne_34 rfl ?_
        refine zs_bipush (v := nI 28) dX13_readOne_35 (by decide) ?_
        refine zs_icmp_le (tgt := 46) dX13_readOne_37 (by decide) (fun c_28 => ?_) (fun c_28 => (by first | exact absurd c_28 (by decide) | exact absurd (by decide) c_28 : False).elim)
        refine zs_aload_n dX13_readOne_46 rfl rfl ?_
        refine zs_get 0 dX13_readOne_47 zf_RX13_518 rfl (v := .int (g 88)) rfl ?_
        refine zs_as (y := nI S.1) h88 ?_
        refine zs_bipush (v := nI 20) dX13_readOne_50 (by decide) ?_
        refine zs_icmp_eq (tgt := 64) dX13_readOne_52 (by decide) (fun c_29 => ?_) (fun c_29 => ?_)
        · have c_29 : S.1 = 20 := by have hc := c_29; rw [nI_eq' (by omega) (by omega)] at hc; exact hc
          refine zs_aload_n dX13_readOne_64 rfl rfl ?_
          refine zs_iconst (v := nI 4) dX13_readOne_65 (by decide) ?_
          refine zs_callV (M := mX13_bad) (As := [.int (nI 4)]) (st := []) (Kc := [(mo, .inr (11, fMo e g w))]) (Kr := [((e 1), .inl (0, 740, .inl (nF bt))), ((e 86), .inl (0, 240, .inl nd))]) [0] [1, 2] 0 dX13_readOne_66 zl_RX13_216 kX13_bad rfl rfl rfl rfl rfl (by decide) rfl rfl (show dd - 1 + 1 ≤ dd by omega) (Nat.zero_le _) (Nat.zero_le _) (Nat.le_of_ble_eq_true rfl) (s_mBad l (dd - 1) mo e g w n L t 4 hT hW hO) (fun r K1 hr => ?_)
          rw [mBad_e (by first | (intro; rfl) | (intro h; unfold mKd at h; split at h <;> omega))] at hr
          obtain ⟨rfl, rfl⟩ := hr
          refine zs_K (K' := [(mo, .inr (11, fMo e (mFa g 4 t) w)), ((e 1), .inl (0, 740, .inl (nF bt))), ((e 86), .inl (0, 240, .inl nd))]) [2, 0, 1] rfl (by decide) ?_
          have e1 : (sOne bt n L 0 t tk S).1 = 4 ∧ (sOne bt n L 0 t tk S).2.1 = t := by rw [sOne_4 hnb (by omega)]; exact ⟨rfl, rfl⟩
          exact zs_zret dX13_readOne_69 rfl (Or.inl rfl) (Or.inr ⟨by rw [e1.1]; exact (show ¬ (4 : Nat) = 0 by decide), rfl, mFa g 4 t, w, nd, mFr_fs mFr_r, by rw [e1.1]; rfl, by rw [e1.2]; rfl, rfl⟩)
        · have c_29 : ¬ (S.1 = 20) := by have hc := c_29; rw [nI_eq' (by omega) (by omega)] at hc; exact hc
          refine zs_aload_n dX13_readOne_55 rfl rfl ?_
          refine zs_get 0 dX13_readOne_56 zf_RX13_521 rfl (v := .int (g 89)) rfl ?_
          refine zs_as (y := nI 8) h89 ?_
          refine zs_bipush (v := nI 8) dX13_readOne_59 (by decide) ?_
          refine zs_icmp_ne (tgt := 70) dX13_readOne_61 (by decide) (fun c_30 => (c_30 rfl : False).elim) (fun c_30 => ?_)
          refine zs_aload_n dX13_readOne_64 rfl rfl ?_
          refine zs_iconst (v := nI 4) dX13_readOne_65 (by decide) ?_
          refine zs_callV (M := mX13_bad) (As := [.int (nI 4)]) (st := []) (Kc := [(mo, .inr (11, fMo e g w))]) (Kr := [((e 1), .inl (0, 740, .inl (nF bt))), ((e 86), .inl (0, 240, .inl nd))]) [0] [1, 2] 0 dX13_readOne_66 zl_RX13_216 kX13_bad rfl rfl rfl rfl rfl (by decide) rfl rfl (show dd - 1 + 1 ≤ dd by omega) (Nat.zero_le _) (Nat.zero_le _) (Nat.le_of_ble_eq_true rfl) (s_mBad l (dd - 1) mo e g w n L t 4 hT hW hO) (fun r K1 hr => ?_)
          rw [mBad_e (by first | (intro; rfl) | (intro h; unfold mKd at h; split at h <;> omega))] at hr
          obtain ⟨rfl, rfl⟩ := hr
          refine zs_K (K' := [(mo, .inr (11, fMo e (mFa g 4 t) w)), ((e 1), .inl (0, 740, .inl (nF bt))), ((e 86), .inl (0, 240, .inl nd))]) [2, 0, 1] rfl (by decide) ?_
          have e1 : (sOne bt n L 0 t tk S).1 = 4 ∧ (sOne bt n L 0 t tk S).2.1 = t := by rw [sOne_z hnb]; exact ⟨rfl, rfl⟩
          exact zs_zret dX13_readOne_69 rfl (Or.inl rfl) (Or.inr ⟨by rw [e1.1]; exact (show ¬ (4 : Nat) = 0 by decide), rfl, mFa g 4 t, w, nd, mFr_fs mFr_r, by rw [e1.1]; rfl, by rw [e1.2]; rfl, rfl⟩)
      · have hx23 : ¬ t.2.2.2.2 = some 23 := of_decide_eq_false (bI_f c_26)
        refine zs_iinc (v := (nI 24)) (lv' := [(2, .int (nI 24)), (1, .int (nI 0)), (0, .ref mo)]) dX13_readOne_24 rfl (nI_add _ 1) (Nat.le_of_ble_eq_true rfl) rfl ?_
        refine zs_goto (tgt := 10) dX13_readOne_27 (by decide) ?_
        refine zs_iload_n dX13_readOne_10 rfl ?_
        refine zs_bipush (v := nI 28) dX13_readOne_11 (by decide) ?_
        refine zs_icmp_gt (tgt := 30) dX13_readOne_13 (by decide) (fun c_31 => (by first | exact absurd c_31 (by decide) | exact absurd (by decide) c_31 : False).elim) (fun c_31 => ?_)
        refine zs_aload_n dX13_readOne_16 rfl rfl ?_
        refine zs_iload_n dX13_readOne_17 rfl ?_
        refine zs_callV (M := mX13_isWord) (As := [.int (nI 24)]) (st := []) (Kc := [(mo, .inr (11, fMo e g w))]) (Kr := [((e 1), .inl (0, 740, .inl (nF bt))), ((e 86), .inl (0, 240, .inl nd))]) [0] [1, 2] 0 dX13_readOne_18 zl_RX13_264 kX13_isWord rfl rfl rfl rfl rfl (by decide) rfl rfl (show dd - 1 + 1 ≤ dd by omega) (Nat.zero_le _) (Nat.zero_le _) (Nat.le_of_ble_eq_true rfl) (s_mIsWord l (dd - 1) mo e g w n L t 24 (by omega) (by omega) hT hW hO) (fun r K1 hr => ?_)
        obtain ⟨rfl, rfl⟩ := hr
        refine zs_K (K' := [(mo, .inr (11, fMo e g w)), ((e 1), .inl (0, 740, .inl (nF bt))), ((e 86), .inl (0, 240, .inl nd))]) [2, 0, 1] rfl (by decide) ?_
        refine zs_if_ne (tgt := 30) dX13_readOne_21 (by decide) (fun c_32 => ?_) (fun c_32 => ?_)
        · have hwk : t.2.2.2.2 = some 24 := of_decide_eq_true (bI_t c_32)
          have hk2 : t.1 = 2 := hO.2.2.2.2.2.2.2.2 _ hwk
          have hnb : ¬ sBad t := fun h => by have h4 := h.2.2.2; rw [hwk] at h4; exact absurd h4 (by decide)
          refine zs_iload_n dX13_readOne_30 rfl ?_
          refine zs_if_ne (tgt := 46) dX13_readOne_31 (by decide) (fun c_33 => (by first | exact absurd c_33 (by decide) | exact absurd (by decide) c_33 : False).elim) (fun c_33 => ?_)
          refine zs_iload_n dX13_readOne_34 rfl ?_
          refine zs_bipush (v := nI 28) dX13_readOne_35 (by decide) ?_
          refine zs_icmp_le (tgt := 46) dX13_readOne_37 (by decide) (fun c_34 => ?_) (fun c_34 => (by first | exact absurd c_34 (by decide) | exact absurd (by decide) c_34 : False).elim)
          refine zs_aload_n dX13_readOne_46 rfl rfl ?_
          refine zs_get 0 dX13_readOne_47 zf_RX13_518 rfl (v := .int (g 88)) rfl ?_
          refine zs_as (y := nI S.1) h88 ?_
          refine zs_bipush (v := nI 20) dX13_readOne_50 (by decide) ?_
          refine zs_icmp_eq (tgt := 64) dX13_readOne_52 (by decide) (fun c_35 => ?_) (fun c_35 => ?_)
          · have c_35 : S.1 = 20 := by have hc := c_35; rw [nI_eq' (by omega) (by omega)] at hc; exact hc
            refine zs_aload_n dX13_readOne_64 rfl rfl ?_
            refine zs_iconst (v := nI 4) dX13_readOne_65 (by decide) ?_
            refine zs_callV (M := mX13_bad) (As := [.int (nI 4)]) (st := []) (Kc := [(mo, .inr (11, fMo e g w))]) (Kr := [((e 1), .inl (0, 740, .inl (nF bt))), ((e 86), .inl (0, 240, .inl nd))]) [0] [1, 2] 0 dX13_readOne_66 zl_RX13_216 kX13_bad rfl rfl rfl rfl rfl (by decide) rfl rfl (show dd - 1 + 1 ≤ dd by omega) (Nat.zero_le _) (Nat.zero_le _) (Nat.le_of_ble_eq_true rfl) (s_mBad l (dd - 1) mo e g w n L t 4 hT hW hO) (fun r K1 hr => ?_)
            rw [mBad_e (by first | (intro; rfl) | (intro h; unfold mKd at h; split at h <;> omega))] at hr
            obtain ⟨rfl, rfl⟩ := hr
            refine zs_K (K' := [(mo, .inr (11, fMo e (mFa g 4 t) w)), ((e 1), .inl (0, 740, .inl (nF bt))), ((e 86), .inl (0, 240, .inl nd))]) [2, 0, 1] rfl (by decide) ?_
            have e1 : (sOne bt n L 0 t tk S).1 = 4 ∧ (sOne bt n L 0 t tk S).2.1 = t := by rw [sOne_4 hnb (by omega)]; exact ⟨rfl, rfl⟩
            exact zs_zret dX13_readOne_69 rfl (Or.inl rfl) (Or.inr ⟨by rw [e1.1]; exact (show ¬ (4 : Nat) = 0 by decide), rfl, mFa g 4 t, w, nd, mFr_fs mFr_r, by rw [e1.1]; rfl, by rw [e1.2]; rfl, rfl⟩)
          · have c_35 : ¬ (S.1 = 20) := by have hc := c_35; rw [nI_eq' (by omega) (by omega)] at hc; exact hc
            refine zs_aload_n dX13_readOne_55 rfl rfl ?_
            refine zs_get 0 dX13_readOne_56 zf_RX13_521 rfl (v := .int (g 89)) rfl ?_
            refine zs_as (y := nI 8) h89 ?_
            refine zs_bipush (v := nI 8) dX13_readOne_59 (by decide) ?_
            refine zs_icmp_ne (tgt := 70) dX13_readOne_61 (by decide) (fun c_36 => (c_36 rfl : False).elim) (fun c_36 => ?_)
            refine zs_aload_n dX13_readOne_64 rfl rfl ?_
            refine zs_iconst (v := nI 4) dX13_readOne_65 (by decide) ?_
            refine zs_callV (M := mX13_bad) (As := [.int (nI 4)]) (st := []) (Kc := [(mo, .inr (11, fMo e g w))]) (Kr := [((e 1), .inl (0, 740, .inl (nF bt))), ((e 86), .inl (0, 240, .inl nd))]) [0] [1, 2] 0 dX13_readOne_66 zl_RX13_216 kX13_bad rfl rfl rfl rfl rfl (by decide) rfl rfl (show dd - 1 + 1 ≤ dd by omega) (Nat.zero_le _) (Nat.zero_le _) (Nat.le_of_ble_eq_true rfl) (s_mBad l (dd - 1) mo e g w n L t 4 hT hW hO) (fun r K1 hr => ?_)
            rw [mBad_e (by first | (intro; rfl) | (intro h; unfold mKd at h; split at h <;> omega))] at hr
            obtain ⟨rfl, rfl⟩ := hr
            refine zs_K (K' := [(mo, .inr (11, fMo e (mFa g 4 t) w)), ((e 1), .inl (0, 740, .inl (nF bt))), ((e 86), .inl (0, 240, .inl nd))]) [2, 0, 1] rfl (by decide) ?_
            have e1 : (sOne bt n L 0 t tk S).1 = 4 ∧ (sOne bt n L 0 t tk S).2.1 = t := by rw [sOne_z hnb]; exact ⟨rfl, rfl⟩
            exact zs_zret dX13_readOne_69 rfl (Or.inl rfl) (Or.inr ⟨by rw [e1.1]; exact (show ¬ (4 : Nat) = 0 by decide), rfl, mFa g 4 t, w, nd, mFr_fs mFr_r, by rw [e1.1]; rfl, by rw [e1.2]; rfl, rfl⟩)
        · have hx24 : ¬ t.2.2.2.2 = some 24 := of_decide_eq_false (bI_f c_32)
          refine zs_iinc (v := (nI 25)) (lv' := [(2, .int (nI 25)), (1, .int (nI 0)), (0, .ref mo)]) dX13_readOne_24 rfl (nI_add _ 1) (Nat.le_of_ble_eq_true rfl) rfl ?_
          refine zs_goto (tgt := 10) dX13_readOne_27 (by decide) ?_
          refine zs_iload_n dX13_readOne_10 rfl ?_
          refine zs_bipush (v := nI 28) dX13_readOne_11 (by decide) ?_
          refine zs_icmp_gt (tgt := 30) dX13_readOne_13 (by decide) (fun c_37 => (by first | exact absurd c_37 (by decide) | exact absurd (by decide) c_37 : False).elim) (fun c_37 => ?_)
          refine zs_aload_n dX13_readOne_16 rfl rfl ?_
          refine zs_iload_n dX13_readOne_17 rfl ?_
          refine zs_callV (M := mX13_isWord) (As := [.int (nI 25)]) (st := []) (Kc := [(mo, .inr (11, fMo e g w))]) (Kr := [((e 1), .inl (0, 740, .inl (nF bt))), ((e 86), .inl (0, 240, .inl nd))]) [0] [1, 2] 0 dX13_readOne_18 zl_RX13_264 kX13_isWord rfl rfl rfl rfl rfl (by decide) rfl rfl (show dd - 1 + 1 ≤ dd by omega) (Nat.zero_le _) (Nat.zero_le _) (Nat.le_of_ble_eq_true rfl) (s_mIsWord l (dd - 1) mo e g w n L t 25 (by omega) (by omega) hT hW hO) (fun r K1 hr => ?_)
          obtain ⟨rfl, rfl⟩ := hr
          refine zs_K (K' := [(mo, .inr (11, fMo e g w)), ((e 1), .inl (0, 740, .inl (nF bt))), ((e 86), .inl (0, 240, .inl nd))]) [2, 0, 1] rfl (by decide) ?_
          refine zs_if_ne (tgt := 30) dX13_readOne_21 (by decide) (fun c_38 => ?_) (fun c_38 => ?_)
          · have hwk : t.2.2.2.2 = some 25 := of_decide_eq_true (bI_t c_38)
            have hk2 : t.1 = 2 := hO.2.2.2.2.2.2.2.2 _ hwk
            have hnb : ¬ sBad t := fun h => by have h4 := h.2.2.2; rw [hwk] at h4; exact absurd h4 (by decide)
            refine zs_iload_n dX13_readOne_30 rfl ?_
            refine zs_if_ne (tgt := 46) dX13_readOne_31 (by decide) (fun c_39 => (by first | exact absurd c_39 (by decide) | exact absurd (by decide) c_39 : False).elim) (fun c_39 => ?_)
            refine zs_iload_n dX13_readOne_34 rfl ?_
            refine zs_bipush (v := nI 28) dX13_readOne_35 (by decide) ?_
            refine zs_icmp_le (tgt := 46) dX13_readOne_37 (by decide) (fun c_40 => ?_) (fun c_40 => (by first | exact absurd c_40 (by decide) | exact absurd (by decide) c_40 : False).elim)
            refine zs_aload_n dX13_readOne_46 rfl rfl ?_
            refine zs_get 0 dX13_readOne_47 zf_RX13_518 rfl (v := .int (g 88)) rfl ?_
            refine zs_as (y := nI S.1) h88 ?_
            refine zs_bipush (v := nI 20) dX13_readOne_50 (by decide) ?_
            refine zs_icmp_eq (tgt := 64) dX13_readOne_52 (by decide) (fun c_41 => ?_) (fun c_41 => ?_)
            · have c_41 : S.1 = 20 := by have hc := c_41; rw [nI_eq' (by omega) (by omega)] at hc; exact hc
              refine zs_aload_n dX13_readOne_64 rfl rfl ?_
              refine zs_iconst (v := nI 4) dX13_readOne_65 (by decide) ?_
              refine zs_callV (M := mX13_bad) (As := [.int (nI 4)]) (st := []) (Kc := [(mo, .inr (11, fMo e g w))]) (Kr := [((e 1), .inl (0, 740, .inl (nF bt))), ((e 86), .inl (0, 240, .inl nd))]) [0] [1, 2] 0 dX13_readOne_66 zl_RX13_216 kX13_bad rfl rfl rfl rfl rfl (by decide) rfl rfl (show dd - 1 + 1 ≤ dd by omega) (Nat.zero_le _) (Nat.zero_le _) (Nat.le_of_ble_eq_true rfl) (s_mBad l (dd - 1) mo e g w n L t 4 hT hW hO) (fun r K1 hr => ?_)
              rw [mBad_e (by first | (intro; rfl) | (intro h; unfold mKd at h; split at h <;> omega))] at hr
              obtain ⟨rfl, rfl⟩ := hr
              refine zs_K (K' := [(mo, .inr (11, fMo e (mFa g 4 t) w)), ((e 1), .inl (0, 740, .inl (nF bt))), ((e 86), .inl (0, 240, .inl nd))]) [2, 0, 1] rfl (by decide) ?_
              have e1 : (sOne bt n L 0 t tk S).1 = 4 ∧ (sOne bt n L 0 t tk S).2.1 = t := by rw [sOne_4 hnb (by omega)]; exact ⟨rfl, rfl⟩
              exact zs_zret dX13_readOne_69 rfl (Or.inl rfl) (Or.inr ⟨by rw [e1.1]; exact (show ¬ (4 : Nat) = 0 by decide), rfl, mFa g 4 t, w, nd, mFr_fs mFr_r, by rw [e1.1]; rfl, by rw [e1.2]; rfl, rfl⟩)
            · have c_41 : ¬ (S.1 = 20) := by have hc := c_41; rw [nI_eq' (by omega) (by omega)] at hc; exact hc
              refine zs_aload_n dX13_readOne_55 rfl rfl ?_
              refine zs_get 0 dX13_readOne_56 zf_RX13_521 rfl (v := .int (g 89)) rfl ?_
              refine zs_as (y := nI 8) h89 ?_
              refine zs_bipush (v := nI 8) dX13_readOne_59 (by decide) ?_
              refine zs_icmp_ne (tgt := 70) dX13_readOne_61 (by decide) (fun c_42 => (c_42 rfl : False).elim) (fun c_42 => ?_)
              refine zs_aload_n dX13_readOne_64 rfl rfl ?_
              refine zs_iconst (v := nI 4) dX13_readOne_65 (by decide) ?_
              refine zs_callV (M := mX13_bad) (As := [.int (nI 4)]) (st := []) (Kc := [(mo, .inr (11, fMo e g w))]) (Kr := [((e 1), .inl (0, 740, .inl (nF bt))), ((e 86), .inl (0, 240, .inl nd))]) [0] [1, 2] 0 dX13_readOne_66 zl_RX13_216 kX13_bad rfl rfl rfl rfl rfl (by decide) rfl rfl (show dd - 1 + 1 ≤ dd by omega) (Nat.zero_le _) (Nat.zero_le _) (Nat.le_of_ble_eq_true rfl) (s_mBad l (dd - 1) mo e g w n L t 4 hT hW hO) (fun r K1 hr => ?_)
              rw [mBad_e (by first | (intro; rfl) | (intro h; unfold mKd at h; split at h <;> omega))] at hr
              obtain ⟨rfl, rfl⟩ := hr
              refine zs_K (K' := [(mo, .inr (11, fMo e (mFa g 4 t) w)), ((e 1), .inl (0, 740, .inl (nF bt))), ((e 86), .inl (0, 240, .inl nd))]) [2, 0, 1] rfl (by decide) ?_
              have e1 : (sOne bt n L 0 t tk S).1 = 4 ∧ (sOne bt n L 0 t tk S).2.1 = t := by rw [sOne_z hnb]; exact ⟨rfl, rfl⟩
              exact zs_zret dX13_readOne_69 rfl (Or.inl rfl) (Or.inr ⟨by rw [e1.1]; exact (show ¬ (4 : Nat) = 0 by decide), rfl, mFa g 4 t, w, nd, mFr_fs mFr_r, by rw [e1.1]; rfl, by rw [e1.2]; rfl, rfl⟩)
          · have hx25 : ¬ t.2.2.2.2 = some 25 := of_decide_eq_false (bI_f c_38)
            refine zs_iinc (v := (nI 26)) (lv' := [(2, .int (nI 26)), (1, .int (nI 0)), (0, .ref mo)]) dX13_readOne_24 rfl (nI_add _ 1) (Nat.le_of_ble_eq_true rfl) rfl ?_
            refine zs_goto (tgt := 10) dX13_readOne_27 (by decide) ?_
            refine zs_iload_n dX13_readOne_10 rfl ?_
            refine zs_bipush (v := nI 28) dX13_readOne_11 (by decide) ?_
            refine zs_icmp_gt (tgt := 30) dX13_readOne_13 (by decide) (fun c_43 => (by first | exact absurd c_43 (by decide) | exact absurd (by decide) c_43 : False).elim) (fun c_43 => ?_)
            refine zs_aload_n dX13_readOne_16 rfl rfl ?_
            refine zs_iload_n dX13_readOne_17 rfl ?_
            refine zs_callV (M := mX13_isWord) (As := [.int (nI 26)]) (st := []) (Kc := [(mo, .inr (11, fMo e g w))]) (Kr := [((e 1), .inl (0, 740, .inl (nF bt))), ((e 86), .inl (0, 240, .inl nd))]) [0] [1, 2] 0 dX13_readOne_18 zl_RX13_264 kX13_isWord rfl rfl rfl rfl rfl (by decide) rfl rfl (show dd - 1 + 1 ≤ dd by omega) (Nat.zero_le _) (Nat.zero_le _) (Nat.le_of_ble_eq_true rfl) (s_mIsWord l (dd - 1) mo e g w n L t 26 (by omega) (by omega) hT hW hO) (fun r K1 hr => ?_)
            obtain ⟨rfl, rfl⟩ := hr
            refine zs_K (K' := [(mo, .inr (11, fMo e g w)), ((e 1), .inl (0, 740, .inl (nF bt))), ((e 86), .inl (0, 240, .inl nd))]) [2, 0, 1] rfl (by decide) ?_
            refine zs_if_ne (tgt := 30) dX13_readOne_21 (by decide) (fun c_44 => ?_) (fun c_44 => ?_)
            · have hwk : t.2.2.2.2 = some 26 := of_decide_eq_true (bI_t c_44)
              have hk2 : t.1 = 2 := hO.2.2.2.2.2.2.2.2 _ hwk
              have hnb : ¬ sBad t := fun h => by have h4 := h.2.2.2; rw [hwk] at h4; exact absurd h4 (by decide)
              refine zs_iload_n dX13_readOne_30 rfl ?_
              refine zs_if_ne (tgt := 46) dX13_readOne_31 (by decide) (fun c_45 => (by first | exact absurd c_45 (by decide) | exact absurd (by decide) c_45 : False).elim) (fun c_45 => ?_)
              refine zs_iload_n dX13_readOne_34 rfl ?_
              refine zs_bipush (v := nI 28) dX13_readOne_35 (by decide) ?_
              refine zs_icmp_le (tgt := 46) dX13_readOne_37 (by decide) (fun c_46 => ?_) (fun c_46 => (by first | exact absurd c_46 (by decide) | exact absurd (by decide) c_46 : False).elim)
              refine zs_aload_n dX13_readOne_46 rfl rfl ?_
              refine zs_get 0 dX13_readOne_47 zf_RX13_518 rfl (v := .int (g 88)) rfl ?_
              refine zs_as (y := nI S.1) h88 ?_
              refine zs_bipush (v := nI 20) dX13_readOne_50 (by decide) ?_
              refine zs_icmp_eq (tgt := 64) dX13_readOne_52 (by decide) (fun c_47 => ?_) (fun c_47 => ?_)
              · have c_47 : S.1 = 20 := by have hc := c_47; rw [nI_eq' (by omega) (by omega)] at hc; exact hc
                refine zs_aload_n dX13_readOne_64 rfl rfl ?_
                refine zs_iconst (v := nI 4) dX13_readOne_65 (by decide) ?_
                refine zs_callV (M := mX13_bad) (As := [.int (nI 4)]) (st := []) (Kc := [(mo, .inr (11, fMo e g w))]) (Kr := [((e 1), .inl (0, 740, .inl (nF bt))), ((e 86), .inl (0, 240, .inl nd))]) [0] [1, 2] 0 dX13_readOne_66 zl_RX13_216 kX13_bad rfl rfl rfl rfl rfl (by decide) rfl rfl (show dd - 1 + 1 ≤ dd by omega) (Nat.zero_le _) (Nat.zero_le _) (Nat.le_of_ble_eq_true rfl) (s_mBad l (dd - 1) mo e g w n L t 4 hT hW hO) (fun r K1 hr => ?_)
                rw [mBad_e (by first | (intro; rfl) | (intro h; unfold mKd at h; split at h <;> omega))] at hr
                obtain ⟨rfl, rfl⟩ := hr
                refine zs_K (K' := [(mo, .inr (11, fMo e (mFa g 4 t) w)), ((e 1), .inl (0, 740, .inl (nF bt))), ((e 86), .inl (0, 240, .inl nd))]) [2, 0, 1] rfl (by decide) ?_
                have e1 : (sOne bt n L 0 t tk S).1 = 4 ∧ (sOne bt n L 0 t tk S).2.1 = t := by rw [sOne_4 hnb (by omega)]; exact ⟨rfl, rfl⟩
                exact zs_zret dX13_readOne_69 rfl (Or.inl rfl) (Or.inr ⟨by rw [e1.1]; exact (show ¬ (4 : Nat) = 0 by decide), rfl, mFa g 4 t, w, nd, mFr_fs mFr_r, by rw [e1.1]; rfl, by rw [e1.2]; rfl, rfl⟩)
              · have c_47 : ¬ (S.1 = 20) := by have hc := c_47; rw [nI_eq' (by omega) (by omega)] at hc; exact hc
                refine zs_aload_n dX13_readOne_55 rfl rfl ?_
                refine zs_get 0 dX13_readOne_56 zf_RX13_521 rfl (v := .int (g 89)) rfl ?_
                refine zs_as (y := nI 8) h89 ?_
                refine zs_bipush (v := nI 8) dX13_readOne_59 (by decide) ?_
                refine zs_icmp_ne (tgt := 70) dX13_readOne_61 (by decide) (fun c_48 => (c_48 rfl : False).elim) (fun c_48 => ?_)
                refine zs_aload_n dX13_readOne_64 rfl rfl ?_
                refine zs_iconst (v := nI 4) dX13_readOne_65 (by decide) ?_
                refine zs_callV (M := mX13_bad) (As := [.int (nI 4)]) (st := []) (Kc := [(mo, .inr (11, fMo e g w))]) (Kr := [((e 1), .inl (0, 740, .inl (nF bt))), ((e 86), .inl (0, 240, .inl nd))]) [0] [1, 2] 0 dX13_readOne_66 zl_RX13_216 kX13_bad rfl rfl rfl rfl rfl (by decide) rfl rfl (show dd - 1 + 1 ≤ dd by omega) (Nat.zero_le _) (Nat.zero_le _) (Nat.le_of_ble_eq_true rfl) (s_mBad l (dd - 1) mo e g w n L t 4 hT hW hO) (fun r K1 hr => ?_)
                rw [mBad_e (by first | (intro; rfl) | (intro h; unfold mKd at h; split at h <;> omega))] at hr
                obtain ⟨rfl, rfl⟩ := hr
                refine zs_K (K' := [(mo, .inr (11, fMo e (mFa g 4 t) w)), ((e 1), .inl (0, 740, .inl (nF bt))), ((e 86), .inl (0, 240, .inl nd))]) [2, 0, 1] rfl (by decide) ?_
                have e1 : (sOne bt n L 0 t tk S).1 = 4 ∧ (sOne bt n L 0 t tk S).2.1 = t := by rw [sOne_z hnb]; exact ⟨rfl, rfl⟩
                exact zs_zret dX13_readOne_69 rfl (Or.inl rfl) (Or.inr ⟨by rw [e1.1]; exact (show ¬ (4 : Nat) = 0 by decide), rfl, mFa g 4 t, w, nd, mFr_fs mFr_r, by rw [e1.1]; rfl, by rw [e1.2]; rfl, rfl⟩)
            · have hx26 : ¬ t.2.2.2.2 = some 26 := of_decide_eq_false (bI_f c_44)
              refine zs_iinc (v := (nI 27)) (lv' := [(2, .int (nI 27)), (1, .int (nI 0)), (0, .ref mo)]) dX13_readOne_24 rfl (nI_add _ 1) (Nat.le_of_ble_eq_true rfl) rfl ?_
              refine zs_goto (tgt := 10) dX13_readOne_27 (by decide) ?_
              refine zs_iload_n dX13_readOne_10 rfl ?_
              refine zs_bipush (v := nI 28) dX13_readOne_11 (by decide) ?_
              refine zs_icmp_gt (tgt := 30) dX13_readOne_13 (by decide) (fun c_49 => (by first | exact absurd c_49 (by decide) | exact absurd (by decide) c_49 : False).elim) (fun c_49 => ?_)
              refine zs_aload_n dX13_readOne_16 rfl rfl ?_
              refine zs_iload_n dX13_readOne_17 rfl ?_
              refine zs_callV (M := mX13_isWord) (As := [.int (nI 27)]) (st := []) (Kc := [(mo, .inr (11, fMo e g w))]) (Kr := [((e 1), .inl (0, 740, .inl (nF bt))), ((e 86), .inl (0, 240, .inl nd))]) [0] [1, 2] 0 dX13_readOne_18 zl_RX13_264 kX13_isWord rfl rfl rfl rfl rfl (by decide) rfl rfl (show dd - 1 + 1 ≤ dd by omega) (Nat.zero_le _) (Nat.zero_le _) (Nat.le_of_ble_eq_true rfl) (s_mIsWord l (dd - 1) mo e g w n L t 27 (by omega) (by omega) hT hW hO) (fun r K1 hr => ?_)
              obtain ⟨rfl, rfl⟩ := hr
              refine zs_K (K' := [(mo, .inr (11, fMo e g w)), ((e 1), .inl (0, 740, .inl (nF bt))), ((e 86), .inl (0, 240, .inl nd))]) [2, 0, 1] rfl (by decide) ?_
              refine zs_if_ne (tgt := 30) dX13_readOne_21 (by decide) (fun c_50 => ?_) (fun c_50 => ?_)
              · have hwk : t.2.2.2.2 = some 27 := of_decide_eq_true (bI_t c_50)
                have hk2 : t.1 = 2 := hO.2.2.2.2.2.2.2.2 _ hwk
                have hnb : ¬ sBad t := fun h => by have h4 := h.2.2.2; rw [hwk] at h4; exact absurd h4 (by decide)
                refine zs_iload_n dX13_readOne_30 rfl ?_
                refine zs_if_ne (tgt := 46) dX13_readOne_31 (by decide) (fun c_51 => (by first | exact absurd c_51 (by decide) | exact absurd (by decide) c_51 : False).elim) (fun c_51 => ?_)
                refine zs_iload_n dX13_readOne_34 rfl ?_
                refine zs_bipush (v := nI 28) dX13_readOne_35 (by decide) ?_
                refine zs_icmp_le (tgt := 46) dX13_readOne_37 (by decide) (fun c_52 => ?_) (fun c_52 => (by first | exact absurd c_52 (by decide) | exact absurd (by decide) c_52 : False).elim)
                refine zs_aload_n dX13_readOne_46 rfl rfl ?_
                refine zs_get 0 dX13_readOne_47 zf_RX13_518 rfl (v := .int (g 88)) rfl ?_
                refine zs_as (y := nI S.1) h88 ?_
                refine zs_bipush (v := nI 20) dX13_readOne_50 (by decide) ?_
                refine zs_icmp_eq (tgt := 64) dX13_readOne_52 (by decide) (fun c_53 => ?_) (fun c_53 => ?_)
                · have c_53 : S.1 = 20 := by have hc := c_53; rw [nI_eq' (by omega) (by omega)] at hc; exact hc
                  refine zs_aload_n dX13_readOne_64 rfl rfl ?_
                  refine zs_iconst (v := nI 4) dX13_readOne_65 (by decide) ?_
                  refine zs_callV (M := mX13_bad) (As := [.int (nI 4)]) (st := []) (Kc := [(mo, .inr (11, fMo e g w))]) (Kr := [((e 1), .inl (0, 740, .inl (nF bt))), ((e 86), .inl (0, 240, .inl nd))]) [0] [1, 2] 0 dX13_readOne_66 zl_RX13_216 kX13_bad rfl rfl rfl rfl rfl (by decide) rfl rfl (show dd - 1 + 1 ≤ dd by omega) (Nat.zero_le _) (Nat.zero_le _) (Nat.le_of_ble_eq_true rfl) (s_mBad l (dd - 1) mo e g w n L t 4 hT hW hO) (fun r K1 hr => ?_)
                  rw [mBad_e (by first | (intro; rfl) | (intro h; unfold mKd at h; split at h <;> omega))] at hr
                  obtain ⟨rfl, rfl⟩ := hr
                  refine zs_K (K' := [(mo, .inr (11, fMo e (mFa g 4 t) w)), ((e 1), .inl (0, 740, .inl (nF bt))), ((e 86), .inl (0, 240, .inl nd))]) [2, 0, 1] rfl (by decide) ?_
                  have e1 : (sOne bt n L 0 t tk S).1 = 4 ∧ (sOne bt n L 0 t tk S).2.1 = t := by rw [sOne_4 hnb (by omega)]; exact ⟨rfl, rfl⟩
                  exact zs_zret dX13_readOne_69 rfl (Or.inl rfl) (Or.inr ⟨by rw [e1.1]; exact (show ¬ (4 : Nat) = 0 by decide), rfl, mFa g 4 t, w, nd, mFr_fs mFr_r, by rw [e1.1]; rfl, by rw [e1.2]; rfl, rfl⟩)
                · have c_53 : ¬ (S.1 = 20) := by have hc := c_53; rw [nI_eq' (by omega) (by omega)] at hc; exact hc
                  refine zs_aload_n dX13_readOne_55 rfl rfl ?_
                  refine zs_get 0 dX13_readOne_56 zf_RX13_521 rfl (v := .int (g 89)) rfl ?_
                  refine zs_as (y := nI 8) h89 ?_
                  refine zs_bipush (v := nI 8) dX13_readOne_59 (by decide) ?_
                  refine zs_icmp_ne (tgt := 70) dX13_readOne_61 (by decide) (fun c_54 => (c_54 rfl : False).elim) (fun c_54 => ?_)
                  refine zs_aload_n dX13_readOne_64 rfl rfl ?_
                  refine zs_iconst (v := nI 4) dX13_readOne_65 (by decide) ?_
                  refine zs_callV (M := mX13_bad) (As := [.int (nI 4)]) (st := []) (Kc := [(mo, .inr (11, fMo e g w))]) (Kr := [((e 1), .inl (0, 740, .inl (nF bt))), ((e 86), .inl (0, 240, .inl nd))]) [0] [1, 2] 0 dX13_readOne_66 zl_RX13_216 kX13_bad rfl rfl rfl rfl rfl (by decide) rfl rfl (show dd - 1 + 1 ≤ dd by omega) (Nat.zero_le _) (Nat.zero_le _) (Nat.le_of_ble_eq_true rfl) (s_mBad l (dd - 1) mo e g w n L t 4 hT hW hO) (fun r K1 hr => ?_)
                  rw [mBad_e (by first | (intro; rfl) | (intro h; unfold mKd at h; split at h <;> omega))] at hr
                  obtain ⟨rfl, rfl⟩ := hr
                  refine zs_K (K' := [(mo, .inr (11, fMo e (mFa g 4 t) w)), ((e 1), .inl (0, 740, .inl (nF bt))), ((e 86), .inl (0, 240, .inl nd))]) [2, 0, 1] rfl (by decide) ?_
                  have e1 : (sOne bt n L 0 t tk S).1 = 4 ∧ (sOne bt n L 0 t tk S).2.1 = t := by rw [sOne_z hnb]; exact ⟨rfl, rfl⟩
                  exact zs_zret dX13_readOne_69 rfl (Or.inl rfl) (Or.inr ⟨by rw [e1.1]; exact (show ¬ (4 : Nat) = 0 by decide), rfl, mFa g 4 t, w, nd, mFr_fs mFr_r, by rw [e1.1]; rfl, by rw [e1.2]; rfl, rfl⟩)
              · have hx27 : ¬ t.2.2.2.2 = some 27 := of_decide_eq_false (bI_f c_50)
                refine zs_iinc (v := (nI 28)) (lv' := [(2, .int (nI 28)), (1, .int (nI 0)), (0, .ref mo)]) dX13_readOne_24 rfl (nI_add _ 1) (Nat.le_of_ble_eq_true rfl) rfl ?_
                refine zs_goto (tgt := 10) dX13_readOne_27 (by decide) ?_
                refine zs_iload_n dX13_readOne_10 rfl ?_
                refine zs_bipush (v := nI 28) dX13_readOne_11 (by decide) ?_
                refine zs_icmp_gt (tgt := 30) dX13_readOne_13 (by decide) (fun c_55 => (by first | exact absurd c_55 (by decide) | exact absurd (by decide) c_55 : False).elim) (fun c_55 => ?_)
                refine zs_aload_n dX13_readOne_16 rfl rfl ?_
                refine zs_iload_n dX13_readOne_17 rfl ?_
                refine zs_callV (M := mX13_isWord) (As := [.int (nI 28)]) (st := []) (Kc := [(mo, .inr (11, fMo e g w))]) (Kr := [((e 1), .inl (0, 740, .inl (nF bt))), ((e 86), .inl (0, 240, .inl nd))]) [0] [1, 2] 0 dX13_readOne_18 zl_RX13_264 kX13_isWord rfl rfl rfl rfl rfl (by decide) rfl rfl (show dd - 1 + 1 ≤ dd by omega) (Nat.zero_le _) (Nat.zero_le _) (Nat.le_of_ble_eq_true rfl) (s_mIsWord l (dd - 1) mo e g w n L t 28 (by omega) (by omega) hT hW hO) (fun r K1 hr => ?_)
                obtain ⟨rfl, rfl⟩ := hr
                refine zs_K (K' := [(mo, .inr (11, fMo e g w)), ((e 1), .inl (0, 740, .inl (nF bt))), ((e 86), .inl (0, 240, .inl nd))]) [2, 0, 1] rfl (by decide) ?_
                refine zs_if_ne (tgt := 30) dX13_readOne_21 (by decide) (fun c_56 => ?_) (fun c_56 => ?_)
                · have hwk : t.2.2.2.2 = some 28 := of_decide_eq_true (bI_t c_56)
                  have hk2 : t.1 = 2 := hO.2.2.2.2.2.2.2.2 _ hwk
                  have hnb : ¬ sBad t := fun h => by have h4 := h.2.2.2; rw [hwk] at h4; exact absurd h4 (by decide)
                  refine zs_iload_n dX13_readOne_30 rfl ?_
                  refine zs_if_ne (tgt := 46) dX13_readOne_31 (by decide) (fun c_57 => (by first | exact absurd c_57 (by decide) | exact absurd (by decide) c_57 : False).elim) (fun c_57 => ?_)
                  refine zs_iload_n dX13_readOne_34 rfl ?_
                  refine zs_bipush (v := nI 28) dX13_readOne_35 (by decide) ?_
                  refine zs_icmp_le (tgt := 46) dX13_readOne_37 (by decide) (fun c_58 => ?_) (fun c_58 => (by first | exact absurd c_58 (by decide) | exact absurd (by decide) c_58 : False).elim)
                  refine zs_aload_n dX13_readOne_46 rfl rfl ?_
                  refine zs_get 0 dX13_readOne_47 zf_RX13_518 rfl (v := .int (g 88)) rfl ?_
                  refine zs_as (y := nI S.1) h88 ?_
                  refine zs_bipush (v := nI 20) dX13_readOne_50 (by decide) ?_
                  refine zs_icmp_eq (tgt := 64) dX13_readOne_52 (by decide) (fun c_59 => ?_) (fun c_59 => ?_)
                  · have c_59 : S.1 = 20 := by have hc := c_59; rw [nI_eq' (by omega) (by omega)] at hc; exact hc
                    refine zs_aload_n dX13_readOne_64 rfl rfl ?_
                    refine zs_iconst (v := nI 4) dX13_readOne_65 (by decide) ?_
                    refine zs_callV (M := mX13_bad) (As := [.int (nI 4)]) (st := []) (Kc := [(mo, .inr (11, fMo e g w))]) (Kr := [((e 1), .inl (0, 740, .inl (nF bt))), ((e 86), .inl (0, 240, .inl nd))]) [0] [1, 2] 0 dX13_readOne_66 zl_RX13_216 kX13_bad rfl rfl rfl rfl rfl (by decide) rfl rfl (show dd - 1 + 1 ≤ dd by omega) (Nat.zero_le _) (Nat.zero_le _) (Nat.le_of_ble_eq_true rfl) (s_mBad l (dd - 1) mo e g w n L t 4 hT hW hO) (fun r K1 hr => ?_)
                    rw [mBad_e (by first | (intro; rfl) | (intro h; unfold mKd at h; split at h <;> omega))] at hr
                    obtain ⟨rfl, rfl⟩ := hr
                    refine zs_K (K' := [(mo, .inr (11, fMo e (mFa g 4 t) w)), ((e 1), .inl (0, 740, .inl (nF bt))), ((e 86), .inl (0, 240, .inl nd))]) [2, 0, 1] rfl (by decide) ?_
                    have e1 : (sOne bt n L 0 t tk S).1 = 4 ∧ (sOne bt n L 0 t tk S).2.1 = t := by rw [sOne_4 hnb (by omega)]; exact ⟨rfl, rfl⟩
                    exact zs_zret dX13_readOne_69 rfl (Or.inl rfl) (Or.inr ⟨by rw [e1.1]; exact (show ¬ (4 : Nat) = 0 by decide), rfl, mFa g 4 t, w, nd, mFr_fs mFr_r, by rw [e1.1]; rfl, by rw [e1.2]; rfl, rfl⟩)
                  · have c_59 : ¬ (S.1 = 20) := by have hc := c_59; rw [nI_eq' (by omega) (by omega)] at hc; exact hc
                    refine zs_aload_n dX13_readOne_55 rfl rfl ?_
                    refine zs_get 0 dX13_readOne_56 zf_RX13_521 rfl (v := .int (g 89)) rfl ?_
                    refine zs_as (y := nI 8) h89 ?_
                    refine zs_bipush (v := nI 8) dX13_readOne_59 (by decide) ?_
                    refine zs_icmp_ne (tgt := 70) dX13_readOne_61 (by decide) (fun c_60 => (c_60 rfl : False).elim) (fun c_60 => ?_)
                    refine zs_aload_n dX13_readOne_64 rfl rfl ?_
                    refine zs_iconst (v := nI 4) dX13_readOne_65 (by decide) ?_
                    refine zs_callV (M := mX13_bad) (As := [.int (nI 4)]) (st := []) (Kc := [(mo, .inr (11, fMo e g w))]) (Kr := [((e 1), .inl (0, 740, .inl (nF bt))), ((e 86), .inl (0, 240, .inl nd))]) [0] [1, 2] 0 dX13_readOne_66 zl_RX13_216 kX13_bad rfl rfl rfl rfl rfl (by decide) rfl rfl (show dd - 1 + 1 ≤ dd by omega) (Nat.zero_le _) (Nat.zero_le _) (Nat.le_of_ble_eq_true rfl) (s_mBad l (dd - 1) mo e g w n L t 4 hT hW hO) (fun r K1 hr => ?_)
                    rw [mBad_e (by first | (intro; rfl) | (intro h; unfold mKd at h; split at h <;> omega))] at hr
                    obtain ⟨rfl, rfl⟩ := hr
                    refine zs_K (K' := [(mo, .inr (11, fMo e (mFa g 4 t) w)), ((e 1), .inl (0, 740, .inl (nF bt))), ((e 86), .inl (0, 240, .inl nd))]) [2, 0, 1] rfl (by decide) ?_
                    have e1 : (sOne bt n L 0 t tk S).1 = 4 ∧ (sOne bt n L 0 t tk S).2.1 = t := by rw [sOne_z hnb]; exact ⟨rfl, rfl⟩
                    exact zs_zret dX13_readOne_69 rfl (Or.inl rfl) (Or.inr ⟨by rw [e1.1]; exact (show ¬ (4 : Nat) = 0 by decide), rfl, mFa g 4 t, w, nd, mFr_fs mFr_r, by rw [e1.1]; rfl, by rw [e1.2]; rfl, rfl⟩)
                · have hx28 : ¬ t.2.2.2.2 = some 28 := of_decide_eq_false (bI_f c_56)
                  refine zs_iinc (v := (nI 29)) (lv' := [(2, .int (nI 29)), (1, .int (nI 0)), (0, .ref mo)]) dX13_readOne_24 rfl (nI_add _ 1) (Nat.le_of_ble_eq_true rfl) rfl ?_
                  refine zs_goto (tgt := 10) dX13_readOne_27 (by decide) ?_
                  refine zs_iload_n dX13_readOne_10 rfl ?_
                  refine zs_bipush (v := nI 28) dX13_readOne_11 (by decide) ?_
                  refine zs_icmp_gt (tgt := 30) dX13_readOne_13 (by decide) (fun c_61 => ?_) (fun c_61 => (by first | exact absurd c_61 (by decide) | exact absurd (by decide) c_61 : False).elim)
                  refine zs_iload_n dX13_readOne_30 rfl ?_
                  refine zs_if_ne (tgt := 46) dX13_readOne_31 (by decide) (fun c_62 => (by first | exact absurd c_62 (by decide) | exact absurd (by decide) c_62 : False).elim) (fun c_62 => ?_)
                  refine zs_iload_n dX13_readOne_34 rfl ?_
                  refine zs_bipush (v := nI 28) dX13_readOne_35 (by decide) ?_
                  refine zs_icmp_le (tgt := 46) dX13_readOne_37 (by decide) (fun c_63 => (by first | exact absurd c_63 (by decide) | exact absurd (by decide) c_63 : False).elim) (fun c_63 => ?_)
                  have hbd : sBad t := ⟨hop, hx22, hx23, mOf_0 hx24 hx25 hx26 hx27 hx28⟩
                  refine zs_aload_n dX13_readOne_40 rfl rfl ?_
                  refine zs_iconst (v := nI 1) dX13_readOne_41 (by decide) ?_
                  refine zs_callV (M := mX13_bad) (As := [.int (nI 1)]) (st := []) (Kc := [(mo, .inr (11, fMo e g w))]) (Kr := [((e 1), .inl (0, 740, .inl (nF bt))), ((e 86), .inl (0, 240, .inl nd))]) [0] [1, 2] 0 dX13_readOne_42 zl_RX13_216 kX13_bad rfl rfl rfl rfl rfl (by decide) rfl rfl (show dd - 1 + 1 ≤ dd by omega) (Nat.zero_le _) (Nat.zero_le _) (Nat.le_of_ble_eq_true rfl) (s_mBad l (dd - 1) mo e g w n L t 1 hT hW hO) (fun r K1 hr => ?_)
                  rw [mBad_e (by first | (intro; rfl) | (intro h; unfold mKd at h; split at h <;> omega))] at hr
                  obtain ⟨rfl, rfl⟩ := hr
                  refine zs_K (K' := [(mo, .inr (11, fMo e (mFa g 1 t) w)), ((e 1), .inl (0, 740, .inl (nF bt))), ((e 86), .inl (0, 240, .inl nd))]) [2, 0, 1] rfl (by decide) ?_
                  have e1 : (sOne bt n L 0 t tk S).1 = 1 ∧ (sOne bt n L 0 t tk S).2.1 = t := by rw [sOne_bad hbd]; exact ⟨rfl, rfl⟩
                  exact zs_zret dX13_readOne_45 rfl (Or.inl rfl) (Or.inr ⟨by rw [e1.1]; exact (show ¬ (1 : Nat) = 0 by decide), rfl, mFa g 1 t, w, nd, mFr_fs mFr_r, by rw [e1.1]; rfl, by rw [e1.2]; rfl, rfl⟩)
theorem sBk_G {b : Nat → Nat} {n L : Nat} (hb : ∀ j, b j < 256) (hn : n ≤ 740) {f : zTk → Nat → zSe → zPs} (hf : sG f) : sG (sBk b n L f) := fun τ tk S hτ htk hS => by
  have hr := hf τ tk S hτ htk hS
  unfold sBk
  generalize f τ tk S = R at hr ⊢
  obtain ⟨g1, g2, g3, g4, g5⟩ := hr
  split
  · split
    · rename_i h0 _
      exact ⟨nxt_OK hb hn, g2, g3, g4, fun _ => g5 h0⟩
    · exact ⟨g1, g2, g3, g4, fun h => absurd (show (1 : Nat) = 0 from h) (by decide)⟩
  · exact ⟨g1, g2, g3, g4, g5⟩
theorem sNt_G {f : zTk → Nat → zSe → zPs} (hf : sG f) (τ : zTk) (tk : Nat) (S : zSe) (hτ : tOK τ) (htk : tk ≤ 99999999) (hS : sB (sOn S)) : sR S (sNt f τ tk (sOn S)) := by
  have hr := hf τ tk (sOn S) hτ htk hS
  unfold sNt
  generalize f τ tk (sOn S) = R at hr ⊢
  obtain ⟨g1, g2, g3, g4, g5⟩ := hr
  have g3 : S.1 + 1 ≤ R.2.2.2.1 := g3
  split
  · rename_i h0
    have g5 : R.2.2.2.2.1 + 2 * (S.1 + 1) + 1 ≤ S.2.1 + 2 * R.2.2.2.1 := g5 h0
    exact ⟨g1, g2, by show S.1 ≤ R.2.2.2.1; omega, g4, fun _ => by show R.2.2.2.2.1 + 1 + 2 * S.1 + 1 ≤ S.2.1 + 2 * R.2.2.2.1; omega⟩
  · rename_i h0
    exact ⟨g1, g2, by omega, g4, fun h => absurd h h0⟩
set_option maxRecDepth 100000 in
theorem s_mOneS (l : Launch) (dd d : Nat) (mo : Nat) (e : Nat → Nat) (n L : Nat) (bt : Nat → Nat) (hn : n ≤ 740) (hL : L ≤ 740) (hbt : ∀ j, bt j < 256) (hd9 : d < 8) (hd : 8 ≤ dd) (hBk : rCt l mX13_readBracket (dd - 1) d mo e n L bt (sBk bt n L (sJo bt n L 20 8 (sJo bt n L 21 7 (sOne bt n L d))))) (hNt : rCt l mX13_readNot (dd - 1) d mo e n L bt (sNt (sOne bt n L d))) : rCt l mX13_readOne dd (d + 1) mo e n L bt (sOne bt n L (d + 1)) := fun t tk S g w nd h3 h4 hT hW hO htk hS h87 h88 h89 => by
  have hS2 := hS.2
  have hS1 := hS.1
  have h14 := hO.1
  have hkd := mKd_4 (n := n) (L := L) hO.1
  refine zSp.of (by decide) (Nat.le_of_ble_eq_true rfl) (fun h0 => ?_)
  show zS _ 0 0 0 [(0, .ref mo)] [] [(mo, .inr (11, fMo e g w)), ((e 1), .inl (0, 740, .inl (nF bt))), ((e 86), .inl (0, 240, .inl nd))]
  refine zs_aload_n dX13_readOne_0 rfl rfl ?_
  refine zs_bipush (v := nI 40) dX13_readOne_1 (by decide) ?_
  refine zs_callV (M := mX13_isSign) (As := [.int (nI 40)]) (st := []) (Kc := [(mo, .inr (11, fMo e g w))]) (Kr := [((e 1), .inl (0, 740, .inl (nF bt))), ((e 86), .inl (0, 240, .inl nd))]) [0] [1, 2] 0 dX13_readOne_3 zl_RX13_229 kX13_isSign rfl rfl rfl rfl rfl (by decide) rfl rfl (show dd - 1 + 1 ≤ dd by omega) (Nat.zero_le _) (Nat.zero_le _) (Nat.le_of_ble_eq_true rfl) (s_mIsSign l (dd - 1) mo e g w n L t 40 hT hW hO (by decide)) (fun r K1 hr => ?_)
  obtain ⟨rfl, rfl⟩ := hr
  refine zs_K (K' := [(mo, .inr (11, fMo e g w)), ((e 1), .inl (0, 740, .inl (nF bt))), ((e 86), .inl (0, 240, .inl nd))]) [2, 0, 1] rfl (by decide) ?_
  cases hop : tAt t 40 with
  | true =>
    have h4k : t.1 = 4 := (tAt_i hop).1
    have hnw : t.2.2.2.2 = none := hW.2.2.1 (by omega)
    have hnb : ¬ sBad t := fun h => by rw [h.1] at hop; exact absurd hop (by decide)
    refine zs_as (y := nI 1) rfl ?_
    refine zs_istore_n (lv' := [(1, .int (nI 1)), (0, .ref mo)]) dX13_readOne_6 (Nat.le_of_ble_eq_true rfl) rfl ?_
    refine zs_bipush (v := nI 22) dX13_readOne_7 (by decide) ?_
    refine zs_istore_n (lv' := [(2, .int (nI 22)), (1, .int (nI 1)), (0, .ref mo)]) dX13_readOne_9 (Nat.le_of_ble_eq_true rfl) rfl ?_
    refine zs_iload_n dX13_readOne_10 rfl ?_
    refine zs_bipush (v := nI 28) dX13_readOne_11 (by decide) ?_
    refine zs_icmp_gt (tgt := 30) dX13_readOne_13 (by decide) (fun c_1 => (by first | exact absurd c_1 (by decide) | exact absurd (by decide) c_1 : False).elim) (fun c_1 => ?_)
    refine zs_aload_n dX13_readOne_16 rfl rfl ?_
    refine zs_iload_n dX13_readOne_17 rfl ?_
    refine zs_callV (M := mX13_isWord) (As := [.int (nI 22)]) (st := []) (Kc := [(mo, .inr (11, fMo e g w))]) (Kr := [((e 1), .inl (0, 740, .inl (nF bt))), ((e 86), .inl (0, 240, .inl nd))]) [0] [1, 2] 0 dX13_readOne_18 zl_RX13_264 kX13_isWord rfl rfl rfl rfl rfl (by decide) rfl rfl (show dd - 1 + 1 ≤ dd by omega) (Nat.zero_le _) (Nat.zero_le _) (Nat.le_of_ble_eq_true rfl) (s_mIsWord l (dd - 1) mo e g w n L t 22 (by omega) (by omega) hT hW hO) (fun r K1 hr => ?_)
    obtain ⟨rfl, rfl⟩ := hr
    refine zs_K (K' := [(mo, .inr (11, fMo e g w)), ((e 1), .inl (0, 740, .inl (nF bt))), ((e 86), .inl (0, 240, .inl nd))]) [2, 0, 1] rfl (by decide) ?_
    refine zs_as (y := nI 0) (bI_e (by rw [hnw]; exact fun h => absurd h (by simp))) ?_
    refine zs_if_ne (tgt := 30) dX13_readOne_21 (by decide) (fun c_2 => (by first | exact absurd c_2 (by decide) | exact absurd (by decide) c_2 : False).elim) (fun c_2 => ?_)
    refine zs_iinc (v := (nI 23)) (lv' := [(2, .int (nI 23)), (1, .int (nI 1)), (0, .ref mo)]) dX13_readOne_24 rfl (nI_add _ 1) (Nat.le_of_ble_eq_true rfl) rfl ?_
    refine zs_goto (tgt := 10) dX13_readOne_27 (by decide) ?_
    refine zs_iload_n dX13_readOne_10 rfl ?_
    refine zs_bipush (v := nI 28) dX13_readOne_11 (by decide) ?_
    refine zs_icmp_gt (tgt := 30) dX13_readOne_13 (by decide) (fun c_3 => (by first | exact absurd c_3 (by decide) | exact absurd (by decide) c_3 : False).elim) (fun c_3 => ?_)
    refine zs_aload_n dX13_readOne_16 rfl rfl ?_
    refine zs_iload_n dX13_readOne_17 rfl ?_
    refine zs_callV (M := mX13_isWord) (As := [.int (nI 23)]) (st := []) (Kc := [(mo, .inr (11, fMo e g w))]) (Kr := [((e 1), .inl (0, 740, .inl (nF bt))), ((e 86), .inl (0, 240, .inl nd))]) [0] [1, 2] 0 dX13_readOne_18 zl_RX13_264 kX13_isWord rfl rfl rfl rfl rfl (by decide) rfl rfl (show dd - 1 + 1 ≤ dd by omega) (Nat.zero_le _) (Nat.zero_le _) (Nat.le_of_ble_eq_true rfl) (s_mIsWord l (dd - 1) mo e g w n L t 23 (by omega) (by omega) hT hW hO) (fun r K1 hr => ?_)
    obtain ⟨rfl, rfl⟩ := hr
    refine zs_K (K' := [(mo, .inr (11, fMo e g w)), ((e 1), .inl (0, 740, .inl (nF bt))), ((e 86), .inl (0, 240, .inl nd))]) [2, 0, 1] rfl (by decide) ?_
    refine zs_as (y := nI 0) (bI_e (by rw [hnw]; exact fun h => absurd h (by simp))) ?_
    refine zs_if_ne (tgt := 30) dX13_readOne_21 (by decide) (fun c_4 => (by first | exact absurd c_4 (by decide) | exact absurd (by decide) c_4 : False).elim) (fun c_4 => ?_)
    refine zs_iinc (v := (nI 24)) (lv' := [(2, .int (nI 24)), (1, .int (nI 1)), (0, .ref mo)]) dX13_readOne_24 rfl (nI_add _ 1) (Nat.le_of_ble_eq_true rfl) rfl ?_
    refine zs_goto (tgt := 10) dX13_readOne_27 (by decide) ?_
    refine zs_iload_n dX13_readOne_10 rfl ?_
    refine zs_bipush (v := nI 28) dX13_readOne_11 (by decide) ?_
    refine zs_icmp_gt (tgt := 30) dX13_readOne_13 (by decide) (fun c_5 => (by first | exact absurd c_5 (by decide) | exact absurd (by decide) c_5 : False).elim) (fun c_5 => ?_)
    refine zs_aload_n dX13_readOne_16 rfl rfl ?_
    refine zs_iload_n dX13_readOne_17 rfl ?_
    refine zs_callV (M := mX13_isWord) (As := [.int (nI 24)]) (st := []) (Kc := [(mo, .inr (11, fMo e g w))]) (Kr := [((e 1), .inl (0, 740, .inl (nF bt))), ((e 86), .inl (0, 240, .inl nd))]) [0] [1, 2] 0 dX13_readOne_18 zl_RX13_264 kX13_isWord rfl rfl rfl rfl rfl (by decide) rfl rfl (show dd - 1 + 1 ≤ dd by omega) (Nat.zero_le _) (Nat.zero_le _) (Nat.le_of_ble_eq_true rfl) (s_mIsWord l (dd - 1) mo e g w n L t 24 (by omega) (by omega) hT hW hO) (fun r K1 hr => ?_)
    obtain ⟨rfl, rfl⟩ := hr
    refine zs_K (K' := [(mo, .inr (11, fMo e g w)), ((e 1), .inl (0, 740, .inl (nF bt))), ((e 86), .inl (0, 240, .inl nd))]) [2, 0, 1] rfl (by decide) ?_
    refine zs_as (y := nI 0) (bI_e (by rw [hnw]; exact fun h => absurd h (by simp))) ?_
    refine zs_if_ne (tgt := 30) dX13_readOne_21 (by decide) (fun c_6 => (by first | exact absurd c_6 (by decide) | exact absurd (by decide) c_6 : False).elim) (fun c_6 => ?_)
    refine zs_iinc (v := (nI 25)) (lv' := [(2, .int (nI 25)), (1, .int (nI 1)), (0, .ref mo)]) dX13_readOne_24 rfl (nI_add _ 1) (Nat.le_of_ble_eq_true rfl) rfl ?_
    refine zs_goto (tgt := 10) dX13_readOne_27 (by decide) ?_
    refine zs_iload_n dX13_readOne_10 rfl ?_
    refine zs_bipush (v := nI 28) dX13_readOne_11 (by decide) ?_
    refine zs_icmp_gt (tgt := 30) dX13_readOne_13 (by decide) (fun c_7 => (by first | exact absurd c_7 (by decide) | exact absurd (by decide) c_7 : False).elim) (fun c_7 => ?_)
    refine zs_aload_n dX13_readOne_16 rfl rfl ?_
    refine zs_iload_n dX13_readOne_17 rfl ?_
    refine zs_callV (M := mX13_isWord) (As := [.int (nI 25)]) (st := []) (Kc := [(mo, .inr (11, fMo e g w))]) (Kr := [((e 1), .inl (0, 740, .inl (nF bt))), ((e 86), .inl (0, 240, .inl nd))]) [0] [1, 2] 0 dX13_readOne_18 zl_RX13_264 kX13_isWord rfl rfl rfl rfl rfl (by decide) rfl rfl (show dd - 1 + 1 ≤ dd by omega) (Nat.zero_le _) (Nat.zero_le _) (Nat.le_of_ble_eq_true rfl) (s_mIsWord l (dd - 1) mo e g w n L t 25 (by omega) (by omega) hT hW hO) (fun r K1 hr => ?_)
    obtain ⟨rfl, rfl⟩ := hr
    refine zs_K (K' := [(mo, .inr (11, fMo e g w)), ((e 1), .inl (0, 740, .inl (nF bt))), ((e 86), .inl (0, 240, .inl nd))]) [2, 0, 1] rfl (by decide) ?_
    refine zs_as (y := nI 0) (bI_e (by rw [hnw]; exact fun h => absurd h (by simp))) ?_
    refine zs_if_ne (tgt := 30) dX13_readOne_21 (by decide) (fun c_8 => (by first | exact absurd c_8 (by decide) | exact absurd (by decide) c_8 : False).elim) (fun c_8 => ?_)
    refine zs_iinc (v := (nI 26)) (lv' := [(2, .int (nI 26)), (1, .int (nI 1)), (0, .ref mo)]) dX13_readOne_24 rfl (nI_add _ 1) (Nat.le_of_ble_eq_true rfl) rfl ?_
    refine zs_goto (tgt := 10) dX13_readOne_27 (by decide) ?_
    refine zs_iload_n dX13_readOne_10 rfl ?_
    refine zs_bipush (v := nI 28) dX13_readOne_11 (by decide) ?_
    refine zs_icmp_gt (tgt := 30) dX13_readOne_13 (by decide) (fun c_9 => (by first | exact absurd c_9 (by decide) | exact absurd (by decide) c_9 : False).elim) (fun c_9 => ?_)
    refine zs_aload_n dX13_readOne_16 rfl rfl ?_
    refine zs_iload_n dX13_readOne_17 rfl ?_
    refine zs_callV (M := mX13_isWord) (As := [.int (nI 26)]) (st := []) (Kc := [(mo, .inr (11, fMo e g w))]) (Kr := [((e 1), .inl (0, 740, .inl (nF bt))), ((e 86), .inl (0, 240, .inl nd))]) [0] [1, 2] 0 dX13_readOne_18 zl_RX13_264 kX13_isWord rfl rfl rfl rfl rfl (by decide) rfl rfl (show dd - 1 + 1 ≤ dd by omega) (Nat.zero_le _) (Nat.zero_le _) (Nat.le_of_ble_eq_true rfl) (s_mIsWord l (dd - 1) mo e g w n L t 26 (by omega) (by omega) hT hW hO) (fun r K1 hr => ?_)
    obtain ⟨rfl, rfl⟩ := hr
    refine zs_K (K' := [(mo, .inr (11, fMo e g w)), ((e 1), .inl (0, 740, .inl (nF bt))), ((e 86), .inl (0, 240, .inl nd))]) [2, 0, 1] rfl (by decide) ?_
    refine zs_as (y := nI 0) (bI_e (by rw [hnw]; exact fun h => absurd h (by simp))) ?_
    refine zs_if_ne (tgt := 30) dX13_readOne_21 (by decide) (fun c_10 => (by first | exact absurd c_10 (by decide) | exact absurd (by decide) c_10 : False).elim) (fun c_10 => ?_)
    refine zs_iinc (v := (nI 27)) (lv' := [(2, .int (nI 27)), (1, .int (nI 1)), (0, .ref mo)]) dX13_readOne_24 rfl (nI_add _ 1) (Nat.le_of_ble_eq_true rfl) rfl ?_
    refine zs_goto (tgt := 10) dX13_readOne_27 (by decide) ?_
    refine zs_iload_n dX13_readOne_10 rfl ?_
    refine zs_bipush (v := nI 28) dX13_readOne_11 (by decide) ?_
    refine zs_icmp_gt (tgt := 30) dX13_readOne_13 (by decide) (fun c_11 => (by first | exact absurd c_11 (by decide) | exact absurd (by decide) c_11 : False).elim) (fun c_11 => ?_)
    refine zs_aload_n dX13_readOne_16 rfl rfl ?_
    refine zs_iload_n dX13_readOne_17 rfl ?_
    refine zs_callV (M := mX13_isWord) (As := [.int (nI 27)]) (st := []) (Kc := [(mo, .inr (11, fMo e g w))]) (Kr := [((e 1), .inl (0, 740, .inl (nF bt))), ((e 86), .inl (0, 240, .inl nd))]) [0] [1, 2] 0 dX13_readOne_18 zl_RX13_264 kX13_isWord rfl rfl rfl rfl rfl (by decide) rfl rfl (show dd - 1 + 1 ≤ dd by omega) (Nat.zero_le _) (Nat.zero_le _) (Nat.le_of_ble_eq_true rfl) (s_mIsWord l (dd - 1) mo e g w n L t 27 (by omega) (by omega) hT hW hO) (fun r K1 hr => ?_)
    obtain ⟨rfl, rfl⟩ := hr
    refine zs_K (K' := [(mo, .inr (11, fMo e g w)), ((e 1), .inl (0, 740, .inl (nF bt))), ((e 86), .inl (0, 240, .inl nd))]) [2, 0, 1] rfl (by decide) ?_
    refine zs_as (y := nI 0) (bI_e (by rw [hnw]; exact fun h => absurd h (by simp))) ?_
    refine zs_if_ne (tgt := 30) dX13_readOne_21 (by decide) (fun c_12 => (by first | exact absurd c_12 (by decide) | exact absurd (by decide) c_12 : False).elim) (fun c_12 => ?_)
    refine zs_iinc (v := (nI 28)) (lv' := [(2, .int (nI 28)), (1, .int (nI 1)), (0, .ref mo)]) dX13_readOne_24 rfl (nI_add _ 1) (Nat.le_of_ble_eq_true rfl) rfl ?_
    refine zs_goto (tgt := 10) dX13_readOne_27 (by decide) ?_
    refine zs_iload_n dX13_readOne_10 rfl ?_
    refine zs_bipush (v := nI 28) dX13_readOne_11 (by decide) ?_
    refine zs_icmp_gt (tgt := 30) dX13_readOne_13 (by decide) (fun c_13 => (by first | exact absurd c_13 (by decide) | exact absurd (by decide) c_13 : False).elim) (fun c_13 => ?_)
    refine zs_aload_n dX13_readOne_16 rfl rfl ?_
    refine zs_iload_n dX13_readOne_17 rfl ?_
    refine zs_callV (M := mX13_isWord) (As := [.int (nI 28)]) (st := []) (Kc := [(mo, .inr (11, fMo e g w))]) (Kr := [((e 1), .inl (0, 740, .inl (nF bt))), ((e 86), .inl (0, 240, .inl nd))]) [0] [1, 2] 0 dX13_readOne_18 zl_RX13_264 kX13_isWord rfl rfl rfl rfl rfl (by decide) rfl rfl (show dd - 1 + 1 ≤ dd by omega) (Nat.zero_le _) (Nat.zero_le _) (Nat.le_of_ble_eq_true rfl) (s_mIsWord l (dd - 1) mo e g w n L t 28 (by omega) (by omega) hT hW hO) (fun r K1 hr => ?_)
    obtain ⟨rfl, rfl⟩ := hr
    refine zs_K (K' := [(mo, .inr (11, fMo e g w)), ((e 1), .inl (0, 740, .inl (nF bt))), ((e 86), .inl (0, 240, .inl nd))]) [2, 0, 1] rfl (by decide) ?_
    refine zs_as (y := nI 0) (bI_e (by rw [hnw]; exact fun h => absurd h (by simp))) ?_
    refine zs_if_ne (tgt := 30) dX13_readOne_21 (by decide) (fun c_14 => (by first | exact absurd c_14 (by decide) | exact absurd (by decide) c_14 : False).elim) (fun c_14 => ?_)
    refine zs_iinc (v := (nI 29)) (lv' := [(2, .int (nI 29)), (1, .int (nI 1)), (0, .ref mo)]) dX13_readOne_24 rfl (nI_add _ 1) (Nat.le_of_ble_eq_true rfl) rfl ?_
    refine zs_goto (tgt := 10) dX13_readOne_27 (by decide) ?_
    refine zs_iload_n dX13_readOne_10 rfl ?_
    refine zs_bipush (v := nI 28) dX13_readOne_11 (by decide) ?_
    refine zs_icmp_gt (tgt := 30) dX13_readOne_13 (by decide) (fun c_15 => ?_) (fun c_15 => (by first | exact absurd c_15 (by decide) | exact absurd (by decide) c_15 : False).elim)
    refine zs_iload_n dX13_readOne_30 rfl ?_
    refine zs_if_ne (tgt := 46) dX13_readOne_31 (by decide) (fun c_16 => ?_) (fun c_16 => (by first | exact absurd c_16 (by decide) | exact absurd (by decide) c_16 : False).elim)
    refine zs_aload_n dX13_readOne_46 rfl rfl ?_
    refine zs_get 0 dX13_readOne_47 zf_RX13_518 rfl (v := .int (g 88)) rfl ?_
    refine zs_as (y := nI S.1) h88 ?_
    refine zs_bipush (v := nI 20) dX13_readOne_50 (by decide) ?_
    refine zs_icmp_eq (tgt := 64) dX13_readOne_52 (by decide) (fun c_17 => ?_) (fun c_17 => ?_)
    · have c_17 : S.1 = 20 := by have hc := c_17; rw [nI_eq' (by omega) (by omega)] at hc; exact hc
      refine zs_aload_n dX13_readOne_64 rfl rfl ?_
      refine zs_iconst (v := nI 4) dX13_readOne_65 (by decide) ?_
      refine zs_callV (M := mX13_bad) (As := [.int (nI 4)]) (st := []) (Kc := [(mo, .inr (11, fMo e g w))]) (Kr := [((e 1), .inl (0, 740, .inl (nF bt))), ((e 86), .inl (0, 240, .inl nd))]) [0] [1, 2] 0 dX13_readOne_66 zl_RX13_216 kX13_bad rfl rfl rfl rfl rfl (by decide) rfl rfl (show dd - 1 + 1 ≤ dd by omega) (Nat.zero_le _) (Nat.zero_le _) (Nat.le_of_ble_eq_true rfl) (s_mBad l (dd - 1) mo e g w n L t 4 hT hW hO) (fun r K1 hr => ?_)
      rw [mBad_e (by first | (intro; rfl) | (intro h; unfold mKd at h; split at h <;> omega))] at hr
      obtain ⟨rfl, rfl⟩ := hr
      refine zs_K (K' := [(mo, .inr (11, fMo e (mFa g 4 t) w)), ((e 1), .inl (0, 740, .inl (nF bt))), ((e 86), .inl (0, 240, .inl nd))]) [2, 0, 1] rfl (by decide) ?_
      have e1 : (sOne bt n L (d + 1) t tk S).1 = 4 ∧ (sOne bt n L (d + 1) t tk S).2.1 = t := by rw [sOne_4 hnb (by omega)]; exact ⟨rfl, rfl⟩
      exact zs_zret dX13_readOne_69 rfl (Or.inl rfl) (Or.inr ⟨by rw [e1.1]; exact (show ¬ (4 : Nat) = 0 by decide), rfl, mFa g 4 t, w, nd, mFr_fs mFr_r, by rw [e1.1]; rfl, by rw [e1.2]; rfl, rfl⟩)
    · have c_17 : ¬ (S.1 = 20) := by have hc := c_17; rw [nI_eq' (by omega) (by omega)] at hc; exact hc
      refine zs_aload_n dX13_readOne_55 rfl rfl ?_
      refine zs_get 0 dX13_readOne_56 zf_RX13_521 rfl (v := .int (g 89)) rfl ?_
      refine zs_as (y := nI (7 - d)) (h89.trans (congrArg nI (by omega))) ?_
      refine zs_bipush (v := nI 8) dX13_readOne_59 (by decide) ?_
      refine zs_icmp_ne (tgt := 70) dX13_readOne_61 (by decide) (fun c_18 => ?_) (fun c_18 => (by rw [nI_eq' (by omega) (by omega)] at c_18; omega : False).elim)
      refine zs_aload_n dX13_readOne_70 rfl rfl ?_
      refine zs_dup dX13_readOne_71 rfl ?_
      refine zs_get 0 dX13_readOne_72 zf_RX13_518 rfl (v := .int (g 88)) rfl ?_
      refine zs_as (y := nI S.1) h88 ?_
      refine zs_iconst (v := nI 1) dX13_readOne_75 (by decide) ?_
      refine zs_iadd dX13_readOne_76 ?_
      refine zs_as (y := nI (S.1 + 1)) (nI_add _ _) ?_
      refine zs_put 0 dX13_readOne_77 zf_RX13_518 rfl (Nat.le_of_ble_eq_true rfl) (zPv_i _) ?_
      show zS _ _ _ _ _ _ [(mo, .inr (11, fMo e (upd g 88 (nI (S.1 + 1))) w)), ((e 1), .inl (0, 740, .inl (nF bt))), ((e 86), .inl (0, 240, .inl nd))]
      refine zs_aload_n dX13_readOne_80 rfl rfl ?_
      refine zs_dup dX13_readOne_81 rfl ?_
      refine zs_get 0 dX13_readOne_82 zf_RX13_521 rfl (v := .int (g 89)) rfl ?_
      refine zs_as (y := nI (7 - d)) (h89.trans (congrArg nI (by omega))) ?_
      refine zs_iconst (v := nI 1) dX13_readOne_85 (by decide) ?_
      refine zs_iadd dX13_readOne_86 ?_
      refine zs_as (y := nI ((7 - d) + 1)) (nI_add _ _) ?_
      refine zs_put 0 dX13_readOne_87 zf_RX13_521 rfl (Nat.le_of_ble_eq_true rfl) (zPv_i _) ?_
      show zS _ _ _ _ _ _ [(mo, .inr (11, fMo e (upd (upd g 88 (nI (S.1 + 1))) 89 (nI ((7 - d) + 1))) w)), ((e 1), .inl (0, 740, .inl (nF bt))), ((e 86), .inl (0, 240, .inl nd))]
      refine zs_aload_n dX13_readOne_90 rfl rfl ?_
      have h0t : ¬ t.1 = 0 := by omega
      refine zs_callV (M := mX13_go) (As := []) (st := []) (Kc := [(mo, .inr (11, fMo e (upd (upd g 88 (nI (S.1 + 1))) 89 (nI ((7 - d) + 1))) w)), ((e 1), .inl (0, 740, .inl (nF bt)))]) (Kr := [((e 86), .inl (0, 240, .inl nd))]) [0, 1] [2] 0 dX13_readOne_91 zl_RX13_226 kX13_go rfl rfl rfl rfl rfl (by decide) rfl rfl (show dd - 1 + 1 ≤ dd by omega) (Nat.zero_le _) (Nat.zero_le _) (Nat.le_of_ble_eq_true rfl) (s_mGoT l (dd - 1) mo e (upd (upd g 88 (nI (S.1 + 1))) 89 (nI ((7 - d) + 1))) w n L bt t (by omega) hn hL hbt (show (upd (upd g 88 (nI (S.1 + 1))) 89 (nI ((7 - d) + 1))) 3 = nI n from h3) (show (upd (upd g 88 (nI (S.1 + 1))) 89 (nI ((7 - d) + 1))) 4 = nI L from h4) (mTk_f hT rfl rfl rfl rfl rfl) hW h0t) (fun r K1 hr => ?_)
      obtain ⟨rfl, g1, w1, hfr1, hT1, rfl⟩ := hr
      refine zs_K (K' := [(mo, .inr (11, fMo e g1 w1)), ((e 1), .inl (0, 740, .inl (nF bt))), ((e 86), .inl (0, 240, .inl nd))]) [1, 2, 0] rfl (by decide) ?_
      have fr1 : mFr [5, 6, 7, 8, 9, 13, 87, 88, 89, 90] g g1 := mFr_t ((mFr_u (mFr_u mFr_r (by decide)) (by decide)) : mFr [5, 6, 7, 8, 9, 13, 87, 88, 89, 90] g (upd (upd g 88 (nI (S.1 + 1))) 89 (nI ((7 - d) + 1)))) hfr1 (by decide) (by decide)
      have hO_1 := nxt_OK (L := L) (τ := t) hbt hn
      have h14_1 := hO_1.1
      have hkd_1 := mKd_4 (n := n) (L := L) hO_1.1
      refine zs_iconst (v := nI 1) dX13_readOne_94 (by decide) ?_
      refine zs_istore_n (lv' := [(3, .int (nI 1)), (2, .int (nI 29)), (1, .int (nI 1)), (0, .ref mo)]) dX13_readOne_95 (Nat.le_of_ble_eq_true rfl) rfl ?_
      refine zs_iload_n dX13_readOne_96 rfl ?_
      refine zs_if_eq (tgt := 108) dX13_readOne_97 (by decide) (fun c_19 => (by first | exact absurd c_19 (by decide) | exact absurd (by decide) c_19 : False).elim) (fun c_19 => ?_)
      refine zs_aload_n dX13_readOne_100 rfl rfl ?_
      refine zs_callV (M := mX13_readBracket) (As := []) (st := []) (Kc := [(mo, .inr (11, fMo e g1 w1)), ((e 1), .inl (0, 740, .inl (nF bt))), ((e 86), .inl (0, 240, .inl nd))]) (Kr := []) [0, 1, 2] [] 0 dX13_readOne_101 zl_RX13_524 kX13_readBracket rfl rfl rfl rfl rfl (by decide) rfl rfl (show dd - 1 + 1 ≤ dd by omega) (Nat.zero_le _) (Nat.zero_le _) (Nat.le_of_ble_eq_true rfl) (hBk (nxt bt n L t) tk (sOn S) g1 w1 nd ((hfr1 3 (by decide)).trans (show (upd (upd g 88 (nI (S.1 + 1))) 89 (nI ((7 - d) + 1))) 3 = nI n from h3)) ((hfr1 4 (by decide)).trans (show (upd (upd g 88 (nI (S.1 + 1))) 89 (nI ((7 - d) + 1))) 4 = nI L from h4)) hT1 (nxt_W (b := bt) (n := n) (L := L) (τ := t)) hO_1 htk ⟨by show S.1 + 1 ≤ 20; omega, by show S.2.1 ≤ 2 * (S.1 + 1); omega⟩ ((hfr1 87 (by decide)).trans (show (upd (upd g 88 (nI (S.1 + 1))) 89 (nI ((7 - d) + 1))) 87 = nI S.2.1 from h87)) ((hfr1 88 (by decide)).trans (show (upd (upd g 88 (nI (S.1 + 1))) 89 (nI ((7 - d) + 1))) 88 = nI (S.1 + 1) from rfl)) (((hfr1 89 (by decide)).trans (show (upd (upd g 88 (nI (S.1 + 1))) 89 (nI ((7 - d) + 1))) 89 = nI (7 - d + 1) from rfl)).trans (congrArg nI (show 7 - d + 1 = 8 - d by omega)))) (fun r K1 hr => ?_)
      have hR2 := (sBk_G (L := L) hbt hn (sJo_G (L := L) (w := 20) (j := 8) hbt hn (sJo_G (L := L) (w := 21) (j := 7) hbt hn (sOne_G (L := L) hbt hn d)))) (nxt bt n L t) tk (sOn S) hO_1 htk ⟨by show S.1 + 1 ≤ 20; omega, by show S.2.1 ≤ 2 * (S.1 + 1); omega⟩
      generalize hG2 : (sBk bt n L (sJo bt n L 20 8 (sJo bt n L 21 7 (sOne bt n L d)))) (nxt bt n L t) tk (sOn S) = G2 at hr hR2
      rcases hr with ⟨hq2, rfl, g2, w2, nd2, hfr2, hT2, hW2, h87_2, h88_2, h90_2, hlt2, hal2, hsT2, rfl⟩ | ⟨hq2, rfl, g2, w2, nd2, hfr2, h10_2, h11_2, rfl⟩
      · have fr2 : mFr [5, 6, 7, 8, 9, 13, 87, 88, 89, 90] g g2 := mFr_t (fr1 : mFr [5, 6, 7, 8, 9, 13, 87, 88, 89, 90] g g1) hfr2 (by decide) (by decide)
        have hS5_2 := hR2.2.2.2.2 hq2
        have hS4_2 := hR2.2.2.2.1
        have h14_2 := hR2.1.1
        have hkd_2 := mKd_4 (n := n) (L := L) hR2.1.1
        refine zs_istore_n (lv' := [(3, .int (nI 1)), (2, .int (nI 29)), (1, .int (nI 1)), (0, .ref mo)]) dX13_readOne_104 (Nat.le_of_ble_eq_true rfl) rfl ?_
        refine zs_goto (tgt := 149) dX13_readOne_105 (by decide) ?_
        refine zs_aload_n dX13_readOne_149 rfl rfl ?_
        refine zs_dup dX13_readOne_150 rfl ?_
        refine zs_get 0 dX13_readOne_151 zf_RX13_521 rfl (v := .int (g2 89)) rfl ?_
        refine zs_as (y := nI (8 - d)) ((hfr2 89 (by decide)).trans (((hfr1 89 (by decide)).trans (show (upd (upd g 88 (nI (S.1 + 1))) 89 (nI ((7 - d) + 1))) 89 = nI (7 - d + 1) from rfl)).trans (congrArg nI (show 7 - d + 1 = 8 - d by omega)))) ?_
        refine zs_iconst (v := nI 1) dX13_readOne_154 (by decide) ?_
        refine zs_isub dX13_readOne_155 ?_
        refine zs_as (y := nI ((8 - d) - 1)) (nI_sub (by omega)) ?_
        refine zs_put 0 dX13_readOne_156 zf_RX13_521 rfl (Nat.le_of_ble_eq_true rfl) (zPv_i _) ?_
        show zS _ _ _ _ _ _ [(mo, .inr (11, fMo e (upd g2 89 (nI ((8 - d) - 1))) w2)), ((e 1), .inl (0, 740, .inl (nF bt))), ((e 86), .inl (0, 240, .inl nd2))]
        refine zs_iload_n dX13_readOne_159 rfl ?_
        have er : sOne bt n L (d + 1) t tk S = G2 := by rw [sOne_b hnb (show ¬ 20 ≤ S.1 by omega) hop, ← hG2]
        exact zs_zret dX13_readOne_160 rfl (Or.inr rfl) (Or.inl ⟨by rw [er]; exact hq2, rfl, (upd g2 89 (nI ((8 - d) - 1))), w2, nd2, mFr_9 fr2 (by rw [h89]; exact congrArg nI (by omega)), by rw [er]; exact mTk_f hT2 rfl rfl rfl rfl rfl, by rw [er]; exact hW2, by rw [er]; exact h87_2, by rw [er]; exact h88_2, by rw [er]; exact h90_2, by rw [er]; exact hlt2, by rw [er]; exact hal2, by rw [er]; exact hsT2, rfl⟩)
      · skip
        refine zs_istore_n (lv' := [(3, .int (nI 0)), (2, .int (nI 29)), (1, .int (nI 1)), (0, .ref mo)]) dX13_readOne_104 (Nat.le_of_ble_eq_true rfl) rfl ?_
        refine zs_goto (tgt := 149) dX13_readOne_105 (by decide) ?_
        refine zs_aload_n dX13_readOne_149 rfl rfl ?_
        refine zs_dup dX13_readOne_150 rfl ?_
        refine zs_get 0 dX13_readOne_151 zf_RX13_521 rfl (v := .int (g2 89)) rfl ?_
        refine zs_as (y := nI (8 - d)) ((hfr2 89 (by decide)).trans (((hfr1 89 (by decide)).trans (show (upd (upd g 88 (nI (S.1 + 1))) 89 (nI ((7 - d) + 1))) 89 = nI (7 - d + 1) from rfl)).trans (congrArg nI (show 7 - d + 1 = 8 - d by omega)))) ?_
        refine zs_iconst (v := nI 1) dX13_readOne_154 (by decide) ?_
        refine zs_isub dX13_readOne_155 ?_
        refine zs_as (y := nI ((8 - d) - 1)) (nI_sub (by omega)) ?_
        refine zs_put 0 dX13_readOne_156 zf_RX13_521 rfl (Nat.le_of_ble_eq_true rfl) (zPv_i _) ?_
        show zS _ _ _ _ _ _ [(mo, .inr (11, fMo e (upd g2 89 (nI ((8 - d) - 1))) w2)), ((e 1), .inl (0, 740, .inl (nF bt))), ((e 86), .inl (0, 240, .inl nd2))]
        refine zs_iload_n dX13_readOne_159 rfl ?_
        have er : sOne bt n L (d + 1) t tk S = G2 := by rw [sOne_b hnb (show ¬ 20 ≤ S.1 by omega) hop, ← hG2]
        exact zs_zret dX13_readOne_160 rfl (Or.inl rfl) (Or.inr ⟨by rw [er]; exact hq2, rfl, (upd g2 89 (nI ((8 - d) - 1))), w2, nd2, mFr_9b (mFr_t (fr1 : mFr [5, 6, 7, 8, 9, 13, 87, 88, 89, 90] g g1) hfr2 (by decide) (by decide) : mFr [5, 6, 7, 8, 9, 10, 11, 13, 87, 88, 89, 90] g g2) (by rw [h89]; exact congrArg nI (by omega)), by rw [er]; exact h10_2, by rw [er]; exact h11_2, rfl⟩)
  | false =>
    refine zs_as (y := nI 0) rfl ?_
    refine zs_istore_n (lv' := [(1, .int (nI 0)), (0, .ref mo)]) dX13_readOne_6 (Nat.le_of_ble_eq_true rfl) rfl ?_
    refine zs_bipush (v := nI 22) dX13_readOne_7 (by decide) ?_
    refine zs_istore_n (lv' := [(2, .int (nI 22)), (1, .int (nI 0)), (0, .ref mo)]) dX13_readOne_9 (Nat.le_of_ble_eq_true rfl) rfl ?_
    refine zs_iload_n dX13_readOne_10 rfl ?_
    refine zs_bipush (v := nI 28) dX13_readOne_11 (by decide) ?_
    refine zs_icmp_gt (tgt := 30) dX13_readOne_13 (by decide) (fun c_20 => (by first | exact absurd c_20 (by decide) | exact absurd (by decide) c_20 : False).elim) (fun c_20 => ?_)
    refine zs_aload_n dX13_readOne_16 rfl rfl ?_
    refine zs_iload_n dX13_readOne_17 rfl ?_
    refine zs_callV (M := mX13_isWord) (As := [.int (nI 22)]) (st := []) (Kc := [(mo, .inr (11, fMo e g w))]) (Kr := [((e 1), .inl (0, 740, .inl (nF bt))), ((e 86), .inl (0, 240, .inl nd))]) [0] [1, 2] 0 dX13_readOne_18 zl_RX13_264 kX13_isWord rfl rfl rfl rfl rfl (by decide) rfl rfl (show dd - 1 + 1 ≤ dd by omega) (Nat.zero_le _) (Nat.zero_le _) (Nat.le_of_ble_eq_true rfl) (s_mIsWord l (dd - 1) mo e g w n L t 22 (by omega) (by omega) hT hW hO) (fun r K1 hr => ?_)
    obtain ⟨rfl, rfl⟩ := hr
    refine zs_K (K' := [(mo, .inr (11, fMo e g w)), ((e 1), .inl (0, 740, .inl (nF bt))), ((e 86), .inl (0, 240, .inl nd))]) [2, 0, 1] rfl (by decide) ?_
    refine zs_if_ne (tgt := 30) dX13_readOne_21 (by decide) (fun c_21 => ?_) (fun c_21 => ?_)
    · have hwk : t.2.2.2.2 = some 22 := of_decide_eq_true (bI_t c_21)
      have hk2 : t.1 = 2 := hO.2.2.2.2.2.2.2.2 _ hwk
      have hnb : ¬ sBad t := fun h => h.2.1 hwk
      refine zs_iload_n dX13_readOne_30 rfl ?_
      refine zs_if_ne (tgt := 46) dX13_readOne_31 (by decide) (fun c_22 => (by first | exact absurd c_22 (by decide) | exact absurd (by decide) c_22 : False).elim) (fun c_22 => ?_)
      refine zs_iload_n dX13_readOne_34 rfl ?_
      refine zs_bipush (v := nI 28) dX13_readOne_35 (by decide) ?_
      refine zs_icmp_le (tgt := 46) dX13_readOne_37 (by decide) (fun c_23 => ?_) (fun c_23 => (by first | exact absurd c_23 (by decide) | exact absurd (by decide) c_23 : False).elim)
      refine zs_aload_n dX13_readOne_46 rfl rfl ?_
      refine zs_get 0 dX13_readOne_47 zf_RX13_518 rfl (v := .int (g 88)) rfl ?_
      refine zs_as (y := nI S.1) h88 ?_
      refine zs_bipush (v := nI 20) dX13_readOne_50 (by decide) ?_
      refine zs_icmp_eq (tgt := 64) dX13_readOne_52 (by decide) (fun c_24 => ?_) (fun c_24 => ?_)
      · have c_24 : S.1 = 20 := by have hc := c_24; rw [nI_eq' (by omega) (by omega)] at hc; exact hc
        refine zs_aload_n dX13_readOne_64 rfl rfl ?_
        refine zs_iconst (v := nI 4) dX13_readOne_65 (by decide) ?_
        refine zs_callV (M := mX13_bad) (As := [.int (nI 4)]) (st := []) (Kc := [(mo, .inr (11, fMo e g w))]) (Kr := [((e 1), .inl (0, 740, .inl (nF bt))), ((e 86), .inl (0, 240, .inl nd))]) [0] [1, 2] 0 dX13_readOne_66 zl_RX13_216 kX13_bad rfl rfl rfl rfl rfl (by decide) rfl rfl (show dd - 1 + 1 ≤ dd by omega) (Nat.zero_le _) (Nat.zero_le _) (Nat.le_of_ble_eq_true rfl) (s_mBad l (dd - 1) mo e g w n L t 4 hT hW hO) (fun r K1 hr => ?_)
        rw [mBad_e (by first | (intro; rfl) | (intro h; unfold mKd at h; split at h <;> omega))] at hr
        obtain ⟨rfl, rfl⟩ := hr
        refine zs_K (K' := [(mo, .inr (11, fMo e (mFa g 4 t) w)), ((e 1), .inl (0, 740, .inl (nF bt))), ((e 86), .inl (0, 240, .inl nd))]) [2, 0, 1] rfl (by decide) ?_
        have e1 : (sOne bt n L (d + 1) t tk S).1 = 4 ∧ (sOne bt n L (d + 1) t tk S).2.1 = t := by rw [sOne_4 hnb (by omega)]; exact ⟨rfl, rfl⟩
        exact zs_zret dX13_readOne_69 rfl (Or.inl rfl) (Or.inr ⟨by rw [e1.1]; exact (show ¬ (4 : Nat) = 0 by decide), rfl, mFa g 4 t, w, nd, mFr_fs mFr_r, by rw [e1.1]; rfl, by rw [e1.2]; rfl, rfl⟩)
      · have c_24 : ¬ (S.1 = 20) := by have hc := c_24; rw [nI_eq' (by omega) (by omega)] at hc; exact hc
        refine zs_aload_n dX13_readOne_55 rfl rfl ?_
        refine zs_get 0 dX13_readOne_56 zf_RX13_521 rfl (v := .int (g 89)) rfl ?_
        refine zs_as (y := nI (7 - d)) (h89.trans (congrArg nI (by omega))) ?_
        refine zs_bipush (v := nI 8) dX13_readOne_59 (by decide) ?_
        refine zs_icmp_ne (tgt := 70) dX13_readOne_61 (by decide) (fun c_25 => ?_) (fun c_25 => (by rw [nI_eq' (by omega) (by omega)] at c_25; omega : False).elim)
        refine zs_aload_n dX13_readOne_70 rfl rfl ?_
        refine zs_dup dX13_readOne_71 rfl ?_
        refine zs_get 0 dX13_readOne_72 zf_RX13_518 rfl (v := .int (g 88)) rfl ?_
        refine zs_as (y := nI S.1) h88 ?_
        refine zs_iconst (v := nI 1) dX13_readOne_75 (by decide) ?_
        refine zs_iadd dX13_readOne_76 ?_
        refine zs_as (y := nI (S.1 + 1)) (nI_add _ _) ?_
        refine zs_put 0 dX13_readOne_77 zf_RX13_518 rfl (Nat.le_of_ble_eq_true rfl) (zPv_i _) ?_
        show zS _ _ _ _ _ _ [(mo, .inr (11, fMo e (upd g 88 (nI (S.1 + 1))) w)), ((e 1), .inl (0, 740, .inl (nF bt))), ((e 86), .inl (0, 240, .inl nd))]
        refine zs_aload_n dX13_readOne_80 rfl rfl ?_
        refine zs_dup dX13_readOne_81 rfl ?_
        refine zs_get 0 dX13_readOne_82 zf_RX13_521 rfl (v := .int (g 89)) rfl ?_
        refine zs_as (y := nI (7 - d)) (h89.trans (congrArg nI (by omega))) ?_
        refine zs_iconst (v := nI 1) dX13_readOne_85 (by decide) ?_
        refine zs_iadd dX13_readOne_86 ?_
        refine zs_as (y := nI ((7 - d) + 1)) (nI_add _ _) ?_
        refine zs_put 0 dX13_readOne_87 zf_RX13_521 rfl (Nat.le_of_ble_eq_true rfl) (zPv_i _) ?_
        show zS _ _ _ _ _ _ [(mo, .inr (11, fMo e (upd (upd g 88 (nI (S.1 + 1))) 89 (nI ((7 - d) + 1))) w)), ((e 1), .inl (0, 740, .inl (nF bt))), ((e 86), .inl (0, 240, .inl nd))]
        refine zs_aload_n dX13_readOne_90 rfl rfl ?_
        have h0t : ¬ t.1 = 0 := by omega
        refine zs_callV (M := mX13_go) (As := []) (st := []) (Kc := [(mo, .inr (11, fMo e (upd (upd g 88 (nI (S.1 + 1))) 89 (nI ((7 - d) + 1))) w)), ((e 1), .inl (0, 740, .inl (nF bt)))]) (Kr := [((e 86), .inl (0, 240, .inl nd))]) [0, 1] [2] 0 dX13_readOne_91 zl_RX13_226 kX13_go rfl rfl rfl rfl rfl (by decide) rfl rfl (show dd - 1 + 1 ≤ dd by omega) (Nat.zero_le _) (Nat.zero_le _) (Nat.le_of_ble_eq_true rfl) (s_mGoT l (dd - 1) mo e (upd (upd g 88 (nI (S.1 + 1))) 89 (nI ((7 - d) + 1))) w n L bt t (by omega) hn hL hbt (show (upd (upd g 88 (nI (S.1 + 1))) 89 (nI ((7 - d) + 1))) 3 = nI n from h3) (show (upd (upd g 88 (nI (S.1 + 1))) 89 (nI ((7 - d) + 1))) 4 = nI L from h4) (mTk_f hT rfl rfl rfl rfl rfl) hW h0t) (fun r K1 hr => ?_)
        obtain ⟨rfl, g1, w1, hfr1, hT1, rfl⟩ := hr
        refine zs_K (K' := [(mo, .inr (11, fMo e g1 w1)), ((e 1), .inl (0, 740, .inl (nF bt))), ((e 86), .inl (0, 240, .inl nd))]) [1, 2, 0] rfl (by decide) ?_
        have fr1 : mFr [5, 6, 7, 8, 9, 13, 87, 88, 89, 90] g g1 := mFr_t ((mFr_u (mFr_u mFr_r (by decide)) (by decide)) : mFr [5, 6, 7, 8, 9, 13, 87, 88, 89, 90] g (upd (upd g 88 (nI (S.1 + 1))) 89 (nI ((7 - d) + 1)))) hfr1 (by decide) (by decide)
        have hO_1 := nxt_OK (L := L) (τ := t) hbt hn
        have h14_1 := hO_1.1
        have hkd_1 := mKd_4 (n := n) (L := L) hO_1.1
        refine zs_iconst (v := nI 1) dX13_readOne_94 (by decide) ?_
        refine zs_istore_n (lv' := [(3, .int (nI 1)), (2, .int (nI 22)), (1, .int (nI 0)), (0, .ref mo)]) dX13_readOne_95 (Nat.le_of_ble_eq_true rfl) rfl ?_
        refine zs_iload_n dX13_readOne_96 rfl ?_
        refine zs_if_eq (tgt := 108) dX13_readOne_97 (by decide) (fun c_26 => ?_) (fun c_26 => (by first | exact absurd c_26 (by decide) | exact absurd (by decide) c_26 : False).elim)
        refine zs_iload_n dX13_readOne_108 rfl ?_
        refine zs_bipush (v := nI 22) dX13_readOne_109 (by decide) ?_
        refine zs_icmp_ne (tgt := 122) dX13_readOne_111 (by decide) (fun c_27 => (by first | exact absurd c_27 (by decide) | exact absurd (by decide) c_27 : False).elim) (fun c_27 => ?_)
        refine zs_aload_n dX13_readOne_114 rfl rfl ?_
        refine zs_callV (M := mX13_readNot) (As := []) (st := []) (Kc := [(mo, .inr (11, fMo e g1 w1)), ((e 1), .inl (0, 740, .inl (nF bt))), ((e 86), .inl (0, 240, .inl nd))]) (Kr := []) [0, 1, 2] [] 0 dX13_readOne_115 zl_RX13_527 kX13_readNot rfl rfl rfl rfl rfl (by decide) rfl rfl (show dd - 1 + 1 ≤ dd by omega) (Nat.zero_le _) (Nat.zero_le _) (Nat.le_of_ble_eq_true rfl) (hNt (nxt bt n L t) tk (sOn S) g1 w1 nd ((hfr1 3 (by decide)).trans (show (upd (upd g 88 (nI (S.1 + 1))) 89 (nI ((7 - d) + 1))) 3 = nI n from h3)) ((hfr1 4 (by decide)).trans (show (upd (upd g 88 (nI (S.1 + 1))) 89 (nI ((7 - d) + 1))) 4 = nI L from h4)) hT1 (nxt_W (b := bt) (n := n) (L := L) (τ := t)) hO_1 htk ⟨by show S.1 + 1 ≤ 20; omega, by show S.2.1 ≤ 2 * (S.1 + 1); omega⟩ ((hfr1 87 (by decide)).trans (show (upd (upd g 88 (nI (S.1 + 1))) 89 (nI ((7 - d) + 1))) 87 = nI S.2.1 from h87)) ((hfr1 88 (by decide)).trans (show (upd (upd g 88 (nI (S.1 + 1))) 89 (nI ((7 - d) + 1))) 88 = nI (S.1 + 1) from rfl)) (((hfr1 89 (by decide)).trans (show (upd (upd g 88 (nI (S.1 + 1))) 89 (nI ((7 - d) + 1))) 89 = nI (7 - d + 1) from rfl)).trans (congrArg nI (show 7 - d + 1 = 8 - d by omega)))) (fun r K1 hr => ?_)
        have hR2 := (fun τ tk (_ : zSe) h1 h2 h3 => sNt_G (sOne_G (L := L) hbt hn d) τ tk S h1 h2 h3) (nxt bt n L t) tk (sOn S) hO_1 htk ⟨by show S.1 + 1 ≤ 20; omega, by show S.2.1 ≤ 2 * (S.1 + 1); omega⟩
        generalize hG2 : (sNt (sOne bt n L d)) (nxt bt n L t) tk (sOn S) = G2 at hr hR2
        rcases hr with ⟨hq2, rfl, g2, w2, nd2, hfr2, hT2, hW2, h87_2, h88_2, h90_2, hlt2, hal2, hsT2, rfl⟩ | ⟨hq2, rfl, g2, w2, nd2, hfr2, h10_2, h11_2, rfl⟩
        · have fr2 : mFr [5, 6, 7, 8, 9, 13, 87, 88, 89, 90] g g2 := mFr_t (fr1 : mFr [5, 6, 7, 8, 9, 13, 87, 88, 89, 90] g g1) hfr2 (by decide) (by decide)
          have hS5_2 := hR2.2.2.2.2 hq2
          have hS4_2 := hR2.2.2.2.1
          have h14_2 := hR2.1.1
          have hkd_2 := mKd_4 (n := n) (L := L) hR2.1.1
          refine zs_istore_n (lv' := [(3, .int (nI 1)), (2, .int (nI 22)), (1, .int (nI 0)), (0, .ref mo)]) dX13_readOne_118 (Nat.le_of_ble_eq_true rfl) rfl ?_
          refine zs_goto (tgt := 149) dX13_readOne_119 (by decide) ?_
          refine zs_aload_n dX13_readOne_149 rfl rfl ?_
          refine zs_dup dX13_readOne_150 rfl ?_
          refine zs_get 0 dX13_readOne_151 zf_RX13_521 rfl (v := .int (g2 89)) rfl ?_
          refine zs_as (y := nI (8 - d)) ((hfr2 89 (by decide)).trans (((hfr1 89 (by decide)).trans (show (upd (upd g 88 (nI (S.1 + 1))) 89 (nI ((7 - d) + 1))) 89 = nI (7 - d + 1) from rfl)).trans (congrArg nI (show 7 - d + 1 = 8 - d by omega)))) ?_
          refine zs_iconst (v := nI 1) dX13_readOne_154 (by decide) ?_
          refine zs_isub dX13_readOne_155 ?_
          refine zs_as (y := nI ((8 - d) - 1)) (nI_sub (by omega)) ?_
          refine zs_put 0 dX13_readOne_156 zf_RX13_521 rfl (Nat.le_of_ble_eq_true rfl) (zPv_i _) ?_
          show zS _ _ _ _ _ _ [(mo, .inr (11, fMo e (upd g2 89 (nI ((8 - d) - 1))) w2)), ((e 1), .inl (0, 740, .inl (nF bt))), ((e 86), .inl (0, 240, .inl nd2))]
          refine zs_iload_n dX13_readOne_159 rfl ?_
          have er : sOne bt n L (d + 1) t tk S = G2 := by rw [sOne_n hnb (show ¬ 20 ≤ S.1 by omega) (show ¬ tAt t 40 = true from by rw [hop]; decide) hwk, ← hG2]
          exact zs_zret dX13_readOne_160 rfl (Or.inr rfl) (Or.inl ⟨by rw [er]; exact hq2, rfl, (upd g2 89 (nI ((8 - d) - 1))), w2, nd2, mFr_9 fr2 (by rw [h89]; exact congrArg nI (by omega)), by rw [er]; exact mTk_f hT2 rfl rfl rfl rfl rfl, by rw [er]; exact hW2, by rw [er]; exact h87_2, by rw [er]; exact h88_2, by rw [er]; exact h90_2, by rw [er]; exact hlt2, by rw [er]; exact hal2, by rw [er]; exact hsT2, rfl⟩)
        · skip
          refine zs_istore_n (lv' := [(3, .int (nI 0)), (2, .int (nI 22)), (1, .int (nI 0)), (0, .ref mo)]) dX13_readOne_118 (Nat.le_of_ble_eq_true rfl) rfl ?_
          refine zs_goto (tgt := 149) dX13_readOne_119 (by decide) ?_
          refine zs_aload_n dX13_readOne_149 rfl rfl ?_
          refine zs_dup dX13_readOne_150 rfl ?_
          refine zs_get 0 dX13_readOne_151 zf_RX13_521 rfl (v := .int (g2 89)) rfl ?_
          refine zs_as (y := nI (8 - d)) ((hfr2 89 (by decide)).trans (((hfr1 89 (by decide)).trans (show (upd (upd g 88 (nI (S.1 + 1))) 89 (nI ((7 - d) + 1))) 89 = nI (7 - d + 1) from rfl)).trans (congrArg nI (show 7 - d + 1 = 8 - d by omega)))) ?_
          refine zs_iconst (v := nI 1) dX13_readOne_154 (by decide) ?_
          refine zs_isub dX13_readOne_155 ?_
          refine zs_as (y := nI ((8 - d) - 1)) (nI_sub (by omega)) ?_
          refine zs_put 0 dX13_readOne_156 zf_RX13_521 rfl (Nat.le_of_ble_eq_true rfl) (zPv_i _) ?_
          show zS _ _ _ _ _ _ [(mo, .inr (11, fMo e (upd g2 89 (nI ((8 - d) - 1))) w2)), ((e 1), .inl (0, 740, .inl (nF bt))), ((e 86), .inl (0, 240, .inl nd2))]
          refine zs_iload_n dX13_readOne_159 rfl ?_
          have er : sOne bt n L (d + 1) t tk S = G2 := by rw [sOne_n hnb (show ¬ 20 ≤ S.1 by omega) (show ¬ tAt t 40 = true from by rw [hop]; decide) hwk, ← hG2]
          exact zs_zret dX13_readOne_160 rfl (Or.inl rfl) (Or.inr ⟨by rw [er]; exact hq2, rfl, (upd g2 89 (nI ((8 - d) - 1))), w2, nd2, mFr_9b (mFr_t (fr1 : mFr [5, 6, 7, 8, 9, 13, 87, 88, 89, 90] g g1) hfr2 (by decide) (by decide) : mFr [5, 6, 7, 8, 9, 10, 11, 13, 87, 88, 89, 90] g g2) (by rw [h89]; exact congrArg nI (by omega)), by rw [er]; exact h10_2, by rw [er]; exact h11_2, rfl⟩)
    · have hx22 : ¬ t.2.2.2.2 = some 22 := of_decide_eq_false (bI_f c_21)
      refine zs_iinc (v := (nI 23)) (lv' := [(2, .int (nI 23)), (1, .int (nI 0)), (0, .ref mo)]) dX13_readOne_24 rfl (nI_add _ 1) (Nat.le_of_ble_eq_true rfl) rfl ?_
      refine zs_goto (tgt := 10) dX13_readOne_27 (by decide) ?_
      refine zs_iload_n dX13_readOne_10 rfl ?_
      refine zs_bipush (v := nI 28) dX13_readOne_11 (by decide) ?_
      refine zs_icmp_gt (tgt := 30) dX13_readOne_13 (by decide) (fun c_28 => (by first | exact absurd c_28 (by decide) | exact absurd (by decide) c_28 : False).elim) (fun c_28 => ?_)
      refine zs_aload_n dX13_readOne_16 rfl rfl ?_
      refine zs_iload_n dX13_readOne_17 rfl ?_
      refine zs_callV (M := mX13_isWord) (As := [.int (nI 23)]) (st := []) (Kc := [(mo, .inr (11, fMo e g w))]) (Kr := [((e 1), .inl (0, 740, .inl (nF bt))), ((e 86), .inl (0, 240, .inl nd))]) [0] [1, 2] 0 dX13_readOne_18 zl_RX13_264 kX13_isWord rfl rfl rfl rfl rfl (by decide) rfl rfl (show dd - 1 + 1 ≤ dd by omega) (Nat.zero_le _) (Nat.zero_le _) (Nat.le_of_ble_eq_true rfl) (s_mIsWord l (dd - 1) mo e g w n L t 23 (by omega) (by omega) hT hW hO) (fun r K1 hr => ?_)
      obtain ⟨rfl, rfl⟩ := hr
      refine zs_K (K' := [(mo, .inr (11, fMo e g w)), ((e 1), .inl (0, 740, .inl (nF bt))), ((e 86), .inl (0, 240, .inl nd))]) [2, 0, 1] rfl (by decide) ?_
      refine zs_if_ne (tgt := 30) dX13_readOne_21 (by decide) (fun c_29 => ?_) (fun c_29 => ?_)
      · have hwk : t.2.2.2.2 = some 23 := of_decide_eq_true (bI_t c_29)
        have hk2 : t.1 = 2 := hO.2.2.2.2.2.2.2.2 _ hwk
        have hnb : ¬ sBad t := fun h => h.2.2.1 hwk
        refine zs_iload_n dX13_readOne_30 rfl ?_
        refine zs_if_ne (tgt := 46) dX13_readOne_31 (by decide) (fun c_30 => (by first | exact absurd c_30 (by decide) | exact absurd (by decide) c_30 : False).elim) (fun c_30 => ?_)
        refine zs_iload_n dX13_readOne_34 rfl ?_
        refine zs_bipush (v := nI 28) dX13_readOne_35 (by decide) ?_
        refine zs_icmp_le (tgt := 46) dX13_readOne_37 (by decide) (fun c_31 => ?_) (fun c_31 => (by first | exact absurd c_31 (by decide) | exact absurd (by decide) c_31 : False).elim)
        refine zs_aload_n dX13_readOne_46 rfl rfl ?_
        refine zs_get 0 dX13_readOne_47 zf_RX13_518 rfl (v := .int (g 88)) rfl ?_
        refine zs_as (y := nI S.1) h88 ?_
        refine zs_bipush (v := nI 20) dX13_readOne_50 (by decide) ?_
        refine zs_icmp_eq (tgt := 64) dX13_readOne_52 (by decide) (fun c_32 => ?_) (fun c_32 => ?_)
        · have c_32 : S.1 = 20 := by have hc := c_32; rw [nI_eq' (by omega) (by omega)] at hc; exact hc
          refine zs_aload_n dX13_readOne_64 rfl rfl ?_
          refine zs_iconst (v := nI 4) dX13_readOne_65 (by decide) ?_
          refine zs_callV (M := mX13_bad) (As := [.int (nI 4)]) (st := []) (Kc := [(mo, .inr (11, fMo e g w))]) (Kr := [((e 1), .inl (0, 740, .inl (nF bt))), ((e 86), .inl (0, 240, .inl nd))]) [0] [1, 2] 0 dX13_readOne_66 zl_RX13_216 kX13_bad rfl rfl rfl rfl rfl (by decide) rfl rfl (show dd - 1 + 1 ≤ dd by omega) (Nat.zero_le _) (Nat.zero_le _) (Nat.le_of_ble_eq_true rfl) (s_mBad l (dd - 1) mo e g w n L t 4 hT hW hO) (fun r K1 hr => ?_)
          rw [mBad_e (by first | (intro; rfl) | (intro h; unfold mKd at h; split at h <;> omega))] at hr
          obtain ⟨rfl, rfl⟩ := hr
          refine zs_K (K' := [(mo, .inr (11, fMo e (mFa g 4 t) w)), ((e 1), .inl (0, 740, .inl (nF bt))), ((e 86), .inl (0, 240, .inl nd))]) [2, 0, 1] rfl (by decide) ?_
          have e1 : (sOne bt n L (d + 1) t tk S).1 = 4 ∧ (sOne bt n L (d + 1) t tk S).2.1 = t := by rw [sOne_4 hnb (by omega)]; exact ⟨rfl, rfl⟩
          exact zs_zret dX13_readOne_69 rfl (Or.inl rfl) (Or.inr ⟨by rw [e1.1]; exact (show ¬ (4 : Nat) = 0 by decide), rfl, mFa g 4 t, w, nd, mFr_fs mFr_r, by rw [e1.1]; rfl, by rw [e1.2]; rfl, rfl⟩)
        · have c_32 : ¬ (S.1 = 20) := by have hc := c_32; rw [nI_eq' (by omega) (by omega)] at hc; exact hc
          refine zs_aload_n dX13_readOne_55 rfl rfl ?_
          refine zs_get 0 dX13_readOne_56 zf_RX13_521 rfl (v := .int (g 89)) rfl ?_
          refine zs_as (y := nI (7 - d)) (h89.trans (congrArg nI (by omega))) ?_
          refine zs_bipush (v := nI 8) dX13_readOne_59 (by decide) ?_
          refine zs_icmp_ne (tgt := 70) dX13_readOne_61 (by decide) (fun c_33 => ?_) (fun c_33 => (by rw [nI_eq' (by omega) (by omega)] at c_33; omega : False).elim)
          refine zs_aload_n dX13_readOne_70 rfl rfl ?_
          refine zs_dup dX13_readOne_71 rfl ?_
          refine zs_get 0 dX13_readOne_72 zf_RX13_518 rfl (v := .int (g 88)) rfl ?_
          refine zs_as (y := nI S.1) h88 ?_
          refine zs_iconst (v := nI 1) dX13_readOne_75 (by decide) ?_
          refine zs_iadd dX13_readOne_76 ?_
          refine zs_as (y := nI (S.1 + 1)) (nI_add _ _) ?_
          refine zs_put 0 dX13_readOne_77 zf_RX13_518 rfl (Nat.le_of_ble_eq_true rfl) (zPv_i _) ?_
          show zS _ _ _ _ _ _ [(mo, .inr (11, fMo e (upd g 88 (nI (S.1 + 1))) w)), ((e 1), .inl (0, 740, .inl (nF bt))), ((e 86), .inl (0, 240, .inl nd))]
          refine zs_aload_n dX13_readOne_80 rfl rfl ?_
          refine zs_dup dX13_readOne_81 rfl ?_
          refine zs_get 0 dX13_readOne_82 zf_RX13_521 rfl (v := .int (g 89)) rfl ?_
          refine zs_as (y := nI (7 - d)) (h89.trans (congrArg nI (by omega))) ?_
          refine zs_iconst (v := nI 1) dX13_readOne_85 (by decide) ?_
          refine zs_iadd dX13_readOne_86 ?_
          refine zs_as (y := nI ((7 - d) + 1)) (nI_add _ _) ?_
          refine zs_put 0 dX13_readOne_87 zf_RX13_521 rfl (Nat.le_of_ble_eq_true rfl) (zPv_i _) ?_
          show zS _ _ _ _ _ _ [(mo, .inr (11, fMo e (upd (upd g 88 (nI (S.1 + 1))) 89 (nI ((7 - d) + 1))) w)), ((e 1), .inl (0, 740, .inl (nF bt))), ((e 86), .inl (0, 240, .inl nd))]
          refine zs_aload_n dX13_readOne_90 rfl rfl ?_
          have h0t : ¬ t.1 = 0 := by omega
          refine zs_callV (M := mX13_go) (As := []) (st := []) (Kc := [(mo, .inr (11, fMo e (upd (upd g 88 (nI (S.1 + 1))) 89 (nI ((7 - d) + 1))) w)), ((e 1), .inl (0, 740, .inl (nF bt)))]) (Kr := [((e 86), .inl (0, 240, .inl nd))]) [0, 1] [2] 0 dX13_readOne_91 zl_RX13_226 kX13_go rfl rfl rfl rfl rfl (by decide) rfl rfl (show dd - 1 + 1 ≤ dd by omega) (Nat.zero_le _) (Nat.zero_le _) (Nat.le_of_ble_eq_true rfl) (s_mGoT l (dd - 1) mo e (upd (upd g 88 (nI (S.1 + 1))) 89 (nI ((7 - d) + 1))) w n L bt t (by omega) hn hL hbt (show (upd (upd g 88 (nI (S.1 + 1))) 89 (nI ((7 - d) + 1))) 3 = nI n from h3) (show (upd (upd g 88 (nI (S.1 + 1))) 89 (nI ((7 - d) + 1))) 4 = nI L from h4) (mTk_f hT rfl rfl rfl rfl rfl) hW h0t) (fun r K1 hr => ?_)
          obtain ⟨rfl, g1, w1, hfr1, hT1, rfl⟩ := hr
          refine zs_K (K' := [(mo, .inr (11, fMo e g1 w1)), ((e 1), .inl (0, 740, .inl (nF bt))), ((e 86), .inl (0, 240, .inl nd))]) [1, 2, 0] rfl (by decide) ?_
          have fr1 : mFr [5, 6, 7, 8, 9, 13, 87, 88, 89, 90] g g1 := mFr_t ((mFr_u (mFr_u mFr_r (by decide)) (by decide)) : mFr [5, 6, 7, 8, 9, 13, 87, 88, 89, 90] g (upd (upd g 88 (nI (S.1 + 1))) 89 (nI ((7 - d) + 1)))) hfr1 (by decide) (by decide)
          have hO_1 := nxt_OK (L := L) (τ := t) hbt hn
          have h14_1 := hO_1.1
          have hkd_1 := mKd_4 (n := n) (L := L) hO_1.1
          refine zs_iconst (v := nI 1) dX13_readOne_94 (by decide) ?_
          refine zs_istore_n (lv' := [(3, .int (nI 1)), (2, .int (nI 23)), (1, .int (nI 0)), (0, .ref mo)]) dX13_readOne_95 (Nat.le_of_ble_eq_true rfl) rfl ?_
          refine zs_iload_n dX13_readOne_96 rfl ?_
          refine zs_if_eq (tgt := 108) dX13_readOne_97 (by decide) (fun c_34 => ?_) (fun c_34 => (by first | exact absurd c_34 (by decide) | exact absurd (by decide) c_34 : False).elim)
          refine zs_iload_n dX13_readOne_108 rfl ?_
          refine zs_bipush (v := nI 22) dX13_readOne_109 (by decide) ?_
          refine zs_icmp_ne (tgt := 122) dX13_readOne_111 (by decide) (fun c_35 => ?_) (fun c_35 => (by first | exact absurd c_35 (by decide) | exact absurd (by decide) c_35 : False).elim)
          refine zs_iload_n dX13_readOne_122 rfl ?_
          refine zs_bipush (v := nI 23) dX13_readOne_123 (by decide) ?_
          refine zs_icmp_ne (tgt := 143) dX13_readOne_125 (by decide) (fun c_36 => (by first | exact absurd c_36 (by decide) | exact absurd (by decide) c_36 : False).elim) (fun c_36 => ?_)
          refine zs_aload_n dX13_readOne_128 rfl rfl ?_
          refine zs_aload_n dX13_readOne_129 rfl rfl ?_
          refine zs_iconst (v := nI 4) dX13_readOne_130 (by decide) ?_
          refine zs_iconst (v := nI 0) dX13_readOne_131 (by decide) ?_
          refine zs_iconst (v := nI 0) dX13_readOne_132 (by decide) ?_
          refine zs_iconst (v := nI 0) dX13_readOne_133 (by decide) ?_
          refine zs_callV (M := mX13_lays) (As := [.int (nI 4), .int (nI 0), .int (nI 0), .int (nI 0)]) (st := [.ref mo]) (Kc := [(mo, .inr (11, fMo e g1 w1)), ((e 86), .inl (0, 240, .inl nd))]) (Kr := [((e 1), .inl (0, 740, .inl (nF bt)))]) [0, 2] [1] 0 dX13_readOne_134 zl_RX13_512 kX13_lays rfl rfl rfl rfl rfl (by decide) rfl rfl (show dd - 1 + 1 ≤ dd by omega) (Nat.zero_le _) (Nat.zero_le _) (Nat.le_of_ble_eq_true rfl) (s_mLays l (dd - 1) mo e g1 w1 nd S.2.1 (nI 4) (nI 0) (nI 0) (nI 0) (by omega) ((hfr1 87 (by decide)).trans h87)) (fun r K1 hr => ?_)
          obtain ⟨rfl, rfl⟩ := hr
          refine zs_K (K' := [(mo, .inr (11, fMo e (upd g1 87 (nI (S.2.1 + 1))) w1)), ((e 1), .inl (0, 740, .inl (nF bt))), ((e 86), .inl (0, 240, .inl (nLay nd S.2.1 (nI 4) (nI 0) (nI 0) (nI 0))))]) [1, 0, 2] rfl (by decide) ?_
          refine zs_put 0 dX13_readOne_137 zf_RX13_509 rfl (Nat.le_of_ble_eq_true rfl) (zPv_i _) ?_
          show zS _ _ _ _ _ _ [(mo, .inr (11, fMo e (upd (upd g1 87 (nI (S.2.1 + 1))) 90 (nI S.2.1)) w1)), ((e 1), .inl (0, 740, .inl (nF bt))), ((e 86), .inl (0, 240, .inl (nLay nd S.2.1 (nI 4) (nI 0) (nI 0) (nI 0))))]
          refine zs_goto (tgt := 149) dX13_readOne_140 (by decide) ?_
          refine zs_aload_n dX13_readOne_149 rfl rfl ?_
          refine zs_dup dX13_readOne_150 rfl ?_
          refine zs_get 0 dX13_readOne_151 zf_RX13_521 rfl (v := .int (g1 89)) rfl ?_
          refine zs_as (y := nI (8 - d)) (((hfr1 89 (by decide)).trans (show (upd (upd g 88 (nI (S.1 + 1))) 89 (nI ((7 - d) + 1))) 89 = nI (7 - d + 1) from rfl)).trans (congrArg nI (show 7 - d + 1 = 8 - d by omega))) ?_
          refine zs_iconst (v := nI 1) dX13_readOne_154 (by decide) ?_
          refine zs_isub dX13_readOne_155 ?_
          refine zs_as (y := nI ((8 - d) - 1)) (nI_sub (by omega)) ?_
          refine zs_put 0 dX13_readOne_156 zf_RX13_521 rfl (Nat.le_of_ble_eq_true rfl) (zPv_i _) ?_
          show zS _ _ _ _ _ _ [(mo, .inr (11, fMo e (upd (upd (upd g1 87 (nI (S.2.1 + 1))) 89 (nI ((8 - d) - 1))) 90 (nI S.2.1)) w1)), ((e 1), .inl (0, 740, .inl (nF bt))), ((e 86), .inl (0, 240, .inl (nLay nd S.2.1 (nI 4) (nI 0) (nI 0) (nI 0))))]
          refine zs_iload_n dX13_readOne_159 rfl ?_
          have er : sOne bt n L (d + 1) t tk S = (0, nxt bt n L t, tk, sAd (sOn S) 0 0 0) := by rw [sOne_o hnb (show ¬ 20 ≤ S.1 by omega) (show ¬ tAt t 40 = true from by rw [hop]; decide) (by rw [hwk]; decide) hwk]
          exact zs_zret dX13_readOne_160 rfl (Or.inr rfl) (Or.inl ⟨by rw [er], rfl, (upd (upd (upd g1 87 (nI (S.2.1 + 1))) 89 (nI ((8 - d) - 1))) 90 (nI S.2.1)), w1, (nLay nd S.2.1 (nI 4) (nI 0) (nI 0) (nI 0)), mFr_u (mFr_9 (mFr_u fr1 (by decide)) (by rw [h89]; exact congrArg nI (by omega))) (by decide), by rw [er]; exact mTk_f hT1 rfl rfl rfl rfl rfl, by rw [er]; exact nxt_W, by rw [er] <;> rfl, by rw [er]; exact (hfr1 88 (by decide)).trans rfl, by rw [er] <;> rfl, by rw [er]; exact Nat.lt_succ_self _, by rw [er]; exact sAl_ad (S := sOn S), by rw [er]; exact sT_out (S := sOn S), rfl⟩)
      · have hx23 : ¬ t.2.2.2.2 = some 23 := of_decide_eq_false (bI_f c_29)
        refine zs_iinc (v := (nI 24)) (lv' := [(2, .int (nI 24)), (1, .int (nI 0)), (0, .ref mo)]) dX13_readOne_24 rfl (nI_add _ 1) (Nat.le_of_ble_eq_true rfl) rfl ?_
        refine zs_goto (tgt := 10) dX13_readOne_27 (by decide) ?_
        refine zs_iload_n dX13_readOne_10 rfl ?_
        refine zs_bipush (v := nI 28) dX13_readOne_11 (by decide) ?_
        refine zs_icmp_gt (tgt := 30) dX13_readOne_13 (by decide) (fun c_37 => (by first | exact absurd c_37 (by decide) | exact absurd (by decide) c_37 : False).elim) (fun c_37 => ?_)
        refine zs_aload_n dX13_readOne_16 rfl rfl ?_
        refine zs_iload_n dX13_readOne_17 rfl ?_
        refine zs_callV (M := mX13_isWord) (As := [.int (nI 24)]) (st := []) (Kc := [(mo, .inr (11, fMo e g w))]) (Kr := [((e 1), .inl (0, 740, .inl (nF bt))), ((e 86), .inl (0, 240, .inl nd))]) [0] [1, 2] 0 dX13_readOne_18 zl_RX13_264 kX13_isWord rfl rfl rfl rfl rfl (by decide) rfl rfl (show dd - 1 + 1 ≤ dd by omega) (Nat.zero_le _) (Nat.zero_le _) (Nat.le_of_ble_eq_true rfl) (s_mIsWord l (dd - 1) mo e g w n L t 24 (by omega) (by omega) hT hW hO) (fun r K1 hr => ?_)
        obtain ⟨rfl, rfl⟩ := hr
        refine zs_K (K' := [(mo, .inr (11, fMo e g w)), ((e 1), .inl (0, 740, .inl (nF bt))), ((e 86), .inl (0, 240, .inl nd))]) [2, 0, 1] rfl (by decide) ?_
        refine zs_if_ne (tgt := 30) dX13_readOne_21 (by decide) (fun c_38 => ?_) (fun c_38 => ?_)
        · have hwk : t.2.2.2.2 = some 24 := of_decide_eq_true (bI_t c_38)
          have hk2 : t.1 = 2 := hO.2.2.2.2.2.2.2.2 _ hwk
          have hnb : ¬ sBad t := fun h => by have h4 := h.2.2.2; rw [hwk] at h4; exact absurd h4 (by decide)
          refine zs_iload_n dX13_readOne_30 rfl ?_
          refine zs_if_ne (tgt := 46) dX13_readOne_31 (by decide) (fun c_39 => (by first | exact absurd c_39 (by decide) | exact absurd (by decide) c_39 : False).elim) (fun c_39 => ?_)
          refine zs_iload_n dX13_readOne_34 rfl ?_
          refine zs_bipush (v := nI 28) dX13_readOne_35 (by decide) ?_
          refine zs_icmp_le (tgt := 46) dX13_readOne_37 (by decide) (fun c_40 => ?_) (fun c_40 => (by first | exact absurd c_40 (by decide) | exact absurd (by decide) c_40 : False).elim)
          refine zs_aload_n dX13_readOne_46 rfl rfl ?_
          refine zs_get 0 dX13_readOne_47 zf_RX13_518 rfl (v := .int (g 88)) rfl ?_
          refine zs_as (y := nI S.1) h88 ?_
          refine zs_bipush (v := nI 20) dX13_readOne_50 (by decide) ?_
          refine zs_icmp_eq (tgt := 64) dX13_readOne_52 (by decide) (fun c_41 => ?_) (fun c_41 => ?_)
          · have c_41 : S.1 = 20 := by have hc := c_41; rw [nI_eq' (by omega) (by omega)] at hc; exact hc
            refine zs_aload_n dX13_readOne_64 rfl rfl ?_
            refine zs_iconst (v := nI 4) dX13_readOne_65 (by decide) ?_
            refine zs_callV (M := mX13_bad) (As := [.int (nI 4)]) (st := []) (Kc := [(mo, .inr (11, fMo e g w))]) (Kr := [((e 1), .inl (0, 740, .inl (nF bt))), ((e 86), .inl (0, 240, .inl nd))]) [0] [1, 2] 0 dX13_readOne_66 zl_RX13_216 kX13_bad rfl rfl rfl rfl rfl (by decide) rfl rfl (show dd - 1 + 1 ≤ dd by omega) (Nat.zero_le _) (Nat.zero_le _) (Nat.le_of_ble_eq_true rfl) (s_mBad l (dd - 1) mo e g w n L t 4 hT hW hO) (fun r K1 hr => ?_)
            rw [mBad_e (by first | (intro; rfl) | (intro h; unfold mKd at h; split at h <;> omega))] at hr
            obtain ⟨rfl, rfl⟩ := hr
            refine zs_K (K' := [(mo, .inr (11, fMo e (mFa g 4 t) w)), ((e 1), .inl (0, 740, .inl (nF bt))), ((e 86), .inl (0, 240, .inl nd))]) [2, 0, 1] rfl (by decide) ?_
            have e1 : (sOne bt n L (d + 1) t tk S).1 = 4 ∧ (sOne bt n L (d + 1) t tk S).2.1 = t := by rw [sOne_4 hnb (by omega)]; exact ⟨rfl, rfl⟩
            exact zs_zret dX13_readOne_69 rfl (Or.inl rfl) (Or.inr ⟨by rw [e1.1]; exact (show ¬ (4 : Nat) = 0 by decide), rfl, mFa g 4 t, w, nd, mFr_fs mFr_r, by rw [e1.1]; rfl, by rw [e1.2]; rfl, rfl⟩)
          · have c_41 : ¬ (S.1 = 20) := by have hc := c_41; rw [nI_eq' (by omega) (by omega)] at hc; exact hc
            refine zs_aload_n dX13_readOne_55 rfl rfl ?_
            refine zs_get 0 dX13_readOne_56 zf_RX13_521 rfl (v := .int (g 89)) rfl ?_
            refine zs_as (y := nI (7 - d)) (h89.trans (congrArg nI (by omega))) ?_
            refine zs_bipush (v := nI 8) dX13_readOne_59 (by decide) ?_
            refine zs_icmp_ne (tgt := 70) dX13_readOne_61 (by decide) (fun c_42 => ?_) (fun c_42 => (by rw [nI_eq' (by omega) (by omega)] at c_42; omega : False).elim)
            refine zs_aload_n dX13_readOne_70 rfl rfl ?_
            refine zs_dup dX13_readOne_71 rfl ?_
            refine zs_get 0 dX13_readOne_72 zf_RX13_518 rfl (v := .int (g 88)) rfl ?_
            refine zs_as (y := nI S.1) h88 ?_
            refine zs_iconst (v := nI 1) dX13_readOne_75 (by decide) ?_
            refine zs_iadd dX13_readOne_76 ?_
            refine zs_as (y := nI (S.1 + 1)) (nI_add _ _) ?_
            refine zs_put 0 dX13_readOne_77 zf_RX13_518 rfl (Nat.le_of_ble_eq_true rfl) (zPv_i _) ?_
            show zS _ _ _ _ _ _ [(mo, .inr (11, fMo e (upd g 88 (nI (S.1 + 1))) w)), ((e 1), .inl (0, 740, .inl (nF bt))), ((e 86), .inl (0, 240, .inl nd))]
            refine zs_aload_n dX13_readOne_80 rfl rfl ?_
            refine zs_dup dX13_readOne_81 rfl ?_
            refine zs_get 0 dX13_readOne_82 zf_RX13_521 rfl (v := .int (g 89)) rfl ?_
            refine zs_as (y := nI (7 - d)) (h89.trans (congrArg nI (by omega))) ?_
            refine zs_iconst (v := nI 1) dX13_readOne_85 (by decide) ?_
            refine zs_iadd dX13_readOne_86 ?_
            refine zs_as (y := nI ((7 - d) + 1)) (nI_add _ _) ?_
            refine zs_put 0 dX13_readOne_87 zf_RX13_521 rfl (Nat.le_of_ble_eq_true rfl) (zPv_i _) ?_
            show zS _ _ _ _ _ _ [(mo, .inr (11, fMo e (upd (upd g 88 (nI (S.1 + 1))) 89 (nI ((7 - d) + 1))) w)), ((e 1), .inl (0, 740, .inl (nF bt))), ((e 86), .inl (0, 240, .inl nd))]
            refine zs_aload_n dX13_readOne_90 rfl rfl ?_
            have h0t : ¬ t.1 = 0 := by omega
            refine zs_callV (M := mX13_go) (As := []) (st := []) (Kc := [(mo, .inr (11, fMo e (upd (upd g 88 (nI (S.1 + 1))) 89 (nI ((7 - d) + 1))) w)), ((e 1), .inl (0, 740, .inl (nF bt)))]) (Kr := [((e 86), .inl (0, 240, .inl nd))]) [0, 1] [2] 0 dX13_readOne_91 zl_RX13_226 kX13_go rfl rfl rfl rfl rfl (by decide) rfl rfl (show dd - 1 + 1 ≤ dd by omega) (Nat.zero_le _) (Nat.zero_le _) (Nat.le_of_ble_eq_true rfl) (s_mGoT l (dd - 1) mo e (upd (upd g 88 (nI (S.1 + 1))) 89 (nI ((7 - d) + 1))) w n L bt t (by omega) hn hL hbt (show (upd (upd g 88 (nI (S.1 + 1))) 89 (nI ((7 - d) + 1))) 3 = nI n from h3) (show (upd (upd g 88 (nI (S.1 + 1))) 89 (nI ((7 - d) + 1))) 4 = nI L from h4) (mTk_f hT rfl rfl rfl rfl rfl) hW h0t) (fun r K1 hr => ?_)
            obtain ⟨rfl, g1, w1, hfr1, hT1, rfl⟩ := hr
            refine zs_K (K' := [(mo, .inr (11, fMo e g1 w1)), ((e 1), .inl (0, 740, .inl (nF bt))), ((e 86), .inl (0, 240, .inl nd))]) [1, 2, 0] rfl (by decide) ?_
            have fr1 : mFr [5, 6, 7, 8, 9, 13, 87, 88, 89, 90] g g1 := mFr_t ((mFr_u (mFr_u mFr_r (by decide)) (by decide)) : mFr [5, 6, 7, 8, 9, 13, 87, 88, 89, 90] g (upd (upd g 88 (nI (S.1 + 1))) 89 (nI ((7 - d) + 1)))) hfr1 (by decide) (by decide)
            have hO_1 := nxt_OK (L := L) (τ := t) hbt hn
            have h14_1 := hO_1.1
            have hkd_1 := mKd_4 (n := n) (L := L) hO_1.1
            refine zs_iconst (v := nI 1) dX13_readOne_94 (by decide) ?_
            refine zs_istore_n (lv' := [(3, .int (nI 1)), (2, .int (nI 24)), (1, .int (nI 0)), (0, .ref mo)]) dX13_readOne_95 (Nat.le_of_ble_eq_true rfl) rfl ?_
            refine zs_iload_n dX13_readOne_96 rfl ?_
            refine zs_if_eq (tgt := 108) dX13_readOne_97 (by decide) (fun c_43 => ?_) (fun c_43 => (by first | exact absurd c_43 (by decide) | exact absurd (by decide) c_43 : False).elim)
            refine zs_iload_n dX13_readOne_108 rfl ?_
            refine zs_bipush (v := nI 22) dX13_readOne_109 (by decide) ?_
            refine zs_icmp_ne (tgt := 122) dX13_readOne_111 (by decide) (fun c_44 => ?_) (fun c_44 => (by first | exact absurd c_44 (by decide) | exact absurd (by decide) c_44 : False).elim)
            refine zs_iload_n dX13_readOne_122 rfl ?_
            refine zs_bipush (v := nI 23) dX13_readOne_123 (by decide) ?_
            refine zs_icmp_ne (tgt := 143) dX13_readOne_125 (by decide) (fun c_45 => ?_) (fun c_45 => (by first | exact absurd c_45 (by decide) | exact absurd (by decide) c_45 : False).elim)
            refine zs_aload_n dX13_readOne_143 rfl rfl ?_
            refine zs_iload_n dX13_readOne_144 rfl ?_
            refine zs_callV (M := mX13_readCompare) (As := [.int (nI 24)]) (st := []) (Kc := [(mo, .inr (11, fMo e g1 w1)), ((e 1), .inl (0, 740, .inl (nF bt))), ((e 86), .inl (0, 240, .inl nd))]) (Kr := []) [0, 1, 2] [] 0 dX13_readOne_145 zl_RX13_530 kX13_readCompare rfl rfl rfl rfl rfl (by decide) rfl rfl (show dd - 1 + 1 ≤ dd by omega) (Nat.zero_le _) (Nat.zero_le _) (Nat.le_of_ble_eq_true rfl) (s_mReadCompare l (dd - 1) mo e n L bt 24 (nxt bt n L t) tk (sOn S) g1 w1 nd (by omega) hn hL hbt (by omega) ((hfr1 3 (by decide)).trans (show (upd (upd g 88 (nI (S.1 + 1))) 89 (nI ((7 - d) + 1))) 3 = nI n from h3)) ((hfr1 4 (by decide)).trans (show (upd (upd g 88 (nI (S.1 + 1))) 89 (nI ((7 - d) + 1))) 4 = nI L from h4)) hT1 (nxt_W (b := bt) (n := n) (L := L) (τ := t)) hO_1 htk ⟨by show S.1 + 1 ≤ 20; omega, by show S.2.1 ≤ 2 * (S.1 + 1); omega⟩ ((hfr1 87 (by decide)).trans (show (upd (upd g 88 (nI (S.1 + 1))) 89 (nI ((7 - d) + 1))) 87 = nI S.2.1 from h87)) ((hfr1 88 (by decide)).trans (show (upd (upd g 88 (nI (S.1 + 1))) 89 (nI ((7 - d) + 1))) 88 = nI (S.1 + 1) from rfl)) (show S.2.1 < 40 by omega)) (fun r K1 hr => ?_)
            have hR2 := sCmp_G (L := L) (m := 24 - 23) (S := sOn S) (S0 := S) hbt hn hO_1 htk (show S.1 + 1 ≤ S.1 + 1 ∧ S.1 + 1 ≤ 20 ∧ S.2.1 + 2 * S.1 + 2 ≤ S.2.1 + 2 * (S.1 + 1) by omega)
            generalize hG2 : sCmp bt n L (24 - 23) (nxt bt n L t) tk (sOn S) = G2 at hr hR2
            rcases hr with ⟨hq2, rfl, g2, w2, nd2, hfr2, hT2, hW2, h87_2, h88_2, h90_2, hlt2, hal2, hsT2, rfl⟩ | ⟨hq2, rfl, g2, w2, nd2, hfr2, h10_2, h11_2, rfl⟩
            · have fr2 : mFr [5, 6, 7, 8, 9, 13, 87, 88, 89, 90] g g2 := mFr_t (fr1 : mFr [5, 6, 7, 8, 9, 13, 87, 88, 89, 90] g g1) hfr2 (by decide) (by decide)
              have hS5_2 := hR2.2.2.2.2 hq2
              have hS4_2 := hR2.2.2.2.1
              have h14_2 := hR2.1.1
              have hkd_2 := mKd_4 (n := n) (L := L) hR2.1.1
              refine zs_istore_n (lv' := [(3, .int (nI 1)), (2, .int (nI 24)), (1, .int (nI 0)), (0, .ref mo)]) dX13_readOne_148 (Nat.le_of_ble_eq_true rfl) rfl ?_
              refine zs_aload_n dX13_readOne_149 rfl rfl ?_
              refine zs_dup dX13_readOne_150 rfl ?_
              refine zs_get 0 dX13_readOne_151 zf_RX13_521 rfl (v := .int (g2 89)) rfl ?_
              refine zs_as (y := nI (8 - d)) ((hfr2 89 (by decide)).trans (((hfr1 89 (by decide)).trans (show (upd (upd g 88 (nI (S.1 + 1))) 89 (nI ((7 - d) + 1))) 89 = nI (7 - d + 1) from rfl)).trans (congrArg nI (show 7 - d + 1 = 8 - d by omega)))) ?_
              refine zs_iconst (v := nI 1) dX13_readOne_154 (by decide) ?_
              refine zs_isub dX13_readOne_155 ?_
              refine zs_as (y := nI ((8 - d) - 1)) (nI_sub (by omega)) ?_
              refine zs_put 0 dX13_readOne_156 zf_RX13_521 rfl (Nat.le_of_ble_eq_true rfl) (zPv_i _) ?_
              show zS _ _ _ _ _ _ [(mo, .inr (11, fMo e (upd g2 89 (nI ((8 - d) - 1))) w2)), ((e 1), .inl (0, 740, .inl (nF bt))), ((e 86), .inl (0, 240, .inl nd2))]
              refine zs_iload_n dX13_readOne_159 rfl ?_
              have er : sOne bt n L (d + 1) t tk S = G2 := by rw [sOne_c hnb (show ¬ 20 ≤ S.1 by omega) (show ¬ tAt t 40 = true from by rw [hop]; decide) (by rw [hwk]; decide) (by rw [hwk]; decide), hwk, ← hG2]; rfl
              exact zs_zret dX13_readOne_160 rfl (Or.inr rfl) (Or.inl ⟨by rw [er]; exact hq2, rfl, (upd g2 89 (nI ((8 - d) - 1))), w2, nd2, mFr_9 fr2 (by rw [h89]; exact congrArg nI (by omega)), by rw [er]; exact mTk_f hT2 rfl rfl rfl rfl rfl, by rw [er]; exact hW2, by rw [er]; exact h87_2, by rw [er]; exact h88_2, by rw [er]; exact h90_2, by rw [er]; exact hlt2, by rw [er]; exact hal2, by rw [er]; exact hsT2, rfl⟩)
            · skip
              refine zs_istore_n (lv' := [(3, .int (nI 0)), (2, .int (nI 24)), (1, .int (nI 0)), (0, .ref mo)]) dX13_readOne_148 (Nat.le_of_ble_eq_true rfl) rfl ?_
              refine zs_aload_n dX13_readOne_149 rfl rfl ?_
              refine zs_dup dX13_readOne_150 rfl ?_
              refine zs_get 0 dX13_readOne_151 zf_RX13_521 rfl (v := .int (g2 89)) rfl ?_
              refine zs_as (y := nI (8 - d)) ((hfr2 89 (by decide)).trans (((hfr1 89 (by decide)).trans (show (upd (upd g 88 (nI (S.1 + 1))) 89 (nI ((7 - d) + 1))) 89 = nI (7 - d + 1) from rfl)).trans (congrArg nI (show 7 - d + 1 = 8 - d by omega)))) ?_
              refine zs_iconst (v := nI 1) dX13_readOne_154 (by decide) ?_
              refine zs_isub dX13_readOne_155 ?_
              refine zs_as (y := nI ((8 - d) - 1)) (nI_sub (by omega)) ?_
              refine zs_put 0 dX13_readOne_156 zf_RX13_521 rfl (Nat.le_of_ble_eq_true rfl) (zPv_i _) ?_
              show zS _ _ _ _ _ _ [(mo, .inr (11, fMo e (upd g2 89 (nI ((8 - d) - 1))) w2)), ((e 1), .inl (0, 740, .inl (nF bt))), ((e 86), .inl (0, 240, .inl nd2))]
              refine zs_iload_n dX13_readOne_159 rfl ?_
              have er : sOne bt n L (d + 1) t tk S = G2 := by rw [sOne_c hnb (show ¬ 20 ≤ S.1 by omega) (show ¬ tAt t 40 = true from by rw [hop]; decide) (by rw [hwk]; decide) (by rw [hwk]; decide), hwk, ← hG2]; rfl
              exact zs_zret dX13_readOne_160 rfl (Or.inl rfl) (Or.inr ⟨by rw [er]; exact hq2, rfl, (upd g2 89 (nI ((8 - d) - 1))), w2, nd2, mFr_9b (mFr_t (fr1 : mFr [5, 6, 7, 8, 9, 13, 87, 88, 89, 90] g g1) hfr2 (by decide) (by decide) : mFr [5, 6, 7, 8, 9, 10, 11, 13, 87, 88, 89, 90] g g2) (by rw [h89]; exact congrArg nI (by omega)), by rw [er]; exact h10_2, by rw [er]; exact h11_2, rfl⟩)
        · have hx24 : ¬ t.2.2.2.2 = some 24 := of_decide_eq_false (bI_f c_38)
          refine zs_iinc (v := (nI 25)) (lv' := [(2, .int (nI 25)), (1, .int (nI 0)), (0, .ref mo)]) dX13_readOne_24 rfl (nI_add _ 1) (Nat.le_of_ble_eq_true rfl) rfl ?_
          refine zs_goto (tgt := 10) dX13_readOne_27 (by decide) ?_
          refine zs_iload_n dX13_readOne_10 rfl ?_
          refine zs_bipush (v := nI 28) dX13_readOne_11 (by decide) ?_
          refine zs_icmp_gt (tgt := 30) dX13_readOne_13 (by decide) (fun c_46 => (by first | exact absurd c_46 (by decide) | exact absurd (by decide) c_46 : False).elim) (fun c_46 => ?_)
          refine zs_aload_n dX13_readOne_16 rfl rfl ?_
          refine zs_iload_n dX13_readOne_17 rfl ?_
          refine zs_callV (M := mX13_isWord) (As := [.int (nI 25)]) (st := []) (Kc := [(mo, .inr (11, fMo e g w))]) (Kr := [((e 1), .inl (0, 740, .inl (nF bt))), ((e 86), .inl (0, 240, .inl nd))]) [0] [1, 2] 0 dX13_readOne_18 zl_RX13_264 kX13_isWord rfl rfl rfl rfl rfl (by decide) rfl rfl (show dd - 1 + 1 ≤ dd by omega) (Nat.zero_le _) (Nat.zero_le _) (Nat.le_of_ble_eq_true rfl) (s_mIsWord l (dd - 1) mo e g w n L t 25 (by omega) (by omega) hT hW hO) (fun r K1 hr => ?_)
          obtain ⟨rfl, rfl⟩ := hr
          refine zs_K (K' := [(mo, .inr (11, fMo e g w)), ((e 1), .inl (0, 740, .inl (nF bt))), ((e 86), .inl (0, 240, .inl nd))]) [2, 0, 1] rfl (by decide) ?_
          refine zs_if_ne (tgt := 30) dX13_readOne_21 (by decide) (fun c_47 => ?_) (fun c_47 => ?_)
          · have hwk : t.2.2.2.2 = some 25 := of_decide_eq_true (bI_t c_47)
            have hk2 : t.1 = 2 := hO.2.2.2.2.2.2.2.2 _ hwk
            have hnb : ¬ sBad t := fun h => by have h4 := h.2.2.2; rw [hwk] at h4; exact absurd h4 (by decide)
            refine zs_iload_n dX13_readOne_30 rfl ?_
            refine zs_if_ne (tgt := 46) dX13_readOne_31 (by decide) (fun c_48 => (by first | exact absurd c_48 (by decide) | exact absurd (by decide) c_48 : False).elim) (fun c_48 => ?_)
            refine zs_iload_n dX13_readOne_34 rfl ?_
            refine zs_bipush (v := nI 28) dX13_readOne_35 (by decide) ?_
            refine zs_icmp_le (tgt := 46) dX13_readOne_37 (by decide) (fun c_49 => ?_) (fun c_49 => (by first | exact absurd c_49 (by decide) | exact absurd (by decide) c_49 : False).elim)
            refine zs_aload_n dX13_readOne_46 rfl rfl ?_
            refine zs_get 0 dX13_readOne_47 zf_RX13_518 rfl (v := .int (g 88)) rfl ?_
            refine zs_as (y := nI S.1) h88 ?_
            refine zs_bipush (v := nI 20) dX13_readOne_50 (by decide) ?_
            refine zs_icmp_eq (tgt := 64) dX13_readOne_52 (by decide) (fun c_50 => ?_) (fun c_50 => ?_)
            · have c_50 : S.1 = 20 := by have hc := c_50; rw [nI_eq' (by omega) (by omega)] at hc; exact hc
              refine zs_aload_n dX13_readOne_64 rfl rfl ?_
              refine zs_iconst (v := nI 4) dX13_readOne_65 (by decide) ?_
              refine zs_callV (M := mX13_bad) (As := [.int (nI 4)]) (st := []) (Kc := [(mo, .inr (11, fMo e g w))]) (Kr := [((e 1), .inl (0, 740, .inl (nF bt))), ((e 86), .inl (0, 240, .inl nd))]) [0] [1, 2] 0 dX13_readOne_66 zl_RX13_216 kX13_bad rfl rfl rfl rfl rfl (by decide) rfl rfl (show dd - 1 + 1 ≤ dd by omega) (Nat.zero_le _) (Nat.zero_le _) (Nat.le_of_ble_eq_true rfl) (s_mBad l (dd - 1) mo e g w n L t 4 hT hW hO) (fun r K1 hr => ?_)
              rw [mBad_e (by first | (intro; rfl) | (intro h; unfold mKd at h; split at h <;> omega))] at hr
              obtain ⟨rfl, rfl⟩ := hr
              refine zs_K (K' := [(mo, .inr (11, fMo e (mFa g 4 t) w)), ((e 1), .inl (0, 740, .inl (nF bt))), ((e 86), .inl (0, 240, .inl nd))]) [2, 0, 1] rfl (by decide) ?_
              have e1 : (sOne bt n L (d + 1) t tk S).1 = 4 ∧ (sOne bt n L (d + 1) t tk S).2.1 = t := by rw [sOne_4 hnb (by omega)]; exact ⟨rfl, rfl⟩
              exact zs_zret dX13_readOne_69 rfl (Or.inl rfl) (Or.inr ⟨by rw [e1.1]; exact (show ¬ (4 : Nat) = 0 by decide), rfl, mFa g 4 t, w, nd, mFr_fs mFr_r, by rw [e1.1]; rfl, by rw [e1.2]; rfl, rfl⟩)
            · have c_50 : ¬ (S.1 = 20) := by have hc := c_50; rw [nI_eq' (by omega) (by omega)] at hc; exact hc
              refine zs_aload_n dX13_readOne_55 rfl rfl ?_
              refine zs_get 0 dX13_readOne_56 zf_RX13_521 rfl (v := .int (g 89)) rfl ?_
              refine zs_as (y := nI (7 - d)) (h89.trans (congrArg nI (by omega))) ?_
              refine zs_bipush (v := nI 8) dX13_readOne_59 (by decide) ?_
              refine zs_icmp_ne (tgt := 70) dX13_readOne_61 (by decide) (fun c_51 => ?_) (fun c_51 => (by rw [nI_eq' (by omega) (by omega)] at c_51; omega : False).elim)
              refine zs_aload_n dX13_readOne_70 rfl rfl ?_
              refine zs_dup dX13_readOne_71 rfl ?_
              refine zs_get 0 dX13_readOne_72 zf_RX13_518 rfl (v := .int (g 88)) rfl ?_
              refine zs_as (y := nI S.1) h88 ?_
              refine zs_iconst (v := nI 1) dX13_readOne_75 (by decide) ?_
              refine zs_iadd dX13_readOne_76 ?_
              refine zs_as (y := nI (S.1 + 1)) (nI_add _ _) ?_
              refine zs_put 0 dX13_readOne_77 zf_RX13_518 rfl (Nat.le_of_ble_eq_true rfl) (zPv_i _) ?_
              show zS _ _ _ _ _ _ [(mo, .inr (11, fMo e (upd g 88 (nI (S.1 + 1))) w)), ((e 1), .inl (0, 740, .inl (nF bt))), ((e 86), .inl (0, 240, .inl nd))]
              refine zs_aload_n dX13_readOne_80 rfl rfl ?_
              refine zs_dup dX13_readOne_81 rfl ?_
              refine zs_get 0 dX13_readOne_82 zf_RX13_521 rfl (v := .int (g 89)) rfl ?_
              refine zs_as (y := nI (7 - d)) (h89.trans (congrArg nI (by omega))) ?_
              refine zs_iconst (v := nI 1) dX13_readOne_85 (by decide) ?_
              refine zs_iadd dX13_readOne_86 ?_
              refine zs_as (y := nI ((7 - d) + 1)) (nI_add _ _) ?_
              refine zs_put 0 dX13_readOne_87 zf_RX13_521 rfl (Nat.le_of_ble_eq_true rfl) (zPv_i _) ?_
              show zS _ _ _ _ _ _ [(mo, .inr (11, fMo e (upd (upd g 88 (nI (S.1 + 1))) 89 (nI ((7 - d) + 1))) w)), ((e 1), .inl (0, 740, .inl (nF bt))), ((e 86), .inl (0, 240, .inl nd))]
              refine zs_aload_n dX13_readOne_90 rfl rfl ?_
              have h0t : ¬ t.1 = 0 := by omega
              refine zs_callV (M := mX13_go) (As := []) (st := []) (Kc := [(mo, .inr (11, fMo e (upd (upd g 88 (nI (S.1 + 1))) 89 (nI ((7 - d) + 1))) w)), ((e 1), .inl (0, 740, .inl (nF bt)))]) (Kr := [((e 86), .inl (0, 240, .inl nd))]) [0, 1] [2] 0 dX13_readOne_91 zl_RX13_226 kX13_go rfl rfl rfl rfl rfl (by decide) rfl rfl (show dd - 1 + 1 ≤ dd by omega) (Nat.zero_le _) (Nat.zero_le _) (Nat.le_of_ble_eq_true rfl) (s_mGoT l (dd - 1) mo e (upd (upd g 88 (nI (S.1 + 1))) 89 (nI ((7 - d) + 1))) w n L bt t (by omega) hn hL hbt (show (upd (upd g 88 (nI (S.1 + 1))) 89 (nI ((7 - d) + 1))) 3 = nI n from h3) (show (upd (upd g 88 (nI (S.1 + 1))) 89 (nI ((7 - d) + 1))) 4 = nI L from h4) (mTk_f hT rfl rfl rfl rfl rfl) hW h0t) (fun r K1 hr => ?_)
              obtain ⟨rfl, g1, w1, hfr1, hT1, rfl⟩ := hr
              refine zs_K (K' := [(mo, .inr (11, fMo e g1 w1)), ((e 1), .inl (0, 740, .inl (nF bt))), ((e 86), .inl (0, 240, .inl nd))]) [1, 2, 0] rfl (by decide) ?_
              have fr1 : mFr [5, 6, 7, 8, 9, 13, 87, 88, 89, 90] g g1 := mFr_t ((mFr_u (mFr_u mFr_r (by decide)) (by decide)) : mFr [5, 6, 7, 8, 9, 13, 87, 88, 89, 90] g (upd (upd g 88 (nI (S.1 + 1))) 89 (nI ((7 - d) + 1)))) hfr1 (by decide) (by decide)
              have hO_1 := nxt_OK (L := L) (τ := t) hbt hn
              have h14_1 := hO_1.1
              have hkd_1 := mKd_4 (n := n) (L := L) hO_1.1
              refine zs_iconst (v := nI 1) dX13_readOne_94 (by decide) ?_
              refine zs_istore_n (lv' := [(3, .int (nI 1)), (2, .int (nI 25)), (1, .int (nI 0)), (0, .ref mo)]) dX13_readOne_95 (Nat.le_of_ble_eq_true rfl) rfl ?_
              refine zs_iload_n dX13_readOne_96 rfl ?_
              refine zs_if_eq (tgt := 108) dX13_readOne_97 (by decide) (fun c_52 => ?_) (fun c_52 => (by first | exact absurd c_52 (by decide) | exact absurd (by decide) c_52 : False).elim)
              refine zs_iload_n dX13_readOne_108 rfl ?_
              refine zs_bipush (v := nI 22) dX13_readOne_109 (by decide) ?_
              refine zs_icmp_ne (tgt := 122) dX13_readOne_111 (by decide) (fun c_53 => ?_) (fun c_53 => (by first | exact absurd c_53 (by decide) | exact absurd (by decide) c_53 : False).elim)
              refine zs_iload_n dX13_readOne_122 rfl ?_
              refine zs_bipush (v := nI 23) dX13_readOne_123 (by decide) ?_
              refine zs_icmp_ne (tgt := 143) dX13_readOne_125 (by decide) (fun c_54 => ?_) (fun c_54 => (by first | exact absurd c_54 (by decide) | exact absurd (by decide) c_54 : False).elim)
              refine zs_aload_n dX13_readOne_143 rfl rfl ?_
              refine zs_iload_n dX13_readOne_144 rfl ?_
              refine zs_callV (M := mX13_readCompare) (As := [.int (nI 25)]) (st := []) (Kc := [(mo, .inr (11, fMo e g1 w1)), ((e 1), .inl (0, 740, .inl (nF bt))), ((e 86), .inl (0, 240, .inl nd))]) (Kr := []) [0, 1, 2] [] 0 dX13_readOne_145 zl_RX13_530 kX13_readCompare rfl rfl rfl rfl rfl (by decide) rfl rfl (show dd - 1 + 1 ≤ dd by omega) (Nat.zero_le _) (Nat.zero_le _) (Nat.le_of_ble_eq_true rfl) (s_mReadCompare l (dd - 1) mo e n L bt 25 (nxt bt n L t) tk (sOn S) g1 w1 nd (by omega) hn hL hbt (by omega) ((hfr1 3 (by decide)).trans (show (upd (upd g 88 (nI (S.1 + 1))) 89 (nI ((7 - d) + 1))) 3 = nI n from h3)) ((hfr1 4 (by decide)).trans (show (upd (upd g 88 (nI (S.1 + 1))) 89 (nI ((7 - d) + 1))) 4 = nI L from h4)) hT1 (nxt_W (b := bt) (n := n) (L := L) (τ := t)) hO_1 htk ⟨by show S.1 + 1 ≤ 20; omega, by show S.2.1 ≤ 2 * (S.1 + 1); omega⟩ ((hfr1 87 (by decide)).trans (show (upd (upd g 88 (nI (S.1 + 1))) 89 (nI ((7 - d) + 1))) 87 = nI S.2.1 from h87)) ((hfr1 88 (by decide)).trans (show (upd (upd g 88 (nI (S.1 + 1))) 89 (nI ((7 - d) + 1))) 88 = nI (S.1 + 1) from rfl)) (show S.2.1 < 40 by omega)) (fun r K1 hr => ?_)
              have hR2 := sCmp_G (L := L) (m := 25 - 23) (S := sOn S) (S0 := S) hbt hn hO_1 htk (show S.1 + 1 ≤ S.1 + 1 ∧ S.1 + 1 ≤ 20 ∧ S.2.1 + 2 * S.1 + 2 ≤ S.2.1 + 2 * (S.1 + 1) by omega)
              generalize hG2 : sCmp bt n L (25 - 23) (nxt bt n L t) tk (sOn S) = G2 at hr hR2
              rcases hr with ⟨hq2, rfl, g2, w2, nd2, hfr2, hT2, hW2, h87_2, h88_2, h90_2, hlt2, hal2, hsT2, rfl⟩ | ⟨hq2, rfl, g2, w2, nd2, hfr2, h10_2, h11_2, rfl⟩
              · have fr2 : mFr [5, 6, 7, 8, 9, 13, 87, 88, 89, 90] g g2 := mFr_t (fr1 : mFr [5, 6, 7, 8, 9, 13, 87, 88, 89, 90] g g1) hfr2 (by decide) (by decide)
                have hS5_2 := hR2.2.2.2.2 hq2
                have hS4_2 := hR2.2.2.2.1
                have h14_2 := hR2.1.1
                have hkd_2 := mKd_4 (n := n) (L := L) hR2.1.1
                refine zs_istore_n (lv' := [(3, .int (nI 1)), (2, .int (nI 25)), (1, .int (nI 0)), (0, .ref mo)]) dX13_readOne_148 (Nat.le_of_ble_eq_true rfl) rfl ?_
                refine zs_aload_n dX13_readOne_149 rfl rfl ?_
                refine zs_dup dX13_readOne_150 rfl ?_
                refine zs_get 0 dX13_readOne_151 zf_RX13_521 rfl (v := .int (g2 89)) rfl ?_
                refine zs_as (y := nI (8 - d)) ((hfr2 89 (by decide)).trans (((hfr1 89 (by decide)).trans (show (upd (upd g 88 (nI (S.1 + 1))) 89 (nI ((7 - d) + 1))) 89 = nI (7 - d + 1) from rfl)).trans (congrArg nI (show 7 - d + 1 = 8 - d by omega)))) ?_
                refine zs_iconst (v := nI 1) dX13_readOne_154 (by decide) ?_
                refine zs_isub dX13_readOne_155 ?_
                refine zs_as (y := nI ((8 - d) - 1)) (nI_sub (by omega)) ?_
                refine zs_put 0 dX13_readOne_156 zf_RX13_521 rfl (Nat.le_of_ble_eq_true rfl) (zPv_i _) ?_
                show zS _ _ _ _ _ _ [(mo, .inr (11, fMo e (upd g2 89 (nI ((8 - d) - 1))) w2)), ((e 1), .inl (0, 740, .inl (nF bt))), ((e 86), .inl (0, 240, .inl nd2))]
                refine zs_iload_n dX13_readOne_159 rfl ?_
                have er : sOne bt n L (d + 1) t tk S = G2 := by rw [sOne_c hnb (show ¬ 20 ≤ S.1 by omega) (show ¬ tAt t 40 = true from by rw [hop]; decide) (by rw [hwk]; decide) (by rw [hwk]; decide), hwk, ← hG2]; rfl
                exact zs_zret dX13_readOne_160 rfl (Or.inr rfl) (Or.inl ⟨by rw [er]; exact hq2, rfl, (upd g2 89 (nI ((8 - d) - 1))), w2, nd2, mFr_9 fr2 (by rw [h89]; exact congrArg nI (by omega)), by rw [er]; exact mTk_f hT2 rfl rfl rfl rfl rfl, by rw [er]; exact hW2, by rw [er]; exact h87_2, by rw [er]; exact h88_2, by rw [er]; exact h90_2, by rw [er]; exact hlt2, by rw [er]; exact hal2, by rw [er]; exact hsT2, rfl⟩)
              · skip
                refine zs_istore_n (lv' := [(3, .int (nI 0)), (2, .int (nI 25)), (1, .int (nI 0)), (0, .ref mo)]) dX13_readOne_148 (Nat.le_of_ble_eq_true rfl) rfl ?_
                refine zs_aload_n dX13_readOne_149 rfl rfl ?_
                refine zs_dup dX13_readOne_150 rfl ?_
                refine zs_get 0 dX13_readOne_151 zf_RX13_521 rfl (v := .int (g2 89)) rfl ?_
                refine zs_as (y := nI (8 - d)) ((hfr2 89 (by decide)).trans (((hfr1 89 (by decide)).trans (show (upd (upd g 88 (nI (S.1 + 1))) 89 (nI ((7 - d) + 1))) 89 = nI (7 - d + 1) from rfl)).trans (congrArg nI (show 7 - d + 1 = 8 - d by omega)))) ?_
                refine zs_iconst (v := nI 1) dX13_readOne_154 (by decide) ?_
                refine zs_isub dX13_readOne_155 ?_
                refine zs_as (y := nI ((8 - d) - 1)) (nI_sub (by omega)) ?_
                refine zs_put 0 dX13_readOne_156 zf_RX13_521 rfl (Nat.le_of_ble_eq_true rfl) (zPv_i _) ?_
                show zS _ _ _ _ _ _ [(mo, .inr (11, fMo e (upd g2 89 (nI ((8 - d) - 1))) w2)), ((e 1), .inl (0, 740, .inl (nF bt))), ((e 86), .inl (0, 240, .inl nd2))]
                refine zs_iload_n dX13_readOne_159 rfl ?_
                have er : sOne bt n L (d + 1) t tk S = G2 := by rw [sOne_c hnb (show ¬ 20 ≤ S.1 by omega) (show ¬ tAt t 40 = true from by rw [hop]; decide) (by rw [hwk]; decide) (by rw [hwk]; decide), hwk, ← hG2]; rfl
                exact zs_zret dX13_readOne_160 rfl (Or.inl rfl) (Or.inr ⟨by rw [er]; exact hq2, rfl, (upd g2 89 (nI ((8 - d) - 1))), w2, nd2, mFr_9b (mFr_t (fr1 : mFr [5, 6, 7, 8, 9, 13, 87, 88, 89, 90] g g1) hfr2 (by decide) (by decide) : mFr [5, 6, 7, 8, 9, 10, 11, 13, 87, 88, 89, 90] g g2) (by rw [h89]; exact congrArg nI (by omega)), by rw [er]; exact h10_2, by rw [er]; exact h11_2, rfl⟩)
          · have hx25 : ¬ t.2.2.2.2 = some 25 := of_decide_eq_false (bI_f c_47)
            refine zs_iinc (v := (nI 26)) (lv' := [(2, .int (nI 26)), (1, .int (nI 0)), (0, .ref mo)]) dX13_readOne_24 rfl (nI_add _ 1) (Nat.le_of_ble_eq_true rfl) rfl ?_
            refine zs_goto (tgt := 10) dX13_readOne_27 (by decide) ?_
            refine zs_iload_n dX13_readOne_10 rfl ?_
            refine zs_bipush (v := nI 28) dX13_readOne_11 (by decide) ?_
            refine zs_icmp_gt (tgt := 30) dX13_readOne_13 (by decide) (fun c_55 => (by first | exact absurd c_55 (by decide) | exact absurd (by decide) c_55 : False).elim) (fun c_55 => ?_)
            refine zs_aload_n dX13_readOne_16 rfl rfl ?_
            refine zs_iload_n dX13_readOne_17 rfl ?_
            refine zs_callV (M := mX13_isWord) (As := [.int (nI 26)]) (st := []) (Kc := [(mo, .inr (11, fMo e g w))]) (Kr := [((e 1), .inl (0, 740, .inl (nF bt))), ((e 86), .inl (0, 240, .inl nd))]) [0] [1, 2] 0 dX13_readOne_18 zl_RX13_264 kX13_isWord rfl rfl rfl rfl rfl (by decide) rfl rfl (show dd - 1 + 1 ≤ dd by omega) (Nat.zero_le _) (Nat.zero_le _) (Nat.le_of_ble_eq_true rfl) (s_mIsWord l (dd - 1) mo e g w n L t 26 (by omega) (by omega) hT hW hO) (fun r K1 hr => ?_)
            obtain ⟨rfl, rfl⟩ := hr
            refine zs_K (K' := [(mo, .inr (11, fMo e g w)), ((e 1), .inl (0, 740, .inl (nF bt))), ((e 86), .inl (0, 240, .inl nd))]) [2, 0, 1] rfl (by decide) ?_
            refine zs_if_ne (tgt := 30) dX13_readOne_21 (by decide) (fun c_56 => ?_) (fun c_56 => ?_)
            · have hwk : t.2.2.2.2 = some 26 := of_decide_eq_true (bI_t c_56)
              have hk2 : t.1 = 2 := hO.2.2.2.2.2.2.2.2 _ hwk
              have hnb : ¬ sBad t := fun h => by have h4 := h.2.2.2; rw [hwk] at h4; exact absurd h4 (by decide)
              refine zs_iload_n dX13_readOne_30 rfl ?_
              refine zs_if_ne (tgt := 46) dX13_readOne_31 (by decide) (fun c_57 => (by first | exact absurd c_57 (by decide) | exact absurd (by decide) c_57 : False).elim) (fun c_57 => ?_)
              refine zs_iload_n dX13_readOne_34 rfl ?_
              refine zs_bipush (v := nI 28) dX13_readOne_35 (by decide) ?_
              refine zs_icmp_le (tgt := 46) dX13_readOne_37 (by decide) (fun c_58 => ?_) (fun c_58 => (by first | exact absurd c_58 (by decide) | exact absurd (by decide) c_58 : False).elim)
              refine zs_aload_n dX13_readOne_46 rfl rfl ?_
              refine zs_get 0 dX13_readOne_47 zf_RX13_518 rfl (v := .int (g 88)) rfl ?_
              refine zs_as (y := nI S.1) h88 ?_
              refine zs_bipush (v := nI 20) dX13_readOne_50 (by decide) ?_
              refine zs_icmp_eq (tgt := 64) dX13_readOne_52 (by decide) (fun c_59 => ?_) (fun c_59 => ?_)
              · have c_59 : S.1 = 20 := by have hc := c_59; rw [nI_eq' (by omega) (by omega)] at hc; exact hc
                refine zs_aload_n dX13_readOne_64 rfl rfl ?_
                refine zs_iconst (v := nI 4) dX13_readOne_65 (by decide) ?_
                refine zs_callV (M := mX13_bad) (As := [.int (nI 4)]) (st := []) (Kc := [(mo, .inr (11, fMo e g w))]) (Kr := [((e 1), .inl (0, 740, .inl (nF bt))), ((e 86), .inl (0, 240, .inl nd))]) [0] [1, 2] 0 dX13_readOne_66 zl_RX13_216 kX13_bad rfl rfl rfl rfl rfl (by decide) rfl rfl (show dd - 1 + 1 ≤ dd by omega) (Nat.zero_le _) (Nat.zero_le _) (Nat.le_of_ble_eq_true rfl) (s_mBad l (dd - 1) mo e g w n L t 4 hT hW hO) (fun r K1 hr => ?_)
                rw [mBad_e (by first | (intro; rfl) | (intro h; unfold mKd at h; split at h <;> omega))] at hr
                obtain ⟨rfl, rfl⟩ := hr
                refine zs_K (K' := [(mo, .inr (11, fMo e (mFa g 4 t) w)), ((e 1), .inl (0, 740, .inl (nF bt))), ((e 86), .inl (0, 240, .inl nd))]) [2, 0, 1] rfl (by decide) ?_
                have e1 : (sOne bt n L (d + 1) t tk S).1 = 4 ∧ (sOne bt n L (d + 1) t tk S).2.1 = t := by rw [sOne_4 hnb (by omega)]; exact ⟨rfl, rfl⟩
                exact zs_zret dX13_readOne_69 rfl (Or.inl rfl) (Or.inr ⟨by rw [e1.1]; exact (show ¬ (4 : Nat) = 0 by decide), rfl, mFa g 4 t, w, nd, mFr_fs mFr_r, by rw [e1.1]; rfl, by rw [e1.2]; rfl, rfl⟩)
              · have c_59 : ¬ (S.1 = 20) := by have hc := c_59; rw [nI_eq' (by omega) (by omega)] at hc; exact hc
                refine zs_aload_n dX13_readOne_55 rfl rfl ?_
                refine zs_get 0 dX13_readOne_56 zf_RX13_521 rfl (v := .int (g 89)) rfl ?_
                refine zs_as (y := nI (7 - d)) (h89.trans (congrArg nI (by omega))) ?_
                refine zs_bipush (v := nI 8) dX13_readOne_59 (by decide) ?_
                refine zs_icmp_ne (tgt := 70) dX13_readOne_61 (by decide) (fun c_60 => ?_) (fun c_60 => (by rw [nI_eq' (by omega) (by omega)] at c_60; omega : False).elim)
                refine zs_aload_n dX13_readOne_70 rfl rfl ?_
                refine zs_dup dX13_readOne_71 rfl ?_
                refine zs_get 0 dX13_readOne_72 zf_RX13_518 rfl (v := .int (g 88)) rfl ?_
                refine zs_as (y := nI S.1) h88 ?_
                refine zs_iconst (v := nI 1) dX13_readOne_75 (by decide) ?_
                refine zs_iadd dX13_readOne_76 ?_
                refine zs_as (y := nI (S.1 + 1)) (nI_add _ _) ?_
                refine zs_put 0 dX13_readOne_77 zf_RX13_518 rfl (Nat.le_of_ble_eq_true rfl) (zPv_i _) ?_
                show zS _ _ _ _ _ _ [(mo, .inr (11, fMo e (upd g 88 (nI (S.1 + 1))) w)), ((e 1), .inl (0, 740, .inl (nF bt))), ((e 86), .inl (0, 240, .inl nd))]
                refine zs_aload_n dX13_readOne_80 rfl rfl ?_
                refine zs_dup dX13_readOne_81 rfl ?_
                refine zs_get 0 dX13_readOne_82 zf_RX13_521 rfl (v := .int (g 89)) rfl ?_
                refine zs_as (y := nI (7 - d)) (h89.trans (congrArg nI (by omega))) ?_
                refine zs_iconst (v := nI 1) dX13_readOne_85 (by decide) ?_
                refine zs_iadd dX13_readOne_86 ?_
                refine zs_as (y := nI ((7 - d) + 1)) (nI_add _ _) ?_
                refine zs_put 0 dX13_readOne_87 zf_RX13_521 rfl (Nat.le_of_ble_eq_true rfl) (zPv_i _) ?_
                show zS _ _ _ _ _ _ [(mo, .inr (11, fMo e (upd (upd g 88 (nI (S.1 + 1))) 89 (nI ((7 - d) + 1))) w)), ((e 1), .inl (0, 740, .inl (nF bt))), ((e 86), .inl (0, 240, .inl nd))]
                refine zs_aload_n dX13_readOne_90 rfl rfl ?_
                have h0t : ¬ t.1 = 0 := by omega
                refine zs_callV (M := mX13_go) (As := []) (st := []) (Kc := [(mo, .inr (11, fMo e (upd (upd g 88 (nI (S.1 + 1))) 89 (nI ((7 - d) + 1))) w)), ((e 1), .inl (0, 740, .inl (nF bt)))]) (Kr := [((e 86), .inl (0, 240, .inl nd))]) [0, 1] [2] 0 dX13_readOne_91 zl_RX13_226 kX13_go rfl rfl rfl rfl rfl (by decide) rfl rfl (show dd - 1 + 1 ≤ dd by omega) (Nat.zero_le _) (Nat.zero_le _) (Nat.le_of_ble_eq_true rfl) (s_mGoT l (dd - 1) mo e (upd (upd g 88 (nI (S.1 + 1))) 89 (nI ((7 - d) + 1))) w n L bt t (by omega) hn hL hbt (show (upd (upd g 88 (nI (S.1 + 1))) 89 (nI ((7 - d) + 1))) 3 = nI n from h3) (show (upd (upd g 88 (nI (S.1 + 1))) 89 (nI ((7 - d) + 1))) 4 = nI L from h4) (mTk_f hT rfl rfl rfl rfl rfl) hW h0t) (fun r K1 hr => ?_)
                obtain ⟨rfl, g1, w1, hfr1, hT1, rfl⟩ := hr
                refine zs_K (K' := [(mo, .inr (11, fMo e g1 w1)), ((e 1), .inl (0, 740, .inl (nF bt))), ((e 86), .inl (0, 240, .inl nd))]) [1, 2, 0] rfl (by decide) ?_
                have fr1 : mFr [5, 6, 7, 8, 9, 13, 87, 88, 89, 90] g g1 := mFr_t ((mFr_u (mFr_u mFr_r (by decide)) (by decide)) : mFr [5, 6, 7, 8, 9, 13, 87, 88, 89, 90] g (upd (upd g 88 (nI (S.1 + 1))) 89 (nI ((7 - d) + 1)))) hfr1 (by decide) (by decide)
                have hO_1 := nxt_OK (L := L) (τ := t) hbt hn
                have h14_1 := hO_1.1
                have hkd_1 := mKd_4 (n := n) (L := L) hO_1.1
                refine zs_iconst (v := nI 1) dX13_readOne_94 (by decide) ?_
                refine zs_istore_n (lv' := [(3, .int (nI 1)), (2, .int (nI 26)), (1, .int (nI 0)), (0, .ref mo)]) dX13_readOne_95 (Nat.le_of_ble_eq_true rfl) rfl ?_
                refine zs_iload_n dX13_readOne_96 rfl ?_
                refine zs_if_eq (tgt := 108) dX13_readOne_97 (by decide) (fun c_61 => ?_) (fun c_61 => (by first | exact absurd c_61 (by decide) | exact absurd (by decide) c_61 : False).elim)
                refine zs_iload_n dX13_readOne_108 rfl ?_
                refine zs_bipush (v := nI 22) dX13_readOne_109 (by decide) ?_
                refine zs_icmp_ne (tgt := 122) dX13_readOne_111 (by decide) (fun c_62 => ?_) (fun c_62 => (by first | exact absurd c_62 (by decide) | exact absurd (by decide) c_62 : False).elim)
                refine zs_iload_n dX13_readOne_122 rfl ?_
                refine zs_bipush (v := nI 23) dX13_readOne_123 (by decide) ?_
                refine zs_icmp_ne (tgt := 143) dX13_readOne_125 (by decide) (fun c_63 => ?_) (fun c_63 => (by first | exact absurd c_63 (by decide) | exact absurd (by decide) c_63 : False).elim)
                refine zs_aload_n dX13_readOne_143 rfl rfl ?_
                refine zs_iload_n dX13_readOne_144 rfl ?_
                refine zs_callV (M := mX13_readCompare) (As := [.int (nI 26)]) (st := []) (Kc := [(mo, .inr (11, fMo e g1 w1)), ((e 1), .inl (0, 740, .inl (nF bt))), ((e 86), .inl (0, 240, .inl nd))]) (Kr := []) [0, 1, 2] [] 0 dX13_readOne_145 zl_RX13_530 kX13_readCompare rfl rfl rfl rfl rfl (by decide) rfl rfl (show dd - 1 + 1 ≤ dd by omega) (Nat.zero_le _) (Nat.zero_le _) (Nat.le_of_ble_eq_true rfl) (s_mReadCompare l (dd - 1) mo e n L bt 26 (nxt bt n L t) tk (sOn S) g1 w1 nd (by omega) hn hL hbt (by omega) ((hfr1 3 (by decide)).trans (show (upd (upd g 88 (nI (S.1 + 1))) 89 (nI ((7 - d) + 1))) 3 = nI n from h3)) ((hfr1 4 (by decide)).trans (show (upd (upd g 88 (nI (S.1 + 1))) 89 (nI ((7 - d) + 1))) 4 = nI L from h4)) hT1 (nxt_W (b := bt) (n := n) (L := L) (τ := t)) hO_1 htk ⟨by show S.1 + 1 ≤ 20; omega, by show S.2.1 ≤ 2 * (S.1 + 1); omega⟩ ((hfr1 87 (by decide)).trans (show (upd (upd g 88 (nI (S.1 + 1))) 89 (nI ((7 - d) + 1))) 87 = nI S.2.1 from h87)) ((hfr1 88 (by decide)).trans (show (upd (upd g 88 (nI (S.1 + 1))) 89 (nI ((7 - d) + 1))) 88 = nI (S.1 + 1) from rfl)) (show S.2.1 < 40 by omega)) (fun r K1 hr => ?_)
                have hR2 := sCmp_G (L := L) (m := 26 - 23) (S := sOn S) (S0 := S) hbt hn hO_1 htk (show S.1 + 1 ≤ S.1 + 1 ∧ S.1 + 1 ≤ 20 ∧ S.2.1 + 2 * S.1 + 2 ≤ S.2.1 + 2 * (S.1 + 1) by omega)
                generalize hG2 : sCmp bt n L (26 - 23) (nxt bt n L t) tk (sOn S) = G2 at hr hR2
                rcases hr with ⟨hq2, rfl, g2, w2, nd2, hfr2, hT2, hW2, h87_2, h88_2, h90_2, hlt2, hal2, hsT2, rfl⟩ | ⟨hq2, rfl, g2, w2, nd2, hfr2, h10_2, h11_2, rfl⟩
                · have fr2 : mFr [5, 6, 7, 8, 9, 13, 87, 88, 89, 90] g g2 := mFr_t (fr1 : mFr [5, 6, 7, 8, 9, 13, 87, 88, 89, 90] g g1) hfr2 (by decide) (by decide)
                  have hS5_2 := hR2.2.2.2.2 hq2
                  have hS4_2 := hR2.2.2.2.1
                  have h14_2 := hR2.1.1
                  have hkd_2 := mKd_4 (n := n) (L := L) hR2.1.1
                  refine zs_istore_n (lv' := [(3, .int (nI 1)), (2, .int (nI 26)), (1, .int (nI 0)), (0, .ref mo)]) dX13_readOne_148 (Nat.le_of_ble_eq_true rfl) rfl ?_
                  refine zs_aload_n dX13_readOne_149 rfl rfl ?_
                  refine zs_dup dX13_readOne_150 rfl ?_
                  refine zs_get 0 dX13_readOne_151 zf_RX13_521 rfl (v := .int (g2 89)) rfl ?_
                  refine zs_as (y := nI (8 - d)) ((hfr2 89 (by decide)).trans (((hfr1 89 (by decide)).trans (show (upd (upd g 88 (nI (S.1 + 1))) 89 (nI ((7 - d) + 1))) 89 = nI (7 - d + 1) from rfl)).trans (congrArg nI (show 7 - d + 1 = 8 - d by omega)))) ?_
                  refine zs_iconst (v := nI 1) dX13_readOne_154 (by decide) ?_
                  refine zs_isub dX13_readOne_155 ?_
                  refine zs_as (y := nI ((8 - d) - 1)) (nI_sub (by omega)) ?_
                  refine zs_put 0 dX13_readOne_156 zf_RX13_521 rfl (Nat.le_of_ble_eq_true rfl) (zPv_i _) ?_
                  show zS _ _ _ _ _ _ [(mo, .inr (11, fMo e (upd g2 89 (nI ((8 - d) - 1))) w2)), ((e 1), .inl (0, 740, .inl (nF bt))), ((e 86), .inl (0, 240, .inl nd2))]
                  refine zs_iload_n dX13_readOne_159 rfl ?_
                  have er : sOne bt n L (d + 1) t tk S = G2 := by rw [sOne_c hnb (show ¬ 20 ≤ S.1 by omega) (show ¬ tAt t 40 = true from by rw [hop]; decide) (by rw [hwk]; decide) (by rw [hwk]; decide), hwk, ← hG2]; rfl
                  exact zs_zret dX13_readOne_160 rfl (Or.inr rfl) (Or.inl ⟨by rw [er]; exact hq2, rfl, (upd g2 89 (nI ((8 - d) - 1))), w2, nd2, mFr_9 fr2 (by rw [h89]; exact congrArg nI (by omega)), by rw [er]; exact mTk_f hT2 rfl rfl rfl rfl rfl, by rw [er]; exact hW2, by rw [er]; exact h87_2, by rw [er]; exact h88_2, by rw [er]; exact h90_2, by rw [er]; exact hlt2, by rw [er]; exact hal2, by rw [er]; exact hsT2, rfl⟩)
                · skip
                  refine zs_istore_n (lv' := [(3, .int (nI 0)), (2, .int (nI 26)), (1, .int (nI 0)), (0, .ref mo)]) dX13_readOne_148 (Nat.le_of_ble_eq_true rfl) rfl ?_
                  refine zs_aload_n dX13_readOne_149 rfl rfl ?_
                  refine zs_dup dX13_readOne_150 rfl ?_
                  refine zs_get 0 dX13_readOne_151 zf_RX13_521 rfl (v := .int (g2 89)) rfl ?_
                  refine zs_as (y := nI (8 - d)) ((hfr2 89 (by decide)).trans (((hfr1 89 (by decide)).trans (show (upd (upd g 88 (nI (S.1 + 1))) 89 (nI ((7 - d) + 1))) 89 = nI (7 - d + 1) from rfl)).trans (congrArg nI (show 7 - d + 1 = 8 - d by omega)))) ?_
                  refine zs_iconst (v := nI 1) dX13_readOne_154 (by decide) ?_
                  refine zs_isub dX13_readOne_155 ?_
                  refine zs_as (y := nI ((8 - d) - 1)) (nI_sub (by omega)) ?_
                  refine zs_put 0 dX13_readOne_156 zf_RX13_521 rfl (Nat.le_of_ble_eq_true rfl) (zPv_i _) ?_
                  show zS _ _ _ _ _ _ [(mo, .inr (11, fMo e (upd g2 89 (nI ((8 - d) - 1))) w2)), ((e 1), .inl (0, 740, .inl (nF bt))), ((e 86), .inl (0, 240, .inl nd2))]
                  refine zs_iload_n dX13_readOne_159 rfl ?_
                  have er : sOne bt n L (d + 1) t tk S = G2 := by rw [sOne_c hnb (show ¬ 20 ≤ S.1 by omega) (show ¬ tAt t 40 = true from by rw [hop]; decide) (by rw [hwk]; decide) (by rw [hwk]; decide), hwk, ← hG2]; rfl
                  exact zs_zret dX13_readOne_160 rfl (Or.inl rfl) (Or.inr ⟨by rw [er]; exact hq2, rfl, (upd g2 89 (nI ((8 - d) - 1))), w2, nd2, mFr_9b (mFr_t (fr1 : mFr [5, 6, 7, 8, 9, 13, 87, 88, 89, 90] g g1) hfr2 (by decide) (by decide) : mFr [5, 6, 7, 8, 9, 10, 11, 13, 87, 88, 89, 90] g g2) (by rw [h89]; exact congrArg nI (by omega)), by rw [er]; exact h10_2, by rw [er]; exact h11_2, rfl⟩)
            · have hx26 : ¬ t.2.2.2.2 = some 26 := of_decide_eq_false (bI_f c_56)
              refine zs_iinc (v := (nI 27)) (lv' := [(2, .int (nI 27)), (1, .int (nI 0)), (0, .ref mo)]) dX13_readOne_24 rfl (nI_add _ 1) (Nat.le_of_ble_eq_true rfl) rfl ?_
              refine zs_goto (tgt := 10) dX13_readOne_27 (by decide) ?_
              refine zs_iload_n dX13_readOne_10 rfl ?_
              refine zs_bipush (v := nI 28) dX13_readOne_11 (by decide) ?_
              refine zs_icmp_gt (tgt := 30) dX13_readOne_13 (by decide) (fun c_64 => (by first | exact absurd c_64 (by decide) | exact absurd (by decide) c_64 : False).elim) (fun c_64 => ?_)
              refine zs_aload_n dX13_readOne_16 rfl rfl ?_
              refine zs_iload_n dX13_readOne_17 rfl ?_
              refine zs_callV (M := mX13_isWord) (As := [.int (nI 27)]) (st := []) (Kc := [(mo, .inr (11, fMo e g w))]) (Kr := [((e 1), .inl (0, 740, .inl (nF bt))), ((e 86), .inl (0, 240, .inl nd))]) [0] [1, 2] 0 dX13_readOne_18 zl_RX13_264 kX13_isWord rfl rfl rfl rfl rfl (by decide) rfl rfl (show dd - 1 + 1 ≤ dd by omega) (Nat.zero_le _) (Nat.zero_le _) (Nat.le_of_ble_eq_true rfl) (s_mIsWord l (dd - 1) mo e g w n L t 27 (by omega) (by omega) hT hW hO) (fun r K1 hr => ?_)
              obtain ⟨rfl, rfl⟩ := hr
              refine zs_K (K' := [(mo, .inr (11, fMo e g w)), ((e 1), .inl (0, 740, .inl (nF bt))), ((e 86), .inl (0, 240, .inl nd))]) [2, 0, 1] rfl (by decide) ?_
              refine zs_if_ne (tgt := 30) dX13_readOne_21 (by decide) (fun c_65 => ?_) (fun c_65 => ?_)
              · have hwk : t.2.2.2.2 = some 27 := of_decide_eq_true (bI_t c_65)
                have hk2 : t.1 = 2 := hO.2.2.2.2.2.2.2.2 _ hwk
                have hnb : ¬ sBad t := fun h => by have h4 := h.2.2.2; rw [hwk] at h4; exact absurd h4 (by decide)
                refine zs_iload_n dX13_readOne_30 rfl ?_
                refine zs_if_ne (tgt := 46) dX13_readOne_31 (by decide) (fun c_66 => (by first | exact absurd c_66 (by decide) | exact absurd (by decide) c_66 : False).elim) (fun c_66 => ?_)
                refine zs_iload_n dX13_readOne_34 rfl ?_
                refine zs_bipush (v := nI 28) dX13_readOne_35 (by decide) ?_
                refine zs_icmp_le (tgt := 46) dX13_readOne_37 (by decide) (fun c_67 => ?_) (fun c_67 => (by first | exact absurd c_67 (by decide) | exact absurd (by decide) c_67 : False).elim)
                refine zs_aload_n dX13_readOne_46 rfl rfl ?_
                refine zs_get 0 dX13_readOne_47 zf_RX13_518 rfl (v := .int (g 88)) rfl ?_
                refine zs_as (y := nI S.1) h88 ?_
                refine zs_bipush (v := nI 20) dX13_readOne_50 (by decide) ?_
                refine zs_icmp_eq (tgt := 64) dX13_readOne_52 (by decide) (fun c_68 => ?_) (fun c_68 => ?_)
                · have c_68 : S.1 = 20 := by have hc := c_68; rw [nI_eq' (by omega) (by omega)] at hc; exact hc
                  refine zs_aload_n dX13_readOne_64 rfl rfl ?_
                  refine zs_iconst (v := nI 4) dX13_readOne_65 (by decide) ?_
                  refine zs_callV (M := mX13_bad) (As := [.int (nI 4)]) (st := []) (Kc := [(mo, .inr (11, fMo e g w))]) (Kr := [((e 1), .inl (0, 740, .inl (nF bt))), ((e 86), .inl (0, 240, .inl nd))]) [0] [1, 2] 0 dX13_readOne_66 zl_RX13_216 kX13_bad rfl rfl rfl rfl rfl (by decide) rfl rfl (show dd - 1 + 1 ≤ dd by omega) (Nat.zero_le _) (Nat.zero_le _) (Nat.le_of_ble_eq_true rfl) (s_mBad l (dd - 1) mo e g w n L t 4 hT hW hO) (fun r K1 hr => ?_)
                  rw [mBad_e (by first | (intro; rfl) | (intro h; unfold mKd at h; split at h <;> omega))] at hr
                  obtain ⟨rfl, rfl⟩ := hr
                  refine zs_K (K' := [(mo, .inr (11, fMo e (mFa g 4 t) w)), ((e 1), .inl (0, 740, .inl (nF bt))), ((e 86), .inl (0, 240, .inl nd))]) [2, 0, 1] rfl (by decide) ?_
                  have e1 : (sOne bt n L (d + 1) t tk S).1 = 4 ∧ (sOne bt n L (d + 1) t tk S).2.1 = t := by rw [sOne_4 hnb (by omega)]; exact ⟨rfl, rfl⟩
                  exact zs_zret dX13_readOne_69 rfl (Or.inl rfl) (Or.inr ⟨by rw [e1.1]; exact (show ¬ (4 : Nat) = 0 by decide), rfl, mFa g 4 t, w, nd, mFr_fs mFr_r, by rw [e1.1]; rfl, by rw [e1.2]; rfl, rfl⟩)
                · have c_68 : ¬ (S.1 = 20) := by have hc := c_68; rw [nI_eq' (by omega) (by omega)] at hc; exact hc
                  refine zs_aload_n dX13_readOne_55 rfl rfl ?_
                  refine zs_get 0 dX13_readOne_56 zf_RX13_521 rfl (v := .int (g 89)) rfl ?_
                  refine zs_as (y := nI (7 - d)) (h89.trans (congrArg nI (by omega))) ?_
                  refine zs_bipush (v := nI 8) dX13_readOne_59 (by decide) ?_
                  refine zs_icmp_ne (tgt := 70) dX13_readOne_61 (by decide) (fun c_69 => ?_) (fun c_69 => (by rw [nI_eq' (by omega) (by omega)] at c_69; omega : False).elim)
                  refine zs_aload_n dX13_readOne_70 rfl rfl ?_
                  refine zs_dup dX13_readOne_71 rfl ?_
                  refine zs_get 0 dX13_readOne_72 zf_RX13_518 rfl (v := .int (g 88)) rfl ?_
                  refine zs_as (y := nI S.1) h88 ?_
                  refine zs_iconst (v := nI 1) dX13_readOne_75 (by decide) ?_
                  refine zs_iadd dX13_readOne_76 ?_
                  refine zs_as (y := nI (S.1 + 1)) (nI_add _ _) ?_
                  refine zs_put 0 dX13_readOne_77 zf_RX13_518 rfl (Nat.le_of_ble_eq_true rfl) (zPv_i _) ?_
                  show zS _ _ _ _ _ _ [(mo, .inr (11, fMo e (upd g 88 (nI (S.1 + 1))) w)), ((e 1), .inl (0, 740, .inl (nF bt))), ((e 86), .inl (0, 240, .inl nd))]
                  refine zs_aload_n dX13_readOne_80 rfl rfl ?_
                  refine zs_dup dX13_readOne_81 rfl ?_
                  refine zs_get 0 dX13_readOne_82 zf_RX13_521 rfl (v := .int (g 89)) rfl ?_
                  refine zs_as (y := nI (7 - d)) (h89.trans (congrArg nI (by omega))) ?_
                  refine zs_iconst (v := nI 1) dX13_readOne_85 (by decide) ?_
                  refine zs_iadd dX13_readOne_86 ?_
                  refine zs_as (y := nI ((7 - d) + 1)) (nI_add _ _) ?_
                  refine zs_put 0 dX13_readOne_87 zf_RX13_521 rfl (Nat.le_of_ble_eq_true rfl) (zPv_i _) ?_
                  show zS _ _ _ _ _ _ [(mo, .inr (11, fMo e (upd (upd g 88 (nI (S.1 + 1))) 89 (nI ((7 - d) + 1))) w)), ((e 1), .inl (0, 740, .inl (nF bt))), ((e 86), .inl (0, 240, .inl nd))]
                  refine zs_aload_n dX13_readOne_90 rfl rfl ?_
                  have h0t : ¬ t.1 = 0 := by omega
                  refine zs_callV (M := mX13_go) (As := []) (st := []) (Kc := [(mo, .inr (11, fMo e (upd (upd g 88 (nI (S.1 + 1))) 89 (nI ((7 - d) + 1))) w)), ((e 1), .inl (0, 740, .inl (nF bt)))]) (Kr := [((e 86), .inl (0, 240, .inl nd))]) [0, 1] [2] 0 dX13_readOne_91 zl_RX13_226 kX13_go rfl rfl rfl rfl rfl (by decide) rfl rfl (show dd - 1 + 1 ≤ dd by omega) (Nat.zero_le _) (Nat.zero_le _) (Nat.le_of_ble_eq_true rfl) (s_mGoT l (dd - 1) mo e (upd (upd g 88 (nI (S.1 + 1))) 89 (nI ((7 - d) + 1))) w n L bt t (by omega) hn hL hbt (show (upd (upd g 88 (nI (S.1 + 1))) 89 (nI ((7 - d) + 1))) 3 = nI n from h3) (show (upd (upd g 88 (nI (S.1 + 1))) 89 (nI ((7 - d) + 1))) 4 = nI L from h4) (mTk_f hT rfl rfl rfl rfl rfl) hW h0t) (fun r K1 hr => ?_)
                  obtain ⟨rfl, g1, w1, hfr1, hT1, rfl⟩ := hr
                  refine zs_K (K' := [(mo, .inr (11, fMo e g1 w1)), ((e 1), .inl (0, 740, .inl (nF bt))), ((e 86), .inl (0, 240, .inl nd))]) [1, 2, 0] rfl (by decide) ?_
                  have fr1 : mFr [5, 6, 7, 8, 9, 13, 87, 88, 89, 90] g g1 := mFr_t ((mFr_u (mFr_u mFr_r (by decide)) (by decide)) : mFr [5, 6, 7, 8, 9, 13, 87, 88, 89, 90] g (upd (upd g 88 (nI (S.1 + 1))) 89 (nI ((7 - d) + 1)))) hfr1 (by decide) (by decide)
                  have hO_1 := nxt_OK (L := L) (τ := t) hbt hn
                  have h14_1 := hO_1.1
                  have hkd_1 := mKd_4 (n := n) (L := L) hO_1.1
                  refine zs_iconst (v := nI 1) dX13_readOne_94 (by decide) ?_
                  refine zs_istore_n (lv' := [(3, .int (nI 1)), (2, .int (nI 27)), (1, .int (nI 0)), (0, .ref mo)]) dX13_readOne_95 (Nat.le_of_ble_eq_true rfl) rfl ?_
                  refine zs_iload_n dX13_readOne_96 rfl ?_
                  refine zs_if_eq (tgt := 108) dX13_readOne_97 (by decide) (fun c_70 => ?_) (fun c_70 => (by first | exact absurd c_70 (by decide) | exact absurd (by decide) c_70 : False).elim)
                  refine zs_iload_n dX13_readOne_108 rfl ?_
                  refine zs_bipush (v := nI 22) dX13_readOne_109 (by decide) ?_
                  refine zs_icmp_ne (tgt := 122) dX13_readOne_111 (by decide) (fun c_71 => ?_) (fun c_71 => (by first | exact absurd c_71 (by decide) | exact absurd (by decide) c_71 : False).elim)
                  refine zs_iload_n dX13_readOne_122 rfl ?_
                  refine zs_bipush (v := nI 23) dX13_readOne_123 (by decide) ?_
                  refine zs_icmp_ne (tgt := 143) dX13_readOne_125 (by decide) (fun c_72 => ?_) (fun c_72 => (by first | exact absurd c_72 (by decide) | exact absurd (by decide) c_72 : False).elim)
                  refine zs_aload_n dX13_readOne_143 rfl rfl ?_
                  refine zs_iload_n dX13_readOne_144 rfl ?_
                  refine zs_callV (M := mX13_readCompare) (As := [.int (nI 27)]) (st := []) (Kc := [(mo, .inr (11, fMo e g1 w1)), ((e 1), .inl (0, 740, .inl (nF bt))), ((e 86), .inl (0, 240, .inl nd))]) (Kr := []) [0, 1, 2] [] 0 dX13_readOne_145 zl_RX13_530 kX13_readCompare rfl rfl rfl rfl rfl (by decide) rfl rfl (show dd - 1 + 1 ≤ dd by omega) (Nat.zero_le _) (Nat.zero_le _) (Nat.le_of_ble_eq_true rfl) (s_mReadCompare l (dd - 1) mo e n L bt 27 (nxt bt n L t) tk (sOn S) g1 w1 nd (by omega) hn hL hbt (by omega) ((hfr1 3 (by decide)).trans (show (upd (upd g 88 (nI (S.1 + 1))) 89 (nI ((7 - d) + 1))) 3 = nI n from h3)) ((hfr1 4 (by decide)).trans (show (upd (upd g 88 (nI (S.1 + 1))) 89 (nI ((7 - d) + 1))) 4 = nI L from h4)) hT1 (nxt_W (b := bt) (n := n) (L := L) (τ := t)) hO_1 htk ⟨by show S.1 + 1 ≤ 20; omega, by show S.2.1 ≤ 2 * (S.1 + 1); omega⟩ ((hfr1 87 (by decide)).trans (show (upd (upd g 88 (nI (S.1 + 1))) 89 (nI ((7 - d) + 1))) 87 = nI S.2.1 from h87)) ((hfr1 88 (by decide)).trans (show (upd (upd g 88 (nI (S.1 + 1))) 89 (nI ((7 - d) + 1))) 88 = nI (S.1 + 1) from rfl)) (show S.2.1 < 40 by omega)) (fun r K1 hr => ?_)
                  have hR2 := sCmp_G (L := L) (m := 27 - 23) (S := sOn S) (S0 := S) hbt hn hO_1 htk (show S.1 + 1 ≤ S.1 + 1 ∧ S.1 + 1 ≤ 20 ∧ S.2.1 + 2 * S.1 + 2 ≤ S.2.1 + 2 * (S.1 + 1) by omega)
                  generalize hG2 : sCmp bt n L (27 - 23) (nxt bt n L t) tk (sOn S) = G2 at hr hR2
                  rcases hr with ⟨hq2, rfl, g2, w2, nd2, hfr2, hT2, hW2, h87_2, h88_2, h90_2, hlt2, hal2, hsT2, rfl⟩ | ⟨hq2, rfl, g2, w2, nd2, hfr2, h10_2, h11_2, rfl⟩
                  · have fr2 : mFr [5, 6, 7, 8, 9, 13, 87, 88, 89, 90] g g2 := mFr_t (fr1 : mFr [5, 6, 7, 8, 9, 13, 87, 88, 89, 90] g g1) hfr2 (by decide) (by decide)
                    have hS5_2 := hR2.2.2.2.2 hq2
                    have hS4_2 := hR2.2.2.2.1
                    have h14_2 := hR2.1.1
                    have hkd_2 := mKd_4 (n := n) (L := L) hR2.1.1
                    refine zs_istore_n (lv' := [(3, .int (nI 1)), (2, .int (nI 27)), (1, .int (nI 0)), (0, .ref mo)]) dX13_readOne_148 (Nat.le_of_ble_eq_true rfl) rfl ?_
                    refine zs_aload_n dX13_readOne_149 rfl rfl ?_
                    refine zs_dup dX13_readOne_150 rfl ?_
                    refine zs_get 0 dX13_readOne_151 zf_RX13_521 rfl (v := .int (g2 89)) rfl ?_
                    refine zs_as (y := nI (8 - d)) ((hfr2 89 (by decide)).trans (((hfr1 89 (by decide)).trans (show (upd (upd g 88 (nI (S.1 + 1))) 89 (nI ((7 - d) + 1))) 89 = nI (7 - d + 1) from rfl)).trans (congrArg nI (show 7 - d + 1 = 8 - d by omega)))) ?_
                    refine zs_iconst (v := nI 1) dX13_readOne_154 (by decide) ?_
                    refine zs_isub dX13_readOne_155 ?_
                    refine zs_as (y := nI ((8 - d) - 1)) (nI_sub (by omega)) ?_
                    refine zs_put 0 dX13_readOne_156 zf_RX13_521 rfl (Nat.le_of_ble_eq_true rfl) (zPv_i _) ?_
                    show zS _ _ _ _ _ _ [(mo, .inr (11, fMo e (upd g2 89 (nI ((8 - d) - 1))) w2)), ((e 1), .inl (0, 740, .inl (nF bt))), ((e 86), .inl (0, 240, .inl nd2))]
                    refine zs_iload_n dX13_readOne_159 rfl ?_
                    have er : sOne bt n L (d + 1) t tk S = G2 := by rw [sOne_c hnb (show ¬ 20 ≤ S.1 by omega) (show ¬ tAt t 40 = true from by rw [hop]; decide) (by rw [hwk]; decide) (by rw [hwk]; decide), hwk, ← hG2]; rfl
                    exact zs_zret dX13_readOne_160 rfl (Or.inr rfl) (Or.inl ⟨by rw [er]; exact hq2, rfl, (upd g2 89 (nI ((8 - d) - 1))), w2, nd2, mFr_9 fr2 (by rw [h89]; exact congrArg nI (by omega)), by rw [er]; exact mTk_f hT2 rfl rfl rfl rfl rfl, by rw [er]; exact hW2, by rw [er]; exact h87_2, by rw [er]; exact h88_2, by rw [er]; exact h90_2, by rw [er]; exact hlt2, by rw [er]; exact hal2, by rw [er]; exact hsT2, rfl⟩)
                  · skip
                    refine zs_istore_n (lv' := [(3, .int (nI 0)), (2, .int (nI 27)), (1, .int (nI 0)), (0, .ref mo)]) dX13_readOne_148 (Nat.le_of_ble_eq_true rfl) rfl ?_
                    refine zs_aload_n dX13_readOne_149 rfl rfl ?_
                    refine zs_dup dX13_readOne_150 rfl ?_
                    refine zs_get 0 dX13_readOne_151 zf_RX13_521 rfl (v := .int (g2 89)) rfl ?_
                    refine zs_as (y := nI (8 - d)) ((hfr2 89 (by decide)).trans (((hfr1 89 (by decide)).trans (show (upd (upd g 88 (nI (S.1 + 1))) 89 (nI ((7 - d) + 1))) 89 = nI (7 - d + 1) from rfl)).trans (congrArg nI (show 7 - d + 1 = 8 - d by omega)))) ?_
                    refine zs_iconst (v := nI 1) dX13_readOne_154 (by decide) ?_
                    refine zs_isub dX13_readOne_155 ?_
                    refine zs_as (y := nI ((8 - d) - 1)) (nI_sub (by omega)) ?_
                    refine zs_put 0 dX13_readOne_156 zf_RX13_521 rfl (Nat.le_of_ble_eq_true rfl) (zPv_i _) ?_
                    show zS _ _ _ _ _ _ [(mo, .inr (11, fMo e (upd g2 89 (nI ((8 - d) - 1))) w2)), ((e 1), .inl (0, 740, .inl (nF bt))), ((e 86), .inl (0, 240, .inl nd2))]
                    refine zs_iload_n dX13_readOne_159 rfl ?_
                    have er : sOne bt n L (d + 1) t tk S = G2 := by rw [sOne_c hnb (show ¬ 20 ≤ S.1 by omega) (show ¬ tAt t 40 = true from by rw [hop]; decide) (by rw [hwk]; decide) (by rw [hwk]; decide), hwk, ← hG2]; rfl
                    exact zs_zret dX13_readOne_160 rfl (Or.inl rfl) (Or.inr ⟨by rw [er]; exact hq2, rfl, (upd g2 89 (nI ((8 - d) - 1))), w2, nd2, mFr_9b (mFr_t (fr1 : mFr [5, 6, 7, 8, 9, 13, 87, 88, 89, 90] g g1) hfr2 (by decide) (by decide) : mFr [5, 6, 7, 8, 9, 10, 11, 13, 87, 88, 89, 90] g g2) (by rw [h89]; exact congrArg nI (by omega)), by rw [er]; exact h10_2, by rw [er]; exact h11_2, rfl⟩)
              · have hx27 : ¬ t.2.2.2.2 = some 27 := of_decide_eq_false (bI_f c_65)
                refine zs_iinc (v := (nI 28)) (lv' := [(2, .int (nI 28)), (1, .int (nI 0)), (0, .ref mo)]) dX13_readOne_24 rfl (nI_add _ 1) (Nat.le_of_ble_eq_true rfl) rfl ?_
                refine zs_goto (tgt := 10) dX13_readOne_27 (by decide) ?_
                refine zs_iload_n dX13_readOne_10 rfl ?_
                refine zs_bipush (v := nI 28) dX13_readOne_11 (by decide) ?_
                refine zs_icmp_gt (tgt := 30) dX13_readOne_13 (by decide) (fun c_73 => (by first | exact absurd c_73 (by decide) | exact absurd (by decide) c_73 : False).elim) (fun c_73 => ?_)
                refine zs_aload_n dX13_readOne_16 rfl rfl ?_
                refine zs_iload_n dX13_readOne_17 rfl ?_
                refine zs_callV (M := mX13_isWord) (As := [.int (nI 28)]) (st := []) (Kc := [(mo, .inr (11, fMo e g w))]) (Kr := [((e 1), .inl (0, 740, .inl (nF bt))), ((e 86), .inl (0, 240, .inl nd))]) [0] [1, 2] 0 dX13_readOne_18 zl_RX13_264 kX13_isWord rfl rfl rfl rfl rfl (by decide) rfl rfl (show dd - 1 + 1 ≤ dd by omega) (Nat.zero_le _) (Nat.zero_le _) (Nat.le_of_ble_eq_true rfl) (s_mIsWord l (dd - 1) mo e g w n L t 28 (by omega) (by omega) hT hW hO) (fun r K1 hr => ?_)
                obtain ⟨rfl, rfl⟩ := hr
                refine zs_K (K' := [(mo, .inr (11, fMo e g w)), ((e 1), .inl (0, 740, .inl (nF bt))), ((e 86), .inl (0, 240, .inl nd))]) [2, 0, 1] rfl (by decide) ?_
                refine zs_if_ne (tgt := 30) dX13_readOne_21 (by decide) (fun c_74 => ?_) (fun c_74 => ?_)
                · have hwk : t.2.2.2.2 = some 28 := of_decide_eq_true (bI_t c_74)
                  have hk2 : t.1 = 2 := hO.2.2.2.2.2.2.2.2 _ hwk
                  have hnb : ¬ sBad t := fun h => by have h4 := h.2.2.2; rw [hwk] at h4; exact absurd h4 (by decide)
                  refine zs_iload_n dX13_readOne_30 rfl ?_
                  refine zs_if_ne (tgt := 46) dX13_readOne_31 (by decide) (fun c_75 => (by first | exact absurd c_75 (by decide) | exact absurd (by decide) c_75 : False).elim) (fun c_75 => ?_)
                  refine zs_iload_n dX13_readOne_34 rfl ?_
                  refine zs_bipush (v := nI 28) dX13_readOne_35 (by decide) ?_
                  refine zs_icmp_le (tgt := 46) dX13_readOne_37 (by decide) (fun c_76 => ?_) (fun c_76 => (by first | exact absurd c_76 (by decide) | exact absurd (by decide) c_76 : False).elim)
                  refine zs_aload_n dX13_readOne_46 rfl rfl ?_
                  refine zs_get 0 dX13_readOne_47 zf_RX13_518 rfl (v := .int (g 88)) rfl ?_
                  refine zs_as (y := nI S.1) h88 ?_
                  refine zs_bipush (v := nI 20) dX13_readOne_50 (by decide) ?_
                  refine zs_icmp_eq (tgt := 64) dX13_readOne_52 (by decide) (fun c_77 => ?_) (fun c_77 => ?_)
                  · have c_77 : S.1 = 20 := by have hc := c_77; rw [nI_eq' (by omega) (by omega)] at hc; exact hc
                    refine zs_aload_n dX13_readOne_64 rfl rfl ?_
                    refine zs_iconst (v := nI 4) dX13_readOne_65 (by decide) ?_
                    refine zs_callV (M := mX13_bad) (As := [.int (nI 4)]) (st := []) (Kc := [(mo, .inr (11, fMo e g w))]) (Kr := [((e 1), .inl (0, 740, .inl (nF bt))), ((e 86), .inl (0, 240, .inl nd))]) [0] [1, 2] 0 dX13_readOne_66 zl_RX13_216 kX13_bad rfl rfl rfl rfl rfl (by decide) rfl rfl (show dd - 1 + 1 ≤ dd by omega) (Nat.zero_le _) (Nat.zero_le _) (Nat.le_of_ble_eq_true rfl) (s_mBad l (dd - 1) mo e g w n L t 4 hT hW hO) (fun r K1 hr => ?_)
                    rw [mBad_e (by first | (intro; rfl) | (intro h; unfold mKd at h; split at h <;> omega))] at hr
                    obtain ⟨rfl, rfl⟩ := hr
                    refine zs_K (K' := [(mo, .inr (11, fMo e (mFa g 4 t) w)), ((e 1), .inl (0, 740, .inl (nF bt))), ((e 86), .inl (0, 240, .inl nd))]) [2, 0, 1] rfl (by decide) ?_
                    have e1 : (sOne bt n L (d + 1) t tk S).1 = 4 ∧ (sOne bt n L (d + 1) t tk S).2.1 = t := by rw [sOne_4 hnb (by omega)]; exact ⟨rfl, rfl⟩
                    exact zs_zret dX13_readOne_69 rfl (Or.inl rfl) (Or.inr ⟨by rw [e1.1]; exact (show ¬ (4 : Nat) = 0 by decide), rfl, mFa g 4 t, w, nd, mFr_fs mFr_r, by rw [e1.1]; rfl, by rw [e1.2]; rfl, rfl⟩)
                  · have c_77 : ¬ (S.1 = 20) := by have hc := c_77; rw [nI_eq' (by omega) (by omega)] at hc; exact hc
                    refine zs_aload_n dX13_readOne_55 rfl rfl ?_
                    refine zs_get 0 dX13_readOne_56 zf_RX13_521 rfl (v := .int (g 89)) rfl ?_
                    refine zs_as (y := nI (7 - d)) (h89.trans (congrArg nI (by omega))) ?_
                    refine zs_bipush (v := nI 8) dX13_readOne_59 (by decide) ?_
                    refine zs_icmp_ne (tgt := 70) dX13_readOne_61 (by decide) (fun c_78 => ?_) (fun c_78 => (by rw [nI_eq' (by omega) (by omega)] at c_78; omega : False).elim)
                    refine zs_aload_n dX13_readOne_70 rfl rfl ?_
                    refine zs_dup dX13_readOne_71 rfl ?_
                    refine zs_get 0 dX13_readOne_72 zf_RX13_518 rfl (v := .int (g 88)) rfl ?_
                    refine zs_as (y := nI S.1) h88 ?_
                    refine zs_iconst (v := nI 1) dX13_readOne_75 (by decide) ?_
                    refine zs_iadd dX13_readOne_76 ?_
                    refine zs_as (y := nI (S.1 + 1)) (nI_add _ _) ?_
                    refine zs_put 0 dX13_readOne_77 zf_RX13_518 rfl (Nat.le_of_ble_eq_true rfl) (zPv_i _) ?_
                    show zS _ _ _ _ _ _ [(mo, .inr (11, fMo e (upd g 88 (nI (S.1 + 1))) w)), ((e 1), .inl (0, 740, .inl (nF bt))), ((e 86), .inl (0, 240, .inl nd))]
                    refine zs_aload_n dX13_readOne_80 rfl rfl ?_
                    refine zs_dup dX13_readOne_81 rfl ?_
                    refine zs_get 0 dX13_readOne_82 zf_RX13_521 rfl (v := .int (g 89)) rfl ?_
                    refine zs_as (y := nI (7 - d)) (h89.trans (congrArg nI (by omega))) ?_
                    refine zs_iconst (v := nI 1) dX13_readOne_85 (by decide) ?_
                    refine zs_iadd dX13_readOne_86 ?_
                    refine zs_as (y := nI ((7 - d) + 1)) (nI_add _ _) ?_
                    refine zs_put 0 dX13_readOne_87 zf_RX13_521 rfl (Nat.le_of_ble_eq_true rfl) (zPv_i _) ?_
                    show zS _ _ _ _ _ _ [(mo, .inr (11, fMo e (upd (upd g 88 (nI (S.1 + 1))) 89 (nI ((7 - d) + 1))) w)), ((e 1), .inl (0, 740, .inl (nF bt))), ((e 86), .inl (0, 240, .inl nd))]
                    refine zs_aload_n dX13_readOne_90 rfl rfl ?_
                    have h0t : ¬ t.1 = 0 := by omega
                    refine zs_callV (M := mX13_go) (As := []) (st := []) (Kc := [(mo, .inr (11, fMo e (upd (upd g 88 (nI (S.1 + 1))) 89 (nI ((7 - d) + 1))) w)), ((e 1), .inl (0, 740, .inl (nF bt)))]) (Kr := [((e 86), .inl (0, 240, .inl nd))]) [0, 1] [2] 0 dX13_readOne_91 zl_RX13_226 kX13_go rfl rfl rfl rfl rfl (by decide) rfl rfl (show dd - 1 + 1 ≤ dd by omega) (Nat.zero_le _) (Nat.zero_le _) (Nat.le_of_ble_eq_true rfl) (s_mGoT l (dd - 1) mo e (upd (upd g 88 (nI (S.1 + 1))) 89 (nI ((7 - d) + 1))) w n L bt t (by omega) hn hL hbt (show (upd (upd g 88 (nI (S.1 + 1))) 89 (nI ((7 - d) + 1))) 3 = nI n from h3) (show (upd (upd g 88 (nI (S.1 + 1))) 89 (nI ((7 - d) + 1))) 4 = nI L from h4) (mTk_f hT rfl rfl rfl rfl rfl) hW h0t) (fun r K1 hr => ?_)
                    obtain ⟨rfl, g1, w1, hfr1, hT1, rfl⟩ := hr
                    refine zs_K (K' := [(mo, .inr (11, fMo e g1 w1)), ((e 1), .inl (0, 740, .inl (nF bt))), ((e 86), .inl (0, 240, .inl nd))]) [1, 2, 0] rfl (by decide) ?_
                    have fr1 : mFr [5, 6, 7, 8, 9, 13, 87, 88, 89, 90] g g1 := mFr_t ((mFr_u (mFr_u mFr_r (by decide)) (by decide)) : mFr [5, 6, 7, 8, 9, 13, 87, 88, 89, 90] g (upd (upd g 88 (nI (S.1 + 1))) 89 (nI ((7 - d) + 1)))) hfr1 (by decide) (by decide)
                    have hO_1 := nxt_OK (L := L) (τ := t) hbt hn
                    have h14_1 := hO_1.1
                    have hkd_1 := mKd_4 (n := n) (L := L) hO_1.1
                    refine zs_iconst (v := nI 1) dX13_readOne_94 (by decide) ?_
                    refine zs_istore_n (lv' := [(3, .int (nI 1)), (2, .int (nI 28)), (1, .int (nI 0)), (0, .ref mo)]) dX13_readOne_95 (Nat.le_of_ble_eq_true rfl) rfl ?_
                    refine zs_iload_n dX13_readOne_96 rfl ?_
                    refine zs_if_eq (tgt := 108) dX13_readOne_97 (by decide) (fun c_79 => ?_) (fun c_79 => (by first | exact absurd c_79 (by decide) | exact absurd (by decide) c_79 : False).elim)
                    refine zs_iload_n dX13_readOne_108 rfl ?_
                    refine zs_bipush (v := nI 22) dX13_readOne_109 (by decide) ?_
                    refine zs_icmp_ne (tgt := 122) dX13_readOne_111 (by decide) (fun c_80 => ?_) (fun c_80 => (by first | exact absurd c_80 (by decide) | exact absurd (by decide) c_80 : False).elim)
                    refine zs_iload_n dX13_readOne_122 rfl ?_
                    refine zs_bipush (v := nI 23) dX13_readOne_123 (by decide) ?_
                    refine zs_icmp_ne (tgt := 143) dX13_readOne_125 (by decide) (fun c_81 => ?_) (fun c_81 => (by first | exact absurd c_81 (by decide) | exact absurd (by decide) c_81 : False).elim)
                    refine zs_aload_n dX13_readOne_143 rfl rfl ?_
                    refine zs_iload_n dX13_readOne_144 rfl ?_
                    refine zs_callV (M := mX13_readCompare) (As := [.int (nI 28)]) (st := []) (Kc := [(mo, .inr (11, fMo e g1 w1)), ((e 1), .inl (0, 740, .inl (nF bt))), ((e 86), .inl (0, 240, .inl nd))]) (Kr := []) [0, 1, 2] [] 0 dX13_readOne_145 zl_RX13_530 kX13_readCompare rfl rfl rfl rfl rfl (by decide) rfl rfl (show dd - 1 + 1 ≤ dd by omega) (Nat.zero_le _) (Nat.zero_le _) (Nat.le_of_ble_eq_true rfl) (s_mReadCompare l (dd - 1) mo e n L bt 28 (nxt bt n L t) tk (sOn S) g1 w1 nd (by omega) hn hL hbt (by omega) ((hfr1 3 (by decide)).trans (show (upd (upd g 88 (nI (S.1 + 1))) 89 (nI ((7 - d) + 1))) 3 = nI n from h3)) ((hfr1 4 (by decide)).trans (show (upd (upd g 88 (nI (S.1 + 1))) 89 (nI ((7 - d) + 1))) 4 = nI L from h4)) hT1 (nxt_W (b := bt) (n := n) (L := L) (τ := t)) hO_1 htk ⟨by show S.1 + 1 ≤ 20; omega, by show S.2.1 ≤ 2 * (S.1 + 1); omega⟩ ((hfr1 87 (by decide)).trans (show (upd (upd g 88 (nI (S.1 + 1))) 89 (nI ((7 - d) + 1))) 87 = nI S.2.1 from h87)) ((hfr1 88 (by decide)).trans (show (upd (upd g 88 (nI (S.1 + 1))) 89 (nI ((7 - d) + 1))) 88 = nI (S.1 + 1) from rfl)) (show S.2.1 < 40 by omega)) (fun r K1 hr => ?_)
                    have hR2 := sCmp_G (L := L) (m := 28 - 23) (S := sOn S) (S0 := S) hbt hn hO_1 htk (show S.1 + 1 ≤ S.1 + 1 ∧ S.1 + 1 ≤ 20 ∧ S.2.1 + 2 * S.1 + 2 ≤ S.2.1 + 2 * (S.1 + 1) by omega)
                    generalize hG2 : sCmp bt n L (28 - 23) (nxt bt n L t) tk (sOn S) = G2 at hr hR2
                    rcases hr with ⟨hq2, rfl, g2, w2, nd2, hfr2, hT2, hW2, h87_2, h88_2, h90_2, hlt2, hal2, hsT2, rfl⟩ | ⟨hq2, rfl, g2, w2, nd2, hfr2, h10_2, h11_2, rfl⟩
                    · have fr2 : mFr [5, 6, 7, 8, 9, 13, 87, 88, 89, 90] g g2 := mFr_t (fr1 : mFr [5, 6, 7, 8, 9, 13, 87, 88, 89, 90] g g1) hfr2 (by decide) (by decide)
                      have hS5_2 := hR2.2.2.2.2 hq2
                      have hS4_2 := hR2.2.2.2.1
                      have h14_2 := hR2.1.1
                      have hkd_2 := mKd_4 (n := n) (L := L) hR2.1.1
                      refine zs_istore_n (lv' := [(3, .int (nI 1)), (2, .int (nI 28)), (1, .int (nI 0)), (0, .ref mo)]) dX13_readOne_148 (Nat.le_of_ble_eq_true rfl) rfl ?_
                      refine zs_aload_n dX13_readOne_149 rfl rfl ?_
                      refine zs_dup dX13_readOne_150 rfl ?_
                      refine zs_get 0 dX13_readOne_151 zf_RX13_521 rfl (v := .int (g2 89)) rfl ?_
                      refine zs_as (y := nI (8 - d)) ((hfr2 89 (by decide)).trans (((hfr1 89 (by decide)).trans (show (upd (upd g 88 (nI (S.1 + 1))) 89 (nI ((7 - d) + 1))) 89 = nI (7 - d + 1) from rfl)).trans (congrArg nI (show 7 - d + 1 = 8 - d by omega)))) ?_
                      refine zs_iconst (v := nI 1) dX13_readOne_154 (by decide) ?_
                      refine zs_isub dX13_readOne_155 ?_
                      refine zs_as (y := nI ((8 - d) - 1)) (nI_sub (by omega)) ?_
                      refine zs_put 0 dX13_readOne_156 zf_RX13_521 rfl (Nat.le_of_ble_eq_true rfl) (zPv_i _) ?_
                      show zS _ _ _ _ _ _ [(mo, .inr (11, fMo e (upd g2 89 (nI ((8 - d) - 1))) w2)), ((e 1), .inl (0, 740, .inl (nF bt))), ((e 86), .inl (0, 240, .inl nd2))]
                      refine zs_iload_n dX13_readOne_159 rfl ?_
                      have er : sOne bt n L (d + 1) t tk S = G2 := by rw [sOne_c hnb (show ¬ 20 ≤ S.1 by omega) (show ¬ tAt t 40 = true from by rw [hop]; decide) (by rw [hwk]; decide) (by rw [hwk]; decide), hwk, ← hG2]; rfl
                      exact zs_zret dX13_readOne_160 rfl (Or.inr rfl) (Or.inl ⟨by rw [er]; exact hq2, rfl, (upd g2 89 (nI ((8 - d) - 1))), w2, nd2, mFr_9 fr2 (by rw [h89]; exact congrArg nI (by omega)), by rw [er]; exact mTk_f hT2 rfl rfl rfl rfl rfl, by rw [er]; exact hW2, by rw [er]; exact h87_2, by rw [er]; exact h88_2, by rw [er]; exact h90_2, by rw [er]; exact hlt2, by rw [er]; exact hal2, by rw [er]; exact hsT2, rfl⟩)
                    · skip
                      refine zs_istore_n (lv' := [(3, .int (nI 0)), (2, .int (nI 28)), (1, .int (nI 0)), (0, .ref mo)]) dX13_readOne_148 (Nat.le_of_ble_eq_true rfl) rfl ?_
                      refine zs_aload_n dX13_readOne_149 rfl rfl ?_
                      refine zs_dup dX13_readOne_150 rfl ?_
                      refine zs_get 0 dX13_readOne_151 zf_RX13_521 rfl (v := .int (g2 89)) rfl ?_
                      refine zs_as (y := nI (8 - d)) ((hfr2 89 (by decide)).trans (((hfr1 89 (by decide)).trans (show (upd (upd g 88 (nI (S.1 + 1))) 89 (nI ((7 - d) + 1))) 89 = nI (7 - d + 1) from rfl)).trans (congrArg nI (show 7 - d + 1 = 8 - d by omega)))) ?_
                      refine zs_iconst (v := nI 1) dX13_readOne_154 (by decide) ?_
                      refine zs_isub dX13_readOne_155 ?_
                      refine zs_as (y := nI ((8 - d) - 1)) (nI_sub (by omega)) ?_
                      refine zs_put 0 dX13_readOne_156 zf_RX13_521 rfl (Nat.le_of_ble_eq_true rfl) (zPv_i _) ?_
                      show zS _ _ _ _ _ _ [(mo, .inr (11, fMo e (upd g2 89 (nI ((8 - d) - 1))) w2)), ((e 1), .inl (0, 740, .inl (nF bt))), ((e 86), .inl (0, 240, .inl nd2))]
                      refine zs_iload_n dX13_readOne_159 rfl ?_
                      have er : sOne bt n L (d + 1) t tk S = G2 := by rw [sOne_c hnb (show ¬ 20 ≤ S.1 by omega) (show ¬ tAt t 40 = true from by rw [hop]; decide) (by rw [hwk]; decide) (by rw [hwk]; decide), hwk, ← hG2]; rfl
                      exact zs_zret dX13_readOne_160 rfl (Or.inl rfl) (Or.inr ⟨by rw [er]; exact hq2, rfl, (upd g2 89 (nI ((8 - d) - 1))), w2, nd2, mFr_9b (mFr_t (fr1 : mFr [5, 6, 7, 8, 9, 13, 87, 88, 89, 90] g g1) hfr2 (by decide) (by decide) : mFr [5, 6, 7, 8, 9, 10, 11, 13, 87, 88, 89, 90] g g2) (by rw [h89]; exact congrArg nI (by omega)), by rw [er]; exact h10_2, by rw [er]; exact h11_2, rfl⟩)
                · have hx28 : ¬ t.2.2.2.2 = some 28 := of_decide_eq_false (bI_f c_74)
                  refine zs_iinc (v := (nI 29)) (lv' := [(2, .int (nI 29)), (1, .int (nI 0)), (0, .ref mo)]) dX13_readOne_24 rfl (nI_add _ 1) (Nat.le_of_ble_eq_true rfl) rfl ?_
                  refine zs_goto (tgt := 10) dX13_readOne_27 (by decide) ?_
                  refine zs_iload_n dX13_readOne_10 rfl ?_
                  refine zs_bipush (v := nI 28) dX13_readOne_11 (by decide) ?_
                  refine zs_icmp_gt (tgt := 30) dX13_readOne_13 (by decide) (fun c_82 => ?_) (fun c_82 => (by first | exact absurd c_82 (by decide) | exact absurd (by decide) c_82 : False).elim)
                  refine zs_iload_n dX13_readOne_30 rfl ?_
                  refine zs_if_ne (tgt := 46) dX13_readOne_31 (by decide) (fun c_83 => (by first | exact absurd c_83 (by decide) | exact absurd (by decide) c_83 : False).elim) (fun c_83 => ?_)
                  refine zs_iload_n dX13_readOne_34 rfl ?_
                  refine zs_bipush (v := nI 28) dX13_readOne_35 (by decide) ?_
                  refine zs_icmp_le (tgt := 46) dX13_readOne_37 (by decide) (fun c_84 => (by first | exact absurd c_84 (by decide) | exact absurd (by decide) c_84 : False).elim) (fun c_84 => ?_)
                  have hbd : sBad t := ⟨hop, hx22, hx23, mOf_0 hx24 hx25 hx26 hx27 hx28⟩
                  refine zs_aload_n dX13_readOne_40 rfl rfl ?_
                  refine zs_iconst (v := nI 1) dX13_readOne_41 (by decide) ?_
                  refine zs_callV (M := mX13_bad) (As := [.int (nI 1)]) (st := []) (Kc := [(mo, .inr (11, fMo e g w))]) (Kr := [((e 1), .inl (0, 740, .inl (nF bt))), ((e 86), .inl (0, 240, .inl nd))]) [0] [1, 2] 0 dX13_readOne_42 zl_RX13_216 kX13_bad rfl rfl rfl rfl rfl (by decide) rfl rfl (show dd - 1 + 1 ≤ dd by omega) (Nat.zero_le _) (Nat.zero_le _) (Nat.le_of_ble_eq_true rfl) (s_mBad l (dd - 1) mo e g w n L t 1 hT hW hO) (fun r K1 hr => ?_)
                  rw [mBad_e (by first | (intro; rfl) | (intro h; unfold mKd at h; split at h <;> omega))] at hr
                  obtain ⟨rfl, rfl⟩ := hr
                  refine zs_K (K' := [(mo, .inr (11, fMo e (mFa g 1 t) w)), ((e 1), .inl (0, 740, .inl (nF bt))), ((e 86), .inl (0, 240, .inl nd))]) [2, 0, 1] rfl (by decide) ?_
                  have e1 : (sOne bt n L (d + 1) t tk S).1 = 1 ∧ (sOne bt n L (d + 1) t tk S).2.1 = t := by rw [sOne_bad hbd]; exact ⟨rfl, rfl⟩
                  exact zs_zret dX13_readOne_45 rfl (Or.inl rfl) (Or.inr ⟨by rw [e1.1]; exact (show ¬ (1 : Nat) = 0 by decide), rfl, mFa g 1 t, w, nd, mFr_fs mFr_r, by rw [e1.1]; rfl, by rw [e1.2]; rfl, rfl⟩)
