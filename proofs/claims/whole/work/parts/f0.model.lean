/-! ===== the reference: givesUp, give, enough ===== -/
theorem dX13_givesUp_0 : decode cX13_givesUp 0 = .ok (.iconst 0, 1) := by decide +kernel
theorem dX13_givesUp_1 : decode cX13_givesUp 1 = .ok (.istore_n 2, 1) := by decide +kernel
theorem dX13_givesUp_2 : decode cX13_givesUp 2 = .ok (.iconst 0, 1) := by decide +kernel
theorem dX13_givesUp_3 : decode cX13_givesUp 3 = .ok (.istore_n 3, 1) := by decide +kernel
theorem dX13_givesUp_4 : decode cX13_givesUp 4 = .ok (.iload_n 3, 1) := by decide +kernel
theorem dX13_givesUp_5 : decode cX13_givesUp 5 = .ok (.aload_n 0, 1) := by decide +kernel
theorem dX13_givesUp_6 : decode cX13_givesUp 6 = .ok (.getfield 13, 3) := by decide +kernel
theorem dX13_givesUp_9 : decode cX13_givesUp 9 = .ok (.bipush 10, 2) := by decide +kernel
theorem dX13_givesUp_11 : decode cX13_givesUp 11 = .ok (.iaload, 1) := by decide +kernel
theorem dX13_givesUp_12 : decode cX13_givesUp 12 = .ok (.if_icmp .ge 45, 3) := by decide +kernel
theorem dX13_givesUp_15 : decode cX13_givesUp 15 = .ok (.aload_n 0, 1) := by decide +kernel
theorem dX13_givesUp_16 : decode cX13_givesUp 16 = .ok (.invokevirtual 298, 3) := by decide +kernel
theorem dX13_givesUp_19 : decode cX13_givesUp 19 = .ok (.iload_n 3, 1) := by decide +kernel
theorem dX13_givesUp_20 : decode cX13_givesUp 20 = .ok (.imul, 1) := by decide +kernel
theorem dX13_givesUp_21 : decode cX13_givesUp 21 = .ok (.iload_n 1, 1) := by decide +kernel
theorem dX13_givesUp_22 : decode cX13_givesUp 22 = .ok (.iadd, 1) := by decide +kernel
theorem dX13_givesUp_23 : decode cX13_givesUp 23 = .ok (.istore 4, 2) := by decide +kernel
theorem dX13_givesUp_25 : decode cX13_givesUp 25 = .ok (.iload_n 2, 1) := by decide +kernel
theorem dX13_givesUp_26 : decode cX13_givesUp 26 = .ok (.aload_n 0, 1) := by decide +kernel
theorem dX13_givesUp_27 : decode cX13_givesUp 27 = .ok (.getfield 105, 3) := by decide +kernel
theorem dX13_givesUp_30 : decode cX13_givesUp 30 = .ok (.iload 4, 2) := by decide +kernel
theorem dX13_givesUp_32 : decode cX13_givesUp 32 = .ok (.iaload, 1) := by decide +kernel
theorem dX13_givesUp_33 : decode cX13_givesUp 33 = .ok (.iadd, 1) := by decide +kernel
theorem dX13_givesUp_34 : decode cX13_givesUp 34 = .ok (.istore_n 2, 1) := by decide +kernel
theorem dX13_givesUp_35 : decode cX13_givesUp 35 = .ok (.aload_n 0, 1) := by decide +kernel
theorem dX13_givesUp_36 : decode cX13_givesUp 36 = .ok (.getfield 105, 3) := by decide +kernel
theorem dX13_givesUp_39 : decode cX13_givesUp 39 = .ok (.iload 4, 2) := by decide +kernel
theorem dX13_givesUp_41 : decode cX13_givesUp 41 = .ok (.iconst 0, 1) := by decide +kernel
theorem dX13_givesUp_42 : decode cX13_givesUp 42 = .ok (.iastore, 1) := by decide +kernel
theorem dX13_givesUp_43 : decode cX13_givesUp 43 = .ok (.aload_n 0, 1) := by decide +kernel
theorem dX13_givesUp_44 : decode cX13_givesUp 44 = .ok (.getfield 108, 3) := by decide +kernel
theorem dX13_givesUp_47 : decode cX13_givesUp 47 = .ok (.iload 4, 2) := by decide +kernel
theorem dX13_givesUp_49 : decode cX13_givesUp 49 = .ok (.iconst 0, 1) := by decide +kernel
theorem dX13_givesUp_50 : decode cX13_givesUp 50 = .ok (.iastore, 1) := by decide +kernel
theorem dX13_givesUp_51 : decode cX13_givesUp 51 = .ok (.iinc 3 1, 3) := by decide +kernel
theorem dX13_givesUp_54 : decode cX13_givesUp 54 = .ok (.goto (-50), 3) := by decide +kernel
theorem dX13_givesUp_57 : decode cX13_givesUp 57 = .ok (.iload_n 2, 1) := by decide +kernel
theorem dX13_givesUp_58 : decode cX13_givesUp 58 = .ok (.ireturn, 1) := by decide +kernel
theorem dX13_give_0 : decode cX13_give 0 = .ok (.aload_n 0, 1) := by decide +kernel
theorem dX13_give_1 : decode cX13_give 1 = .ok (.iconst 0, 1) := by decide +kernel
theorem dX13_give_2 : decode cX13_give 2 = .ok (.putfield 148, 3) := by decide +kernel
theorem dX13_give_5 : decode cX13_give 5 = .ok (.aload_n 0, 1) := by decide +kernel
theorem dX13_give_6 : decode cX13_give 6 = .ok (.invokevirtual 232, 3) := by decide +kernel
theorem dX13_give_9 : decode cX13_give 9 = .ok (.iload_n 1, 1) := by decide +kernel
theorem dX13_give_10 : decode cX13_give 10 = .ok (.iconst 0, 1) := by decide +kernel
theorem dX13_give_11 : decode cX13_give 11 = .ok (.sipush 999, 3) := by decide +kernel
theorem dX13_give_14 : decode cX13_give 14 = .ok (.invokestatic 219, 3) := by decide +kernel
theorem dX13_give_17 : decode cX13_give 17 = .ok (.ifCond .ne 5, 3) := by decide +kernel
theorem dX13_give_20 : decode cX13_give 20 = .ok (.iconst (-1), 1) := by decide +kernel
theorem dX13_give_21 : decode cX13_give 21 = .ok (.ireturn, 1) := by decide +kernel
theorem dX13_give_22 : decode cX13_give 22 = .ok (.aload_n 0, 1) := by decide +kernel
theorem dX13_give_23 : decode cX13_give 23 = .ok (.invokevirtual 451, 3) := by decide +kernel
theorem dX13_give_26 : decode cX13_give 26 = .ok (.aload_n 0, 1) := by decide +kernel
theorem dX13_give_27 : decode cX13_give 27 = .ok (.bipush 30, 2) := by decide +kernel
theorem dX13_give_29 : decode cX13_give 29 = .ok (.iload_n 1, 1) := by decide +kernel
theorem dX13_give_30 : decode cX13_give 30 = .ok (.iconst 1, 1) := by decide +kernel
theorem dX13_give_31 : decode cX13_give 31 = .ok (.iconst 0, 1) := by decide +kernel
theorem dX13_give_32 : decode cX13_give 32 = .ok (.invokevirtual 454, 3) := by decide +kernel
theorem dX13_give_35 : decode cX13_give 35 = .ok (.aload_n 0, 1) := by decide +kernel
theorem dX13_give_36 : decode cX13_give 36 = .ok (.getfield 423, 3) := by decide +kernel
theorem dX13_give_39 : decode cX13_give 39 = .ok (.istore_n 2, 1) := by decide +kernel
theorem dX13_give_40 : decode cX13_give 40 = .ok (.iconst (-1), 1) := by decide +kernel
theorem dX13_give_41 : decode cX13_give 41 = .ok (.istore_n 3, 1) := by decide +kernel
theorem dX13_give_42 : decode cX13_give 42 = .ok (.iconst 0, 1) := by decide +kernel
theorem dX13_give_43 : decode cX13_give 43 = .ok (.istore 4, 2) := by decide +kernel
theorem dX13_give_45 : decode cX13_give 45 = .ok (.iload 4, 2) := by decide +kernel
theorem dX13_give_47 : decode cX13_give 47 = .ok (.aload_n 0, 1) := by decide +kernel
theorem dX13_give_48 : decode cX13_give 48 = .ok (.invokevirtual 298, 3) := by decide +kernel
theorem dX13_give_51 : decode cX13_give 51 = .ok (.if_icmp .ge 55, 3) := by decide +kernel
theorem dX13_give_54 : decode cX13_give 54 = .ok (.aload_n 0, 1) := by decide +kernel
theorem dX13_give_55 : decode cX13_give 55 = .ok (.invokevirtual 451, 3) := by decide +kernel
theorem dX13_give_58 : decode cX13_give 58 = .ok (.aload_n 0, 1) := by decide +kernel
theorem dX13_give_59 : decode cX13_give 59 = .ok (.iload 4, 2) := by decide +kernel
theorem dX13_give_61 : decode cX13_give 61 = .ok (.invokevirtual 485, 3) := by decide +kernel
theorem dX13_give_64 : decode cX13_give 64 = .ok (.istore 5, 2) := by decide +kernel
theorem dX13_give_66 : decode cX13_give 66 = .ok (.aload_n 0, 1) := by decide +kernel
theorem dX13_give_67 : decode cX13_give 67 = .ok (.bipush 30, 2) := by decide +kernel
theorem dX13_give_69 : decode cX13_give 69 = .ok (.iload_n 1, 1) := by decide +kernel
theorem dX13_give_70 : decode cX13_give 70 = .ok (.iconst 1, 1) := by decide +kernel
theorem dX13_give_71 : decode cX13_give 71 = .ok (.iconst 0, 1) := by decide +kernel
theorem dX13_give_72 : decode cX13_give 72 = .ok (.invokevirtual 454, 3) := by decide +kernel
theorem dX13_give_75 : decode cX13_give 75 = .ok (.aload_n 0, 1) := by decide +kernel
theorem dX13_give_76 : decode cX13_give 76 = .ok (.getfield 423, 3) := by decide +kernel
theorem dX13_give_79 : decode cX13_give 79 = .ok (.iload 5, 2) := by decide +kernel
theorem dX13_give_81 : decode cX13_give 81 = .ok (.iadd, 1) := by decide +kernel
theorem dX13_give_82 : decode cX13_give 82 = .ok (.iload_n 2, 1) := by decide +kernel
theorem dX13_give_83 : decode cX13_give 83 = .ok (.if_icmp .lt 6, 3) := by decide +kernel
theorem dX13_give_86 : decode cX13_give 86 = .ok (.goto 14, 3) := by decide +kernel
theorem dX13_give_89 : decode cX13_give 89 = .ok (.aload_n 0, 1) := by decide +kernel
theorem dX13_give_90 : decode cX13_give 90 = .ok (.getfield 423, 3) := by decide +kernel
theorem dX13_give_93 : decode cX13_give 93 = .ok (.iload 5, 2) := by decide +kernel
theorem dX13_give_95 : decode cX13_give 95 = .ok (.iadd, 1) := by decide +kernel
theorem dX13_give_96 : decode cX13_give 96 = .ok (.istore_n 2, 1) := by decide +kernel
theorem dX13_give_97 : decode cX13_give 97 = .ok (.iload 4, 2) := by decide +kernel
theorem dX13_give_99 : decode cX13_give 99 = .ok (.istore_n 3, 1) := by decide +kernel
theorem dX13_give_100 : decode cX13_give 100 = .ok (.iinc 4 1, 3) := by decide +kernel
theorem dX13_give_103 : decode cX13_give 103 = .ok (.goto (-58), 3) := by decide +kernel
theorem dX13_give_106 : decode cX13_give 106 = .ok (.iload_n 3, 1) := by decide +kernel
theorem dX13_give_107 : decode cX13_give 107 = .ok (.ireturn, 1) := by decide +kernel
theorem dX13_enough_0 : decode cX13_enough 0 = .ok (.aload_n 0, 1) := by decide +kernel
theorem dX13_enough_1 : decode cX13_enough 1 = .ok (.iconst 0, 1) := by decide +kernel
theorem dX13_enough_2 : decode cX13_enough 2 = .ok (.putfield 148, 3) := by decide +kernel
theorem dX13_enough_5 : decode cX13_enough 5 = .ok (.aload_n 0, 1) := by decide +kernel
theorem dX13_enough_6 : decode cX13_enough 6 = .ok (.invokevirtual 232, 3) := by decide +kernel
theorem dX13_enough_9 : decode cX13_enough 9 = .ok (.aload_n 0, 1) := by decide +kernel
theorem dX13_enough_10 : decode cX13_enough 10 = .ok (.iload_n 1, 1) := by decide +kernel
theorem dX13_enough_11 : decode cX13_enough 11 = .ok (.invokevirtual 448, 3) := by decide +kernel
theorem dX13_enough_14 : decode cX13_enough 14 = .ok (.ifCond .eq 13, 3) := by decide +kernel
theorem dX13_enough_17 : decode cX13_enough 17 = .ok (.iload_n 2, 1) := by decide +kernel
theorem dX13_enough_18 : decode cX13_enough 18 = .ok (.iconst 1, 1) := by decide +kernel
theorem dX13_enough_19 : decode cX13_enough 19 = .ok (.bipush 60, 2) := by decide +kernel
theorem dX13_enough_21 : decode cX13_enough 21 = .ok (.invokestatic 219, 3) := by decide +kernel
theorem dX13_enough_24 : decode cX13_enough 24 = .ok (.ifCond .ne 6, 3) := by decide +kernel
theorem dX13_enough_27 : decode cX13_enough 27 = .ok (.bipush (-2), 2) := by decide +kernel
theorem dX13_enough_29 : decode cX13_enough 29 = .ok (.ireturn, 1) := by decide +kernel
theorem dX13_enough_30 : decode cX13_enough 30 = .ok (.iconst 0, 1) := by decide +kernel
theorem dX13_enough_31 : decode cX13_enough 31 = .ok (.istore_n 3, 1) := by decide +kernel
theorem dX13_enough_32 : decode cX13_enough 32 = .ok (.iload_n 3, 1) := by decide +kernel
theorem dX13_enough_33 : decode cX13_enough 33 = .ok (.sipush 200, 3) := by decide +kernel
theorem dX13_enough_36 : decode cX13_enough 36 = .ok (.if_icmp .gt 31, 3) := by decide +kernel
theorem dX13_enough_39 : decode cX13_enough 39 = .ok (.aload_n 0, 1) := by decide +kernel
theorem dX13_enough_40 : decode cX13_enough 40 = .ok (.invokevirtual 451, 3) := by decide +kernel
theorem dX13_enough_43 : decode cX13_enough 43 = .ok (.aload_n 0, 1) := by decide +kernel
theorem dX13_enough_44 : decode cX13_enough 44 = .ok (.iload_n 2, 1) := by decide +kernel
theorem dX13_enough_45 : decode cX13_enough 45 = .ok (.iload_n 3, 1) := by decide +kernel
theorem dX13_enough_46 : decode cX13_enough 46 = .ok (.iload_n 1, 1) := by decide +kernel
theorem dX13_enough_47 : decode cX13_enough 47 = .ok (.iconst 0, 1) := by decide +kernel
theorem dX13_enough_48 : decode cX13_enough 48 = .ok (.invokevirtual 454, 3) := by decide +kernel
theorem dX13_enough_51 : decode cX13_enough 51 = .ok (.aload_n 0, 1) := by decide +kernel
theorem dX13_enough_52 : decode cX13_enough 52 = .ok (.getfield 439, 3) := by decide +kernel
theorem dX13_enough_55 : decode cX13_enough 55 = .ok (.iconst (-1), 1) := by decide +kernel
theorem dX13_enough_56 : decode cX13_enough 56 = .ok (.if_icmp .eq 5, 3) := by decide +kernel
theorem dX13_enough_59 : decode cX13_enough 59 = .ok (.iload_n 3, 1) := by decide +kernel
theorem dX13_enough_60 : decode cX13_enough 60 = .ok (.ireturn, 1) := by decide +kernel
theorem dX13_enough_61 : decode cX13_enough 61 = .ok (.iinc 3 1, 3) := by decide +kernel
theorem dX13_enough_64 : decode cX13_enough 64 = .ok (.goto (-32), 3) := by decide +kernel
theorem dX13_enough_67 : decode cX13_enough 67 = .ok (.iconst (-1), 1) := by decide +kernel
theorem dX13_enough_68 : decode cX13_enough 68 = .ok (.ireturn, 1) := by decide +kernel
section
variable {C R x : Nat} {f b f' b' : Nat → Int32}
theorem gF_c : ∀ (y j : Nat), (gF C x f y j = 0 ∧ gF C x b y j = 0) ∨ (gF C x f y j = f j ∧ gF C x b y j = b j)
  | 0, _ => Or.inr ⟨rfl, rfl⟩
  | y + 1, j => by
    by_cases h : j = y * C + x
    · exact Or.inl ⟨if_pos h, if_pos h⟩
    · rcases gF_c y j with ⟨h1, h2⟩ | ⟨h1, h2⟩
      · exact Or.inl ⟨(if_neg h).trans h1, (if_neg h).trans h2⟩
      · exact Or.inr ⟨(if_neg h).trans h1, (if_neg h).trans h2⟩
theorem gF_agm (h : zAg (C * R) f f') : ∀ y, zAg (C * R) (gF C x f y) (gF C x f' y)
  | 0 => h
  | y + 1 => upd_ag (gF_agm h y) _ (fun _ => rfl)
theorem gT_agm (h : zAg (C * R) f f') (hx : x < C) : ∀ y, y ≤ R → gT C x f y = gT C x f' y
  | 0, _ => rfl
  | y + 1, hy => by rw [gT, gT, gT_agm h hx y (by omega), gF_agm h y _ (yx_l hx (by omega))]
theorem gF_K {V : Nat} {s : zFs} (h : fK (C * R) V s) (y : Nat) : fK (C * R) V (gF C x s.1 y, s.2.1, gF C x s.2.2 y) := ⟨fun k hk => by
  obtain ⟨h1, q, h2, h3, h4⟩ := h.1 k hk
  show (gF C x s.2.2 y k = 0 ∨ gF C x s.2.2 y k = 1) ∧ ∃ q, q ≤ 9 ∧ gF C x s.1 y k = nI q ∧ (gF C x s.2.2 y k = 1 → 1 ≤ q)
  rcases gF_c (C := C) (x := x) (f := s.1) (b := s.2.2) y k with ⟨e1, e2⟩ | ⟨e1, e2⟩
  · rw [e1, e2]; exact ⟨Or.inl rfl, 0, by omega, rfl, fun z => absurd z (by decide)⟩
  · rw [e1, e2]; exact ⟨h1, q, h2, h3, h4⟩, h.2⟩
end
section
variable {C R V u late : Nat} {wi a : Int32} {s : zFs} {c : Int32}
theorem mBn_0 (h : fK (C * R) V s) (hn : C * R ≤ 64) (hV : V + u < 2147483648) (hc : aC (C * R) c) (hz : pCnt s.2.2 (C * R) = 0) : mBn C R wi s c (nI u) = 0 := by
  have hb := pCnt_0 (by omega) hz
  have hB : ∀ j, j < C * R → mB C R s c (nI u) j = 0 := fun j hj => (pBu_c hn hc j).elim (fun e => e.trans (hb j hj)) id
  unfold mBn
  refine pCnt_00 (fun j hj => ?_)
  unfold mN nBu
  rw [if_pos (hB j hj), pH0_z hB hj]
  by_cases q : s.1 j ≤ 0
  · rw [if_pos q]
  · rw [if_neg q]
    obtain ⟨x, hx, hw⟩ := pWe_b (u := u) h.2 hn hc j hj
    rw [if_pos (by rw [show mW C R s c (nI u) j = nI x from hw]; exact w5 (by omega))]
theorem fO_out (h : fK (C * R) V s) (hn : C * R ≤ 64) (ha : aO C R a) : ∀ i, V + u * i < 2147483648 → i < 1000 → (fO C R wi a (nI u) late s z0 (if pCnt s.2.2 (C * R) = 0 then 0 else -1) i = -1 ↔ ¬ pCnt (fS C R wi a (nI u) late s z0 i).1.2.2 (C * R) = 0)
  | 0, _, _ => by
    show (if pCnt s.2.2 (C * R) = 0 then 0 else -1) = -1 ↔ ¬ pCnt s.2.2 (C * R) = 0
    by_cases q : pCnt s.2.2 (C * R) = 0
    · rw [if_pos q]; exact ⟨fun z => absurd z (by decide), fun z => absurd q z⟩
    · rw [if_neg q]; exact ⟨fun _ => q, fun _ => rfl⟩
  | i + 1, hV, hi => by
    have hV2 : V + u * i + u < 2147483648 := by rw [Nat.mul_succ] at hV; omega
    have ih := fO_out h hn ha i (by omega) (by omega)
    have hc : aC (C * R) (fC C R wi a (nI u) late s z0 i) := by rw [fC_e]; exact pAim_c ha.1 ha.2
    have hk := fS_K (u := u) (wi := wi) (late := late) (se0 := z0) hn ha h i
    have e : pCnt (fS C R wi a (nI u) late s z0 (i + 1)).1.2.2 (C * R) = mBn C R wi (fS C R wi a (nI u) late s z0 i).1 (fC C R wi a (nI u) late s z0 i) (nI u) := by rw [fS_n]; exact mBn_e _ _ _
    rw [e]
    by_cases q : mBn C R wi (fS C R wi a (nI u) late s z0 i).1 (fC C R wi a (nI u) late s z0 i) (nI u) = 0
    · by_cases q2 : fO C R wi a (nI u) late s z0 (if pCnt s.2.2 (C * R) = 0 then 0 else -1) i = -1
      · rw [← fO_y q q2]
        exact ⟨fun z => absurd z (nI_ne1 (by omega)), fun z => absurd q z⟩
      · rw [← fO_k q2]
        exact ⟨fun z => absurd z q2, fun z => absurd q z⟩
    · rw [← fO_n q]
      refine ⟨fun _ => q, fun _ => ih.mpr (fun z => q (mBn_0 hk hn hV2 hc z))⟩
theorem fB_e : ∀ i, fB C R wi a (nI u) late s z0 (pCnt s.2.2 (C * R)) i = pCnt (fS C R wi a (nI u) late s z0 i).1.2.2 (C * R)
  | 0 => rfl
  | i + 1 => by rw [fS_n]; exact (mBn_e _ _ _).symm
end
theorem aO_1 {C R : Nat} : aO C R (nI 1) := ⟨Or.inr (Or.inl rfl), fun q => absurd q (by decide)⟩
set_option maxRecDepth 100000 in
theorem lp_mgu {l : Launch} {dd : Nat} {Po : zPo} {K0 : zK} {h0 : List va_E} {Xo : zK → Prop} {Gc : zG → Prop} (mo : Nat) (e : Nat → Nat) (g : Nat → Int32) (w : Int64) (nw : Nat → Int32) (D : zYd) (fu bu : Nat → Int32) (x : Nat) (hd : 1 ≤ dd) (hR : yR D nw) (hC : D.1 14 ≤ 8) (hRo : D.1 15 ≤ 8) (hx : x < D.1 14)
    (hk : zS (l, mX13_givesUp, dd, Po, K0, h0, Xo, Gc) 0 0 57 [(2, .int (gT (D.1 14) x fu (D.1 15)))] [] [(mo, .inr (11, fMo e g w)), ((e 14), .inl (0, 800, .inl nw)), ((e 64), .inl (0, 64, .inl (gF (D.1 14) x fu (D.1 15)))), ((e 65), .inl (0, 64, .inl (gF (D.1 14) x bu (D.1 15))))]) :
    ∀ (m i : Nat) , i + m = D.1 15 → zS (l, mX13_givesUp, dd, Po, K0, h0, Xo, Gc) 0 0 4 [(0, .ref mo), (1, .int (nI x)), (2, .int (gT (D.1 14) x fu i)), (3, .int (nI i))] [] [(mo, .inr (11, fMo e g w)), ((e 14), .inl (0, 800, .inl nw)), ((e 64), .inl (0, 64, .inl (gF (D.1 14) x fu i))), ((e 65), .inl (0, 64, .inl (gF (D.1 14) x bu i)))] := by
  intro m
  induction m with
  | zero =>
    intro i hi
    have h64 : D.1 14 * D.1 15 ≤ 64 := Nat.mul_le_mul hC hRo
    refine zs_iload_n dX13_givesUp_4 rfl ?_
    refine zs_aload_n dX13_givesUp_5 rfl rfl ?_
    refine zs_get 0 dX13_givesUp_6 zf_RX13_13 rfl (v := .ref (e 14)) rfl ?_
    refine zs_bipush (v := nI 10) dX13_givesUp_9 (by decide) ?_
    refine zs_iald 1 dX13_givesUp_11 rfl (vp_in_nI (by omega) (by omega)) ?_
    refine zs_as (y := nI (D.1 15)) (by rw [nI_c (n := 10) (by omega)]; exact hR.2.2.2.2.2.2.2.2.2.2.1) ?_
    refine zs_icmp_ge (tgt := 57) dX13_givesUp_12 (by decide) (fun c_1 => ?_) (fun c_1 => (c_1 (by rw [show i = D.1 15 by omega]; exact Int32.le_refl _) : False).elim)
    rw [show i = D.1 15 by omega]
    refine zs_lv [2] rfl ?_
    exact hk
  | succ m ih =>
    intro i hi
    have h64 : D.1 14 * D.1 15 ≤ 64 := Nat.mul_le_mul hC hRo
    have hlt := yx_l hx (show i < D.1 15 by omega)
    refine zs_iload_n dX13_givesUp_4 rfl ?_
    refine zs_aload_n dX13_givesUp_5 rfl rfl ?_
    refine zs_get 0 dX13_givesUp_6 zf_RX13_13 rfl (v := .ref (e 14)) rfl ?_
    refine zs_bipush (v := nI 10) dX13_givesUp_9 (by decide) ?_
    refine zs_iald 1 dX13_givesUp_11 rfl (vp_in_nI (by omega) (by omega)) ?_
    refine zs_as (y := nI (D.1 15)) (by rw [nI_c (n := 10) (by omega)]; exact hR.2.2.2.2.2.2.2.2.2.2.1) ?_
    refine zs_icmp_ge (tgt := 57) dX13_givesUp_12 (by decide) (fun c_1 => (nI_ge (show i < D.1 15 by omega) (by omega) c_1 : False).elim) (fun c_1 => ?_)
    refine zs_aload_n dX13_givesUp_15 rfl rfl ?_
    refine zs_callV (M := mX13_columns) (As := []) (st := []) (Kc := [(mo, .inr (11, fMo e g w)), ((e 14), .inl (0, 800, .inl nw))]) (Kr := [((e 64), .inl (0, 64, .inl (gF (D.1 14) x fu i))), ((e 65), .inl (0, 64, .inl (gF (D.1 14) x bu i)))]) [0, 1] [2, 3] 0 dX13_givesUp_16 zl_RX13_298 kX13_columns rfl rfl rfl rfl rfl (by decide) rfl rfl (show dd - 1 + 1 ≤ dd by omega) (Nat.zero_le _) (Nat.zero_le _) (Nat.le_of_ble_eq_true rfl) (s_mCols l (dd - 1) mo e g w nw D hR) (fun r K1 hr => ?_)
    obtain ⟨rfl, rfl⟩ := hr
    refine zs_K (K' := [(mo, .inr (11, fMo e g w)), ((e 14), .inl (0, 800, .inl nw)), ((e 64), .inl (0, 64, .inl (gF (D.1 14) x fu i))), ((e 65), .inl (0, 64, .inl (gF (D.1 14) x bu i)))]) [2, 3, 0, 1] rfl (by decide) ?_
    refine zs_iload_n dX13_givesUp_19 rfl ?_
    refine zs_imul dX13_givesUp_20 ?_
    refine zs_as (y := nI ((D.1 14) * i)) (nI_mul _ _) ?_
    refine zs_iload_n dX13_givesUp_21 rfl ?_
    refine zs_iadd dX13_givesUp_22 ?_
    refine zs_as (y := nI (i * D.1 14 + x)) (by rw [nI_add, Nat.mul_comm]) ?_
    refine zs_istore (lv' := [(4, .int (nI (i * D.1 14 + x))), (0, .ref mo), (1, .int (nI x)), (2, .int (gT (D.1 14) x fu i)), (3, .int (nI i))]) dX13_givesUp_23 (Nat.le_of_ble_eq_true rfl) rfl ?_
    refine zs_iload_n dX13_givesUp_25 rfl ?_
    refine zs_aload_n dX13_givesUp_26 rfl rfl ?_
    refine zs_get 0 dX13_givesUp_27 zf_RX13_105 rfl (v := .ref (e 64)) rfl ?_
    refine zs_iload dX13_givesUp_30 rfl ?_
    refine zs_iald 2 dX13_givesUp_32 rfl (vp_in_nI (by omega) (by omega)) ?_
    refine zs_as (y := (gF (D.1 14) x fu i) (i * D.1 14 + x)) (by rw [nI_c (n := i * D.1 14 + x) (by omega)]) ?_
    refine zs_iadd dX13_givesUp_33 ?_
    refine zs_istore_n (lv' := [(2, .int ((gT (D.1 14) x fu i) + ((gF (D.1 14) x fu i) (i * D.1 14 + x)))), (4, .int (nI (i * D.1 14 + x))), (0, .ref mo), (1, .int (nI x)), (3, .int (nI i))]) dX13_givesUp_34 (Nat.le_of_ble_eq_true rfl) rfl ?_
    refine zs_aload_n dX13_givesUp_35 rfl rfl ?_
    refine zs_get 0 dX13_givesUp_36 zf_RX13_105 rfl (v := .ref (e 64)) rfl ?_
    refine zs_iload dX13_givesUp_39 rfl ?_
    refine zs_iconst (v := nI 0) dX13_givesUp_41 (by decide) ?_
    refine zs_iast 2 dX13_givesUp_42 rfl (vp_in_nI (by omega) (by omega)) ?_
    rw [nI_c (n := i * D.1 14 + x) (by omega)]
    show zS _ _ _ _ _ _ [(mo, .inr (11, fMo e g w)), ((e 14), .inl (0, 800, .inl nw)), ((e 64), .inl (0, 64, .inl (upd (gF (D.1 14) x fu i) (i * D.1 14 + x) (nI 0)))), ((e 65), .inl (0, 64, .inl (gF (D.1 14) x bu i)))]
    refine zs_aload_n dX13_givesUp_43 rfl rfl ?_
    refine zs_get 0 dX13_givesUp_44 zf_RX13_108 rfl (v := .ref (e 65)) rfl ?_
    refine zs_iload dX13_givesUp_47 rfl ?_
    refine zs_iconst (v := nI 0) dX13_givesUp_49 (by decide) ?_
    refine zs_iast 3 dX13_givesUp_50 rfl (vp_in_nI (by omega) (by omega)) ?_
    rw [nI_c (n := i * D.1 14 + x) (by omega)]
    show zS _ _ _ _ _ _ [(mo, .inr (11, fMo e g w)), ((e 14), .inl (0, 800, .inl nw)), ((e 64), .inl (0, 64, .inl (upd (gF (D.1 14) x fu i) (i * D.1 14 + x) (nI 0)))), ((e 65), .inl (0, 64, .inl (upd (gF (D.1 14) x bu i) (i * D.1 14 + x) (nI 0))))]
    refine zs_iinc (v := (nI (i + 1))) (lv' := [(3, .int (nI (i + 1))), (2, .int ((gT (D.1 14) x fu i) + ((gF (D.1 14) x fu i) (i * D.1 14 + x)))), (4, .int (nI (i * D.1 14 + x))), (0, .ref mo), (1, .int (nI x))]) dX13_givesUp_51 rfl (nI_add _ 1) (Nat.le_of_ble_eq_true rfl) rfl ?_
    refine zs_goto (tgt := 4) dX13_givesUp_54 (by decide) ?_
    refine zs_lv [3, 4, 1, 0] rfl ?_
    exact ih (i + 1) (by omega)
set_option maxRecDepth 100000 in
theorem s_mGivesUp (l : Launch) (dd : Nat) (mo : Nat) (e : Nat → Nat) (g : Nat → Int32) (w : Int64) (nw : Nat → Int32) (D : zYd) (fu bu : Nat → Int32) (x : Nat) (hd : 1 ≤ dd) (hR : yR D nw) (hC : D.1 14 ≤ 8) (hRo : D.1 15 ≤ 8) (hx : x < D.1 14) : zSp l mX13_givesUp dd 0 0 [.ref mo, .int (nI x)] [(mo, .inr (11, fMo e g w)), ((e 14), .inl (0, 800, .inl nw)), ((e 64), .inl (0, 64, .inl fu)), ((e 65), .inl (0, 64, .inl bu))] (fun r K' => r = some (.int (gT (D.1 14) x fu (D.1 15))) ∧ K' = [(mo, .inr (11, fMo e g w)), ((e 14), .inl (0, 800, .inl nw)), ((e 64), .inl (0, 64, .inl (gF (D.1 14) x fu (D.1 15)))), ((e 65), .inl (0, 64, .inl (gF (D.1 14) x bu (D.1 15))))]) := by
  refine zSp.of (by decide) (Nat.le_of_ble_eq_true rfl) (fun h0 => ?_)
  show zS _ 0 0 0 [(0, .ref mo), (1, .int (nI x))] [] [(mo, .inr (11, fMo e g w)), ((e 14), .inl (0, 800, .inl nw)), ((e 64), .inl (0, 64, .inl fu)), ((e 65), .inl (0, 64, .inl bu))]
  refine zs_iconst (v := nI 0) dX13_givesUp_0 (by decide) ?_
  refine zs_istore_n (lv' := [(2, .int (nI 0)), (0, .ref mo), (1, .int (nI x))]) dX13_givesUp_1 (Nat.le_of_ble_eq_true rfl) rfl ?_
  refine zs_iconst (v := nI 0) dX13_givesUp_2 (by decide) ?_
  refine zs_istore_n (lv' := [(3, .int (nI 0)), (2, .int (nI 0)), (0, .ref mo), (1, .int (nI x))]) dX13_givesUp_3 (Nat.le_of_ble_eq_true rfl) rfl ?_
  refine zs_lv [2, 3, 1, 0] rfl ?_
  refine lp_mgu mo e g w nw D fu bu x hd hR hC hRo hx ?_ (D.1 15) 0 (Nat.zero_add _)
  refine zs_iload_n dX13_givesUp_57 rfl ?_
  exact zs_iret dX13_givesUp_58 rfl ⟨rfl, rfl⟩
