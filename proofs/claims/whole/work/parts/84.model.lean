/-! ===== the reference: rows of cells ===== -/
theorem yR_p9 {D : zYd} {f : Nat → Int32} {v : Nat} (h : yR D f) : yR (un D.1 14 v, D.2) (upd f 9 (nI v)) := by
  obtain ⟨a0, a1, a2, a3, a4, a5, a6, a7, a8, a9, a10, a11, am, ac⟩ := h
  refine ⟨a0, a1, a2, a3, a4, a5, a6, a7, a8, rfl, a10, a11, fun m hm => ?_, fun c hc => ?_⟩
  · have hb := am m hm
    rw [upd_x (by omega), upd_x (by omega), upd_x (by omega)]
    exact hb
  · have hb := ac c hc
    rw [upd_x (by omega), upd_x (by omega)]
    exact hb
theorem yR_p10 {D : zYd} {f : Nat → Int32} {v : Nat} (h : yR D f) : yR (un D.1 15 v, D.2) (upd f 10 (nI v)) := by
  obtain ⟨a0, a1, a2, a3, a4, a5, a6, a7, a8, a9, a10, a11, am, ac⟩ := h
  refine ⟨a0, a1, a2, a3, a4, a5, a6, a7, a8, a9, rfl, a11, fun m hm => ?_, fun c hc => ?_⟩
  · have hb := am m hm
    rw [upd_x (by omega), upd_x (by omega), upd_x (by omega)]
    exact hb
  · have hb := ac c hc
    rw [upd_x (by omega), upd_x (by omega)]
    exact hb
theorem yR_fu {D : zYd} {f : Nat → Int32} {c v : Nat} (hD : D.1 0 ≤ 12) (hc : c < 64) (h : yR D f) : yR (D.1, D.2.1, D.2.2.1, D.2.2.2.1, D.2.2.2.2.1, D.2.2.2.2.2.1, un D.2.2.2.2.2.2.1 c v, D.2.2.2.2.2.2.2) (upd f (60 + c) (nI v)) := by
  obtain ⟨a0, a1, a2, a3, a4, a5, a6, a7, a8, a9, a10, a11, am, ac⟩ := h
  refine ⟨(upd_x (by omega)).trans a0, (upd_x (by omega)).trans a1, (upd_x (by omega)).trans a2, (upd_x (by omega)).trans a3, (upd_x (by omega)).trans a4, (upd_x (by omega)).trans a5, (upd_x (by omega)).trans a6, (upd_x (by omega)).trans a7, (upd_x (by omega)).trans a8, (upd_x (by omega)).trans a9, (upd_x (by omega)).trans a10, (upd_x (by omega)).trans a11, fun m hm => ?_, fun x hx => ?_⟩
  · have hm : m < D.1 0 := hm
    have hb := am m hm
    rw [upd_x (by omega), upd_x (by omega), upd_x (by omega)]
    exact hb
  · rw [upd_x (f := f) (j := 130 + x) (by omega)]
    refine ⟨?_, (ac x hx).2⟩
    show upd f (60 + c) (nI v) (60 + x) = nI (un D.2.2.2.2.2.2.1 c v x)
    by_cases hxc : x = c
    · rw [hxc, un_s]; exact if_pos rfl
    · rw [un_n hxc, upd_x (by omega)]; exact (ac x hx).1
theorem yR_yb {D : zYd} {f : Nat → Int32} {c v : Nat} (hD : D.1 0 ≤ 12) (hc : c < 64) (h : yR D f) : yR (D.1, D.2.1, D.2.2.1, D.2.2.2.1, D.2.2.2.2.1, D.2.2.2.2.2.1, D.2.2.2.2.2.2.1, un D.2.2.2.2.2.2.2 c v) (upd f (130 + c) (nI v)) := by
  obtain ⟨a0, a1, a2, a3, a4, a5, a6, a7, a8, a9, a10, a11, am, ac⟩ := h
  refine ⟨(upd_x (by omega)).trans a0, (upd_x (by omega)).trans a1, (upd_x (by omega)).trans a2, (upd_x (by omega)).trans a3, (upd_x (by omega)).trans a4, (upd_x (by omega)).trans a5, (upd_x (by omega)).trans a6, (upd_x (by omega)).trans a7, (upd_x (by omega)).trans a8, (upd_x (by omega)).trans a9, (upd_x (by omega)).trans a10, (upd_x (by omega)).trans a11, fun m hm => ?_, fun x hx => ?_⟩
  · have hm : m < D.1 0 := hm
    have hb := am m hm
    rw [upd_x (by omega), upd_x (by omega), upd_x (by omega)]
    exact hb
  · rw [upd_x (f := f) (j := 60 + x) (by omega)]
    refine ⟨(ac x hx).1, ?_⟩
    show upd f (130 + c) (nI v) (130 + x) = nI (un D.2.2.2.2.2.2.2 c v x)
    by_cases hxc : x = c
    · rw [hxc, un_s]; exact if_pos rfl
    · rw [un_n hxc, upd_x (by omega)]; exact (ac x hx).2
theorem nxt_8 {b : Nat → Nat} {n L : Nat} {τ : zTk} (h : (nxt b n L τ).1 = 3) : (nxt b n L τ).2.2.1 - (nxt b n L τ).2.1 ≤ 8 := by
  have hk : ∀ q e, (lTk b q e).1 = 3 → (lTk b q e).2.2.1 - (lTk b q e).2.1 ≤ 8 := fun q e h => by
    have h2 := lLt_le b q (e - q)
    unfold lTk at h ⊢
    split at h
    · split at h
      · exact absurd h (by show ¬ (1 : Nat) = 3; decide)
      · exact absurd h (by show ¬ (2 : Nat) = 3; decide)
    · rename_i h0
      rw [if_neg h0]
      split at h
      · rename_i h1
        rw [if_pos h1]
        split at h
        · exact absurd h (by show ¬ (1 : Nat) = 3; decide)
        · rename_i h8
          rw [if_neg h8]
          show e - q ≤ 8
          omega
      · exact absurd h (by show ¬ (1 : Nat) = 3; decide)
  unfold nxt at h ⊢
  generalize lSk b (min n L) (min n L - τ.2.2.1) τ.2.2.1 = q at h ⊢
  unfold lAt at h ⊢
  split at h
  · exact absurd h (by show ¬ (0 : Nat) = 3; decide)
  · rename_i hq
    rw [if_neg hq]
    split at h
    · rename_i hl
      rw [if_pos hl]
      exact hk _ _ h
    · rename_i hl
      rw [if_neg hl]
      split at h
      · rename_i hdg
        rw [if_pos hdg]
        exact hk _ _ h
      · split at h
        · exact absurd h (by show ¬ (4 : Nat) = 3; decide)
        · exact absurd h (by show ¬ (1 : Nat) = 3; decide)
theorem dX13_readCells_0 : decode cX13_readCells 0 = .ok (.aload_n 0, 1) := by decide +kernel
theorem dX13_readCells_1 : decode cX13_readCells 1 = .ok (.getfield 16, 3) := by decide +kernel
theorem dX13_readCells_4 : decode cX13_readCells 4 = .ok (.bipush 10, 2) := by decide +kernel
theorem dX13_readCells_6 : decode cX13_readCells 6 = .ok (.iaload, 1) := by decide +kernel
theorem dX13_readCells_7 : decode cX13_readCells 7 = .ok (.istore_n 1, 1) := by decide +kernel
theorem dX13_readCells_8 : decode cX13_readCells 8 = .ok (.iload_n 1, 1) := by decide +kernel
theorem dX13_readCells_9 : decode cX13_readCells 9 = .ok (.bipush 8, 2) := by decide +kernel
theorem dX13_readCells_11 : decode cX13_readCells 11 = .ok (.if_icmp .ne 9, 3) := by decide +kernel
theorem dX13_readCells_14 : decode cX13_readCells 14 = .ok (.aload_n 0, 1) := by decide +kernel
theorem dX13_readCells_15 : decode cX13_readCells 15 = .ok (.iconst 4, 1) := by decide +kernel
theorem dX13_readCells_16 : decode cX13_readCells 16 = .ok (.invokevirtual 216, 3) := by decide +kernel
theorem dX13_readCells_19 : decode cX13_readCells 19 = .ok (.ireturn, 1) := by decide +kernel
theorem dX13_readCells_20 : decode cX13_readCells 20 = .ok (.aload_n 0, 1) := by decide +kernel
theorem dX13_readCells_21 : decode cX13_readCells 21 = .ok (.invokevirtual 226, 3) := by decide +kernel
theorem dX13_readCells_24 : decode cX13_readCells 24 = .ok (.aload_n 0, 1) := by decide +kernel
theorem dX13_readCells_25 : decode cX13_readCells 25 = .ok (.getfield 170, 3) := by decide +kernel
theorem dX13_readCells_28 : decode cX13_readCells 28 = .ok (.iconst 3, 1) := by decide +kernel
theorem dX13_readCells_29 : decode cX13_readCells 29 = .ok (.if_icmp .eq 9, 3) := by decide +kernel
theorem dX13_readCells_32 : decode cX13_readCells 32 = .ok (.aload_n 0, 1) := by decide +kernel
theorem dX13_readCells_33 : decode cX13_readCells 33 = .ok (.iconst 1, 1) := by decide +kernel
theorem dX13_readCells_34 : decode cX13_readCells 34 = .ok (.invokevirtual 216, 3) := by decide +kernel
theorem dX13_readCells_37 : decode cX13_readCells 37 = .ok (.ireturn, 1) := by decide +kernel
theorem dX13_readCells_38 : decode cX13_readCells 38 = .ok (.aload_n 0, 1) := by decide +kernel
theorem dX13_readCells_39 : decode cX13_readCells 39 = .ok (.getfield 161, 3) := by decide +kernel
theorem dX13_readCells_42 : decode cX13_readCells 42 = .ok (.aload_n 0, 1) := by decide +kernel
theorem dX13_readCells_43 : decode cX13_readCells 43 = .ok (.getfield 164, 3) := by decide +kernel
theorem dX13_readCells_46 : decode cX13_readCells 46 = .ok (.isub, 1) := by decide +kernel
theorem dX13_readCells_47 : decode cX13_readCells 47 = .ok (.istore_n 2, 1) := by decide +kernel
theorem dX13_readCells_48 : decode cX13_readCells 48 = .ok (.iload_n 1, 1) := by decide +kernel
theorem dX13_readCells_49 : decode cX13_readCells 49 = .ok (.ifCond .le 20, 3) := by decide +kernel
theorem dX13_readCells_52 : decode cX13_readCells 52 = .ok (.iload_n 2, 1) := by decide +kernel
theorem dX13_readCells_53 : decode cX13_readCells 53 = .ok (.aload_n 0, 1) := by decide +kernel
theorem dX13_readCells_54 : decode cX13_readCells 54 = .ok (.getfield 16, 3) := by decide +kernel
theorem dX13_readCells_57 : decode cX13_readCells 57 = .ok (.bipush 9, 2) := by decide +kernel
theorem dX13_readCells_59 : decode cX13_readCells 59 = .ok (.iaload, 1) := by decide +kernel
theorem dX13_readCells_60 : decode cX13_readCells 60 = .ok (.if_icmp .eq 9, 3) := by decide +kernel
theorem dX13_readCells_63 : decode cX13_readCells 63 = .ok (.aload_n 0, 1) := by decide +kernel
theorem dX13_readCells_64 : decode cX13_readCells 64 = .ok (.iconst 2, 1) := by decide +kernel
theorem dX13_readCells_65 : decode cX13_readCells 65 = .ok (.invokevirtual 216, 3) := by decide +kernel
theorem dX13_readCells_68 : decode cX13_readCells 68 = .ok (.ireturn, 1) := by decide +kernel
theorem dX13_readCells_69 : decode cX13_readCells 69 = .ok (.aload_n 0, 1) := by decide +kernel
theorem dX13_readCells_70 : decode cX13_readCells 70 = .ok (.getfield 16, 3) := by decide +kernel
theorem dX13_readCells_73 : decode cX13_readCells 73 = .ok (.bipush 9, 2) := by decide +kernel
theorem dX13_readCells_75 : decode cX13_readCells 75 = .ok (.iload_n 2, 1) := by decide +kernel
theorem dX13_readCells_76 : decode cX13_readCells 76 = .ok (.iastore, 1) := by decide +kernel
theorem dX13_readCells_77 : decode cX13_readCells 77 = .ok (.iconst 0, 1) := by decide +kernel
theorem dX13_readCells_78 : decode cX13_readCells 78 = .ok (.istore_n 3, 1) := by decide +kernel
theorem dX13_readCells_79 : decode cX13_readCells 79 = .ok (.iload_n 3, 1) := by decide +kernel
theorem dX13_readCells_80 : decode cX13_readCells 80 = .ok (.iload_n 2, 1) := by decide +kernel
theorem dX13_readCells_81 : decode cX13_readCells 81 = .ok (.if_icmp .ge 36, 3) := by decide +kernel
theorem dX13_readCells_84 : decode cX13_readCells 84 = .ok (.aload_n 0, 1) := by decide +kernel
theorem dX13_readCells_85 : decode cX13_readCells 85 = .ok (.getfield 16, 3) := by decide +kernel
theorem dX13_readCells_88 : decode cX13_readCells 88 = .ok (.bipush 60, 2) := by decide +kernel
theorem dX13_readCells_90 : decode cX13_readCells 90 = .ok (.iload_n 2, 1) := by decide +kernel
theorem dX13_readCells_91 : decode cX13_readCells 91 = .ok (.iload_n 1, 1) := by decide +kernel
theorem dX13_readCells_92 : decode cX13_readCells 92 = .ok (.imul, 1) := by decide +kernel
theorem dX13_readCells_93 : decode cX13_readCells 93 = .ok (.iadd, 1) := by decide +kernel
theorem dX13_readCells_94 : decode cX13_readCells 94 = .ok (.iload_n 3, 1) := by decide +kernel
theorem dX13_readCells_95 : decode cX13_readCells 95 = .ok (.iadd, 1) := by decide +kernel
theorem dX13_readCells_96 : decode cX13_readCells 96 = .ok (.aload_n 0, 1) := by decide +kernel
theorem dX13_readCells_97 : decode cX13_readCells 97 = .ok (.getfield 7, 3) := by decide +kernel
theorem dX13_readCells_100 : decode cX13_readCells 100 = .ok (.aload_n 0, 1) := by decide +kernel
theorem dX13_readCells_101 : decode cX13_readCells 101 = .ok (.getfield 164, 3) := by decide +kernel
theorem dX13_readCells_104 : decode cX13_readCells 104 = .ok (.iload_n 3, 1) := by decide +kernel
theorem dX13_readCells_105 : decode cX13_readCells 105 = .ok (.iadd, 1) := by decide +kernel
theorem dX13_readCells_106 : decode cX13_readCells 106 = .ok (.iaload, 1) := by decide +kernel
theorem dX13_readCells_107 : decode cX13_readCells 107 = .ok (.bipush 48, 2) := by decide +kernel
theorem dX13_readCells_109 : decode cX13_readCells 109 = .ok (.isub, 1) := by decide +kernel
theorem dX13_readCells_110 : decode cX13_readCells 110 = .ok (.iastore, 1) := by decide +kernel
theorem dX13_readCells_111 : decode cX13_readCells 111 = .ok (.iinc 3 1, 3) := by decide +kernel
theorem dX13_readCells_114 : decode cX13_readCells 114 = .ok (.goto (-35), 3) := by decide +kernel
theorem dX13_readCells_117 : decode cX13_readCells 117 = .ok (.aload_n 0, 1) := by decide +kernel
theorem dX13_readCells_118 : decode cX13_readCells 118 = .ok (.getfield 16, 3) := by decide +kernel
theorem dX13_readCells_121 : decode cX13_readCells 121 = .ok (.bipush 10, 2) := by decide +kernel
theorem dX13_readCells_123 : decode cX13_readCells 123 = .ok (.dup2, 1) := by decide +kernel
theorem dX13_readCells_124 : decode cX13_readCells 124 = .ok (.iaload, 1) := by decide +kernel
theorem dX13_readCells_125 : decode cX13_readCells 125 = .ok (.iconst 1, 1) := by decide +kernel
theorem dX13_readCells_126 : decode cX13_readCells 126 = .ok (.iadd, 1) := by decide +kernel
theorem dX13_readCells_127 : decode cX13_readCells 127 = .ok (.iastore, 1) := by decide +kernel
theorem dX13_readCells_128 : decode cX13_readCells 128 = .ok (.aload_n 0, 1) := by decide +kernel
theorem dX13_readCells_129 : decode cX13_readCells 129 = .ok (.invokevirtual 226, 3) := by decide +kernel
theorem dX13_readCells_132 : decode cX13_readCells 132 = .ok (.iconst 1, 1) := by decide +kernel
theorem dX13_readCells_133 : decode cX13_readCells 133 = .ok (.ireturn, 1) := by decide +kernel
set_option maxRecDepth 100000 in
theorem lp_mcells {l : Launch} {dd : Nat} {Po : zPo} {K0 : zK} {h0 : List va_E} {Xo : zK → Prop} {Gc : zG → Prop} (mo : Nat) (e : Nat → Nat) (n L : Nat) (bt : Nat → Nat) (t : zTk) (D : zYd) (rn : Nat → Int64) (g1 : Nat → Int32) (w1 : Int64) (hn : n ≤ 740) (hbt : ∀ j, bt j < 256) (hT1 : mTk n L (nxt bt n L t) g1 w1) (hk3 : (nxt bt n L t).1 = 3) (h8 : D.1 15 < 8) (hl8 : ((nxt bt n L t).2.2.1 - (nxt bt n L t).2.1) ≤ 8) (h12 : D.1 0 ≤ 12) (hk : ∀ rf2, yR (un D.1 14 ((nxt bt n L t).2.2.1 - (nxt bt n L t).2.1), D.2.1, D.2.2.1, D.2.2.2.1, D.2.2.2.2.1, D.2.2.2.2.2.1, dFu bt (nxt bt n L t).2.1 (D.1 15 * ((nxt bt n L t).2.2.1 - (nxt bt n L t).2.1)) D.2.2.2.2.2.2.1 ((nxt bt n L t).2.2.1 - (nxt bt n L t).2.1), D.2.2.2.2.2.2.2) rf2 → zS (l, mX13_readCells, dd, Po, K0, h0, Xo, Gc) 0 0 117 [(0, .ref mo), (1, .int (nI (D.1 15))), (2, .int (nI ((nxt bt n L t).2.2.1 - (nxt bt n L t).2.1)))] [] [(mo, .inr (11, fMo e g1 w1)), ((e 1), .inl (0, 740, .inl (nF bt))), ((e 15), .inl (0, 200, .inl rf2)), ((e 19), .inl (2, 12, .inr (.inl rn)))]) : ∀ (m i : Nat) (rf2 : Nat → Int32), i + m = ((nxt bt n L t).2.2.1 - (nxt bt n L t).2.1) → yR (un D.1 14 ((nxt bt n L t).2.2.1 - (nxt bt n L t).2.1), D.2.1, D.2.2.1, D.2.2.2.1, D.2.2.2.2.1, D.2.2.2.2.2.1, dFu bt (nxt bt n L t).2.1 (D.1 15 * ((nxt bt n L t).2.2.1 - (nxt bt n L t).2.1)) D.2.2.2.2.2.2.1 i, D.2.2.2.2.2.2.2) rf2 → zS (l, mX13_readCells, dd, Po, K0, h0, Xo, Gc) 0 0 79 [(0, .ref mo), (1, .int (nI (D.1 15))), (2, .int (nI ((nxt bt n L t).2.2.1 - (nxt bt n L t).2.1))), (3, .int (nI i))] [] [(mo, .inr (11, fMo e g1 w1)), ((e 1), .inl (0, 740, .inl (nF bt))), ((e 15), .inl (0, 200, .inl rf2)), ((e 19), .inl (2, 12, .inr (.inl rn)))] := by
  intro m
  induction m with
  | zero =>
    intro i rf2 hi hy
    refine zs_iload_n dX13_readCells_79 rfl ?_
    refine zs_iload_n dX13_readCells_80 rfl ?_
    refine zs_icmp_ge (tgt := 117) dX13_readCells_81 (by decide) (fun c_1 => ?_) (fun c_1 => (c_1 (by rw [show i = ((nxt bt n L t).2.2.1 - (nxt bt n L t).2.1) by omega]; exact Int32.le_refl _) : False).elim)
    have hin : i = ((nxt bt n L t).2.2.1 - (nxt bt n L t).2.1) := by omega
    rw [hin] at hy
    refine zs_lv [0, 1, 2] rfl ?_
    exact hk rf2 hy
  | succ m ih =>
    intro i rf2 hi hy
    refine zs_iload_n dX13_readCells_79 rfl ?_
    refine zs_iload_n dX13_readCells_80 rfl ?_
    refine zs_icmp_ge (tgt := 117) dX13_readCells_81 (by decide) (fun c_1 => (nI_ge (show i < ((nxt bt n L t).2.2.1 - (nxt bt n L t).2.1) by omega) (by omega) c_1 : False).elim) (fun c_1 => ?_)
    have hnum := nxt_num hk3
    have hdi := hnum.2.1 ((nxt bt n L t).2.1 + i) (by omega) (by omega)
    have hbi := hbt ((nxt bt n L t).2.1 + i)
    have hcm := Nat.mul_comm ((nxt bt n L t).2.2.1 - (nxt bt n L t).2.1) (D.1 15)
    have hidx : D.1 15 * ((nxt bt n L t).2.2.1 - (nxt bt n L t).2.1) + ((nxt bt n L t).2.2.1 - (nxt bt n L t).2.1) ≤ 64 := by
      have h1 := Nat.mul_le_mul (show D.1 15 + 1 ≤ 8 by omega) hl8
      rw [Nat.add_mul, Nat.one_mul] at h1
      exact h1
    refine zs_aload_n dX13_readCells_84 rfl rfl ?_
    refine zs_get 0 dX13_readCells_85 zf_RX13_16 rfl (v := .ref (e 15)) rfl ?_
    refine zs_bipush (v := nI 60) dX13_readCells_88 (by decide) ?_
    refine zs_iload_n dX13_readCells_90 rfl ?_
    refine zs_iload_n dX13_readCells_91 rfl ?_
    refine zs_imul dX13_readCells_92 ?_
    refine zs_as (y := nI (((nxt bt n L t).2.2.1 - (nxt bt n L t).2.1) * (D.1 15))) (nI_mul _ _) ?_
    refine zs_iadd dX13_readCells_93 ?_
    refine zs_as (y := nI (60 + (((nxt bt n L t).2.2.1 - (nxt bt n L t).2.1) * (D.1 15)))) (nI_add _ _) ?_
    refine zs_iload_n dX13_readCells_94 rfl ?_
    refine zs_iadd dX13_readCells_95 ?_
    refine zs_as (y := nI ((60 + (((nxt bt n L t).2.2.1 - (nxt bt n L t).2.1) * (D.1 15))) + i)) (nI_add _ _) ?_
    refine zs_aload_n dX13_readCells_96 rfl rfl ?_
    refine zs_get 0 dX13_readCells_97 zf_RX13_7 rfl (v := .ref (e 1)) rfl ?_
    refine zs_aload_n dX13_readCells_100 rfl rfl ?_
    refine zs_get 0 dX13_readCells_101 zf_RX13_164 rfl (v := .int (g1 6)) rfl ?_
    refine zs_as (y := nI (nxt bt n L t).2.1) (hT1.2.1 (by omega)).2.1 ?_
    refine zs_iload_n dX13_readCells_104 rfl ?_
    refine zs_iadd dX13_readCells_105 ?_
    refine zs_as (y := nI (((nxt bt n L t).2.1) + i)) (nI_add _ _) ?_
    refine zs_iald 1 dX13_readCells_106 rfl (vp_in_nI (by omega) (by omega)) ?_
    refine zs_as (y := nI (bt (((nxt bt n L t).2.1) + i))) (by rw [nI_c (n := ((nxt bt n L t).2.1) + i) (by omega)]; rfl) ?_
    refine zs_bipush (v := nI 48) dX13_readCells_107 (by decide) ?_
    refine zs_isub dX13_readCells_109 ?_
    refine zs_as (y := nI ((bt (((nxt bt n L t).2.1) + i)) - 48)) (nI_sub (by omega)) ?_
    refine zs_iast 2 dX13_readCells_110 rfl (vp_in_nI (by omega) (by omega)) ?_
    rw [nI_c (n := (60 + (((nxt bt n L t).2.2.1 - (nxt bt n L t).2.1) * (D.1 15))) + i) (by omega)]
    show zS _ _ _ _ _ _ [(mo, .inr (11, fMo e g1 w1)), ((e 1), .inl (0, 740, .inl (nF bt))), ((e 15), .inl (0, 200, .inl (upd rf2 ((60 + (((nxt bt n L t).2.2.1 - (nxt bt n L t).2.1) * (D.1 15))) + i) (nI ((bt (((nxt bt n L t).2.1) + i)) - 48))))), ((e 19), .inl (2, 12, .inr (.inl rn)))]
    refine zs_iinc (v := (nI (i + 1))) (lv' := [(3, .int (nI (i + 1))), (0, .ref mo), (1, .int (nI (D.1 15))), (2, .int (nI ((nxt bt n L t).2.2.1 - (nxt bt n L t).2.1)))]) dX13_readCells_111 rfl (nI_add _ 1) (Nat.le_of_ble_eq_true rfl) rfl ?_
    refine zs_goto (tgt := 79) dX13_readCells_114 (by decide) ?_
    refine zs_lv [1, 2, 3, 0] rfl ?_
    refine ih (i + 1) _ (by omega) ?_
    have hs := yR_fu (D := (un D.1 14 ((nxt bt n L t).2.2.1 - (nxt bt n L t).2.1), D.2.1, D.2.2.1, D.2.2.2.1, D.2.2.2.2.1, D.2.2.2.2.2.1, dFu bt (nxt bt n L t).2.1 (D.1 15 * ((nxt bt n L t).2.2.1 - (nxt bt n L t).2.1)) D.2.2.2.2.2.2.1 i, D.2.2.2.2.2.2.2)) (c := D.1 15 * ((nxt bt n L t).2.2.1 - (nxt bt n L t).2.1) + i) (v := bt ((nxt bt n L t).2.1 + i) - 48) (show D.1 0 ≤ 12 by omega) (by omega) hy
    rw [show 60 + (D.1 15 * ((nxt bt n L t).2.2.1 - (nxt bt n L t).2.1) + i) = 60 + ((nxt bt n L t).2.2.1 - (nxt bt n L t).2.1) * D.1 15 + i by rw [Nat.mul_comm ((nxt bt n L t).2.2.1 - (nxt bt n L t).2.1)]; omega] at hs
    exact hs
set_option maxRecDepth 100000 in
theorem s_mReadCells (l : Launch) (dd : Nat) (mo : Nat) (e : Nat → Nat) (g : Nat → Int32) (w : Int64) (n L : Nat) (bt : Nat → Nat) (t : zTk) (tk : Nat) (D : zYd) (rf : Nat → Int32) (rn : Nat → Int64) (hd : 4 ≤ dd) (hn : n ≤ 740) (hL : L ≤ 740) (hbt : ∀ j, bt j < 256) (h3 : g 3 = nI n) (h4 : g 4 = nI L) (hT : mTk n L t g w) (hW : tW n L t) (hO : tOK t) (hD : yI D) (hRd : rdR D g rf rn) (hk2 : t.1 = 2) : zSp l mX13_readCells dd 0 0 [.ref mo] [(mo, .inr (11, fMo e g w)), ((e 1), .inl (0, 740, .inl (nF bt))), ((e 15), .inl (0, 200, .inl rf)), ((e 19), .inl (2, 12, .inr (.inl rn)))] (fun r K' => ((pCells bt n L t tk D).1 = 0 ∧ r = some (.int 1) ∧ ∃ g' w' rf' rn', mFr [5, 6, 7, 8, 9, 13, 23] g g' ∧ mTk n L (pCells bt n L t tk D).2.1 g' w' ∧ tW n L (pCells bt n L t tk D).2.1 ∧ rdR (pCells bt n L t tk D).2.2.2 g' rf' rn' ∧ K' = [(mo, .inr (11, fMo e g' w'))] ++ ([((e 1), .inl (0, 740, .inl (nF bt)))] ++ ([((e 15), .inl (0, 200, .inl rf'))] ++ [((e 19), .inl (2, 12, .inr (.inl rn')))]))) ∨ (¬ (pCells bt n L t tk D).1 = 0 ∧ r = some (.int 0) ∧ ∃ g' w' rf' rn', mFr [5, 6, 7, 8, 9, 10, 11, 13, 23] g g' ∧ g' 10 = nI (pCells bt n L t tk D).1 ∧ g' 11 = nI (pCells bt n L t tk D).2.1.2.1 ∧ K' = [(mo, .inr (11, fMo e g' w'))] ++ ([((e 1), .inl (0, 740, .inl (nF bt)))] ++ ([((e 15), .inl (0, 200, .inl rf'))] ++ [((e 19), .inl (2, 12, .inr (.inl rn')))])))) := by
  refine zSp.of (by decide) (Nat.le_of_ble_eq_true rfl) (fun h0 => ?_)
  show zS _ 0 0 0 [(0, .ref mo)] [] [(mo, .inr (11, fMo e g w)), ((e 1), .inl (0, 740, .inl (nF bt))), ((e 15), .inl (0, 200, .inl rf)), ((e 19), .inl (2, 12, .inr (.inl rn)))]
  have h15 := hD.2.2.1
  have h14 := hD.2.1
  refine zs_aload_n dX13_readCells_0 rfl rfl ?_
  refine zs_get 0 dX13_readCells_1 zf_RX13_16 rfl (v := .ref (e 15)) rfl ?_
  refine zs_bipush (v := nI 10) dX13_readCells_4 (by decide) ?_
  refine zs_iald 2 dX13_readCells_6 rfl (vp_in_nI (by omega) (by omega)) ?_
  refine zs_as (y := nI (D.1 15)) (by rw [nI_c (n := 10) (by omega)]; exact hRd.1.2.2.2.2.2.2.2.2.2.2.1) ?_
  refine zs_istore_n (lv' := [(1, .int (nI (D.1 15))), (0, .ref mo)]) dX13_readCells_7 (Nat.le_of_ble_eq_true rfl) rfl ?_
  refine zs_iload_n dX13_readCells_8 rfl ?_
  refine zs_bipush (v := nI 8) dX13_readCells_9 (by decide) ?_
  refine zs_icmp_ne (tgt := 20) dX13_readCells_11 (by decide) (fun c_1 => ?_) (fun c_1 => ?_)
  · have c_1 : ¬ ((D.1 15) = 8) := by have hc := c_1; rw [nI_eq' (by omega) (by omega)] at hc; exact hc
    refine zs_aload_n dX13_readCells_20 rfl rfl ?_
    refine zs_callV (M := mX13_go) (As := []) (st := []) (Kc := [(mo, .inr (11, fMo e g w)), ((e 1), .inl (0, 740, .inl (nF bt)))]) (Kr := [((e 15), .inl (0, 200, .inl rf)), ((e 19), .inl (2, 12, .inr (.inl rn)))]) [0, 1] [2, 3] 0 dX13_readCells_21 zl_RX13_226 kX13_go rfl rfl rfl rfl rfl (by decide) rfl rfl (show dd - 1 + 1 ≤ dd by omega) (Nat.zero_le _) (Nat.zero_le _) (Nat.le_of_ble_eq_true rfl) (s_mGoT l (dd - 1) mo e g w n L bt t (by omega) hn hL hbt h3 h4 hT hW (show ¬ t.1 = 0 by omega)) (fun r K1 hr => ?_)
    obtain ⟨rfl, g1, w1, hfr1, hT1, rfl⟩ := hr
    refine zs_K (K' := [(mo, .inr (11, fMo e g1 w1)), ((e 1), .inl (0, 740, .inl (nF bt))), ((e 15), .inl (0, 200, .inl rf)), ((e 19), .inl (2, 12, .inr (.inl rn)))]) [2, 3, 0, 1] rfl (by decide) ?_
    have fr1 : mFr [5, 6, 7, 8, 9, 13, 23] g g1 := mFr_t (mFr_r : mFr [5, 6, 7, 8, 9, 13, 23] g g) hfr1 (by decide) (by decide)
    have h3_1 : g1 3 = nI n := (hfr1 3 (by decide)).trans h3
    have h4_1 : g1 4 = nI L := (hfr1 4 (by decide)).trans h4
    have h23_1 : g1 23 = g 23 := hfr1 23 (by decide)
    have hO_1 := nxt_OK (L := L) (τ := t) hbt hn
    have h14_1 := hO_1.1
    have hkd_1 := mKd_4 (n := n) (L := L) hO_1.1
    refine zs_aload_n dX13_readCells_24 rfl rfl ?_
    refine zs_get 0 dX13_readCells_25 zf_RX13_170 rfl (v := .int (g1 7)) rfl ?_
    refine zs_as (y := nI (mKd n L (nxt bt n L t))) (mTk_7 hT1) ?_
    refine zs_iconst (v := nI 3) dX13_readCells_28 (by decide) ?_
    refine zs_icmp_eq (tgt := 38) dX13_readCells_29 (by decide) (fun c_2 => ?_) (fun c_2 => ?_)
    · have c_2 : (mKd n L (nxt bt n L t)) = 3 := by have hc := c_2; rw [nI_eq' (by omega) (by omega)] at hc; exact hc
      have hk3 : (nxt bt n L t).1 = 3 := (mKd_n (by decide)).mp c_2
      have hl8 := nxt_8 hk3
      have hle := hO_1.2.2.2.1
      have h740 := hO_1.2.2.1
      refine zs_aload_n dX13_readCells_38 rfl rfl ?_
      refine zs_get 0 dX13_readCells_39 zf_RX13_161 rfl (v := .int (g1 5)) rfl ?_
      refine zs_as (y := nI (nxt bt n L t).2.2.1) (hT1.2.1 (by omega)).2.2 ?_
      refine zs_aload_n dX13_readCells_42 rfl rfl ?_
      refine zs_get 0 dX13_readCells_43 zf_RX13_164 rfl (v := .int (g1 6)) rfl ?_
      refine zs_as (y := nI (nxt bt n L t).2.1) (hT1.2.1 (by omega)).2.1 ?_
      refine zs_isub dX13_readCells_46 ?_
      refine zs_as (y := nI (((nxt bt n L t).2.2.1) - ((nxt bt n L t).2.1))) (nI_sub (by omega)) ?_
      refine zs_istore_n (lv' := [(2, .int (nI (((nxt bt n L t).2.2.1) - ((nxt bt n L t).2.1)))), (1, .int (nI (D.1 15))), (0, .ref mo)]) dX13_readCells_47 (Nat.le_of_ble_eq_true rfl) rfl ?_
      refine zs_iload_n dX13_readCells_48 rfl ?_
      refine zs_if_le (tgt := 69) dX13_readCells_49 (by decide) (fun c_3 => ?_) (fun c_3 => ?_)
      · have c_3 : (D.1 15) ≤ 0 := by have hc := c_3; rw [show (0 : Int32) = nI 0 from rfl] at hc; rw [nI_le' (by omega) (by omega)] at hc; exact hc
        refine zs_aload_n dX13_readCells_69 rfl rfl ?_
        refine zs_get 0 dX13_readCells_70 zf_RX13_16 rfl (v := .ref (e 15)) rfl ?_
        refine zs_bipush (v := nI 9) dX13_readCells_73 (by decide) ?_
        refine zs_iload_n dX13_readCells_75 rfl ?_
        refine zs_iast 2 dX13_readCells_76 rfl (vp_in_nI (by omega) (by omega)) ?_
        rw [nI_c (n := 9) (by omega)]
        show zS _ _ _ _ _ _ [(mo, .inr (11, fMo e g1 w1)), ((e 1), .inl (0, 740, .inl (nF bt))), ((e 15), .inl (0, 200, .inl (upd rf 9 (nI (((nxt bt n L t).2.2.1) - ((nxt bt n L t).2.1)))))), ((e 19), .inl (2, 12, .inr (.inl rn)))]
        refine zs_iconst (v := nI 0) dX13_readCells_77 (by decide) ?_
        refine zs_istore_n (lv' := [(3, .int (nI 0)), (2, .int (nI (((nxt bt n L t).2.2.1) - ((nxt bt n L t).2.1)))), (1, .int (nI (D.1 15))), (0, .ref mo)]) dX13_readCells_78 (Nat.le_of_ble_eq_true rfl) rfl ?_
        refine zs_lv [3, 2, 1, 0] rfl ?_
        refine lp_mcells mo e n L bt t D rn g1 w1 hn hbt hT1 hk3 (by omega) hl8 hD.1 (fun rf2 hy2 => ?_) ((nxt bt n L t).2.2.1 - (nxt bt n L t).2.1) 0 _ (Nat.zero_add _) (yR_p9 hRd.1)
        refine zs_aload_n dX13_readCells_117 rfl rfl ?_
        refine zs_get 0 dX13_readCells_118 zf_RX13_16 rfl (v := .ref (e 15)) rfl ?_
        refine zs_bipush (v := nI 10) dX13_readCells_121 (by decide) ?_
        refine zs_dup2 dX13_readCells_123 rfl rfl ?_
        refine zs_iald 2 dX13_readCells_124 rfl (vp_in_nI (by omega) (by omega)) ?_
        refine zs_as (y := nI (D.1 15)) (by rw [nI_c (n := 10) (by omega)]; exact hy2.2.2.2.2.2.2.2.2.2.2.1) ?_
        refine zs_iconst (v := nI 1) dX13_readCells_125 (by decide) ?_
        refine zs_iadd dX13_readCells_126 ?_
        refine zs_as (y := nI ((D.1 15) + 1)) (nI_add _ _) ?_
        refine zs_iast 2 dX13_readCells_127 rfl (vp_in_nI (by omega) (by omega)) ?_
        rw [nI_c (n := 10) (by omega)]
        show zS _ _ _ _ _ _ [(mo, .inr (11, fMo e g1 w1)), ((e 1), .inl (0, 740, .inl (nF bt))), ((e 15), .inl (0, 200, .inl (upd rf2 10 (nI ((D.1 15) + 1))))), ((e 19), .inl (2, 12, .inr (.inl rn)))]
        refine zs_aload_n dX13_readCells_128 rfl rfl ?_
        refine zs_callV (M := mX13_go) (As := []) (st := []) (Kc := [(mo, .inr (11, fMo e g1 w1)), ((e 1), .inl (0, 740, .inl (nF bt)))]) (Kr := [((e 15), .inl (0, 200, .inl (upd rf2 10 (nI ((D.1 15) + 1))))), ((e 19), .inl (2, 12, .inr (.inl rn)))]) [0, 1] [2, 3] 0 dX13_readCells_129 zl_RX13_226 kX13_go rfl rfl rfl rfl rfl (by decide) rfl rfl (show dd - 1 + 1 ≤ dd by omega) (Nat.zero_le _) (Nat.zero_le _) (Nat.le_of_ble_eq_true rfl) (s_mGoT l (dd - 1) mo e g1 w1 n L bt (nxt bt n L t) (by omega) hn hL hbt h3_1 h4_1 hT1 (nxt_W (b := bt) (n := n) (L := L) (τ := t)) (show ¬ (nxt bt n L t).1 = 0 by omega)) (fun r K1 hr => ?_)
        obtain ⟨rfl, g2, w2, hfr2, hT2, rfl⟩ := hr
        refine zs_K (K' := [(mo, .inr (11, fMo e g2 w2)), ((e 1), .inl (0, 740, .inl (nF bt))), ((e 15), .inl (0, 200, .inl (upd rf2 10 (nI ((D.1 15) + 1))))), ((e 19), .inl (2, 12, .inr (.inl rn)))]) [2, 3, 0, 1] rfl (by decide) ?_
        have fr2 : mFr [5, 6, 7, 8, 9, 13, 23] g g2 := mFr_t (fr1 : mFr [5, 6, 7, 8, 9, 13, 23] g g1) hfr2 (by decide) (by decide)
        have h3_2 : g2 3 = nI n := (hfr2 3 (by decide)).trans h3_1
        have h4_2 : g2 4 = nI L := (hfr2 4 (by decide)).trans h4_1
        have h23_2 : g2 23 = g1 23 := hfr2 23 (by decide)
        have hO_2 := nxt_OK (L := L) (τ := (nxt bt n L t)) hbt hn
        have h14_2 := hO_2.1
        have hkd_2 := mKd_4 (n := n) (L := L) hO_2.1
        refine zs_iconst (v := nI 1) dX13_readCells_132 (by decide) ?_
        have er : (pCells bt n L t tk D) = (0, (nxt bt n L (nxt bt n L t)), tk, (un (un D.1 14 ((nxt bt n L t).2.2.1 - (nxt bt n L t).2.1)) 15 (D.1 15 + 1), D.2.1, D.2.2.1, D.2.2.2.1, D.2.2.2.2.1, D.2.2.2.2.2.1, dFu bt (nxt bt n L t).2.1 (D.1 15 * ((nxt bt n L t).2.2.1 - (nxt bt n L t).2.1)) D.2.2.2.2.2.2.1 ((nxt bt n L t).2.2.1 - (nxt bt n L t).2.1), D.2.2.2.2.2.2.2)) := by rw [pCells, if_neg (show ¬ 8 ≤ D.1 15 by omega), if_neg (fun h => h hk3), if_neg (show ¬ 8 < ((nxt bt n L t).2.2.1 - (nxt bt n L t).2.1) by omega), if_pos (show D.1 15 = 0 by omega)] <;> rfl
        exact zs_zret dX13_readCells_133 rfl (Or.inr rfl) (Or.inl ⟨by rw [er], rfl, g2, w2, (upd rf2 10 (nI ((D.1 15) + 1))), rn, fr2, by rw [er]; exact hT2, by rw [er]; exact nxt_W, by rw [er]; exact ⟨yR_p10 (D := (un D.1 14 ((nxt bt n L t).2.2.1 - (nxt bt n L t).2.1), D.2.1, D.2.2.1, D.2.2.2.1, D.2.2.2.2.1, D.2.2.2.2.2.1, dFu bt (nxt bt n L t).2.1 (D.1 15 * ((nxt bt n L t).2.2.1 - (nxt bt n L t).2.1)) D.2.2.2.2.2.2.1 ((nxt bt n L t).2.2.1 - (nxt bt n L t).2.1), D.2.2.2.2.2.2.2)) hy2, fun j hj => hRd.2.1 j hj, (h23_2.trans h23_1).trans hRd.2.2⟩, rfl⟩)
      · have c_3 : ¬ ((D.1 15) ≤ 0) := by have hc := c_3; rw [show (0 : Int32) = nI 0 from rfl] at hc; rw [nI_le' (by omega) (by omega)] at hc; exact hc
        refine zs_iload_n dX13_readCells_52 rfl ?_
        refine zs_aload_n dX13_readCells_53 rfl rfl ?_
        refine zs_get 0 dX13_readCells_54 zf_RX13_16 rfl (v := .ref (e 15)) rfl ?_
        refine zs_bipush (v := nI 9) dX13_readCells_57 (by decide) ?_
        refine zs_iald 2 dX13_readCells_59 rfl (vp_in_nI (by omega) (by omega)) ?_
        refine zs_as (y := nI (D.1 14)) (by rw [nI_c (n := 9) (by omega)]; exact hRd.1.2.2.2.2.2.2.2.2.2.1) ?_
        refine zs_icmp_eq (tgt := 69) dX13_readCells_60 (by decide) (fun c_4 => ?_) (fun c_4 => ?_)
        · have c_4 : (((nxt bt n L t).2.2.1) - ((nxt bt n L t).2.1)) = (D.1 14) := by have hc := c_4; rw [nI_eq' (by omega) (by omega)] at hc; exact hc
          refine zs_aload_n dX13_readCells_69 rfl rfl ?_
          refine zs_get 0 dX13_readCells_70 zf_RX13_16 rfl (v := .ref (e 15)) rfl ?_
          refine zs_bipush (v := nI 9) dX13_readCells_73 (by decide) ?_
          refine zs_iload_n dX13_readCells_75 rfl ?_
          refine zs_iast 2 dX13_readCells_76 rfl (vp_in_nI (by omega) (by omega)) ?_
          rw [nI_c (n := 9) (by omega)]
          show zS _ _ _ _ _ _ [(mo, .inr (11, fMo e g1 w1)), ((e 1), .inl (0, 740, .inl (nF bt))), ((e 15), .inl (0, 200, .inl (upd rf 9 (nI (((nxt bt n L t).2.2.1) - ((nxt bt n L t).2.1)))))), ((e 19), .inl (2, 12, .inr (.inl rn)))]
          refine zs_iconst (v := nI 0) dX13_readCells_77 (by decide) ?_
          refine zs_istore_n (lv' := [(3, .int (nI 0)), (2, .int (nI (((nxt bt n L t).2.2.1) - ((nxt bt n L t).2.1)))), (1, .int (nI (D.1 15))), (0, .ref mo)]) dX13_readCells_78 (Nat.le_of_ble_eq_true rfl) rfl ?_
          refine zs_lv [3, 2, 1, 0] rfl ?_
          refine lp_mcells mo e n L bt t D rn g1 w1 hn hbt hT1 hk3 (by omega) hl8 hD.1 (fun rf2 hy2 => ?_) ((nxt bt n L t).2.2.1 - (nxt bt n L t).2.1) 0 _ (Nat.zero_add _) (yR_p9 hRd.1)
          refine zs_aload_n dX13_readCells_117 rfl rfl ?_
          refine zs_get 0 dX13_readCells_118 zf_RX13_16 rfl (v := .ref (e 15)) rfl ?_
          refine zs_bipush (v := nI 10) dX13_readCells_121 (by decide) ?_
          refine zs_dup2 dX13_readCells_123 rfl rfl ?_
          refine zs_iald 2 dX13_readCells_124 rfl (vp_in_nI (by omega) (by omega)) ?_
          refine zs_as (y := nI (D.1 15)) (by rw [nI_c (n := 10) (by omega)]; exact hy2.2.2.2.2.2.2.2.2.2.2.1) ?_
          refine zs_iconst (v := nI 1) dX13_readCells_125 (by decide) ?_
          refine zs_iadd dX13_readCells_126 ?_
          refine zs_as (y := nI ((D.1 15) + 1)) (nI_add _ _) ?_
          refine zs_iast 2 dX13_readCells_127 rfl (vp_in_nI (by omega) (by omega)) ?_
          rw [nI_c (n := 10) (by omega)]
          show zS _ _ _ _ _ _ [(mo, .inr (11, fMo e g1 w1)), ((e 1), .inl (0, 740, .inl (nF bt))), ((e 15), .inl (0, 200, .inl (upd rf2 10 (nI ((D.1 15) + 1))))), ((e 19), .inl (2, 12, .inr (.inl rn)))]
          refine zs_aload_n dX13_readCells_128 rfl rfl ?_
          refine zs_callV (M := mX13_go) (As := []) (st := []) (Kc := [(mo, .inr (11, fMo e g1 w1)), ((e 1), .inl (0, 740, .inl (nF bt)))]) (Kr := [((e 15), .inl (0, 200, .inl (upd rf2 10 (nI ((D.1 15) + 1))))), ((e 19), .inl (2, 12, .inr (.inl rn)))]) [0, 1] [2, 3] 0 dX13_readCells_129 zl_RX13_226 kX13_go rfl rfl rfl rfl rfl (by decide) rfl rfl (show dd - 1 + 1 ≤ dd by omega) (Nat.zero_le _) (Nat.zero_le _) (Nat.le_of_ble_eq_true rfl) (s_mGoT l (dd - 1) mo e g1 w1 n L bt (nxt bt n L t) (by omega) hn hL hbt h3_1 h4_1 hT1 (nxt_W (b := bt) (n := n) (L := L) (τ := t)) (show ¬ (nxt bt n L t).1 = 0 by omega)) (fun r K1 hr => ?_)
          obtain ⟨rfl, g2, w2, hfr2, hT2, rfl⟩ := hr
          refine zs_K (K' := [(mo, .inr (11, fMo e g2 w2)), ((e 1), .inl (0, 740, .inl (nF bt))), ((e 15), .inl (0, 200, .inl (upd rf2 10 (nI ((D.1 15) + 1))))), ((e 19), .inl (2, 12, .inr (.inl rn)))]) [2, 3, 0, 1] rfl (by decide) ?_
          have fr2 : mFr [5, 6, 7, 8, 9, 13, 23] g g2 := mFr_t (fr1 : mFr [5, 6, 7, 8, 9, 13, 23] g g1) hfr2 (by decide) (by decide)
          have h3_2 : g2 3 = nI n := (hfr2 3 (by decide)).trans h3_1
          have h4_2 : g2 4 = nI L := (hfr2 4 (by decide)).trans h4_1
          have h23_2 : g2 23 = g1 23 := hfr2 23 (by decide)
          have hO_2 := nxt_OK (L := L) (τ := (nxt bt n L t)) hbt hn
          have h14_2 := hO_2.1
          have hkd_2 := mKd_4 (n := n) (L := L) hO_2.1
          refine zs_iconst (v := nI 1) dX13_readCells_132 (by decide) ?_
          have er : (pCells bt n L t tk D) = (0, (nxt bt n L (nxt bt n L t)), tk, (un (un D.1 14 ((nxt bt n L t).2.2.1 - (nxt bt n L t).2.1)) 15 (D.1 15 + 1), D.2.1, D.2.2.1, D.2.2.2.1, D.2.2.2.2.1, D.2.2.2.2.2.1, dFu bt (nxt bt n L t).2.1 (D.1 15 * ((nxt bt n L t).2.2.1 - (nxt bt n L t).2.1)) D.2.2.2.2.2.2.1 ((nxt bt n L t).2.2.1 - (nxt bt n L t).2.1), D.2.2.2.2.2.2.2)) := by rw [pCells, if_neg (show ¬ 8 ≤ D.1 15 by omega), if_neg (fun h => h hk3), if_neg (show ¬ 8 < ((nxt bt n L t).2.2.1 - (nxt bt n L t).2.1) by omega), if_neg (show ¬ D.1 15 = 0 by omega), if_pos c_4] <;> rfl
          exact zs_zret dX13_readCells_133 rfl (Or.inr rfl) (Or.inl ⟨by rw [er], rfl, g2, w2, (upd rf2 10 (nI ((D.1 15) + 1))), rn, fr2, by rw [er]; exact hT2, by rw [er]; exact nxt_W, by rw [er]; exact ⟨yR_p10 (D := (un D.1 14 ((nxt bt n L t).2.2.1 - (nxt bt n L t).2.1), D.2.1, D.2.2.1, D.2.2.2.1, D.2.2.2.2.1, D.2.2.2.2.2.1, dFu bt (nxt bt n L t).2.1 (D.1 15 * ((nxt bt n L t).2.2.1 - (nxt bt n L t).2.1)) D.2.2.2.2.2.2.1 ((nxt bt n L t).2.2.1 - (nxt bt n L t).2.1), D.2.2.2.2.2.2.2)) hy2, fun j hj => hRd.2.1 j hj, (h23_2.trans h23_1).trans hRd.2.2⟩, rfl⟩)
        · have c_4 : ¬ ((((nxt bt n L t).2.2.1) - ((nxt bt n L t).2.1)) = (D.1 14)) := by have hc := c_4; rw [nI_eq' (by omega) (by omega)] at hc; exact hc
          refine zs_aload_n dX13_readCells_63 rfl rfl ?_
          refine zs_iconst (v := nI 2) dX13_readCells_64 (by decide) ?_
          refine zs_callV (M := mX13_bad) (As := [.int (nI 2)]) (st := []) (Kc := [(mo, .inr (11, fMo e g1 w1))]) (Kr := [((e 1), .inl (0, 740, .inl (nF bt))), ((e 15), .inl (0, 200, .inl rf)), ((e 19), .inl (2, 12, .inr (.inl rn)))]) [0] [1, 2, 3] 0 dX13_readCells_65 zl_RX13_216 kX13_bad rfl rfl rfl rfl rfl (by decide) rfl rfl (show dd - 1 + 1 ≤ dd by omega) (Nat.zero_le _) (Nat.zero_le _) (Nat.le_of_ble_eq_true rfl) (s_mBad l (dd - 1) mo e g1 w1 n L (nxt bt n L t) 2 hT1 (nxt_W (b := bt) (n := n) (L := L) (τ := t)) hO_1) (fun r K1 hr => ?_)
          rw [mBad_e (by first | (intro; rfl) | (intro h; unfold mKd at h; split at h <;> omega))] at hr
          obtain ⟨rfl, rfl⟩ := hr
          refine zs_K (K' := [(mo, .inr (11, fMo e (mFa g1 2 (nxt bt n L t)) w1)), ((e 1), .inl (0, 740, .inl (nF bt))), ((e 15), .inl (0, 200, .inl rf)), ((e 19), .inl (2, 12, .inr (.inl rn)))]) [3, 0, 1, 2] rfl (by decide) ?_
          have e1 : (pCells bt n L t tk D).1 = 2 ∧ (pCells bt n L t tk D).2.1 = (nxt bt n L t) := by rw [pCells, if_neg (show ¬ 8 ≤ D.1 15 by omega), if_neg (fun h => h hk3), if_neg (show ¬ 8 < ((nxt bt n L t).2.2.1 - (nxt bt n L t).2.1) by omega), if_neg (show ¬ D.1 15 = 0 by omega), if_neg c_4]; exact ⟨rfl, rfl⟩
          exact zs_zret dX13_readCells_68 rfl (Or.inl rfl) (Or.inr ⟨by rw [e1.1]; exact (show ¬ 2 = 0 by decide), rfl, mFa g1 2 (nxt bt n L t), w1, rf, rn, mFr_fa fr1 (by decide) (by decide), by rw [e1.1]; rfl, by rw [e1.2]; rfl, rfl⟩)
    · have c_2 : ¬ ((mKd n L (nxt bt n L t)) = 3) := by have hc := c_2; rw [nI_eq' (by omega) (by omega)] at hc; exact hc
      refine zs_aload_n dX13_readCells_32 rfl rfl ?_
      refine zs_iconst (v := nI 1) dX13_readCells_33 (by decide) ?_
      refine zs_callV (M := mX13_bad) (As := [.int (nI 1)]) (st := []) (Kc := [(mo, .inr (11, fMo e g1 w1))]) (Kr := [((e 1), .inl (0, 740, .inl (nF bt))), ((e 15), .inl (0, 200, .inl rf)), ((e 19), .inl (2, 12, .inr (.inl rn)))]) [0] [1, 2, 3] 0 dX13_readCells_34 zl_RX13_216 kX13_bad rfl rfl rfl rfl rfl (by decide) rfl rfl (show dd - 1 + 1 ≤ dd by omega) (Nat.zero_le _) (Nat.zero_le _) (Nat.le_of_ble_eq_true rfl) (s_mBad l (dd - 1) mo e g1 w1 n L (nxt bt n L t) 1 hT1 (nxt_W (b := bt) (n := n) (L := L) (τ := t)) hO_1) (fun r K1 hr => ?_)
      rw [mBad_e (by first | (intro; rfl) | (intro h; unfold mKd at h; split at h <;> omega))] at hr
      obtain ⟨rfl, rfl⟩ := hr
      refine zs_K (K' := [(mo, .inr (11, fMo e (mFa g1 1 (nxt bt n L t)) w1)), ((e 1), .inl (0, 740, .inl (nF bt))), ((e 15), .inl (0, 200, .inl rf)), ((e 19), .inl (2, 12, .inr (.inl rn)))]) [3, 0, 1, 2] rfl (by decide) ?_
      have e1 : (pCells bt n L t tk D).1 = 1 ∧ (pCells bt n L t tk D).2.1 = (nxt bt n L t) := by rw [pCells, if_neg (show ¬ 8 ≤ D.1 15 by omega), if_pos (show ¬ (nxt bt n L t).1 = 3 from fun h => c_2 ((mKd_n (by decide)).mpr h))]; exact ⟨rfl, rfl⟩
      exact zs_zret dX13_readCells_37 rfl (Or.inl rfl) (Or.inr ⟨by rw [e1.1]; exact (show ¬ 1 = 0 by decide), rfl, mFa g1 1 (nxt bt n L t), w1, rf, rn, mFr_fa fr1 (by decide) (by decide), by rw [e1.1]; rfl, by rw [e1.2]; rfl, rfl⟩)
  · have c_1 : (D.1 15) = 8 := by have hc := c_1; rw [nI_eq' (by omega) (by omega)] at hc; exact hc
    refine zs_aload_n dX13_readCells_14 rfl rfl ?_
    refine zs_iconst (v := nI 4) dX13_readCells_15 (by decide) ?_
    refine zs_callV (M := mX13_bad) (As := [.int (nI 4)]) (st := []) (Kc := [(mo, .inr (11, fMo e g w))]) (Kr := [((e 1), .inl (0, 740, .inl (nF bt))), ((e 15), .inl (0, 200, .inl rf)), ((e 19), .inl (2, 12, .inr (.inl rn)))]) [0] [1, 2, 3] 0 dX13_readCells_16 zl_RX13_216 kX13_bad rfl rfl rfl rfl rfl (by decide) rfl rfl (show dd - 1 + 1 ≤ dd by omega) (Nat.zero_le _) (Nat.zero_le _) (Nat.le_of_ble_eq_true rfl) (s_mBad l (dd - 1) mo e g w n L t 4 hT hW hO) (fun r K1 hr => ?_)
    rw [mBad_e (by first | (intro; rfl) | (intro h; unfold mKd at h; split at h <;> omega))] at hr
    obtain ⟨rfl, rfl⟩ := hr
    refine zs_K (K' := [(mo, .inr (11, fMo e (mFa g 4 t) w)), ((e 1), .inl (0, 740, .inl (nF bt))), ((e 15), .inl (0, 200, .inl rf)), ((e 19), .inl (2, 12, .inr (.inl rn)))]) [3, 0, 1, 2] rfl (by decide) ?_
    have e1 : (pCells bt n L t tk D).1 = 4 ∧ (pCells bt n L t tk D).2.1 = t := by rw [pCells, if_pos (show 8 ≤ D.1 15 by omega)]; exact ⟨rfl, rfl⟩
    exact zs_zret dX13_readCells_19 rfl (Or.inl rfl) (Or.inr ⟨by rw [e1.1]; exact (show ¬ 4 = 0 by decide), rfl, mFa g 4 t, w, rf, rn, mFr_fa mFr_r (by decide) (by decide), by rw [e1.1]; rfl, by rw [e1.2]; rfl, rfl⟩)
