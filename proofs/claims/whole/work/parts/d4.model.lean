/-! ===== the reference: hooks() ===== -/
theorem dX13_hooks_0 : decode cX13_hooks 0 = .ok (.aload_n 0, 1) := by decide +kernel
theorem dX13_hooks_1 : decode cX13_hooks 1 = .ok (.iconst 0, 1) := by decide +kernel
theorem dX13_hooks_2 : decode cX13_hooks 2 = .ok (.putfield 148, 3) := by decide +kernel
theorem dX13_hooks_5 : decode cX13_hooks 5 = .ok (.aload_n 0, 1) := by decide +kernel
theorem dX13_hooks_6 : decode cX13_hooks 6 = .ok (.aload_n 0, 1) := by decide +kernel
theorem dX13_hooks_7 : decode cX13_hooks 7 = .ok (.invokevirtual 235, 3) := by decide +kernel
theorem dX13_hooks_10 : decode cX13_hooks 10 = .ok (.putfield 411, 3) := by decide +kernel
theorem dX13_hooks_13 : decode cX13_hooks 13 = .ok (.aload_n 0, 1) := by decide +kernel
theorem dX13_hooks_14 : decode cX13_hooks 14 = .ok (.getfield 411, 3) := by decide +kernel
theorem dX13_hooks_17 : decode cX13_hooks 17 = .ok (.iconst 1, 1) := by decide +kernel
theorem dX13_hooks_18 : decode cX13_hooks 18 = .ok (.bipush 12, 2) := by decide +kernel
theorem dX13_hooks_20 : decode cX13_hooks 20 = .ok (.invokestatic 219, 3) := by decide +kernel
theorem dX13_hooks_23 : decode cX13_hooks 23 = .ok (.ifCond .eq 21, 3) := by decide +kernel
theorem dX13_hooks_26 : decode cX13_hooks 26 = .ok (.iload_n 1, 1) := by decide +kernel
theorem dX13_hooks_27 : decode cX13_hooks 27 = .ok (.iconst 1, 1) := by decide +kernel
theorem dX13_hooks_28 : decode cX13_hooks 28 = .ok (.bipush 6, 2) := by decide +kernel
theorem dX13_hooks_30 : decode cX13_hooks 30 = .ok (.invokestatic 219, 3) := by decide +kernel
theorem dX13_hooks_33 : decode cX13_hooks 33 = .ok (.ifCond .eq 11, 3) := by decide +kernel
theorem dX13_hooks_36 : decode cX13_hooks 36 = .ok (.iload_n 1, 1) := by decide +kernel
theorem dX13_hooks_37 : decode cX13_hooks 37 = .ok (.aload_n 0, 1) := by decide +kernel
theorem dX13_hooks_38 : decode cX13_hooks 38 = .ok (.getfield 411, 3) := by decide +kernel
theorem dX13_hooks_41 : decode cX13_hooks 41 = .ok (.if_icmp .le 5, 3) := by decide +kernel
theorem dX13_hooks_44 : decode cX13_hooks 44 = .ok (.iconst (-1), 1) := by decide +kernel
theorem dX13_hooks_45 : decode cX13_hooks 45 = .ok (.ireturn, 1) := by decide +kernel
theorem dX13_hooks_46 : decode cX13_hooks 46 = .ok (.iconst 0, 1) := by decide +kernel
theorem dX13_hooks_47 : decode cX13_hooks 47 = .ok (.istore_n 2, 1) := by decide +kernel
theorem dX13_hooks_48 : decode cX13_hooks 48 = .ok (.iload_n 2, 1) := by decide +kernel
theorem dX13_hooks_49 : decode cX13_hooks 49 = .ok (.aload_n 0, 1) := by decide +kernel
theorem dX13_hooks_50 : decode cX13_hooks 50 = .ok (.getfield 411, 3) := by decide +kernel
theorem dX13_hooks_53 : decode cX13_hooks 53 = .ok (.if_icmp .ge 55, 3) := by decide +kernel
theorem dX13_hooks_56 : decode cX13_hooks 56 = .ok (.aload_n 0, 1) := by decide +kernel
theorem dX13_hooks_57 : decode cX13_hooks 57 = .ok (.getfield 7, 3) := by decide +kernel
theorem dX13_hooks_60 : decode cX13_hooks 60 = .ok (.iload_n 2, 1) := by decide +kernel
theorem dX13_hooks_61 : decode cX13_hooks 61 = .ok (.iaload, 1) := by decide +kernel
theorem dX13_hooks_62 : decode cX13_hooks 62 = .ok (.bipush 99, 2) := by decide +kernel
theorem dX13_hooks_64 : decode cX13_hooks 64 = .ok (.if_icmp .gt 24, 3) := by decide +kernel
theorem dX13_hooks_67 : decode cX13_hooks 67 = .ok (.iload_n 2, 1) := by decide +kernel
theorem dX13_hooks_68 : decode cX13_hooks 68 = .ok (.ifCond .le 22, 3) := by decide +kernel
theorem dX13_hooks_71 : decode cX13_hooks 71 = .ok (.aload_n 0, 1) := by decide +kernel
theorem dX13_hooks_72 : decode cX13_hooks 72 = .ok (.getfield 7, 3) := by decide +kernel
theorem dX13_hooks_75 : decode cX13_hooks 75 = .ok (.iload_n 2, 1) := by decide +kernel
theorem dX13_hooks_76 : decode cX13_hooks 76 = .ok (.iaload, 1) := by decide +kernel
theorem dX13_hooks_77 : decode cX13_hooks 77 = .ok (.aload_n 0, 1) := by decide +kernel
theorem dX13_hooks_78 : decode cX13_hooks 78 = .ok (.getfield 7, 3) := by decide +kernel
theorem dX13_hooks_81 : decode cX13_hooks 81 = .ok (.iload_n 2, 1) := by decide +kernel
theorem dX13_hooks_82 : decode cX13_hooks 82 = .ok (.iconst 1, 1) := by decide +kernel
theorem dX13_hooks_83 : decode cX13_hooks 83 = .ok (.isub, 1) := by decide +kernel
theorem dX13_hooks_84 : decode cX13_hooks 84 = .ok (.iaload, 1) := by decide +kernel
theorem dX13_hooks_85 : decode cX13_hooks 85 = .ok (.if_icmp .gt 5, 3) := by decide +kernel
theorem dX13_hooks_88 : decode cX13_hooks 88 = .ok (.iconst (-1), 1) := by decide +kernel
theorem dX13_hooks_89 : decode cX13_hooks 89 = .ok (.ireturn, 1) := by decide +kernel
theorem dX13_hooks_90 : decode cX13_hooks 90 = .ok (.aload_n 0, 1) := by decide +kernel
theorem dX13_hooks_91 : decode cX13_hooks 91 = .ok (.getfield 93, 3) := by decide +kernel
theorem dX13_hooks_94 : decode cX13_hooks 94 = .ok (.iload_n 2, 1) := by decide +kernel
theorem dX13_hooks_95 : decode cX13_hooks 95 = .ok (.aload_n 0, 1) := by decide +kernel
theorem dX13_hooks_96 : decode cX13_hooks 96 = .ok (.getfield 7, 3) := by decide +kernel
theorem dX13_hooks_99 : decode cX13_hooks 99 = .ok (.iload_n 2, 1) := by decide +kernel
theorem dX13_hooks_100 : decode cX13_hooks 100 = .ok (.iaload, 1) := by decide +kernel
theorem dX13_hooks_101 : decode cX13_hooks 101 = .ok (.iastore, 1) := by decide +kernel
theorem dX13_hooks_102 : decode cX13_hooks 102 = .ok (.iinc 2 1, 3) := by decide +kernel
theorem dX13_hooks_105 : decode cX13_hooks 105 = .ok (.goto (-57), 3) := by decide +kernel
theorem dX13_hooks_108 : decode cX13_hooks 108 = .ok (.aload_n 0, 1) := by decide +kernel
theorem dX13_hooks_109 : decode cX13_hooks 109 = .ok (.iconst (-1), 1) := by decide +kernel
theorem dX13_hooks_110 : decode cX13_hooks 110 = .ok (.putfield 414, 3) := by decide +kernel
theorem dX13_hooks_113 : decode cX13_hooks 113 = .ok (.aload_n 0, 1) := by decide +kernel
theorem dX13_hooks_114 : decode cX13_hooks 114 = .ok (.iconst 0, 1) := by decide +kernel
theorem dX13_hooks_115 : decode cX13_hooks 115 = .ok (.iload_n 1, 1) := by decide +kernel
theorem dX13_hooks_116 : decode cX13_hooks 116 = .ok (.iconst 0, 1) := by decide +kernel
theorem dX13_hooks_117 : decode cX13_hooks 117 = .ok (.invokevirtual 417, 3) := by decide +kernel
theorem dX13_hooks_120 : decode cX13_hooks 120 = .ok (.aload_n 0, 1) := by decide +kernel
theorem dX13_hooks_121 : decode cX13_hooks 121 = .ok (.iload_n 1, 1) := by decide +kernel
theorem dX13_hooks_122 : decode cX13_hooks 122 = .ok (.putfield 420, 3) := by decide +kernel
theorem dX13_hooks_125 : decode cX13_hooks 125 = .ok (.iconst 0, 1) := by decide +kernel
theorem dX13_hooks_126 : decode cX13_hooks 126 = .ok (.istore_n 2, 1) := by decide +kernel
theorem dX13_hooks_127 : decode cX13_hooks 127 = .ok (.iload_n 2, 1) := by decide +kernel
theorem dX13_hooks_128 : decode cX13_hooks 128 = .ok (.iload_n 1, 1) := by decide +kernel
theorem dX13_hooks_129 : decode cX13_hooks 129 = .ok (.if_icmp .ge 21, 3) := by decide +kernel
theorem dX13_hooks_132 : decode cX13_hooks 132 = .ok (.aload_n 0, 1) := by decide +kernel
theorem dX13_hooks_133 : decode cX13_hooks 133 = .ok (.getfield 102, 3) := by decide +kernel
theorem dX13_hooks_136 : decode cX13_hooks 136 = .ok (.iload_n 2, 1) := by decide +kernel
theorem dX13_hooks_137 : decode cX13_hooks 137 = .ok (.aload_n 0, 1) := by decide +kernel
theorem dX13_hooks_138 : decode cX13_hooks 138 = .ok (.getfield 99, 3) := by decide +kernel
theorem dX13_hooks_141 : decode cX13_hooks 141 = .ok (.iload_n 2, 1) := by decide +kernel
theorem dX13_hooks_142 : decode cX13_hooks 142 = .ok (.iaload, 1) := by decide +kernel
theorem dX13_hooks_143 : decode cX13_hooks 143 = .ok (.iastore, 1) := by decide +kernel
theorem dX13_hooks_144 : decode cX13_hooks 144 = .ok (.iinc 2 1, 3) := by decide +kernel
theorem dX13_hooks_147 : decode cX13_hooks 147 = .ok (.goto (-20), 3) := by decide +kernel
theorem dX13_hooks_150 : decode cX13_hooks 150 = .ok (.aload_n 0, 1) := by decide +kernel
theorem dX13_hooks_151 : decode cX13_hooks 151 = .ok (.getfield 414, 3) := by decide +kernel
theorem dX13_hooks_154 : decode cX13_hooks 154 = .ok (.ireturn, 1) := by decide +kernel
set_option maxRecDepth 100000 in
theorem lp_mh1 {l : Launch} {dd : Nat} {Po : zPo} {K0 : zK} {h0 : List va_E} {Xo : zK → Prop} {Gc : zG → Prop} (mo : Nat) (e : Nat → Nat) (g : Nat → Int32) (w : Int64) (bt : Nat → Nat) (n k : Nat) (hs hk hb : Nat → Nat) (bd : Nat → Int32) (hbt : ∀ j, bt j < 256) (hn : n ≤ 12) (h61 : g 61 = nI n) (hP : ∀ r K', (¬ hTdP bt n ∧ r = some (.int (-1)) ∧ ∃ hs', K' = [(mo, .inr (11, fMo e g w)), ((e 57), .inl (0, 12, .inl (nF hs'))), ((e 58), .inl (0, 6, .inl (nF hk))), ((e 59), .inl (0, 6, .inl (nF hb))), ((e 60), .inl (0, 6, .inl bd)), ((e 1), .inl (0, 740, .inl (nF bt)))]) → Po r K') (hkx : hTdP bt n → zS (l, mX13_hooks, dd, Po, K0, h0, Xo, Gc) 0 0 108 [(0, .ref mo), (1, .int (nI k))] [] [(mo, .inr (11, fMo e g w)), ((e 57), .inl (0, 12, .inl (nF (nCl bt hs n)))), ((e 58), .inl (0, 6, .inl (nF hk))), ((e 59), .inl (0, 6, .inl (nF hb))), ((e 60), .inl (0, 6, .inl bd)), ((e 1), .inl (0, 740, .inl (nF bt)))]) : ∀ (q i : Nat), i + q = n → (∀ x, x < i → bt x ≤ 99 ∧ (0 < x → bt (x - 1) < bt x)) → zS (l, mX13_hooks, dd, Po, K0, h0, Xo, Gc) 0 0 48 [(0, .ref mo), (1, .int (nI k)), (2, .int (nI i))] [] [(mo, .inr (11, fMo e g w)), ((e 57), .inl (0, 12, .inl (nF (nCl bt hs i)))), ((e 58), .inl (0, 6, .inl (nF hk))), ((e 59), .inl (0, 6, .inl (nF hb))), ((e 60), .inl (0, 6, .inl bd)), ((e 1), .inl (0, 740, .inl (nF bt)))] := by
  intro q
  induction q with
  | zero =>
    intro i hi hok
    refine zs_iload_n dX13_hooks_48 rfl ?_
    refine zs_aload_n dX13_hooks_49 rfl rfl ?_
    refine zs_get 0 dX13_hooks_50 zf_RX13_411 rfl (v := .int (g 61)) rfl ?_
    refine zs_as (y := nI n) h61 ?_
    refine zs_icmp_ge (tgt := 108) dX13_hooks_53 (by decide) (fun c_1 => ?_) (fun c_1 => (c_1 (by rw [show i = n by omega]; exact Int32.le_refl _) : False).elim)
    rw [show i = n by omega]
    refine zs_lv [0, 1] rfl ?_
    exact hkx (fun x hx => hok x (by omega))
  | succ q ih =>
    intro i hi hok
    refine zs_iload_n dX13_hooks_48 rfl ?_
    refine zs_aload_n dX13_hooks_49 rfl rfl ?_
    refine zs_get 0 dX13_hooks_50 zf_RX13_411 rfl (v := .int (g 61)) rfl ?_
    refine zs_as (y := nI n) h61 ?_
    refine zs_icmp_ge (tgt := 108) dX13_hooks_53 (by decide) (fun c_1 => (nI_ge (show i < n by omega) (by omega) c_1 : False).elim) (fun c_1 => ?_)
    refine zs_aload_n dX13_hooks_56 rfl rfl ?_
    refine zs_get 0 dX13_hooks_57 zf_RX13_7 rfl (v := .ref (e 1)) rfl ?_
    refine zs_iload_n dX13_hooks_60 rfl ?_
    refine zs_iald 5 dX13_hooks_61 rfl (vp_in_nI (by omega) (by omega)) ?_
    refine zs_as (y := nI (bt i)) (by rw [nI_c (n := i) (by omega)]; rfl) ?_
    refine zs_bipush (v := nI 99) dX13_hooks_62 (by decide) ?_
    have hb1 := hbt i
    have hb2 := hbt (i - 1)
    refine zs_icmp_gt (tgt := 88) dX13_hooks_64 (by decide) (fun c_2 => ?_) (fun c_2 => ?_)
    · have c_2 : 99 < (bt i) := by have hc := c_2; rw [nI_lt' (by omega) (by omega)] at hc; exact hc
      refine zs_iconst (v := (-1)) dX13_hooks_88 (by decide) ?_
      exact zs_iret dX13_hooks_89 rfl (hP _ _ ⟨(fun h => by have := (h i (by omega)).1; omega), rfl, nCl bt hs i, rfl⟩)
    · have c_2 : ¬ (99 < (bt i)) := by have hc := c_2; rw [nI_lt' (by omega) (by omega)] at hc; exact hc
      refine zs_iload_n dX13_hooks_67 rfl ?_
      refine zs_if_le (tgt := 90) dX13_hooks_68 (by decide) (fun c_3 => ?_) (fun c_3 => ?_)
      · have c_3 : i ≤ 0 := by have hc := c_3; rw [show (0 : Int32) = nI 0 from rfl] at hc; rw [nI_le' (by omega) (by omega)] at hc; exact hc
        refine zs_aload_n dX13_hooks_90 rfl rfl ?_
        refine zs_get 0 dX13_hooks_91 zf_RX13_93 rfl (v := .ref (e 57)) rfl ?_
        refine zs_iload_n dX13_hooks_94 rfl ?_
        refine zs_aload_n dX13_hooks_95 rfl rfl ?_
        refine zs_get 0 dX13_hooks_96 zf_RX13_7 rfl (v := .ref (e 1)) rfl ?_
        refine zs_iload_n dX13_hooks_99 rfl ?_
        refine zs_iald 5 dX13_hooks_100 rfl (vp_in_nI (by omega) (by omega)) ?_
        refine zs_as (y := nI (bt i)) (by rw [nI_c (n := i) (by omega)]; rfl) ?_
        refine zs_iast 1 dX13_hooks_101 rfl (vp_in_nI (by omega) (by omega)) ?_
        rw [nI_c (n := i) (by omega), nF_u]
        show zS _ _ _ _ _ _ [(mo, .inr (11, fMo e g w)), ((e 57), .inl (0, 12, .inl (nF (un (nCl bt hs i) i (bt i))))), ((e 58), .inl (0, 6, .inl (nF hk))), ((e 59), .inl (0, 6, .inl (nF hb))), ((e 60), .inl (0, 6, .inl bd)), ((e 1), .inl (0, 740, .inl (nF bt)))]
        refine zs_iinc (v := (nI (i + 1))) (lv' := [(2, .int (nI (i + 1))), (0, .ref mo), (1, .int (nI k))]) dX13_hooks_102 rfl (nI_add _ 1) (Nat.le_of_ble_eq_true rfl) rfl ?_
        refine zs_goto (tgt := 48) dX13_hooks_105 (by decide) ?_
        refine zs_lv [1, 2, 0] rfl ?_
        rw [nCl_u (new := bt) (old := hs) (k := i) rfl]
        exact ih (i + 1) (by omega) (fun x hx => (Nat.lt_or_eq_of_le (Nat.le_of_lt_succ hx)).elim (hok x) (fun z => z ▸ ⟨by omega, fun z2 => absurd z2 (by omega)⟩))
      · have c_3 : ¬ (i ≤ 0) := by have hc := c_3; rw [show (0 : Int32) = nI 0 from rfl] at hc; rw [nI_le' (by omega) (by omega)] at hc; exact hc
        refine zs_aload_n dX13_hooks_71 rfl rfl ?_
        refine zs_get 0 dX13_hooks_72 zf_RX13_7 rfl (v := .ref (e 1)) rfl ?_
        refine zs_iload_n dX13_hooks_75 rfl ?_
        refine zs_iald 5 dX13_hooks_76 rfl (vp_in_nI (by omega) (by omega)) ?_
        refine zs_as (y := nI (bt i)) (by rw [nI_c (n := i) (by omega)]; rfl) ?_
        refine zs_aload_n dX13_hooks_77 rfl rfl ?_
        refine zs_get 0 dX13_hooks_78 zf_RX13_7 rfl (v := .ref (e 1)) rfl ?_
        refine zs_iload_n dX13_hooks_81 rfl ?_
        refine zs_iconst (v := nI 1) dX13_hooks_82 (by decide) ?_
        refine zs_isub dX13_hooks_83 ?_
        refine zs_as (y := nI (i - 1)) (nI_sub (by omega)) ?_
        refine zs_iald 5 dX13_hooks_84 rfl (vp_in_nI (by omega) (by omega)) ?_
        refine zs_as (y := nI (bt (i - 1))) (by rw [nI_c (n := i - 1) (by omega)]; rfl) ?_
        refine zs_icmp_gt (tgt := 90) dX13_hooks_85 (by decide) (fun c_4 => ?_) (fun c_4 => ?_)
        · have c_4 : (bt (i - 1)) < (bt i) := by have hc := c_4; rw [nI_lt' (by omega) (by omega)] at hc; exact hc
          refine zs_aload_n dX13_hooks_90 rfl rfl ?_
          refine zs_get 0 dX13_hooks_91 zf_RX13_93 rfl (v := .ref (e 57)) rfl ?_
          refine zs_iload_n dX13_hooks_94 rfl ?_
          refine zs_aload_n dX13_hooks_95 rfl rfl ?_
          refine zs_get 0 dX13_hooks_96 zf_RX13_7 rfl (v := .ref (e 1)) rfl ?_
          refine zs_iload_n dX13_hooks_99 rfl ?_
          refine zs_iald 5 dX13_hooks_100 rfl (vp_in_nI (by omega) (by omega)) ?_
          refine zs_as (y := nI (bt i)) (by rw [nI_c (n := i) (by omega)]; rfl) ?_
          refine zs_iast 1 dX13_hooks_101 rfl (vp_in_nI (by omega) (by omega)) ?_
          rw [nI_c (n := i) (by omega), nF_u]
          show zS _ _ _ _ _ _ [(mo, .inr (11, fMo e g w)), ((e 57), .inl (0, 12, .inl (nF (un (nCl bt hs i) i (bt i))))), ((e 58), .inl (0, 6, .inl (nF hk))), ((e 59), .inl (0, 6, .inl (nF hb))), ((e 60), .inl (0, 6, .inl bd)), ((e 1), .inl (0, 740, .inl (nF bt)))]
          refine zs_iinc (v := (nI (i + 1))) (lv' := [(2, .int (nI (i + 1))), (0, .ref mo), (1, .int (nI k))]) dX13_hooks_102 rfl (nI_add _ 1) (Nat.le_of_ble_eq_true rfl) rfl ?_
          refine zs_goto (tgt := 48) dX13_hooks_105 (by decide) ?_
          refine zs_lv [1, 2, 0] rfl ?_
          rw [nCl_u (new := bt) (old := hs) (k := i) rfl]
          exact ih (i + 1) (by omega) (fun x hx => (Nat.lt_or_eq_of_le (Nat.le_of_lt_succ hx)).elim (hok x) (fun z => z ▸ ⟨by omega, fun _ => by omega⟩))
        · have c_4 : ¬ ((bt (i - 1)) < (bt i)) := by have hc := c_4; rw [nI_lt' (by omega) (by omega)] at hc; exact hc
          refine zs_iconst (v := (-1)) dX13_hooks_88 (by decide) ?_
          exact zs_iret dX13_hooks_89 rfl (hP _ _ ⟨(fun h => by have := (h i (by omega)).2 (by omega); omega), rfl, nCl bt hs i, rfl⟩)
set_option maxRecDepth 100000 in
theorem lp_mh2 {l : Launch} {dd : Nat} {Po : zPo} {K0 : zK} {h0 : List va_E} {Xo : zK → Prop} {Gc : zG → Prop} (mo : Nat) (e : Nat → Nat) (g : Nat → Int32) (w : Int64) (bt : Nat → Nat) (n k : Nat) (hs hk hb : Nat → Nat) (bd : Nat → Int32) (hkk : 1 ≤ k ∧ k ≤ 6)
    (hkx : zS (l, mX13_hooks, dd, Po, K0, h0, Xo, Gc) 0 0 150 [(0, .ref mo)] [] [(mo, .inr (11, fMo e g w)), ((e 57), .inl (0, 12, .inl (nF hs))), ((e 58), .inl (0, 6, .inl (nF hk))), ((e 59), .inl (0, 6, .inl (nF hb))), ((e 60), .inl (0, 6, .inl (pCl (nF hb) bd k))), ((e 1), .inl (0, 740, .inl (nF bt)))]) :
    ∀ (m i : Nat) , i + m = k → zS (l, mX13_hooks, dd, Po, K0, h0, Xo, Gc) 0 0 127 [(0, .ref mo), (1, .int (nI k)), (2, .int (nI i))] [] [(mo, .inr (11, fMo e g w)), ((e 57), .inl (0, 12, .inl (nF hs))), ((e 58), .inl (0, 6, .inl (nF hk))), ((e 59), .inl (0, 6, .inl (nF hb))), ((e 60), .inl (0, 6, .inl (pCl (nF hb) bd i))), ((e 1), .inl (0, 740, .inl (nF bt)))] := by
  intro m
  induction m with
  | zero =>
    intro i hi
    refine zs_iload_n dX13_hooks_127 rfl ?_
    refine zs_iload_n dX13_hooks_128 rfl ?_
    refine zs_icmp_ge (tgt := 150) dX13_hooks_129 (by decide) (fun c_1 => ?_) (fun c_1 => (c_1 (by rw [show i = k by omega]; exact Int32.le_refl _) : False).elim)
    rw [show i = k by omega]
    refine zs_lv [0] rfl ?_
    exact hkx
  | succ m ih =>
    intro i hi
    refine zs_iload_n dX13_hooks_127 rfl ?_
    refine zs_iload_n dX13_hooks_128 rfl ?_
    refine zs_icmp_ge (tgt := 150) dX13_hooks_129 (by decide) (fun c_1 => (nI_ge (show i < k by omega) (by omega) c_1 : False).elim) (fun c_1 => ?_)
    refine zs_aload_n dX13_hooks_132 rfl rfl ?_
    refine zs_get 0 dX13_hooks_133 zf_RX13_102 rfl (v := .ref (e 60)) rfl ?_
    refine zs_iload_n dX13_hooks_136 rfl ?_
    refine zs_aload_n dX13_hooks_137 rfl rfl ?_
    refine zs_get 0 dX13_hooks_138 zf_RX13_99 rfl (v := .ref (e 59)) rfl ?_
    refine zs_iload_n dX13_hooks_141 rfl ?_
    refine zs_iald 3 dX13_hooks_142 rfl (vp_in_nI (by omega) (by omega)) ?_
    refine zs_as (y := nI (hb i)) (by rw [nI_c (n := i) (by omega)]; rfl) ?_
    refine zs_iast 4 dX13_hooks_143 rfl (vp_in_nI (by omega) (by omega)) ?_
    rw [nI_c (n := i) (by omega)]
    rw [pCl_u (new := nF hb) (old := bd) (k := i) (x := nI (hb i)) rfl]
    show zS _ _ _ _ _ _ [(mo, .inr (11, fMo e g w)), ((e 57), .inl (0, 12, .inl (nF hs))), ((e 58), .inl (0, 6, .inl (nF hk))), ((e 59), .inl (0, 6, .inl (nF hb))), ((e 60), .inl (0, 6, .inl (pCl (nF hb) bd (i + 1)))), ((e 1), .inl (0, 740, .inl (nF bt)))]
    refine zs_iinc (v := (nI (i + 1))) (lv' := [(2, .int (nI (i + 1))), (0, .ref mo), (1, .int (nI k))]) dX13_hooks_144 rfl (nI_add _ 1) (Nat.le_of_ble_eq_true rfl) rfl ?_
    refine zs_goto (tgt := 127) dX13_hooks_147 (by decide) ?_
    refine zs_lv [1, 2, 0] rfl ?_
    exact ih (i + 1) (by omega)
theorem ho_0 {n : Nat} {x : Int32} (h : ¬ (1 ≤ n ∧ n ≤ 12)) (h1 : ¬ x < nI 1) (h12 : n ≤ 12) (h2 : ¬ nI n < x) : False := by
  have h0 : n = 0 := by omega
  subst h0
  rw [zi_lt, nI_t (by decide)] at h1 h2
  omega
theorem pNe_h {H H' c : Nat → Nat} {n h : Nat} (e : ∀ p, p < n → H p = H' p) (hh : h < n) : ∀ k, (∀ p, p < k → c p < n) → pNe H c h k = pNe H' c h k
  | 0, _ => rfl
  | k + 1, hc => by rw [pNe, pNe, pNe_h e hh k (fun p hp => hc p (by omega)), e h hh, e _ (hc k (Nat.lt_succ_self k))]
theorem pGw_h {H H' c : Nat → Nat} {n k : Nat} (e : ∀ p, p < n → H p = H' p) (hc : ∀ p, p < k → c p < n) : ∀ m, m ≤ n → pGw H c k m = pGw H' c k m
  | 0, _ => rfl
  | m + 1, hm => by rw [pGw, pGw, pGw_h e hc m (by omega), pNe_h e (by omega) k hc]
set_option maxRecDepth 100000 in
theorem s_mHooks (l : Launch) (dd : Nat) (mo : Nat) (e : Nat → Nat) (g : Nat → Int32) (w : Int64) (bt : Nat → Nat) (n : Nat) (hs hk hb : Nat → Nat) (bd : Nat → Int32) (f : Nat → Nat) (x : Int32) (hd : 10 ≤ dd) (h2 : g 2 = nI n) (hn : n ≤ 740) (hbt : ∀ j, bt j < 256) (hf : ∀ p, p < n → f p = bt p) : zSp l mX13_hooks dd 0 0 [.ref mo, .int x] [(mo, .inr (11, fMo e g w)), ((e 57), .inl (0, 12, .inl (nF hs))), ((e 58), .inl (0, 6, .inl (nF hk))), ((e 59), .inl (0, 6, .inl (nF hb))), ((e 60), .inl (0, 6, .inl bd)), ((e 1), .inl (0, 740, .inl (nF bt)))] (fun r K' => (¬ (¬ x < nI 1 ∧ ¬ nI 6 < x ∧ n ≤ 12 ∧ ¬ nI n < x ∧ hTdP bt n) ∧ r = some (.int (-1)) ∧ ∃ (g' : Nat → Int32) (hs' hk' hb' : Nat → Nat) (bd' : Nat → Int32), mFr [0, 2, 61, 62, 63] g g' ∧ g' 0 = nI 0 ∧ g' 2 = nI 0 ∧ g' 63 = g 63 ∧ bd' = bd ∧ K' = [(mo, .inr (11, fMo e g' w)), ((e 57), .inl (0, 12, .inl (nF hs'))), ((e 58), .inl (0, 6, .inl (nF hk'))), ((e 59), .inl (0, 6, .inl (nF hb'))), ((e 60), .inl (0, 6, .inl (bd'))), ((e 1), .inl (0, 740, .inl (nF bt)))]) ∨ (∃ k, (1 ≤ k ∧ k ≤ n) ∧ k ≤ 6 ∧ x = nI k ∧ (¬ x < nI 1 ∧ ¬ nI 6 < x ∧ n ≤ 12 ∧ ¬ nI n < x ∧ hTdP bt n) ∧ r = some (.int (nI (hLp f n k 1000 (nCl (fun i => i) (fun _ => 0) k) (fun _ => 0) 2147483647 true).2)) ∧ ∃ (g' : Nat → Int32) (hs' hk' hb' : Nat → Nat) (bd' : Nat → Int32), mFr [0, 2, 61, 62, 63] g g' ∧ g' 0 = nI 0 ∧ g' 2 = nI 0 ∧ mLi (hLp f n k 1000 (nCl (fun i => i) (fun _ => 0) k) (fun _ => 0) 2147483647 true).1 k bd' (g' 63) ∧ K' = [(mo, .inr (11, fMo e g' w)), ((e 57), .inl (0, 12, .inl (nF hs'))), ((e 58), .inl (0, 6, .inl (nF hk'))), ((e 59), .inl (0, 6, .inl (nF hb'))), ((e 60), .inl (0, 6, .inl (bd'))), ((e 1), .inl (0, 740, .inl (nF bt)))])) := by
  refine zSp.of (by decide) (Nat.le_of_ble_eq_true rfl) (fun h0 => ?_)
  show zS _ 0 0 0 [(0, .ref mo), (1, .int x)] [] [(mo, .inr (11, fMo e g w)), ((e 57), .inl (0, 12, .inl (nF hs))), ((e 58), .inl (0, 6, .inl (nF hk))), ((e 59), .inl (0, 6, .inl (nF hb))), ((e 60), .inl (0, 6, .inl bd)), ((e 1), .inl (0, 740, .inl (nF bt)))]
  refine zs_aload_n dX13_hooks_0 rfl rfl ?_
  refine zs_iconst (v := nI 0) dX13_hooks_1 (by decide) ?_
  refine zs_put 0 dX13_hooks_2 zf_RX13_148 rfl (Nat.le_of_ble_eq_true rfl) (zPv_i _) ?_
  show zS _ _ _ _ _ _ [(mo, .inr (11, fMo e (upd g 0 (nI 0)) w)), ((e 57), .inl (0, 12, .inl (nF hs))), ((e 58), .inl (0, 6, .inl (nF hk))), ((e 59), .inl (0, 6, .inl (nF hb))), ((e 60), .inl (0, 6, .inl bd)), ((e 1), .inl (0, 740, .inl (nF bt)))]
  refine zs_aload_n dX13_hooks_5 rfl rfl ?_
  refine zs_aload_n dX13_hooks_6 rfl rfl ?_
  refine zs_callV (M := mX13_take) (As := []) (st := [.ref mo]) (Kc := [(mo, .inr (11, fMo e (upd g 0 (nI 0)) w))]) (Kr := [((e 57), .inl (0, 12, .inl (nF hs))), ((e 58), .inl (0, 6, .inl (nF hk))), ((e 59), .inl (0, 6, .inl (nF hb))), ((e 60), .inl (0, 6, .inl bd)), ((e 1), .inl (0, 740, .inl (nF bt)))]) [0] [1, 2, 3, 4, 5] 0 dX13_hooks_7 zl_RX13_235 kX13_take rfl rfl rfl rfl rfl (by decide) rfl rfl (show dd - 1 + 1 ≤ dd by omega) (Nat.zero_le _) (Nat.zero_le _) (Nat.le_of_ble_eq_true rfl) (s_mTake l (dd - 1) mo e (upd g 0 (nI 0)) w) (fun r K1 hr => ?_)
  obtain ⟨rfl, rfl⟩ := hr
  refine zs_K (K' := [(mo, .inr (11, fMo e (upd (upd g 0 (nI 0)) 2 (nI 0)) w)), ((e 57), .inl (0, 12, .inl (nF hs))), ((e 58), .inl (0, 6, .inl (nF hk))), ((e 59), .inl (0, 6, .inl (nF hb))), ((e 60), .inl (0, 6, .inl bd)), ((e 1), .inl (0, 740, .inl (nF bt)))]) [5, 0, 1, 2, 3, 4] rfl (by decide) ?_
  refine zs_as (y := nI n) h2 ?_
  refine zs_put 0 dX13_hooks_10 zf_RX13_411 rfl (Nat.le_of_ble_eq_true rfl) (zPv_i _) ?_
  show zS _ _ _ _ _ _ [(mo, .inr (11, fMo e (upd (upd (upd g 0 (nI 0)) 2 (nI 0)) 61 (nI n)) w)), ((e 57), .inl (0, 12, .inl (nF hs))), ((e 58), .inl (0, 6, .inl (nF hk))), ((e 59), .inl (0, 6, .inl (nF hb))), ((e 60), .inl (0, 6, .inl bd)), ((e 1), .inl (0, 740, .inl (nF bt)))]
  refine zs_aload_n dX13_hooks_13 rfl rfl ?_
  refine zs_get 0 dX13_hooks_14 zf_RX13_411 rfl (v := .int (nI n)) rfl ?_
  refine zs_iconst (v := nI 1) dX13_hooks_17 (by decide) ?_
  refine zs_bipush (v := nI 12) dX13_hooks_18 (by decide) ?_
  refine zs_callS (M := mX13_isIn) (As := [.int (nI n), .int (nI 1), .int (nI 12)]) (st := []) (Kc := []) (Kr := [(mo, .inr (11, fMo e (upd (upd (upd g 0 (nI 0)) 2 (nI 0)) 61 (nI n)) w)), ((e 57), .inl (0, 12, .inl (nF hs))), ((e 58), .inl (0, 6, .inl (nF hk))), ((e 59), .inl (0, 6, .inl (nF hb))), ((e 60), .inl (0, 6, .inl bd)), ((e 1), .inl (0, 740, .inl (nF bt)))]) [] [0, 1, 2, 3, 4, 5] dX13_hooks_20 zl_RX13_219 kX13_isIn rfl rfl rfl rfl rfl (by decide) (show dd - 1 + 1 ≤ dd by omega) (Nat.zero_le _) (Nat.zero_le _) (Nat.le_of_ble_eq_true rfl) (s_mIsIn l (dd - 1) (nI n) (nI 1) (nI 12)) (fun r K1 hr => ?_)
  obtain ⟨rfl, rfl⟩ := hr
  refine zs_K (K' := [(mo, .inr (11, fMo e (upd (upd (upd g 0 (nI 0)) 2 (nI 0)) 61 (nI n)) w)), ((e 57), .inl (0, 12, .inl (nF hs))), ((e 58), .inl (0, 6, .inl (nF hk))), ((e 59), .inl (0, 6, .inl (nF hb))), ((e 60), .inl (0, 6, .inl bd)), ((e 1), .inl (0, 740, .inl (nF bt)))]) [0, 1, 2, 3, 4, 5] rfl (by decide) ?_
  refine zs_if_eq (tgt := 44) dX13_hooks_23 (by decide) (fun c_1 => ?_) (fun c_1 => ?_)
  · refine zs_iconst (v := (-1)) dX13_hooks_44 (by decide) ?_
    exact zs_iret dX13_hooks_45 rfl (Or.inl ⟨(fun q => ho_0 (of_decide_eq_false ((bIn_nat (by omega) (by omega) (by omega)).symm.trans (bI_f c_1))) q.1 q.2.2.1 q.2.2.2.1), rfl, (upd (upd (upd g 0 (nI 0)) 2 (nI 0)) 61 (nI n)), hs, hk, hb, bd, (mFr_u (mFr_u (mFr_u mFr_r (by decide)) (by decide)) (by decide) : mFr [0, 2, 61, 62, 63] g (upd (upd (upd g 0 (nI 0)) 2 (nI 0)) 61 (nI n))), rfl, rfl, rfl, rfl, rfl⟩)
  · have hin1 : 1 ≤ n ∧ n ≤ 12 := of_decide_eq_true ((bIn_nat (by omega) (by omega) (by omega)).symm.trans (bI_t c_1))
    refine zs_iload_n dX13_hooks_26 rfl ?_
    refine zs_iconst (v := nI 1) dX13_hooks_27 (by decide) ?_
    refine zs_bipush (v := nI 6) dX13_hooks_28 (by decide) ?_
    refine zs_callS (M := mX13_isIn) (As := [.int x, .int (nI 1), .int (nI 6)]) (st := []) (Kc := []) (Kr := [(mo, .inr (11, fMo e (upd (upd (upd g 0 (nI 0)) 2 (nI 0)) 61 (nI n)) w)), ((e 57), .inl (0, 12, .inl (nF hs))), ((e 58), .inl (0, 6, .inl (nF hk))), ((e 59), .inl (0, 6, .inl (nF hb))), ((e 60), .inl (0, 6, .inl bd)), ((e 1), .inl (0, 740, .inl (nF bt)))]) [] [0, 1, 2, 3, 4, 5] dX13_hooks_30 zl_RX13_219 kX13_isIn rfl rfl rfl rfl rfl (by decide) (show dd - 1 + 1 ≤ dd by omega) (Nat.zero_le _) (Nat.zero_le _) (Nat.le_of_ble_eq_true rfl) (s_mIsIn l (dd - 1) x (nI 1) (nI 6)) (fun r K1 hr => ?_)
    obtain ⟨rfl, rfl⟩ := hr
    refine zs_K (K' := [(mo, .inr (11, fMo e (upd (upd (upd g 0 (nI 0)) 2 (nI 0)) 61 (nI n)) w)), ((e 57), .inl (0, 12, .inl (nF hs))), ((e 58), .inl (0, 6, .inl (nF hk))), ((e 59), .inl (0, 6, .inl (nF hb))), ((e 60), .inl (0, 6, .inl bd)), ((e 1), .inl (0, 740, .inl (nF bt)))]) [0, 1, 2, 3, 4, 5] rfl (by decide) ?_
    refine zs_if_eq (tgt := 44) dX13_hooks_33 (by decide) (fun c_2 => ?_) (fun c_2 => ?_)
    · refine zs_iconst (v := (-1)) dX13_hooks_44 (by decide) ?_
      exact zs_iret dX13_hooks_45 rfl (Or.inl ⟨(fun q => absurd ⟨q.1, q.2.1⟩ (of_decide_eq_false (bI_f c_2))), rfl, (upd (upd (upd g 0 (nI 0)) 2 (nI 0)) 61 (nI n)), hs, hk, hb, bd, (mFr_u (mFr_u (mFr_u mFr_r (by decide)) (by decide)) (by decide) : mFr [0, 2, 61, 62, 63] g (upd (upd (upd g 0 (nI 0)) 2 (nI 0)) 61 (nI n))), rfl, rfl, rfl, rfl, rfl⟩)
    · have hin2 := of_decide_eq_true (bI_t c_2)
      refine zs_iload_n dX13_hooks_36 rfl ?_
      refine zs_aload_n dX13_hooks_37 rfl rfl ?_
      refine zs_get 0 dX13_hooks_38 zf_RX13_411 rfl (v := .int (nI n)) rfl ?_
      refine zs_icmp_le (tgt := 46) dX13_hooks_41 (by decide) (fun c_3 => ?_) (fun c_3 => ?_)
      · have hkn2 : ¬ nI n < x := Int32.not_lt.mpr c_3
        obtain ⟨k, hk0, rfl⟩ := zi_nn (x := x) (fun q => hin2.1 (by
          rw [zi_lt] at q ⊢
          rw [nI_t (by decide)]
          have h0 : (0 : Int32).toInt = 0 := by decide
          omega))
        have hk1 : 1 ≤ k := by have h := hin2.1; rw [nI_lt' (by omega) (by omega)] at h; omega
        have hk6 : k ≤ 6 := by have h := hin2.2; rw [nI_lt' (by omega) (by omega)] at h; omega
        have hkn : k ≤ n := by have h := hkn2; rw [nI_lt' (by omega) (by omega)] at h; omega
        refine zs_iconst (v := nI 0) dX13_hooks_46 (by decide) ?_
        refine zs_istore_n (lv' := [(2, .int (nI 0)), (0, .ref mo), (1, .int (nI k))]) dX13_hooks_47 (Nat.le_of_ble_eq_true rfl) rfl ?_
        refine zs_lv [1, 2, 0] rfl ?_
        refine zs_eq (K' := [(mo, .inr (11, fMo e (upd (upd (upd g 0 (nI 0)) 2 (nI 0)) 61 (nI n)) w)), ((e 57), .inl (0, 12, .inl (nF (nCl bt hs 0)))), ((e 58), .inl (0, 6, .inl (nF hk))), ((e 59), .inl (0, 6, .inl (nF hb))), ((e 60), .inl (0, 6, .inl bd)), ((e 1), .inl (0, 740, .inl (nF bt)))]) (by rw [nCl_0]) ?_
        refine lp_mh1 mo e (upd (upd (upd g 0 (nI 0)) 2 (nI 0)) 61 (nI n)) w bt n k hs hk hb bd hbt hin1.2 rfl (fun r K1 h => ?_) (fun htd => ?_) n 0 (Nat.zero_add _) (fun x hx => absurd hx (Nat.not_lt_zero x))
        · obtain ⟨h1, h4, hs2, h3⟩ := h
          exact Or.inl ⟨fun q => h1 q.2.2.2.2, h4, (upd (upd (upd g 0 (nI 0)) 2 (nI 0)) 61 (nI n)), hs2, hk, hb, bd, (mFr_u (mFr_u (mFr_u mFr_r (by decide)) (by decide)) (by decide) : mFr [0, 2, 61, 62, 63] g (upd (upd (upd g 0 (nI 0)) 2 (nI 0)) 61 (nI n))), rfl, rfl, rfl, rfl, h3⟩
        · refine zs_aload_n dX13_hooks_108 rfl rfl ?_
          refine zs_iconst (v := (-1)) dX13_hooks_109 (by decide) ?_
          refine zs_put 0 dX13_hooks_110 zf_RX13_414 rfl (Nat.le_of_ble_eq_true rfl) (zPv_i _) ?_
          show zS _ _ _ _ _ _ [(mo, .inr (11, fMo e (upd (upd (upd (upd g 0 (nI 0)) 2 (nI 0)) 61 (nI n)) 62 (-1)) w)), ((e 57), .inl (0, 12, .inl (nF (nCl bt hs n)))), ((e 58), .inl (0, 6, .inl (nF hk))), ((e 59), .inl (0, 6, .inl (nF hb))), ((e 60), .inl (0, 6, .inl bd)), ((e 1), .inl (0, 740, .inl (nF bt)))]
          refine zs_aload_n dX13_hooks_113 rfl rfl ?_
          refine zs_iconst (v := nI 0) dX13_hooks_114 (by decide) ?_
          refine zs_iload_n dX13_hooks_115 rfl ?_
          refine zs_iconst (v := nI 0) dX13_hooks_116 (by decide) ?_
          refine zs_callV (M := mX13_tryHooks) (As := [.int (nI 0), .int (nI k), .int (nI 0)]) (st := []) (Kc := [(mo, .inr (11, fMo e (upd (upd (upd (upd g 0 (nI 0)) 2 (nI 0)) 61 (nI n)) 62 (-1)) w)), ((e 57), .inl (0, 12, .inl (nF (nCl bt hs n)))), ((e 58), .inl (0, 6, .inl (nF hk))), ((e 59), .inl (0, 6, .inl (nF hb)))]) (Kr := [((e 60), .inl (0, 6, .inl bd)), ((e 1), .inl (0, 740, .inl (nF bt)))]) [0, 1, 2, 3] [4, 5] 0 dX13_hooks_117 zl_RX13_417 kX13_tryHooks rfl rfl rfl rfl rfl (by decide) rfl rfl (show dd - 1 + 1 ≤ dd by omega) (Nat.zero_le _) (Nat.zero_le _) (Nat.le_of_ble_eq_true rfl) (s_mTryHooks l mo e w (nCl bt hs n) n k (by omega) ⟨hk1, hk6⟩ (fun h hh => by rw [nCl_s hh]; exact (htd h hh).1) k 0 (dd - 1) (Nat.zero_add _) (by omega) (fun _ => 0) 0 (upd (upd (upd (upd g 0 (nI 0)) 2 (nI 0)) 61 (nI n)) 62 (-1)) hk hb none (fun _ => False) rfl ⟨fun p hp => absurd hp (Nat.not_lt_zero p), fun p hp => absurd hp (Nat.not_lt_zero _), fun p hp => absurd hp (Nat.not_lt_zero p), fun _ => rfl, fun z => absurd z (Nat.lt_irrefl 0), Nat.zero_le _, fun c hV z => z.elim⟩ (fun c hV z => z) rfl) (fun r K1 hr => ?_)
          obtain ⟨rfl, g2, hk2, hb2, o2, hfr2, hc2, hB2, hod2, rfl⟩ := hr
          have hall : chm (hV n k) (fun c => pGw (nCl bt hs n) c k n) k (fun _ => True) o2 := chm_q (fun c hV => ⟨fun _ => trivial, fun _ => Or.inr (fun q hq => absurd hq (Nat.not_lt_zero q))⟩) hc2
          obtain ⟨bp, b, rfl⟩ : ∃ bp b, o2 = some (bp, b) := by
            cases o2 with
            | none => exact absurd trivial (hall (fun x => x) ⟨fun p hp => (show p < n by omega), fun p hp => Nat.lt_succ_self p⟩)
            | some q => exact ⟨q.1, q.2, rfl⟩
          have hall2 : chm (hV n k) (fun c => pGw f c k n) k (fun _ => True) (some (bp, b)) := chm_c (fun c hV => pGw_h (fun p hp => by rw [nCl_s hp, hf p hp]) hV.1 n (Nat.le_refl n)) hall
          have hho := hLp_all (by omega) ⟨hk1, hk6⟩ hkn (fun h hh => by rw [hf h hh]; exact (htd h hh).1) hall2
          have hbp := hB2.2.1
          refine zs_K (K' := [(mo, .inr (11, fMo e g2 w)), ((e 57), .inl (0, 12, .inl (nF (nCl bt hs n)))), ((e 58), .inl (0, 6, .inl (nF hk2))), ((e 59), .inl (0, 6, .inl (nF hb2))), ((e 60), .inl (0, 6, .inl bd)), ((e 1), .inl (0, 740, .inl (nF bt)))]) [2, 3, 4, 5, 0, 1] rfl (by decide) ?_
          refine zs_aload_n dX13_hooks_120 rfl rfl ?_
          refine zs_iload_n dX13_hooks_121 rfl ?_
          refine zs_put 0 dX13_hooks_122 zf_RX13_420 rfl (Nat.le_of_ble_eq_true rfl) (zPv_i _) ?_
          show zS _ _ _ _ _ _ [(mo, .inr (11, fMo e (upd g2 63 (nI k)) w)), ((e 57), .inl (0, 12, .inl (nF (nCl bt hs n)))), ((e 58), .inl (0, 6, .inl (nF hk2))), ((e 59), .inl (0, 6, .inl (nF hb2))), ((e 60), .inl (0, 6, .inl bd)), ((e 1), .inl (0, 740, .inl (nF bt)))]
          refine zs_iconst (v := nI 0) dX13_hooks_125 (by decide) ?_
          refine zs_istore_n (lv' := [(2, .int (nI 0)), (0, .ref mo), (1, .int (nI k))]) dX13_hooks_126 (Nat.le_of_ble_eq_true rfl) rfl ?_
          refine zs_lv [1, 2, 0] rfl ?_
          refine zs_K (K' := [(mo, .inr (11, fMo e (upd g2 63 (nI k)) w)), ((e 57), .inl (0, 12, .inl (nF (nCl bt hs n)))), ((e 58), .inl (0, 6, .inl (nF hk2))), ((e 59), .inl (0, 6, .inl (nF hb2))), ((e 60), .inl (0, 6, .inl bd)), ((e 1), .inl (0, 740, .inl (nF bt)))]) [0, 1, 2, 3, 4, 5] rfl (by decide) ?_
          refine zs_eq (K' := [(mo, .inr (11, fMo e (upd g2 63 (nI k)) w)), ((e 57), .inl (0, 12, .inl (nF (nCl bt hs n)))), ((e 58), .inl (0, 6, .inl (nF hk2))), ((e 59), .inl (0, 6, .inl (nF hb2))), ((e 60), .inl (0, 6, .inl (pCl (nF hb2) bd 0))), ((e 1), .inl (0, 740, .inl (nF bt)))]) (by rw [pCl_0]) ?_
          refine lp_mh2 mo e (upd g2 63 (nI k)) w bt n k (nCl bt hs n) hk2 hb2 bd ⟨hk1, hk6⟩ ?_ k 0 (Nat.zero_add _)
          refine zs_aload_n dX13_hooks_150 rfl rfl ?_
          refine zs_get 0 dX13_hooks_151 zf_RX13_414 rfl (v := .int ((upd g2 63 (nI k)) 62)) rfl ?_
          refine zs_as (y := nI bp) hB2.1 ?_
          exact zs_iret dX13_hooks_154 rfl (Or.inr ⟨k, ⟨hk1, hkn⟩, hk6, rfl, ⟨hin2.1, hin2.2, hin1.2, hkn2, htd⟩, by rw [hho.1], upd g2 63 (nI k), nCl bt hs n, hk2, hb2, pCl (nF hb2) bd k, (mFr_u (mFr_t (mFr_u (mFr_u (mFr_u (mFr_u mFr_r (by decide)) (by decide)) (by decide) : mFr [0, 2, 61, 62, 63] g (upd (upd (upd g 0 (nI 0)) 2 (nI 0)) 61 (nI n))) (by decide) : mFr [0, 2, 61, 62, 63] g (upd (upd (upd (upd g 0 (nI 0)) 2 (nI 0)) 61 (nI n)) 62 (-1))) hfr2 (by decide) (by decide)) (by decide)), (hfr2 0 (by decide)).trans rfl, (hfr2 2 (by decide)).trans rfl, ⟨rfl, fun p hp => (if_pos hp).trans (congrArg nI ((hB2.2.2 p hp).trans (by rw [hho.2 p hp, nCl_s (hall.1.1 p hp), hf _ (hall.1.1 p hp)])))⟩, rfl⟩)
      · refine zs_iconst (v := (-1)) dX13_hooks_44 (by decide) ?_
        exact zs_iret dX13_hooks_45 rfl (Or.inl ⟨(fun q => absurd (Int32.not_le.mp c_3) q.2.2.2.1), rfl, (upd (upd (upd g 0 (nI 0)) 2 (nI 0)) 61 (nI n)), hs, hk, hb, bd, (mFr_u (mFr_u (mFr_u mFr_r (by decide)) (by decide)) (by decide) : mFr [0, 2, 61, 62, 63] g (upd (upd (upd g 0 (nI 0)) 2 (nI 0)) 61 (nI n))), rfl, rfl, rfl, rfl, rfl⟩)
