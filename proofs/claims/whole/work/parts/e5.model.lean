/-! ===== the reference: fire, fireAt, out ===== -/
theorem dX13_fire_0 : decode cX13_fire 0 = .ok (.aload_n 0, 1) := by decide +kernel
theorem dX13_fire_1 : decode cX13_fire 1 = .ok (.iconst 0, 1) := by decide +kernel
theorem dX13_fire_2 : decode cX13_fire 2 = .ok (.putfield 148, 3) := by decide +kernel
theorem dX13_fire_5 : decode cX13_fire 5 = .ok (.aload_n 0, 1) := by decide +kernel
theorem dX13_fire_6 : decode cX13_fire 6 = .ok (.invokevirtual 232, 3) := by decide +kernel
theorem dX13_fire_9 : decode cX13_fire 9 = .ok (.iload_n 1, 1) := by decide +kernel
theorem dX13_fire_10 : decode cX13_fire 10 = .ok (.iconst 0, 1) := by decide +kernel
theorem dX13_fire_11 : decode cX13_fire 11 = .ok (.bipush 60, 2) := by decide +kernel
theorem dX13_fire_13 : decode cX13_fire 13 = .ok (.invokestatic 219, 3) := by decide +kernel
theorem dX13_fire_16 : decode cX13_fire 16 = .ok (.ifCond .eq 33, 3) := by decide +kernel
theorem dX13_fire_19 : decode cX13_fire 19 = .ok (.iload_n 2, 1) := by decide +kernel
theorem dX13_fire_20 : decode cX13_fire 20 = .ok (.iconst 0, 1) := by decide +kernel
theorem dX13_fire_21 : decode cX13_fire 21 = .ok (.sipush 999, 3) := by decide +kernel
theorem dX13_fire_24 : decode cX13_fire 24 = .ok (.invokestatic 219, 3) := by decide +kernel
theorem dX13_fire_27 : decode cX13_fire 27 = .ok (.ifCond .eq 22, 3) := by decide +kernel
theorem dX13_fire_30 : decode cX13_fire 30 = .ok (.aload_n 0, 1) := by decide +kernel
theorem dX13_fire_31 : decode cX13_fire 31 = .ok (.iload_n 3, 1) := by decide +kernel
theorem dX13_fire_32 : decode cX13_fire 32 = .ok (.invokevirtual 448, 3) := by decide +kernel
theorem dX13_fire_35 : decode cX13_fire 35 = .ok (.ifCond .eq 14, 3) := by decide +kernel
theorem dX13_fire_38 : decode cX13_fire 38 = .ok (.iload 4, 2) := by decide +kernel
theorem dX13_fire_40 : decode cX13_fire 40 = .ok (.iconst 0, 1) := by decide +kernel
theorem dX13_fire_41 : decode cX13_fire 41 = .ok (.bipush 20, 2) := by decide +kernel
theorem dX13_fire_43 : decode cX13_fire 43 = .ok (.invokestatic 219, 3) := by decide +kernel
theorem dX13_fire_46 : decode cX13_fire 46 = .ok (.ifCond .ne 5, 3) := by decide +kernel
theorem dX13_fire_49 : decode cX13_fire 49 = .ok (.iconst (-1), 1) := by decide +kernel
theorem dX13_fire_50 : decode cX13_fire 50 = .ok (.ireturn, 1) := by decide +kernel
theorem dX13_fire_51 : decode cX13_fire 51 = .ok (.aload_n 0, 1) := by decide +kernel
theorem dX13_fire_52 : decode cX13_fire 52 = .ok (.invokevirtual 451, 3) := by decide +kernel
theorem dX13_fire_55 : decode cX13_fire 55 = .ok (.aload_n 0, 1) := by decide +kernel
theorem dX13_fire_56 : decode cX13_fire 56 = .ok (.iload_n 1, 1) := by decide +kernel
theorem dX13_fire_57 : decode cX13_fire 57 = .ok (.iload_n 2, 1) := by decide +kernel
theorem dX13_fire_58 : decode cX13_fire 58 = .ok (.iload_n 3, 1) := by decide +kernel
theorem dX13_fire_59 : decode cX13_fire 59 = .ok (.iload 4, 2) := by decide +kernel
theorem dX13_fire_61 : decode cX13_fire 61 = .ok (.invokevirtual 454, 3) := by decide +kernel
theorem dX13_fire_64 : decode cX13_fire 64 = .ok (.aload_n 0, 1) := by decide +kernel
theorem dX13_fire_65 : decode cX13_fire 65 = .ok (.iconst 1, 1) := by decide +kernel
theorem dX13_fire_66 : decode cX13_fire 66 = .ok (.putfield 458, 3) := by decide +kernel
theorem dX13_fire_69 : decode cX13_fire 69 = .ok (.aload_n 0, 1) := by decide +kernel
theorem dX13_fire_70 : decode cX13_fire 70 = .ok (.aload_n 0, 1) := by decide +kernel
theorem dX13_fire_71 : decode cX13_fire 71 = .ok (.invokevirtual 298, 3) := by decide +kernel
theorem dX13_fire_74 : decode cX13_fire 74 = .ok (.putfield 461, 3) := by decide +kernel
theorem dX13_fire_77 : decode cX13_fire 77 = .ok (.aload_n 0, 1) := by decide +kernel
theorem dX13_fire_78 : decode cX13_fire 78 = .ok (.aload_n 0, 1) := by decide +kernel
theorem dX13_fire_79 : decode cX13_fire 79 = .ok (.getfield 13, 3) := by decide +kernel
theorem dX13_fire_82 : decode cX13_fire 82 = .ok (.bipush 10, 2) := by decide +kernel
theorem dX13_fire_84 : decode cX13_fire 84 = .ok (.iaload, 1) := by decide +kernel
theorem dX13_fire_85 : decode cX13_fire 85 = .ok (.putfield 464, 3) := by decide +kernel
theorem dX13_fire_88 : decode cX13_fire 88 = .ok (.aload_n 0, 1) := by decide +kernel
theorem dX13_fire_89 : decode cX13_fire 89 = .ok (.aload_n 0, 1) := by decide +kernel
theorem dX13_fire_90 : decode cX13_fire 90 = .ok (.getfield 439, 3) := by decide +kernel
theorem dX13_fire_93 : decode cX13_fire 93 = .ok (.putfield 126, 3) := by decide +kernel
theorem dX13_fire_96 : decode cX13_fire 96 = .ok (.iconst 0, 1) := by decide +kernel
theorem dX13_fire_97 : decode cX13_fire 97 = .ok (.istore 5, 2) := by decide +kernel
theorem dX13_fire_99 : decode cX13_fire 99 = .ok (.iload 5, 2) := by decide +kernel
theorem dX13_fire_101 : decode cX13_fire 101 = .ok (.aload_n 0, 1) := by decide +kernel
theorem dX13_fire_102 : decode cX13_fire 102 = .ok (.invokevirtual 426, 3) := by decide +kernel
theorem dX13_fire_105 : decode cX13_fire 105 = .ok (.if_icmp .ge 61, 3) := by decide +kernel
theorem dX13_fire_108 : decode cX13_fire 108 = .ok (.aload_n 0, 1) := by decide +kernel
theorem dX13_fire_109 : decode cX13_fire 109 = .ok (.getfield 123, 3) := by decide +kernel
theorem dX13_fire_112 : decode cX13_fire 112 = .ok (.iconst 3, 1) := by decide +kernel
theorem dX13_fire_113 : decode cX13_fire 113 = .ok (.iload 5, 2) := by decide +kernel
theorem dX13_fire_115 : decode cX13_fire 115 = .ok (.imul, 1) := by decide +kernel
theorem dX13_fire_116 : decode cX13_fire 116 = .ok (.aload_n 0, 1) := by decide +kernel
theorem dX13_fire_117 : decode cX13_fire 117 = .ok (.getfield 105, 3) := by decide +kernel
theorem dX13_fire_120 : decode cX13_fire 120 = .ok (.iload 5, 2) := by decide +kernel
theorem dX13_fire_122 : decode cX13_fire 122 = .ok (.iaload, 1) := by decide +kernel
theorem dX13_fire_123 : decode cX13_fire 123 = .ok (.iastore, 1) := by decide +kernel
theorem dX13_fire_124 : decode cX13_fire 124 = .ok (.aload_n 0, 1) := by decide +kernel
theorem dX13_fire_125 : decode cX13_fire 125 = .ok (.getfield 123, 3) := by decide +kernel
theorem dX13_fire_128 : decode cX13_fire 128 = .ok (.iconst 3, 1) := by decide +kernel
theorem dX13_fire_129 : decode cX13_fire 129 = .ok (.iload 5, 2) := by decide +kernel
theorem dX13_fire_131 : decode cX13_fire 131 = .ok (.imul, 1) := by decide +kernel
theorem dX13_fire_132 : decode cX13_fire 132 = .ok (.iconst 1, 1) := by decide +kernel
theorem dX13_fire_133 : decode cX13_fire 133 = .ok (.iadd, 1) := by decide +kernel
theorem dX13_fire_134 : decode cX13_fire 134 = .ok (.aload_n 0, 1) := by decide +kernel
theorem dX13_fire_135 : decode cX13_fire 135 = .ok (.getfield 108, 3) := by decide +kernel
theorem dX13_fire_138 : decode cX13_fire 138 = .ok (.iload 5, 2) := by decide +kernel
theorem dX13_fire_140 : decode cX13_fire 140 = .ok (.iaload, 1) := by decide +kernel
theorem dX13_fire_141 : decode cX13_fire 141 = .ok (.iastore, 1) := by decide +kernel
theorem dX13_fire_142 : decode cX13_fire 142 = .ok (.aload_n 0, 1) := by decide +kernel
theorem dX13_fire_143 : decode cX13_fire 143 = .ok (.getfield 123, 3) := by decide +kernel
theorem dX13_fire_146 : decode cX13_fire 146 = .ok (.iconst 3, 1) := by decide +kernel
theorem dX13_fire_147 : decode cX13_fire 147 = .ok (.iload 5, 2) := by decide +kernel
theorem dX13_fire_149 : decode cX13_fire 149 = .ok (.imul, 1) := by decide +kernel
theorem dX13_fire_150 : decode cX13_fire 150 = .ok (.iconst 2, 1) := by decide +kernel
theorem dX13_fire_151 : decode cX13_fire 151 = .ok (.iadd, 1) := by decide +kernel
theorem dX13_fire_152 : decode cX13_fire 152 = .ok (.aload_n 0, 1) := by decide +kernel
theorem dX13_fire_153 : decode cX13_fire 153 = .ok (.getfield 111, 3) := by decide +kernel
theorem dX13_fire_156 : decode cX13_fire 156 = .ok (.iload 5, 2) := by decide +kernel
theorem dX13_fire_158 : decode cX13_fire 158 = .ok (.iaload, 1) := by decide +kernel
theorem dX13_fire_159 : decode cX13_fire 159 = .ok (.iastore, 1) := by decide +kernel
theorem dX13_fire_160 : decode cX13_fire 160 = .ok (.iinc 5 1, 3) := by decide +kernel
theorem dX13_fire_163 : decode cX13_fire 163 = .ok (.goto (-64), 3) := by decide +kernel
theorem dX13_fire_166 : decode cX13_fire 166 = .ok (.aload_n 0, 1) := by decide +kernel
theorem dX13_fire_167 : decode cX13_fire 167 = .ok (.getfield 423, 3) := by decide +kernel
theorem dX13_fire_170 : decode cX13_fire 170 = .ok (.ireturn, 1) := by decide +kernel
theorem dX13_fireAt_0 : decode cX13_fireAt 0 = .ok (.aload_n 0, 1) := by decide +kernel
theorem dX13_fireAt_1 : decode cX13_fireAt 1 = .ok (.iconst 0, 1) := by decide +kernel
theorem dX13_fireAt_2 : decode cX13_fireAt 2 = .ok (.putfield 148, 3) := by decide +kernel
theorem dX13_fireAt_5 : decode cX13_fireAt 5 = .ok (.aload_n 0, 1) := by decide +kernel
theorem dX13_fireAt_6 : decode cX13_fireAt 6 = .ok (.getfield 458, 3) := by decide +kernel
theorem dX13_fireAt_9 : decode cX13_fireAt 9 = .ok (.ifCond .eq 36, 3) := by decide +kernel
theorem dX13_fireAt_12 : decode cX13_fireAt 12 = .ok (.iload_n 1, 1) := by decide +kernel
theorem dX13_fireAt_13 : decode cX13_fireAt 13 = .ok (.ifCond .lt 32, 3) := by decide +kernel
theorem dX13_fireAt_16 : decode cX13_fireAt 16 = .ok (.iload_n 1, 1) := by decide +kernel
theorem dX13_fireAt_17 : decode cX13_fireAt 17 = .ok (.aload_n 0, 1) := by decide +kernel
theorem dX13_fireAt_18 : decode cX13_fireAt 18 = .ok (.getfield 461, 3) := by decide +kernel
theorem dX13_fireAt_21 : decode cX13_fireAt 21 = .ok (.if_icmp .ge 24, 3) := by decide +kernel
theorem dX13_fireAt_24 : decode cX13_fireAt 24 = .ok (.iload_n 2, 1) := by decide +kernel
theorem dX13_fireAt_25 : decode cX13_fireAt 25 = .ok (.ifCond .lt 20, 3) := by decide +kernel
theorem dX13_fireAt_28 : decode cX13_fireAt 28 = .ok (.iload_n 2, 1) := by decide +kernel
theorem dX13_fireAt_29 : decode cX13_fireAt 29 = .ok (.aload_n 0, 1) := by decide +kernel
theorem dX13_fireAt_30 : decode cX13_fireAt 30 = .ok (.getfield 464, 3) := by decide +kernel
theorem dX13_fireAt_33 : decode cX13_fireAt 33 = .ok (.if_icmp .ge 12, 3) := by decide +kernel
theorem dX13_fireAt_36 : decode cX13_fireAt 36 = .ok (.iload_n 3, 1) := by decide +kernel
theorem dX13_fireAt_37 : decode cX13_fireAt 37 = .ok (.iconst 0, 1) := by decide +kernel
theorem dX13_fireAt_38 : decode cX13_fireAt 38 = .ok (.iconst 2, 1) := by decide +kernel
theorem dX13_fireAt_39 : decode cX13_fireAt 39 = .ok (.invokestatic 219, 3) := by decide +kernel
theorem dX13_fireAt_42 : decode cX13_fireAt 42 = .ok (.ifCond .ne 5, 3) := by decide +kernel
theorem dX13_fireAt_45 : decode cX13_fireAt 45 = .ok (.iconst (-1), 1) := by decide +kernel
theorem dX13_fireAt_46 : decode cX13_fireAt 46 = .ok (.ireturn, 1) := by decide +kernel
theorem dX13_fireAt_47 : decode cX13_fireAt 47 = .ok (.aload_n 0, 1) := by decide +kernel
theorem dX13_fireAt_48 : decode cX13_fireAt 48 = .ok (.getfield 123, 3) := by decide +kernel
theorem dX13_fireAt_51 : decode cX13_fireAt 51 = .ok (.iconst 3, 1) := by decide +kernel
theorem dX13_fireAt_52 : decode cX13_fireAt 52 = .ok (.aload_n 0, 1) := by decide +kernel
theorem dX13_fireAt_53 : decode cX13_fireAt 53 = .ok (.getfield 461, 3) := by decide +kernel
theorem dX13_fireAt_56 : decode cX13_fireAt 56 = .ok (.iload_n 2, 1) := by decide +kernel
theorem dX13_fireAt_57 : decode cX13_fireAt 57 = .ok (.imul, 1) := by decide +kernel
theorem dX13_fireAt_58 : decode cX13_fireAt 58 = .ok (.iload_n 1, 1) := by decide +kernel
theorem dX13_fireAt_59 : decode cX13_fireAt 59 = .ok (.iadd, 1) := by decide +kernel
theorem dX13_fireAt_60 : decode cX13_fireAt 60 = .ok (.imul, 1) := by decide +kernel
theorem dX13_fireAt_61 : decode cX13_fireAt 61 = .ok (.iload_n 3, 1) := by decide +kernel
theorem dX13_fireAt_62 : decode cX13_fireAt 62 = .ok (.iadd, 1) := by decide +kernel
theorem dX13_fireAt_63 : decode cX13_fireAt 63 = .ok (.iaload, 1) := by decide +kernel
theorem dX13_fireAt_64 : decode cX13_fireAt 64 = .ok (.ireturn, 1) := by decide +kernel
theorem dX13_out_0 : decode cX13_out 0 = .ok (.aload_n 0, 1) := by decide +kernel
theorem dX13_out_1 : decode cX13_out 1 = .ok (.iconst 0, 1) := by decide +kernel
theorem dX13_out_2 : decode cX13_out 2 = .ok (.putfield 148, 3) := by decide +kernel
theorem dX13_out_5 : decode cX13_out 5 = .ok (.aload_n 0, 1) := by decide +kernel
theorem dX13_out_6 : decode cX13_out 6 = .ok (.getfield 126, 3) := by decide +kernel
theorem dX13_out_9 : decode cX13_out 9 = .ok (.ireturn, 1) := by decide +kernel
/-- what burns as a yard is told has something to burn -/
def yB (D : zYd) : Prop := ∀ c, c < D.1 14 * D.1 15 → D.2.2.2.2.2.2.2 c = 1 → 1 ≤ D.2.2.2.2.2.2.1 c
theorem fK_0 {D : zYd} {fu we bu : Nat → Int32} (hD : yI D) (hB : yB D) : fK (D.1 14 * D.1 15) 0 (pCl (nF D.2.2.2.2.2.2.1) fu (D.1 14 * D.1 15), pCl (fun _ => 0) we (D.1 14 * D.1 15), pCl (nF D.2.2.2.2.2.2.2) bu (D.1 14 * D.1 15)) := by
  refine ⟨fun k hk => ?_, fun k hk => ⟨0, Nat.le_refl _, if_pos hk⟩⟩
  show (pCl (nF D.2.2.2.2.2.2.2) bu (D.1 14 * D.1 15) k = 0 ∨ pCl (nF D.2.2.2.2.2.2.2) bu (D.1 14 * D.1 15) k = 1) ∧ ∃ x, x ≤ 9 ∧ pCl (nF D.2.2.2.2.2.2.1) fu (D.1 14 * D.1 15) k = nI x ∧ (pCl (nF D.2.2.2.2.2.2.2) bu (D.1 14 * D.1 15) k = 1 → 1 ≤ x)
  have e1 : pCl (nF D.2.2.2.2.2.2.2) bu (D.1 14 * D.1 15) k = nI (D.2.2.2.2.2.2.2 k) := if_pos hk
  have e2 : pCl (nF D.2.2.2.2.2.2.1) fu (D.1 14 * D.1 15) k = nI (D.2.2.2.2.2.2.1 k) := if_pos hk
  have h9 := hD.2.2.2.2.1 k
  have h1 := hD.2.2.2.2.2.1 k
  rw [e1, e2]
  refine ⟨?_, _, h9, rfl, fun z => ?_⟩
  · have : D.2.2.2.2.2.2.2 k = 0 ∨ D.2.2.2.2.2.2.2 k = 1 := by omega
    rcases this with h | h
    · rw [h]; exact Or.inl rfl
    · rw [h]; exact Or.inr rfl
  · rw [show (1 : Int32) = nI 1 from rfl, nI_eq' (by omega) (by omega)] at z
    exact hB k hk z
/-- three numbers a cell -/
def c3 (S : zFs) : Nat → Int32 := fun j => if j % 3 = 0 then S.1 (j / 3) else if j % 3 = 1 then S.2.2 (j / 3) else S.2.1 (j / 3)
theorem c3_0 {S : zFs} {i : Nat} : c3 S (3 * i) = S.1 i := by
  unfold c3
  rw [if_pos (by omega), show 3 * i / 3 = i by omega]
theorem c3_1 {S : zFs} {i : Nat} : c3 S (3 * i + 1) = S.2.2 i := by
  unfold c3
  rw [if_neg (by omega), if_pos (by omega), show (3 * i + 1) / 3 = i by omega]
theorem c3_2 {S : zFs} {i : Nat} : c3 S (3 * i + 2) = S.2.1 i := by
  unfold c3
  rw [if_neg (by omega), if_neg (by omega), show (3 * i + 2) / 3 = i by omega]
/-- what a fire left, as the reference keeps it -/
def mFc (C R : Nat) (S : zFs) (fc : Nat → Int32) : Prop := ∀ c, c < C * R → fc (3 * c) = S.1 c ∧ fc (3 * c + 1) = S.2.2 c ∧ fc (3 * c + 2) = S.2.1 c ∧ (S.2.2 c = 0 ∨ S.2.2 c = 1)
theorem mFc_c {C R : Nat} {S T : zFs} {fc : Nat → Int32} (h : zAgF (C * R) S T) (hb : ∀ c, c < C * R → S.2.2 c = 0 ∨ S.2.2 c = 1) : mFc C R T (pCl (c3 S) fc (3 * (C * R))) := fun c hc => by
  rw [show pCl (c3 S) fc (3 * (C * R)) (3 * c) = c3 S (3 * c) from if_pos (by omega), show pCl (c3 S) fc (3 * (C * R)) (3 * c + 1) = c3 S (3 * c + 1) from if_pos (by omega), show pCl (c3 S) fc (3 * (C * R)) (3 * c + 2) = c3 S (3 * c + 2) from if_pos (by omega), c3_0, c3_1, c3_2]
  exact ⟨h.1 c hc, h.2.2 c hc, h.2.1 c hc, by rw [← h.2.2 c hc]; exact hb c hc⟩
set_option maxRecDepth 100000 in
theorem lp_mfire {l : Launch} {dd : Nat} {Po : zPo} {K0 : zK} {h0 : List va_E} {Xo : zK → Prop} {Gc : zG → Prop} (mo : Nat) (e : Nat → Nat) (g : Nat → Int32) (w : Int64) (nw : Nat → Int32) (D : zYd) (S : zFs) (he fw bw fc : Nat → Int32) (hd : 1 ≤ dd) (hR : yR D nw) (hC : D.1 14 ≤ 8) (hRo : D.1 15 ≤ 8)
    (hk : zS (l, mX13_fire, dd, Po, K0, h0, Xo, Gc) 0 0 166 [(0, .ref mo)] [] [(mo, .inr (11, fMo e g w)), ((e 14), .inl (0, 800, .inl nw)), ((e 64), .inl (0, 64, .inl (S.1))), ((e 65), .inl (0, 64, .inl (S.2.2))), ((e 66), .inl (0, 64, .inl (S.2.1))), ((e 67), .inl (0, 64, .inl he)), ((e 68), .inl (0, 3904, .inl fw)), ((e 69), .inl (0, 3904, .inl bw)), ((e 72), .inl (0, 192, .inl (pCl (c3 S) fc (3 * (D.1 14 * D.1 15)))))]) :
    ∀ (m i : Nat) , i + m = (D.1 14 * D.1 15) → zS (l, mX13_fire, dd, Po, K0, h0, Xo, Gc) 0 0 99 [(0, .ref mo), (5, .int (nI i))] [] [(mo, .inr (11, fMo e g w)), ((e 14), .inl (0, 800, .inl nw)), ((e 64), .inl (0, 64, .inl (S.1))), ((e 65), .inl (0, 64, .inl (S.2.2))), ((e 66), .inl (0, 64, .inl (S.2.1))), ((e 67), .inl (0, 64, .inl he)), ((e 68), .inl (0, 3904, .inl fw)), ((e 69), .inl (0, 3904, .inl bw)), ((e 72), .inl (0, 192, .inl (pCl (c3 S) fc (3 * i))))] := by
  intro m
  induction m with
  | zero =>
    intro i hi
    have h64 : D.1 14 * D.1 15 ≤ 64 := Nat.mul_le_mul hC hRo
    refine zs_iload dX13_fire_99 rfl ?_
    refine zs_aload_n dX13_fire_101 rfl rfl ?_
    refine zs_callV (M := mX13_cells) (As := []) (st := [.int (nI i)]) (Kc := [(mo, .inr (11, fMo e g w)), ((e 14), .inl (0, 800, .inl nw))]) (Kr := [((e 64), .inl (0, 64, .inl (S.1))), ((e 65), .inl (0, 64, .inl (S.2.2))), ((e 66), .inl (0, 64, .inl (S.2.1))), ((e 67), .inl (0, 64, .inl he)), ((e 68), .inl (0, 3904, .inl fw)), ((e 69), .inl (0, 3904, .inl bw)), ((e 72), .inl (0, 192, .inl (pCl (c3 S) fc (3 * i))))]) [0, 1] [2, 3, 4, 5, 6, 7, 8] 0 dX13_fire_102 zl_RX13_426 kX13_cells rfl rfl rfl rfl rfl (by decide) rfl rfl (show dd - 1 + 1 ≤ dd by omega) (Nat.zero_le _) (Nat.zero_le _) (Nat.le_of_ble_eq_true rfl) (s_mCells l (dd - 1) mo e g w nw D hR) (fun r K1 hr => ?_)
    obtain ⟨rfl, rfl⟩ := hr
    refine zs_K (K' := [(mo, .inr (11, fMo e g w)), ((e 14), .inl (0, 800, .inl nw)), ((e 64), .inl (0, 64, .inl (S.1))), ((e 65), .inl (0, 64, .inl (S.2.2))), ((e 66), .inl (0, 64, .inl (S.2.1))), ((e 67), .inl (0, 64, .inl he)), ((e 68), .inl (0, 3904, .inl fw)), ((e 69), .inl (0, 3904, .inl bw)), ((e 72), .inl (0, 192, .inl (pCl (c3 S) fc (3 * i))))]) [7, 8, 0, 1, 2, 3, 4, 5, 6] rfl (by decide) ?_
    refine zs_icmp_ge (tgt := 166) dX13_fire_105 (by decide) (fun c_1 => ?_) (fun c_1 => (c_1 (by rw [show i = (D.1 14 * D.1 15) by omega]; exact Int32.le_refl _) : False).elim)
    rw [show i = (D.1 14 * D.1 15) by omega]
    refine zs_lv [0] rfl ?_
    exact hk
  | succ m ih =>
    intro i hi
    have h64 : D.1 14 * D.1 15 ≤ 64 := Nat.mul_le_mul hC hRo
    refine zs_iload dX13_fire_99 rfl ?_
    refine zs_aload_n dX13_fire_101 rfl rfl ?_
    refine zs_callV (M := mX13_cells) (As := []) (st := [.int (nI i)]) (Kc := [(mo, .inr (11, fMo e g w)), ((e 14), .inl (0, 800, .inl nw))]) (Kr := [((e 64), .inl (0, 64, .inl (S.1))), ((e 65), .inl (0, 64, .inl (S.2.2))), ((e 66), .inl (0, 64, .inl (S.2.1))), ((e 67), .inl (0, 64, .inl he)), ((e 68), .inl (0, 3904, .inl fw)), ((e 69), .inl (0, 3904, .inl bw)), ((e 72), .inl (0, 192, .inl (pCl (c3 S) fc (3 * i))))]) [0, 1] [2, 3, 4, 5, 6, 7, 8] 0 dX13_fire_102 zl_RX13_426 kX13_cells rfl rfl rfl rfl rfl (by decide) rfl rfl (show dd - 1 + 1 ≤ dd by omega) (Nat.zero_le _) (Nat.zero_le _) (Nat.le_of_ble_eq_true rfl) (s_mCells l (dd - 1) mo e g w nw D hR) (fun r K1 hr => ?_)
    obtain ⟨rfl, rfl⟩ := hr
    refine zs_K (K' := [(mo, .inr (11, fMo e g w)), ((e 14), .inl (0, 800, .inl nw)), ((e 64), .inl (0, 64, .inl (S.1))), ((e 65), .inl (0, 64, .inl (S.2.2))), ((e 66), .inl (0, 64, .inl (S.2.1))), ((e 67), .inl (0, 64, .inl he)), ((e 68), .inl (0, 3904, .inl fw)), ((e 69), .inl (0, 3904, .inl bw)), ((e 72), .inl (0, 192, .inl (pCl (c3 S) fc (3 * i))))]) [7, 8, 0, 1, 2, 3, 4, 5, 6] rfl (by decide) ?_
    refine zs_icmp_ge (tgt := 166) dX13_fire_105 (by decide) (fun c_1 => (nI_ge (show i < (D.1 14 * D.1 15) by omega) (by omega) c_1 : False).elim) (fun c_1 => ?_)
    refine zs_aload_n dX13_fire_108 rfl rfl ?_
    refine zs_get 0 dX13_fire_109 zf_RX13_123 rfl (v := .ref (e 72)) rfl ?_
    refine zs_iconst (v := nI 3) dX13_fire_112 (by decide) ?_
    refine zs_iload dX13_fire_113 rfl ?_
    refine zs_imul dX13_fire_115 ?_
    refine zs_as (y := nI (3 * i)) (nI_mul _ _) ?_
    refine zs_aload_n dX13_fire_116 rfl rfl ?_
    refine zs_get 0 dX13_fire_117 zf_RX13_105 rfl (v := .ref (e 64)) rfl ?_
    refine zs_iload dX13_fire_120 rfl ?_
    refine zs_iald 2 dX13_fire_122 rfl (vp_in_nI (by omega) (by omega)) ?_
    refine zs_as (y := (S.1) i) (by rw [nI_c (n := i) (by omega)]) ?_
    refine zs_iast 8 dX13_fire_123 rfl (vp_in_nI (by omega) (by omega)) ?_
    rw [nI_c (n := 3 * i) (by omega)]
    rw [show (upd (pCl (c3 S) fc (3 * i)) (3 * i) ((S.1) i)) = (pCl (c3 S) fc (3 * i + 1)) from pCl_u c3_0]
    show zS _ _ _ _ _ _ [(mo, .inr (11, fMo e g w)), ((e 14), .inl (0, 800, .inl nw)), ((e 64), .inl (0, 64, .inl (S.1))), ((e 65), .inl (0, 64, .inl (S.2.2))), ((e 66), .inl (0, 64, .inl (S.2.1))), ((e 67), .inl (0, 64, .inl he)), ((e 68), .inl (0, 3904, .inl fw)), ((e 69), .inl (0, 3904, .inl bw)), ((e 72), .inl (0, 192, .inl (pCl (c3 S) fc (3 * i + 1))))]
    refine zs_aload_n dX13_fire_124 rfl rfl ?_
    refine zs_get 0 dX13_fire_125 zf_RX13_123 rfl (v := .ref (e 72)) rfl ?_
    refine zs_iconst (v := nI 3) dX13_fire_128 (by decide) ?_
    refine zs_iload dX13_fire_129 rfl ?_
    refine zs_imul dX13_fire_131 ?_
    refine zs_as (y := nI (3 * i)) (nI_mul _ _) ?_
    refine zs_iconst (v := nI 1) dX13_fire_132 (by decide) ?_
    refine zs_iadd dX13_fire_133 ?_
    refine zs_as (y := nI ((3 * i) + 1)) (nI_add _ _) ?_
    refine zs_aload_n dX13_fire_134 rfl rfl ?_
    refine zs_get 0 dX13_fire_135 zf_RX13_108 rfl (v := .ref (e 65)) rfl ?_
    refine zs_iload dX13_fire_138 rfl ?_
    refine zs_iald 3 dX13_fire_140 rfl (vp_in_nI (by omega) (by omega)) ?_
    refine zs_as (y := (S.2.2) i) (by rw [nI_c (n := i) (by omega)]) ?_
    refine zs_iast 8 dX13_fire_141 rfl (vp_in_nI (by omega) (by omega)) ?_
    rw [nI_c (n := (3 * i) + 1) (by omega)]
    rw [show (upd (pCl (c3 S) fc (3 * i + 1)) ((3 * i) + 1) ((S.2.2) i)) = (pCl (c3 S) fc (3 * i + 2)) from pCl_u c3_1]
    show zS _ _ _ _ _ _ [(mo, .inr (11, fMo e g w)), ((e 14), .inl (0, 800, .inl nw)), ((e 64), .inl (0, 64, .inl (S.1))), ((e 65), .inl (0, 64, .inl (S.2.2))), ((e 66), .inl (0, 64, .inl (S.2.1))), ((e 67), .inl (0, 64, .inl he)), ((e 68), .inl (0, 3904, .inl fw)), ((e 69), .inl (0, 3904, .inl bw)), ((e 72), .inl (0, 192, .inl (pCl (c3 S) fc (3 * i + 2))))]
    refine zs_aload_n dX13_fire_142 rfl rfl ?_
    refine zs_get 0 dX13_fire_143 zf_RX13_123 rfl (v := .ref (e 72)) rfl ?_
    refine zs_iconst (v := nI 3) dX13_fire_146 (by decide) ?_
    refine zs_iload dX13_fire_147 rfl ?_
    refine zs_imul dX13_fire_149 ?_
    refine zs_as (y := nI (3 * i)) (nI_mul _ _) ?_
    refine zs_iconst (v := nI 2) dX13_fire_150 (by decide) ?_
    refine zs_iadd dX13_fire_151 ?_
    refine zs_as (y := nI ((3 * i) + 2)) (nI_add _ _) ?_
    refine zs_aload_n dX13_fire_152 rfl rfl ?_
    refine zs_get 0 dX13_fire_153 zf_RX13_111 rfl (v := .ref (e 66)) rfl ?_
    refine zs_iload dX13_fire_156 rfl ?_
    refine zs_iald 4 dX13_fire_158 rfl (vp_in_nI (by omega) (by omega)) ?_
    refine zs_as (y := (S.2.1) i) (by rw [nI_c (n := i) (by omega)]) ?_
    refine zs_iast 8 dX13_fire_159 rfl (vp_in_nI (by omega) (by omega)) ?_
    rw [nI_c (n := (3 * i) + 2) (by omega)]
    rw [show (upd (pCl (c3 S) fc (3 * i + 2)) ((3 * i) + 2) ((S.2.1) i)) = (pCl (c3 S) fc (3 * (i + 1))) from pCl_u c3_2]
    show zS _ _ _ _ _ _ [(mo, .inr (11, fMo e g w)), ((e 14), .inl (0, 800, .inl nw)), ((e 64), .inl (0, 64, .inl (S.1))), ((e 65), .inl (0, 64, .inl (S.2.2))), ((e 66), .inl (0, 64, .inl (S.2.1))), ((e 67), .inl (0, 64, .inl he)), ((e 68), .inl (0, 3904, .inl fw)), ((e 69), .inl (0, 3904, .inl bw)), ((e 72), .inl (0, 192, .inl (pCl (c3 S) fc (3 * (i + 1)))))]
    refine zs_iinc (v := (nI (i + 1))) (lv' := [(5, .int (nI (i + 1))), (0, .ref mo)]) dX13_fire_160 rfl (nI_add _ 1) (Nat.le_of_ble_eq_true rfl) rfl ?_
    refine zs_goto (tgt := 99) dX13_fire_163 (by decide) ?_
    refine zs_lv [1, 0] rfl ?_
    exact ih (i + 1) (by omega)
set_option maxRecDepth 100000 in
theorem s_mFire (l : Launch) (dd : Nat) (mo : Nat) (e : Nat → Nat) (g : Nat → Int32) (w : Int64) (nw : Nat → Int32) (D : zYd) (fu bu we he fw bw fc : Nat → Int32) (x1 v a x4 : Int32) (hd : 6 ≤ dd) (hb : g 22 = 0 ∨ g 22 = 1) (hR : yR D (mLay g nw)) (hD : yI D) (hyB : yB D) : zSp l mX13_fire dd 0 0 [.ref mo, .int x1, .int v, .int a, .int x4] [(mo, .inr (11, fMo e g w)), ((e 14), .inl (0, 800, .inl nw)), ((e 64), .inl (0, 64, .inl fu)), ((e 65), .inl (0, 64, .inl bu)), ((e 66), .inl (0, 64, .inl we)), ((e 67), .inl (0, 64, .inl he)), ((e 68), .inl (0, 3904, .inl fw)), ((e 69), .inl (0, 3904, .inl bw)), ((e 72), .inl (0, 192, .inl fc))] (fun r K' => (¬ (¬ x1 < 0 ∧ ¬ nI 60 < x1 ∧ lTd v = true ∧ pTold (nI (D.1 14)) (nI (D.1 15)) a = true ∧ ¬ x4 < 0 ∧ ¬ nI 20 < x4) ∧ r = some (.int (-1)) ∧ ∃ (g' : Nat → Int32), mFr [0, 22, 70, 71, 73, 74, 75, 76] g g' ∧ g' 0 = nI 0 ∧ g' 22 = 1 ∧ g' 76 = g 76 ∧ g' 73 = g 73 ∧ g' 74 = g 74 ∧ g' 75 = g 75 ∧ K' = [(mo, .inr (11, fMo e g' w)), ((e 14), .inl (0, 800, .inl (mLay g nw))), ((e 64), .inl (0, 64, .inl fu)), ((e 65), .inl (0, 64, .inl bu)), ((e 66), .inl (0, 64, .inl we)), ((e 67), .inl (0, 64, .inl he)), ((e 68), .inl (0, 3904, .inl fw)), ((e 69), .inl (0, 3904, .inl bw)), ((e 72), .inl (0, 192, .inl fc))]) ∨ (∃ M la, M ≤ 60 ∧ la ≤ 20 ∧ x1 = nI M ∧ x4 = nI la ∧ (¬ x1 < 0 ∧ ¬ nI 60 < x1 ∧ lTd v = true ∧ pTold (nI (D.1 14)) (nI (D.1 15)) a = true ∧ ¬ x4 < 0 ∧ ¬ nI 20 < x4) ∧ r = some (.int (fL (D.1 14) (D.1 15) D.2.1 a v la (sc0 D) z0 0 M)) ∧ ∃ (g' fu' bu' we' he' fw' bw' fc' : Nat → Int32), mFr [0, 22, 70, 71, 73, 74, 75, 76] g g' ∧ g' 0 = nI 0 ∧ g' 22 = 1 ∧ g' 76 = nI 1 ∧ g' 73 = nI (D.1 14) ∧ g' 74 = nI (D.1 15) ∧ g' 75 = fO (D.1 14) (D.1 15) D.2.1 a v la (sc0 D) z0 (if pCnt (nF D.2.2.2.2.2.2.2) (D.1 14 * D.1 15) = 0 then 0 else -1) M ∧ mFc (D.1 14) (D.1 15) ((fS (D.1 14) (D.1 15) D.2.1 a v la (sc0 D) z0 M).1) fc' ∧ K' = [(mo, .inr (11, fMo e g' w)), ((e 14), .inl (0, 800, .inl (mLay g nw))), ((e 64), .inl (0, 64, .inl (fu'))), ((e 65), .inl (0, 64, .inl (bu'))), ((e 66), .inl (0, 64, .inl (we'))), ((e 67), .inl (0, 64, .inl (he'))), ((e 68), .inl (0, 3904, .inl (fw'))), ((e 69), .inl (0, 3904, .inl (bw'))), ((e 72), .inl (0, 192, .inl (fc')))])) := by
  refine zSp.of (by decide) (Nat.le_of_ble_eq_true rfl) (fun h0 => ?_)
  show zS _ 0 0 0 [(0, .ref mo), (1, .int x1), (2, .int v), (3, .int a), (4, .int x4)] [] [(mo, .inr (11, fMo e g w)), ((e 14), .inl (0, 800, .inl nw)), ((e 64), .inl (0, 64, .inl fu)), ((e 65), .inl (0, 64, .inl bu)), ((e 66), .inl (0, 64, .inl we)), ((e 67), .inl (0, 64, .inl he)), ((e 68), .inl (0, 3904, .inl fw)), ((e 69), .inl (0, 3904, .inl bw)), ((e 72), .inl (0, 192, .inl fc))]
  have hC := hD.2.1
  have hRo := hD.2.2.1
  have h64 : D.1 14 * D.1 15 ≤ 64 := Nat.mul_le_mul hC hRo
  refine zs_aload_n dX13_fire_0 rfl rfl ?_
  refine zs_iconst (v := nI 0) dX13_fire_1 (by decide) ?_
  refine zs_put 0 dX13_fire_2 zf_RX13_148 rfl (Nat.le_of_ble_eq_true rfl) (zPv_i _) ?_
  show zS _ _ _ _ _ _ [(mo, .inr (11, fMo e (upd g 0 (nI 0)) w)), ((e 14), .inl (0, 800, .inl nw)), ((e 64), .inl (0, 64, .inl fu)), ((e 65), .inl (0, 64, .inl bu)), ((e 66), .inl (0, 64, .inl we)), ((e 67), .inl (0, 64, .inl he)), ((e 68), .inl (0, 3904, .inl fw)), ((e 69), .inl (0, 3904, .inl bw)), ((e 72), .inl (0, 192, .inl fc))]
  refine zs_aload_n dX13_fire_5 rfl rfl ?_
  refine zs_callV (M := mX13_lay) (As := []) (st := []) (Kc := [(mo, .inr (11, fMo e (upd g 0 (nI 0)) w)), ((e 14), .inl (0, 800, .inl nw))]) (Kr := [((e 64), .inl (0, 64, .inl fu)), ((e 65), .inl (0, 64, .inl bu)), ((e 66), .inl (0, 64, .inl we)), ((e 67), .inl (0, 64, .inl he)), ((e 68), .inl (0, 3904, .inl fw)), ((e 69), .inl (0, 3904, .inl bw)), ((e 72), .inl (0, 192, .inl fc))]) [0, 1] [2, 3, 4, 5, 6, 7, 8] 0 dX13_fire_6 zl_RX13_232 kX13_lay rfl rfl rfl rfl rfl (by decide) rfl rfl (show dd - 1 + 1 ≤ dd by omega) (Nat.zero_le _) (Nat.zero_le _) (Nat.le_of_ble_eq_true rfl) (s_mLay l (dd - 1) mo e (upd g 0 (nI 0)) w nw (by omega) hb) (fun r K1 hr => ?_)
  obtain ⟨rfl, g2, hfr2, h22, rfl⟩ := hr
  rw [show mLay (upd g 0 (nI 0)) nw = mLay g nw from rfl]
  refine zs_K (K' := [(mo, .inr (11, fMo e g2 w)), ((e 14), .inl (0, 800, .inl (mLay g nw))), ((e 64), .inl (0, 64, .inl fu)), ((e 65), .inl (0, 64, .inl bu)), ((e 66), .inl (0, 64, .inl we)), ((e 67), .inl (0, 64, .inl he)), ((e 68), .inl (0, 3904, .inl fw)), ((e 69), .inl (0, 3904, .inl bw)), ((e 72), .inl (0, 192, .inl fc))]) [7, 8, 0, 1, 2, 3, 4, 5, 6] rfl (by decide) ?_
  refine zs_iload_n dX13_fire_9 rfl ?_
  refine zs_iconst (v := nI 0) dX13_fire_10 (by decide) ?_
  refine zs_bipush (v := nI 60) dX13_fire_11 (by decide) ?_
  refine zs_callS (M := mX13_isIn) (As := [.int x1, .int (nI 0), .int (nI 60)]) (st := []) (Kc := []) (Kr := [(mo, .inr (11, fMo e g2 w)), ((e 14), .inl (0, 800, .inl (mLay g nw))), ((e 64), .inl (0, 64, .inl fu)), ((e 65), .inl (0, 64, .inl bu)), ((e 66), .inl (0, 64, .inl we)), ((e 67), .inl (0, 64, .inl he)), ((e 68), .inl (0, 3904, .inl fw)), ((e 69), .inl (0, 3904, .inl bw)), ((e 72), .inl (0, 192, .inl fc))]) [] [0, 1, 2, 3, 4, 5, 6, 7, 8] dX13_fire_13 zl_RX13_219 kX13_isIn rfl rfl rfl rfl rfl (by decide) (show dd - 1 + 1 ≤ dd by omega) (Nat.zero_le _) (Nat.zero_le _) (Nat.le_of_ble_eq_true rfl) (s_mIsIn l (dd - 1) x1 (nI 0) (nI 60)) (fun r K1 hr => ?_)
  obtain ⟨rfl, rfl⟩ := hr
  refine zs_K (K' := [(mo, .inr (11, fMo e g2 w)), ((e 14), .inl (0, 800, .inl (mLay g nw))), ((e 64), .inl (0, 64, .inl fu)), ((e 65), .inl (0, 64, .inl bu)), ((e 66), .inl (0, 64, .inl we)), ((e 67), .inl (0, 64, .inl he)), ((e 68), .inl (0, 3904, .inl fw)), ((e 69), .inl (0, 3904, .inl bw)), ((e 72), .inl (0, 192, .inl fc))]) [0, 1, 2, 3, 4, 5, 6, 7, 8] rfl (by decide) ?_
  refine zs_if_eq (tgt := 49) dX13_fire_16 (by decide) (fun c_1 => ?_) (fun c_1 => ?_)
  · refine zs_iconst (v := (-1)) dX13_fire_49 (by decide) ?_
    exact zs_iret dX13_fire_50 rfl (Or.inl ⟨(fun q => absurd ⟨q.1, q.2.1⟩ (of_decide_eq_false (bI_f c_1))), rfl, g2, (mFr_t (mFr_u mFr_r (by decide) : mFr [0] g (upd g 0 (nI 0))) hfr2 (by decide) (by decide)), hfr2 0 (by decide), h22, hfr2 76 (by decide), hfr2 73 (by decide), hfr2 74 (by decide), hfr2 75 (by decide), rfl⟩)
  · have hc1 := of_decide_eq_true (bI_t c_1)
    refine zs_iload_n dX13_fire_19 rfl ?_
    refine zs_iconst (v := nI 0) dX13_fire_20 (by decide) ?_
    refine zs_sipush (v := nI 999) dX13_fire_21 (by decide) ?_
    refine zs_callS (M := mX13_isIn) (As := [.int v, .int (nI 0), .int (nI 999)]) (st := []) (Kc := []) (Kr := [(mo, .inr (11, fMo e g2 w)), ((e 14), .inl (0, 800, .inl (mLay g nw))), ((e 64), .inl (0, 64, .inl fu)), ((e 65), .inl (0, 64, .inl bu)), ((e 66), .inl (0, 64, .inl we)), ((e 67), .inl (0, 64, .inl he)), ((e 68), .inl (0, 3904, .inl fw)), ((e 69), .inl (0, 3904, .inl bw)), ((e 72), .inl (0, 192, .inl fc))]) [] [0, 1, 2, 3, 4, 5, 6, 7, 8] dX13_fire_24 zl_RX13_219 kX13_isIn rfl rfl rfl rfl rfl (by decide) (show dd - 1 + 1 ≤ dd by omega) (Nat.zero_le _) (Nat.zero_le _) (Nat.le_of_ble_eq_true rfl) (s_mIsIn l (dd - 1) v (nI 0) (nI 999)) (fun r K1 hr => ?_)
    obtain ⟨rfl, rfl⟩ := hr
    refine zs_K (K' := [(mo, .inr (11, fMo e g2 w)), ((e 14), .inl (0, 800, .inl (mLay g nw))), ((e 64), .inl (0, 64, .inl fu)), ((e 65), .inl (0, 64, .inl bu)), ((e 66), .inl (0, 64, .inl we)), ((e 67), .inl (0, 64, .inl he)), ((e 68), .inl (0, 3904, .inl fw)), ((e 69), .inl (0, 3904, .inl bw)), ((e 72), .inl (0, 192, .inl fc))]) [0, 1, 2, 3, 4, 5, 6, 7, 8] rfl (by decide) ?_
    refine zs_if_eq (tgt := 49) dX13_fire_27 (by decide) (fun c_2 => ?_) (fun c_2 => ?_)
    · refine zs_iconst (v := (-1)) dX13_fire_49 (by decide) ?_
      exact zs_iret dX13_fire_50 rfl (Or.inl ⟨(fun q => absurd (of_decide_eq_true q.2.2.1) (of_decide_eq_false (bI_f c_2))), rfl, g2, (mFr_t (mFr_u mFr_r (by decide) : mFr [0] g (upd g 0 (nI 0))) hfr2 (by decide) (by decide)), hfr2 0 (by decide), h22, hfr2 76 (by decide), hfr2 73 (by decide), hfr2 74 (by decide), hfr2 75 (by decide), rfl⟩)
    · have hc2 := of_decide_eq_true (bI_t c_2)
      refine zs_aload_n dX13_fire_30 rfl rfl ?_
      refine zs_iload_n dX13_fire_31 rfl ?_
      refine zs_callV (M := mX13_isAim) (As := [.int a]) (st := []) (Kc := [(mo, .inr (11, fMo e g2 w)), ((e 14), .inl (0, 800, .inl (mLay g nw)))]) (Kr := [((e 64), .inl (0, 64, .inl fu)), ((e 65), .inl (0, 64, .inl bu)), ((e 66), .inl (0, 64, .inl we)), ((e 67), .inl (0, 64, .inl he)), ((e 68), .inl (0, 3904, .inl fw)), ((e 69), .inl (0, 3904, .inl bw)), ((e 72), .inl (0, 192, .inl fc))]) [0, 1] [2, 3, 4, 5, 6, 7, 8] 0 dX13_fire_32 zl_RX13_448 kX13_isAim rfl rfl rfl rfl rfl (by decide) rfl rfl (show dd - 1 + 1 ≤ dd by omega) (Nat.zero_le _) (Nat.zero_le _) (Nat.le_of_ble_eq_true rfl) (s_mIsAim l (dd - 1) mo e g2 w (mLay g nw) D a (by omega) hR hD) (fun r K1 hr => ?_)
      obtain ⟨rfl, rfl⟩ := hr
      refine zs_K (K' := [(mo, .inr (11, fMo e g2 w)), ((e 14), .inl (0, 800, .inl (mLay g nw))), ((e 64), .inl (0, 64, .inl fu)), ((e 65), .inl (0, 64, .inl bu)), ((e 66), .inl (0, 64, .inl we)), ((e 67), .inl (0, 64, .inl he)), ((e 68), .inl (0, 3904, .inl fw)), ((e 69), .inl (0, 3904, .inl bw)), ((e 72), .inl (0, 192, .inl fc))]) [7, 8, 0, 1, 2, 3, 4, 5, 6] rfl (by decide) ?_
      refine zs_if_eq (tgt := 49) dX13_fire_35 (by decide) (fun c_3 => ?_) (fun c_3 => ?_)
      · refine zs_iconst (v := (-1)) dX13_fire_49 (by decide) ?_
        exact zs_iret dX13_fire_50 rfl (Or.inl ⟨(fun q => absurd q.2.2.2.1 (by rw [bI_f c_3]; decide)), rfl, g2, (mFr_t (mFr_u mFr_r (by decide) : mFr [0] g (upd g 0 (nI 0))) hfr2 (by decide) (by decide)), hfr2 0 (by decide), h22, hfr2 76 (by decide), hfr2 73 (by decide), hfr2 74 (by decide), hfr2 75 (by decide), rfl⟩)
      · have hpt := bI_t c_3
        refine zs_iload dX13_fire_38 rfl ?_
        refine zs_iconst (v := nI 0) dX13_fire_40 (by decide) ?_
        refine zs_bipush (v := nI 20) dX13_fire_41 (by decide) ?_
        refine zs_callS (M := mX13_isIn) (As := [.int x4, .int (nI 0), .int (nI 20)]) (st := []) (Kc := []) (Kr := [(mo, .inr (11, fMo e g2 w)), ((e 14), .inl (0, 800, .inl (mLay g nw))), ((e 64), .inl (0, 64, .inl fu)), ((e 65), .inl (0, 64, .inl bu)), ((e 66), .inl (0, 64, .inl we)), ((e 67), .inl (0, 64, .inl he)), ((e 68), .inl (0, 3904, .inl fw)), ((e 69), .inl (0, 3904, .inl bw)), ((e 72), .inl (0, 192, .inl fc))]) [] [0, 1, 2, 3, 4, 5, 6, 7, 8] dX13_fire_43 zl_RX13_219 kX13_isIn rfl rfl rfl rfl rfl (by decide) (show dd - 1 + 1 ≤ dd by omega) (Nat.zero_le _) (Nat.zero_le _) (Nat.le_of_ble_eq_true rfl) (s_mIsIn l (dd - 1) x4 (nI 0) (nI 20)) (fun r K1 hr => ?_)
        obtain ⟨rfl, rfl⟩ := hr
        refine zs_K (K' := [(mo, .inr (11, fMo e g2 w)), ((e 14), .inl (0, 800, .inl (mLay g nw))), ((e 64), .inl (0, 64, .inl fu)), ((e 65), .inl (0, 64, .inl bu)), ((e 66), .inl (0, 64, .inl we)), ((e 67), .inl (0, 64, .inl he)), ((e 68), .inl (0, 3904, .inl fw)), ((e 69), .inl (0, 3904, .inl bw)), ((e 72), .inl (0, 192, .inl fc))]) [0, 1, 2, 3, 4, 5, 6, 7, 8] rfl (by decide) ?_
        refine zs_if_ne (tgt := 51) dX13_fire_46 (by decide) (fun c_4 => ?_) (fun c_4 => ?_)
        · have hc4 := of_decide_eq_true (bI_t c_4)
          obtain ⟨M, hM0, rfl⟩ := zi_nn (x := x1) hc1.1
          obtain ⟨la, hla0, rfl⟩ := zi_nn (x := x4) hc4.1
          obtain ⟨u, hu0, rfl⟩ := zi_nn (x := v) hc2.1
          have hM : M ≤ 60 := by have h := hc1.2; rw [nI_lt' (by omega) (by omega)] at h; omega
          have hla : la ≤ 20 := by have h := hc4.2; rw [nI_lt' (by omega) (by omega)] at h; omega
          have hu : u ≤ 999 := by have h := hc2.2; rw [nI_lt' (by omega) (by omega)] at h; omega
          have hcond : (¬ nI M < 0 ∧ ¬ nI 60 < nI M ∧ lTd (nI u) = true ∧ pTold (nI (D.1 14)) (nI (D.1 15)) a = true ∧ ¬ nI la < 0 ∧ ¬ nI 20 < nI la) := ⟨hc1.1, hc1.2, decide_eq_true hc2, hpt, hc4.1, hc4.2⟩
          refine zs_aload_n dX13_fire_51 rfl rfl ?_
          refine zs_callV (M := mX13_light) (As := []) (st := []) (Kc := [(mo, .inr (11, fMo e g2 w)), ((e 14), .inl (0, 800, .inl (mLay g nw))), ((e 64), .inl (0, 64, .inl fu)), ((e 65), .inl (0, 64, .inl bu)), ((e 66), .inl (0, 64, .inl we))]) (Kr := [((e 67), .inl (0, 64, .inl he)), ((e 68), .inl (0, 3904, .inl fw)), ((e 69), .inl (0, 3904, .inl bw)), ((e 72), .inl (0, 192, .inl fc))]) [0, 1, 2, 3, 4] [5, 6, 7, 8] 0 dX13_fire_52 zl_RX13_451 kX13_light rfl rfl rfl rfl rfl (by decide) rfl rfl (show dd - 1 + 1 ≤ dd by omega) (Nat.zero_le _) (Nat.zero_le _) (Nat.le_of_ble_eq_true rfl) (s_mLight l (dd - 1) mo e g2 w (mLay g nw) D fu bu we (by omega) hR hC hRo) (fun r K1 hr => ?_)
          obtain ⟨rfl, rfl⟩ := hr
          have hg3 : mFr [0, 22, 70] g (upd g2 70 (nI 0)) := mFr_u (mFr_t (mFr_u mFr_r (by decide) : mFr [0] g (upd g 0 (nI 0))) hfr2 (by decide) (by decide)) (by decide)
          have h370 : (upd g2 70 (nI 0)) 70 = 0 := rfl
          have h322 : (upd g2 70 (nI 0)) 22 = 1 := h22
          have h30 : (upd g2 70 (nI 0)) 0 = nI 0 := hfr2 0 (by decide)
          generalize (upd g2 70 (nI 0)) = g3 at hg3 h370 h322 h30 ⊢
          refine zs_K (K' := [(mo, .inr (11, fMo e g3 w)), ((e 14), .inl (0, 800, .inl (mLay g nw))), ((e 64), .inl (0, 64, .inl ((pCl (nF D.2.2.2.2.2.2.1) fu (D.1 14 * D.1 15), pCl (fun _ => 0) we (D.1 14 * D.1 15), pCl (nF D.2.2.2.2.2.2.2) bu (D.1 14 * D.1 15)).1))), ((e 65), .inl (0, 64, .inl ((pCl (nF D.2.2.2.2.2.2.1) fu (D.1 14 * D.1 15), pCl (fun _ => 0) we (D.1 14 * D.1 15), pCl (nF D.2.2.2.2.2.2.2) bu (D.1 14 * D.1 15)).2.2))), ((e 66), .inl (0, 64, .inl ((pCl (nF D.2.2.2.2.2.2.1) fu (D.1 14 * D.1 15), pCl (fun _ => 0) we (D.1 14 * D.1 15), pCl (nF D.2.2.2.2.2.2.2) bu (D.1 14 * D.1 15)).2.1))), ((e 67), .inl (0, 64, .inl he)), ((e 68), .inl (0, 3904, .inl fw)), ((e 69), .inl (0, 3904, .inl bw)), ((e 72), .inl (0, 192, .inl fc))]) [4, 5, 6, 7, 8, 0, 1, 2, 3] rfl (by decide) ?_
          refine zs_aload_n dX13_fire_55 rfl rfl ?_
          refine zs_iload_n dX13_fire_56 rfl ?_
          refine zs_iload_n dX13_fire_57 rfl ?_
          refine zs_iload_n dX13_fire_58 rfl ?_
          refine zs_iload dX13_fire_59 rfl ?_
          refine zs_callV (M := mX13_fires) (As := [.int (nI M), .int (nI u), .int a, .int (nI la)]) (st := []) (Kc := [(mo, .inr (11, fMo e g3 w)), ((e 14), .inl (0, 800, .inl (mLay g nw))), ((e 64), .inl (0, 64, .inl ((pCl (nF D.2.2.2.2.2.2.1) fu (D.1 14 * D.1 15), pCl (fun _ => 0) we (D.1 14 * D.1 15), pCl (nF D.2.2.2.2.2.2.2) bu (D.1 14 * D.1 15)).1))), ((e 65), .inl (0, 64, .inl ((pCl (nF D.2.2.2.2.2.2.1) fu (D.1 14 * D.1 15), pCl (fun _ => 0) we (D.1 14 * D.1 15), pCl (nF D.2.2.2.2.2.2.2) bu (D.1 14 * D.1 15)).2.2))), ((e 66), .inl (0, 64, .inl ((pCl (nF D.2.2.2.2.2.2.1) fu (D.1 14 * D.1 15), pCl (fun _ => 0) we (D.1 14 * D.1 15), pCl (nF D.2.2.2.2.2.2.2) bu (D.1 14 * D.1 15)).2.1))), ((e 67), .inl (0, 64, .inl he)), ((e 68), .inl (0, 3904, .inl fw)), ((e 69), .inl (0, 3904, .inl bw))]) (Kr := [((e 72), .inl (0, 192, .inl fc))]) [0, 1, 2, 3, 4, 5, 6, 7] [8] 0 dX13_fire_61 zl_RX13_454 kX13_fires rfl rfl rfl rfl rfl (by decide) rfl rfl (show dd - 1 + 1 ≤ dd by omega) (Nat.zero_le _) (Nat.zero_le _) (Nat.le_of_ble_eq_true rfl) (s_mFires l (dd - 1) mo e g3 w (mLay g nw) D (pCl (nF D.2.2.2.2.2.2.1) fu (D.1 14 * D.1 15), pCl (fun _ => 0) we (D.1 14 * D.1 15), pCl (nF D.2.2.2.2.2.2.2) bu (D.1 14 * D.1 15)) M u la 0 a fw bw he (by omega) hR hC hRo (fK_0 hD hyB) (by omega) (aO_T hC hRo hpt) hM hla) (fun r K1 hr => ?_)
          obtain ⟨rfl, he2, fw2, bw2, rfl⟩ := hr
          refine zs_K (K' := [(mo, .inr (11, fMo e (upd (upd g3 70 (fL (D.1 14) (D.1 15) D.2.1 a (nI u) la (pCl (nF D.2.2.2.2.2.2.1) fu (D.1 14 * D.1 15), pCl (fun _ => 0) we (D.1 14 * D.1 15), pCl (nF D.2.2.2.2.2.2.2) bu (D.1 14 * D.1 15)) z0 (g3 70) M)) 71 (fO (D.1 14) (D.1 15) D.2.1 a (nI u) la (pCl (nF D.2.2.2.2.2.2.1) fu (D.1 14 * D.1 15), pCl (fun _ => 0) we (D.1 14 * D.1 15), pCl (nF D.2.2.2.2.2.2.2) bu (D.1 14 * D.1 15)) z0 (if pCnt (pCl (nF D.2.2.2.2.2.2.1) fu (D.1 14 * D.1 15), pCl (fun _ => 0) we (D.1 14 * D.1 15), pCl (nF D.2.2.2.2.2.2.2) bu (D.1 14 * D.1 15)).2.2 (D.1 14 * D.1 15) = 0 then 0 else -1) M)) w)), ((e 14), .inl (0, 800, .inl (mLay g nw))), ((e 64), .inl (0, 64, .inl (((fS (D.1 14) (D.1 15) D.2.1 a (nI u) la (pCl (nF D.2.2.2.2.2.2.1) fu (D.1 14 * D.1 15), pCl (fun _ => 0) we (D.1 14 * D.1 15), pCl (nF D.2.2.2.2.2.2.2) bu (D.1 14 * D.1 15)) z0 M).1).1))), ((e 65), .inl (0, 64, .inl (((fS (D.1 14) (D.1 15) D.2.1 a (nI u) la (pCl (nF D.2.2.2.2.2.2.1) fu (D.1 14 * D.1 15), pCl (fun _ => 0) we (D.1 14 * D.1 15), pCl (nF D.2.2.2.2.2.2.2) bu (D.1 14 * D.1 15)) z0 M).1).2.2))), ((e 66), .inl (0, 64, .inl (((fS (D.1 14) (D.1 15) D.2.1 a (nI u) la (pCl (nF D.2.2.2.2.2.2.1) fu (D.1 14 * D.1 15), pCl (fun _ => 0) we (D.1 14 * D.1 15), pCl (nF D.2.2.2.2.2.2.2) bu (D.1 14 * D.1 15)) z0 M).1).2.1))), ((e 67), .inl (0, 64, .inl he2)), ((e 68), .inl (0, 3904, .inl fw2)), ((e 69), .inl (0, 3904, .inl bw2)), ((e 72), .inl (0, 192, .inl fc))]) [1, 2, 3, 4, 5, 6, 7, 8, 0] rfl (by decide) ?_
          refine zs_aload_n dX13_fire_64 rfl rfl ?_
          refine zs_iconst (v := nI 1) dX13_fire_65 (by decide) ?_
          refine zs_put 0 dX13_fire_66 zf_RX13_458 rfl (Nat.le_of_ble_eq_true rfl) (zPv_z (by first | exact Or.inl rfl | exact Or.inr rfl | assumption)) ?_
          show zS _ _ _ _ _ _ [(mo, .inr (11, fMo e (upd (upd (upd g3 70 (fL (D.1 14) (D.1 15) D.2.1 a (nI u) la (pCl (nF D.2.2.2.2.2.2.1) fu (D.1 14 * D.1 15), pCl (fun _ => 0) we (D.1 14 * D.1 15), pCl (nF D.2.2.2.2.2.2.2) bu (D.1 14 * D.1 15)) z0 (g3 70) M)) 71 (fO (D.1 14) (D.1 15) D.2.1 a (nI u) la (pCl (nF D.2.2.2.2.2.2.1) fu (D.1 14 * D.1 15), pCl (fun _ => 0) we (D.1 14 * D.1 15), pCl (nF D.2.2.2.2.2.2.2) bu (D.1 14 * D.1 15)) z0 (if pCnt (pCl (nF D.2.2.2.2.2.2.1) fu (D.1 14 * D.1 15), pCl (fun _ => 0) we (D.1 14 * D.1 15), pCl (nF D.2.2.2.2.2.2.2) bu (D.1 14 * D.1 15)).2.2 (D.1 14 * D.1 15) = 0 then 0 else -1) M)) 76 (nI 1)) w)), ((e 14), .inl (0, 800, .inl (mLay g nw))), ((e 64), .inl (0, 64, .inl (((fS (D.1 14) (D.1 15) D.2.1 a (nI u) la (pCl (nF D.2.2.2.2.2.2.1) fu (D.1 14 * D.1 15), pCl (fun _ => 0) we (D.1 14 * D.1 15), pCl (nF D.2.2.2.2.2.2.2) bu (D.1 14 * D.1 15)) z0 M).1).1))), ((e 65), .inl (0, 64, .inl (((fS (D.1 14) (D.1 15) D.2.1 a (nI u) la (pCl (nF D.2.2.2.2.2.2.1) fu (D.1 14 * D.1 15), pCl (fun _ => 0) we (D.1 14 * D.1 15), pCl (nF D.2.2.2.2.2.2.2) bu (D.1 14 * D.1 15)) z0 M).1).2.2))), ((e 66), .inl (0, 64, .inl (((fS (D.1 14) (D.1 15) D.2.1 a (nI u) la (pCl (nF D.2.2.2.2.2.2.1) fu (D.1 14 * D.1 15), pCl (fun _ => 0) we (D.1 14 * D.1 15), pCl (nF D.2.2.2.2.2.2.2) bu (D.1 14 * D.1 15)) z0 M).1).2.1))), ((e 67), .inl (0, 64, .inl he2)), ((e 68), .inl (0, 3904, .inl fw2)), ((e 69), .inl (0, 3904, .inl bw2)), ((e 72), .inl (0, 192, .inl fc))]
          refine zs_aload_n dX13_fire_69 rfl rfl ?_
          refine zs_aload_n dX13_fire_70 rfl rfl ?_
          refine zs_callV (M := mX13_columns) (As := []) (st := [.ref mo]) (Kc := [(mo, .inr (11, fMo e (upd (upd (upd g3 70 (fL (D.1 14) (D.1 15) D.2.1 a (nI u) la (pCl (nF D.2.2.2.2.2.2.1) fu (D.1 14 * D.1 15), pCl (fun _ => 0) we (D.1 14 * D.1 15), pCl (nF D.2.2.2.2.2.2.2) bu (D.1 14 * D.1 15)) z0 (g3 70) M)) 71 (fO (D.1 14) (D.1 15) D.2.1 a (nI u) la (pCl (nF D.2.2.2.2.2.2.1) fu (D.1 14 * D.1 15), pCl (fun _ => 0) we (D.1 14 * D.1 15), pCl (nF D.2.2.2.2.2.2.2) bu (D.1 14 * D.1 15)) z0 (if pCnt (pCl (nF D.2.2.2.2.2.2.1) fu (D.1 14 * D.1 15), pCl (fun _ => 0) we (D.1 14 * D.1 15), pCl (nF D.2.2.2.2.2.2.2) bu (D.1 14 * D.1 15)).2.2 (D.1 14 * D.1 15) = 0 then 0 else -1) M)) 76 (nI 1)) w)), ((e 14), .inl (0, 800, .inl (mLay g nw)))]) (Kr := [((e 64), .inl (0, 64, .inl (((fS (D.1 14) (D.1 15) D.2.1 a (nI u) la (pCl (nF D.2.2.2.2.2.2.1) fu (D.1 14 * D.1 15), pCl (fun _ => 0) we (D.1 14 * D.1 15), pCl (nF D.2.2.2.2.2.2.2) bu (D.1 14 * D.1 15)) z0 M).1).1))), ((e 65), .inl (0, 64, .inl (((fS (D.1 14) (D.1 15) D.2.1 a (nI u) la (pCl (nF D.2.2.2.2.2.2.1) fu (D.1 14 * D.1 15), pCl (fun _ => 0) we (D.1 14 * D.1 15), pCl (nF D.2.2.2.2.2.2.2) bu (D.1 14 * D.1 15)) z0 M).1).2.2))), ((e 66), .inl (0, 64, .inl (((fS (D.1 14) (D.1 15) D.2.1 a (nI u) la (pCl (nF D.2.2.2.2.2.2.1) fu (D.1 14 * D.1 15), pCl (fun _ => 0) we (D.1 14 * D.1 15), pCl (nF D.2.2.2.2.2.2.2) bu (D.1 14 * D.1 15)) z0 M).1).2.1))), ((e 67), .inl (0, 64, .inl he2)), ((e 68), .inl (0, 3904, .inl fw2)), ((e 69), .inl (0, 3904, .inl bw2)), ((e 72), .inl (0, 192, .inl fc))]) [0, 1] [2, 3, 4, 5, 6, 7, 8] 0 dX13_fire_71 zl_RX13_298 kX13_columns rfl rfl rfl rfl rfl (by decide) rfl rfl (show dd - 1 + 1 ≤ dd by omega) (Nat.zero_le _) (Nat.zero_le _) (Nat.le_of_ble_eq_true rfl) (s_mCols l (dd - 1) mo e (upd (upd (upd g3 70 (fL (D.1 14) (D.1 15) D.2.1 a (nI u) la (pCl (nF D.2.2.2.2.2.2.1) fu (D.1 14 * D.1 15), pCl (fun _ => 0) we (D.1 14 * D.1 15), pCl (nF D.2.2.2.2.2.2.2) bu (D.1 14 * D.1 15)) z0 (g3 70) M)) 71 (fO (D.1 14) (D.1 15) D.2.1 a (nI u) la (pCl (nF D.2.2.2.2.2.2.1) fu (D.1 14 * D.1 15), pCl (fun _ => 0) we (D.1 14 * D.1 15), pCl (nF D.2.2.2.2.2.2.2) bu (D.1 14 * D.1 15)) z0 (if pCnt (pCl (nF D.2.2.2.2.2.2.1) fu (D.1 14 * D.1 15), pCl (fun _ => 0) we (D.1 14 * D.1 15), pCl (nF D.2.2.2.2.2.2.2) bu (D.1 14 * D.1 15)).2.2 (D.1 14 * D.1 15) = 0 then 0 else -1) M)) 76 (nI 1)) w (mLay g nw) D hR) (fun r K1 hr => ?_)
          obtain ⟨rfl, rfl⟩ := hr
          refine zs_K (K' := [(mo, .inr (11, fMo e (upd (upd (upd g3 70 (fL (D.1 14) (D.1 15) D.2.1 a (nI u) la (pCl (nF D.2.2.2.2.2.2.1) fu (D.1 14 * D.1 15), pCl (fun _ => 0) we (D.1 14 * D.1 15), pCl (nF D.2.2.2.2.2.2.2) bu (D.1 14 * D.1 15)) z0 (g3 70) M)) 71 (fO (D.1 14) (D.1 15) D.2.1 a (nI u) la (pCl (nF D.2.2.2.2.2.2.1) fu (D.1 14 * D.1 15), pCl (fun _ => 0) we (D.1 14 * D.1 15), pCl (nF D.2.2.2.2.2.2.2) bu (D.1 14 * D.1 15)) z0 (if pCnt (pCl (nF D.2.2.2.2.2.2.1) fu (D.1 14 * D.1 15), pCl (fun _ => 0) we (D.1 14 * D.1 15), pCl (nF D.2.2.2.2.2.2.2) bu (D.1 14 * D.1 15)).2.2 (D.1 14 * D.1 15) = 0 then 0 else -1) M)) 76 (nI 1)) w)), ((e 14), .inl (0, 800, .inl (mLay g nw))), ((e 64), .inl (0, 64, .inl (((fS (D.1 14) (D.1 15) D.2.1 a (nI u) la (pCl (nF D.2.2.2.2.2.2.1) fu (D.1 14 * D.1 15), pCl (fun _ => 0) we (D.1 14 * D.1 15), pCl (nF D.2.2.2.2.2.2.2) bu (D.1 14 * D.1 15)) z0 M).1).1))), ((e 65), .inl (0, 64, .inl (((fS (D.1 14) (D.1 15) D.2.1 a (nI u) la (pCl (nF D.2.2.2.2.2.2.1) fu (D.1 14 * D.1 15), pCl (fun _ => 0) we (D.1 14 * D.1 15), pCl (nF D.2.2.2.2.2.2.2) bu (D.1 14 * D.1 15)) z0 M).1).2.2))), ((e 66), .inl (0, 64, .inl (((fS (D.1 14) (D.1 15) D.2.1 a (nI u) la (pCl (nF D.2.2.2.2.2.2.1) fu (D.1 14 * D.1 15), pCl (fun _ => 0) we (D.1 14 * D.1 15), pCl (nF D.2.2.2.2.2.2.2) bu (D.1 14 * D.1 15)) z0 M).1).2.1))), ((e 67), .inl (0, 64, .inl he2)), ((e 68), .inl (0, 3904, .inl fw2)), ((e 69), .inl (0, 3904, .inl bw2)), ((e 72), .inl (0, 192, .inl fc))]) [7, 8, 0, 1, 2, 3, 4, 5, 6] rfl (by decide) ?_
          refine zs_put 0 dX13_fire_74 zf_RX13_461 rfl (Nat.le_of_ble_eq_true rfl) (zPv_i _) ?_
          show zS _ _ _ _ _ _ [(mo, .inr (11, fMo e (upd (upd (upd (upd g3 70 (fL (D.1 14) (D.1 15) D.2.1 a (nI u) la (pCl (nF D.2.2.2.2.2.2.1) fu (D.1 14 * D.1 15), pCl (fun _ => 0) we (D.1 14 * D.1 15), pCl (nF D.2.2.2.2.2.2.2) bu (D.1 14 * D.1 15)) z0 (g3 70) M)) 71 (fO (D.1 14) (D.1 15) D.2.1 a (nI u) la (pCl (nF D.2.2.2.2.2.2.1) fu (D.1 14 * D.1 15), pCl (fun _ => 0) we (D.1 14 * D.1 15), pCl (nF D.2.2.2.2.2.2.2) bu (D.1 14 * D.1 15)) z0 (if pCnt (pCl (nF D.2.2.2.2.2.2.1) fu (D.1 14 * D.1 15), pCl (fun _ => 0) we (D.1 14 * D.1 15), pCl (nF D.2.2.2.2.2.2.2) bu (D.1 14 * D.1 15)).2.2 (D.1 14 * D.1 15) = 0 then 0 else -1) M)) 73 (nI (D.1 14))) 76 (nI 1)) w)), ((e 14), .inl (0, 800, .inl (mLay g nw))), ((e 64), .inl (0, 64, .inl (((fS (D.1 14) (D.1 15) D.2.1 a (nI u) la (pCl (nF D.2.2.2.2.2.2.1) fu (D.1 14 * D.1 15), pCl (fun _ => 0) we (D.1 14 * D.1 15), pCl (nF D.2.2.2.2.2.2.2) bu (D.1 14 * D.1 15)) z0 M).1).1))), ((e 65), .inl (0, 64, .inl (((fS (D.1 14) (D.1 15) D.2.1 a (nI u) la (pCl (nF D.2.2.2.2.2.2.1) fu (D.1 14 * D.1 15), pCl (fun _ => 0) we (D.1 14 * D.1 15), pCl (nF D.2.2.2.2.2.2.2) bu (D.1 14 * D.1 15)) z0 M).1).2.2))), ((e 66), .inl (0, 64, .inl (((fS (D.1 14) (D.1 15) D.2.1 a (nI u) la (pCl (nF D.2.2.2.2.2.2.1) fu (D.1 14 * D.1 15), pCl (fun _ => 0) we (D.1 14 * D.1 15), pCl (nF D.2.2.2.2.2.2.2) bu (D.1 14 * D.1 15)) z0 M).1).2.1))), ((e 67), .inl (0, 64, .inl he2)), ((e 68), .inl (0, 3904, .inl fw2)), ((e 69), .inl (0, 3904, .inl bw2)), ((e 72), .inl (0, 192, .inl fc))]
          refine zs_aload_n dX13_fire_77 rfl rfl ?_
          refine zs_aload_n dX13_fire_78 rfl rfl ?_
          refine zs_get 0 dX13_fire_79 zf_RX13_13 rfl (v := .ref (e 14)) rfl ?_
          refine zs_bipush (v := nI 10) dX13_fire_82 (by decide) ?_
          refine zs_iald 1 dX13_fire_84 rfl (vp_in_nI (by omega) (by omega)) ?_
          refine zs_as (y := nI (D.1 15)) (by rw [nI_c (n := 10) (by omega)]; exact hR.2.2.2.2.2.2.2.2.2.2.1) ?_
          refine zs_put 0 dX13_fire_85 zf_RX13_464 rfl (Nat.le_of_ble_eq_true rfl) (zPv_i _) ?_
          show zS _ _ _ _ _ _ [(mo, .inr (11, fMo e (upd (upd (upd (upd (upd g3 70 (fL (D.1 14) (D.1 15) D.2.1 a (nI u) la (pCl (nF D.2.2.2.2.2.2.1) fu (D.1 14 * D.1 15), pCl (fun _ => 0) we (D.1 14 * D.1 15), pCl (nF D.2.2.2.2.2.2.2) bu (D.1 14 * D.1 15)) z0 (g3 70) M)) 71 (fO (D.1 14) (D.1 15) D.2.1 a (nI u) la (pCl (nF D.2.2.2.2.2.2.1) fu (D.1 14 * D.1 15), pCl (fun _ => 0) we (D.1 14 * D.1 15), pCl (nF D.2.2.2.2.2.2.2) bu (D.1 14 * D.1 15)) z0 (if pCnt (pCl (nF D.2.2.2.2.2.2.1) fu (D.1 14 * D.1 15), pCl (fun _ => 0) we (D.1 14 * D.1 15), pCl (nF D.2.2.2.2.2.2.2) bu (D.1 14 * D.1 15)).2.2 (D.1 14 * D.1 15) = 0 then 0 else -1) M)) 73 (nI (D.1 14))) 74 (nI (D.1 15))) 76 (nI 1)) w)), ((e 14), .inl (0, 800, .inl (mLay g nw))), ((e 64), .inl (0, 64, .inl (((fS (D.1 14) (D.1 15) D.2.1 a (nI u) la (pCl (nF D.2.2.2.2.2.2.1) fu (D.1 14 * D.1 15), pCl (fun _ => 0) we (D.1 14 * D.1 15), pCl (nF D.2.2.2.2.2.2.2) bu (D.1 14 * D.1 15)) z0 M).1).1))), ((e 65), .inl (0, 64, .inl (((fS (D.1 14) (D.1 15) D.2.1 a (nI u) la (pCl (nF D.2.2.2.2.2.2.1) fu (D.1 14 * D.1 15), pCl (fun _ => 0) we (D.1 14 * D.1 15), pCl (nF D.2.2.2.2.2.2.2) bu (D.1 14 * D.1 15)) z0 M).1).2.2))), ((e 66), .inl (0, 64, .inl (((fS (D.1 14) (D.1 15) D.2.1 a (nI u) la (pCl (nF D.2.2.2.2.2.2.1) fu (D.1 14 * D.1 15), pCl (fun _ => 0) we (D.1 14 * D.1 15), pCl (nF D.2.2.2.2.2.2.2) bu (D.1 14 * D.1 15)) z0 M).1).2.1))), ((e 67), .inl (0, 64, .inl he2)), ((e 68), .inl (0, 3904, .inl fw2)), ((e 69), .inl (0, 3904, .inl bw2)), ((e 72), .inl (0, 192, .inl fc))]
          refine zs_aload_n dX13_fire_88 rfl rfl ?_
          refine zs_aload_n dX13_fire_89 rfl rfl ?_
          refine zs_get 0 dX13_fire_90 zf_RX13_439 rfl (v := .int (fO (D.1 14) (D.1 15) D.2.1 a (nI u) la (pCl (nF D.2.2.2.2.2.2.1) fu (D.1 14 * D.1 15), pCl (fun _ => 0) we (D.1 14 * D.1 15), pCl (nF D.2.2.2.2.2.2.2) bu (D.1 14 * D.1 15)) z0 (if pCnt (pCl (nF D.2.2.2.2.2.2.1) fu (D.1 14 * D.1 15), pCl (fun _ => 0) we (D.1 14 * D.1 15), pCl (nF D.2.2.2.2.2.2.2) bu (D.1 14 * D.1 15)).2.2 (D.1 14 * D.1 15) = 0 then 0 else -1) M)) rfl ?_
          refine zs_put 0 dX13_fire_93 zf_RX13_126 rfl (Nat.le_of_ble_eq_true rfl) (zPv_i _) ?_
          show zS _ _ _ _ _ _ [(mo, .inr (11, fMo e (upd (upd (upd (upd (upd (upd g3 70 (fL (D.1 14) (D.1 15) D.2.1 a (nI u) la (pCl (nF D.2.2.2.2.2.2.1) fu (D.1 14 * D.1 15), pCl (fun _ => 0) we (D.1 14 * D.1 15), pCl (nF D.2.2.2.2.2.2.2) bu (D.1 14 * D.1 15)) z0 (g3 70) M)) 71 (fO (D.1 14) (D.1 15) D.2.1 a (nI u) la (pCl (nF D.2.2.2.2.2.2.1) fu (D.1 14 * D.1 15), pCl (fun _ => 0) we (D.1 14 * D.1 15), pCl (nF D.2.2.2.2.2.2.2) bu (D.1 14 * D.1 15)) z0 (if pCnt (pCl (nF D.2.2.2.2.2.2.1) fu (D.1 14 * D.1 15), pCl (fun _ => 0) we (D.1 14 * D.1 15), pCl (nF D.2.2.2.2.2.2.2) bu (D.1 14 * D.1 15)).2.2 (D.1 14 * D.1 15) = 0 then 0 else -1) M)) 73 (nI (D.1 14))) 74 (nI (D.1 15))) 75 (fO (D.1 14) (D.1 15) D.2.1 a (nI u) la (pCl (nF D.2.2.2.2.2.2.1) fu (D.1 14 * D.1 15), pCl (fun _ => 0) we (D.1 14 * D.1 15), pCl (nF D.2.2.2.2.2.2.2) bu (D.1 14 * D.1 15)) z0 (if pCnt (pCl (nF D.2.2.2.2.2.2.1) fu (D.1 14 * D.1 15), pCl (fun _ => 0) we (D.1 14 * D.1 15), pCl (nF D.2.2.2.2.2.2.2) bu (D.1 14 * D.1 15)).2.2 (D.1 14 * D.1 15) = 0 then 0 else -1) M)) 76 (nI 1)) w)), ((e 14), .inl (0, 800, .inl (mLay g nw))), ((e 64), .inl (0, 64, .inl (((fS (D.1 14) (D.1 15) D.2.1 a (nI u) la (pCl (nF D.2.2.2.2.2.2.1) fu (D.1 14 * D.1 15), pCl (fun _ => 0) we (D.1 14 * D.1 15), pCl (nF D.2.2.2.2.2.2.2) bu (D.1 14 * D.1 15)) z0 M).1).1))), ((e 65), .inl (0, 64, .inl (((fS (D.1 14) (D.1 15) D.2.1 a (nI u) la (pCl (nF D.2.2.2.2.2.2.1) fu (D.1 14 * D.1 15), pCl (fun _ => 0) we (D.1 14 * D.1 15), pCl (nF D.2.2.2.2.2.2.2) bu (D.1 14 * D.1 15)) z0 M).1).2.2))), ((e 66), .inl (0, 64, .inl (((fS (D.1 14) (D.1 15) D.2.1 a (nI u) la (pCl (nF D.2.2.2.2.2.2.1) fu (D.1 14 * D.1 15), pCl (fun _ => 0) we (D.1 14 * D.1 15), pCl (nF D.2.2.2.2.2.2.2) bu (D.1 14 * D.1 15)) z0 M).1).2.1))), ((e 67), .inl (0, 64, .inl he2)), ((e 68), .inl (0, 3904, .inl fw2)), ((e 69), .inl (0, 3904, .inl bw2)), ((e 72), .inl (0, 192, .inl fc))]
          refine zs_iconst (v := nI 0) dX13_fire_96 (by decide) ?_
          refine zs_istore (lv' := [(5, .int (nI 0)), (0, .ref mo), (1, .int (nI M)), (2, .int (nI u)), (3, .int a), (4, .int (nI la))]) dX13_fire_97 (Nat.le_of_ble_eq_true rfl) rfl ?_
          refine zs_eq (K' := [(mo, .inr (11, fMo e (upd (upd (upd (upd (upd (upd g3 70 (fL (D.1 14) (D.1 15) D.2.1 a (nI u) la (pCl (nF D.2.2.2.2.2.2.1) fu (D.1 14 * D.1 15), pCl (fun _ => 0) we (D.1 14 * D.1 15), pCl (nF D.2.2.2.2.2.2.2) bu (D.1 14 * D.1 15)) z0 (g3 70) M)) 71 (fO (D.1 14) (D.1 15) D.2.1 a (nI u) la (pCl (nF D.2.2.2.2.2.2.1) fu (D.1 14 * D.1 15), pCl (fun _ => 0) we (D.1 14 * D.1 15), pCl (nF D.2.2.2.2.2.2.2) bu (D.1 14 * D.1 15)) z0 (if pCnt (pCl (nF D.2.2.2.2.2.2.1) fu (D.1 14 * D.1 15), pCl (fun _ => 0) we (D.1 14 * D.1 15), pCl (nF D.2.2.2.2.2.2.2) bu (D.1 14 * D.1 15)).2.2 (D.1 14 * D.1 15) = 0 then 0 else -1) M)) 73 (nI (D.1 14))) 74 (nI (D.1 15))) 75 (fO (D.1 14) (D.1 15) D.2.1 a (nI u) la (pCl (nF D.2.2.2.2.2.2.1) fu (D.1 14 * D.1 15), pCl (fun _ => 0) we (D.1 14 * D.1 15), pCl (nF D.2.2.2.2.2.2.2) bu (D.1 14 * D.1 15)) z0 (if pCnt (pCl (nF D.2.2.2.2.2.2.1) fu (D.1 14 * D.1 15), pCl (fun _ => 0) we (D.1 14 * D.1 15), pCl (nF D.2.2.2.2.2.2.2) bu (D.1 14 * D.1 15)).2.2 (D.1 14 * D.1 15) = 0 then 0 else -1) M)) 76 (nI 1)) w)), ((e 14), .inl (0, 800, .inl (mLay g nw))), ((e 64), .inl (0, 64, .inl ((fS (D.1 14) (D.1 15) D.2.1 a (nI u) la (pCl (nF D.2.2.2.2.2.2.1) fu (D.1 14 * D.1 15), pCl (fun _ => 0) we (D.1 14 * D.1 15), pCl (nF D.2.2.2.2.2.2.2) bu (D.1 14 * D.1 15)) z0 M).1).1)), ((e 65), .inl (0, 64, .inl ((fS (D.1 14) (D.1 15) D.2.1 a (nI u) la (pCl (nF D.2.2.2.2.2.2.1) fu (D.1 14 * D.1 15), pCl (fun _ => 0) we (D.1 14 * D.1 15), pCl (nF D.2.2.2.2.2.2.2) bu (D.1 14 * D.1 15)) z0 M).1).2.2)), ((e 66), .inl (0, 64, .inl ((fS (D.1 14) (D.1 15) D.2.1 a (nI u) la (pCl (nF D.2.2.2.2.2.2.1) fu (D.1 14 * D.1 15), pCl (fun _ => 0) we (D.1 14 * D.1 15), pCl (nF D.2.2.2.2.2.2.2) bu (D.1 14 * D.1 15)) z0 M).1).2.1)), ((e 67), .inl (0, 64, .inl he2)), ((e 68), .inl (0, 3904, .inl fw2)), ((e 69), .inl (0, 3904, .inl bw2)), ((e 72), .inl (0, 192, .inl (pCl (c3 ((fS (D.1 14) (D.1 15) D.2.1 a (nI u) la (pCl (nF D.2.2.2.2.2.2.1) fu (D.1 14 * D.1 15), pCl (fun _ => 0) we (D.1 14 * D.1 15), pCl (nF D.2.2.2.2.2.2.2) bu (D.1 14 * D.1 15)) z0 M).1)) fc (3 * 0))))]) (by rw [Nat.mul_zero, pCl_0]) ?_
          refine zs_lv [1, 0] rfl ?_
          refine lp_mfire mo e (upd (upd (upd (upd (upd (upd g3 70 (fL (D.1 14) (D.1 15) D.2.1 a (nI u) la (pCl (nF D.2.2.2.2.2.2.1) fu (D.1 14 * D.1 15), pCl (fun _ => 0) we (D.1 14 * D.1 15), pCl (nF D.2.2.2.2.2.2.2) bu (D.1 14 * D.1 15)) z0 (g3 70) M)) 71 (fO (D.1 14) (D.1 15) D.2.1 a (nI u) la (pCl (nF D.2.2.2.2.2.2.1) fu (D.1 14 * D.1 15), pCl (fun _ => 0) we (D.1 14 * D.1 15), pCl (nF D.2.2.2.2.2.2.2) bu (D.1 14 * D.1 15)) z0 (if pCnt (pCl (nF D.2.2.2.2.2.2.1) fu (D.1 14 * D.1 15), pCl (fun _ => 0) we (D.1 14 * D.1 15), pCl (nF D.2.2.2.2.2.2.2) bu (D.1 14 * D.1 15)).2.2 (D.1 14 * D.1 15) = 0 then 0 else -1) M)) 73 (nI (D.1 14))) 74 (nI (D.1 15))) 75 (fO (D.1 14) (D.1 15) D.2.1 a (nI u) la (pCl (nF D.2.2.2.2.2.2.1) fu (D.1 14 * D.1 15), pCl (fun _ => 0) we (D.1 14 * D.1 15), pCl (nF D.2.2.2.2.2.2.2) bu (D.1 14 * D.1 15)) z0 (if pCnt (pCl (nF D.2.2.2.2.2.2.1) fu (D.1 14 * D.1 15), pCl (fun _ => 0) we (D.1 14 * D.1 15), pCl (nF D.2.2.2.2.2.2.2) bu (D.1 14 * D.1 15)).2.2 (D.1 14 * D.1 15) = 0 then 0 else -1) M)) 76 (nI 1)) w (mLay g nw) D ((fS (D.1 14) (D.1 15) D.2.1 a (nI u) la (pCl (nF D.2.2.2.2.2.2.1) fu (D.1 14 * D.1 15), pCl (fun _ => 0) we (D.1 14 * D.1 15), pCl (nF D.2.2.2.2.2.2.2) bu (D.1 14 * D.1 15)) z0 M).1) he2 fw2 bw2 fc (by omega) hR hC hRo ?_ (D.1 14 * D.1 15) 0 (Nat.zero_add _)
          refine zs_aload_n dX13_fire_166 rfl rfl ?_
          refine zs_get 0 dX13_fire_167 zf_RX13_423 rfl (v := .int (fL (D.1 14) (D.1 15) D.2.1 a (nI u) la (pCl (nF D.2.2.2.2.2.2.1) fu (D.1 14 * D.1 15), pCl (fun _ => 0) we (D.1 14 * D.1 15), pCl (nF D.2.2.2.2.2.2.2) bu (D.1 14 * D.1 15)) z0 (g3 70) M)) rfl ?_
          have hag := (sc0_ag (D := D) (n := (D.1 14 * D.1 15)) (fu := fu) (we := we) (bu := bu))
          have hF : (fL (D.1 14) (D.1 15) D.2.1 a (nI u) la (pCl (nF D.2.2.2.2.2.2.1) fu (D.1 14 * D.1 15), pCl (fun _ => 0) we (D.1 14 * D.1 15), pCl (nF D.2.2.2.2.2.2.2) bu (D.1 14 * D.1 15)) z0 (g3 70) M) = fL (D.1 14) (D.1 15) D.2.1 a (nI u) la (sc0 D) z0 0 M := by rw [h370]; exact fL_ag h64 hag M
          have hO : (fO (D.1 14) (D.1 15) D.2.1 a (nI u) la (pCl (nF D.2.2.2.2.2.2.1) fu (D.1 14 * D.1 15), pCl (fun _ => 0) we (D.1 14 * D.1 15), pCl (nF D.2.2.2.2.2.2.2) bu (D.1 14 * D.1 15)) z0 (if pCnt (pCl (nF D.2.2.2.2.2.2.1) fu (D.1 14 * D.1 15), pCl (fun _ => 0) we (D.1 14 * D.1 15), pCl (nF D.2.2.2.2.2.2.2) bu (D.1 14 * D.1 15)).2.2 (D.1 14 * D.1 15) = 0 then 0 else -1) M) = fO (D.1 14) (D.1 15) D.2.1 a (nI u) la (sc0 D) z0 (if pCnt (nF D.2.2.2.2.2.2.2) (D.1 14 * D.1 15) = 0 then 0 else -1) M := by
            rw [show pCnt (pCl (nF D.2.2.2.2.2.2.1) fu (D.1 14 * D.1 15), pCl (fun _ => 0) we (D.1 14 * D.1 15), pCl (nF D.2.2.2.2.2.2.2) bu (D.1 14 * D.1 15)).2.2 (D.1 14 * D.1 15) = pCnt (nF D.2.2.2.2.2.2.2) (D.1 14 * D.1 15) from pCnt_ag hag.2.2]
            exact fO_ag h64 hag M
          exact zs_iret dX13_fire_170 rfl (Or.inr ⟨M, la, hM, hla, rfl, rfl, hcond, congrArg (fun v => some (Value.int v)) hF, (upd (upd (upd (upd (upd (upd g3 70 (fL (D.1 14) (D.1 15) D.2.1 a (nI u) la (pCl (nF D.2.2.2.2.2.2.1) fu (D.1 14 * D.1 15), pCl (fun _ => 0) we (D.1 14 * D.1 15), pCl (nF D.2.2.2.2.2.2.2) bu (D.1 14 * D.1 15)) z0 (g3 70) M)) 71 (fO (D.1 14) (D.1 15) D.2.1 a (nI u) la (pCl (nF D.2.2.2.2.2.2.1) fu (D.1 14 * D.1 15), pCl (fun _ => 0) we (D.1 14 * D.1 15), pCl (nF D.2.2.2.2.2.2.2) bu (D.1 14 * D.1 15)) z0 (if pCnt (pCl (nF D.2.2.2.2.2.2.1) fu (D.1 14 * D.1 15), pCl (fun _ => 0) we (D.1 14 * D.1 15), pCl (nF D.2.2.2.2.2.2.2) bu (D.1 14 * D.1 15)).2.2 (D.1 14 * D.1 15) = 0 then 0 else -1) M)) 73 (nI (D.1 14))) 74 (nI (D.1 15))) 75 (fO (D.1 14) (D.1 15) D.2.1 a (nI u) la (pCl (nF D.2.2.2.2.2.2.1) fu (D.1 14 * D.1 15), pCl (fun _ => 0) we (D.1 14 * D.1 15), pCl (nF D.2.2.2.2.2.2.2) bu (D.1 14 * D.1 15)) z0 (if pCnt (pCl (nF D.2.2.2.2.2.2.1) fu (D.1 14 * D.1 15), pCl (fun _ => 0) we (D.1 14 * D.1 15), pCl (nF D.2.2.2.2.2.2.2) bu (D.1 14 * D.1 15)).2.2 (D.1 14 * D.1 15) = 0 then 0 else -1) M)) 76 (nI 1)), _, _, _, _, _, _, _, (mFr_u (mFr_u (mFr_u (mFr_u (mFr_u (mFr_u (mFr_w hg3 (by decide)) (by decide)) (by decide)) (by decide)) (by decide)) (by decide)) (by decide)), h30, h322, rfl, rfl, rfl, hO, mFc_c (fS_ag (se := z0) (sf := z0) h64 hag M).1 (fun c hc => ((fS_K (u := u) (wi := D.2.1) (late := la) (se0 := z0) h64 (aO_T hC hRo hpt) (fK_0 hD hyB) M).1 c hc).1), rfl⟩)
        · refine zs_iconst (v := (-1)) dX13_fire_49 (by decide) ?_
          exact zs_iret dX13_fire_50 rfl (Or.inl ⟨(fun q => absurd ⟨q.2.2.2.2.1, q.2.2.2.2.2⟩ (of_decide_eq_false (bI_f c_4))), rfl, g2, (mFr_t (mFr_u mFr_r (by decide) : mFr [0] g (upd g 0 (nI 0))) hfr2 (by decide) (by decide)), hfr2 0 (by decide), h22, hfr2 76 (by decide), hfr2 73 (by decide), hfr2 74 (by decide), hfr2 75 (by decide), rfl⟩)
set_option maxRecDepth 100000 in
theorem s_mFireAt0 (l : Launch) (dd : Nat) (mo : Nat) (e : Nat → Nat) (g : Nat → Int32) (w : Int64) (fc : Nat → Int32) (x y q : Int32) (hd : 1 ≤ dd) (hw : g 76 = 0) : zSp l mX13_fireAt dd 0 0 [.ref mo, .int x, .int y, .int q] [(mo, .inr (11, fMo e g w)), ((e 72), .inl (0, 192, .inl fc))] (fun r K' => r = some (.int (-1)) ∧ K' = [(mo, .inr (11, fMo e (upd g 0 (nI 0)) w)), ((e 72), .inl (0, 192, .inl fc))]) := by
  refine zSp.of (by decide) (Nat.le_of_ble_eq_true rfl) (fun h0 => ?_)
  show zS _ 0 0 0 [(0, .ref mo), (1, .int x), (2, .int y), (3, .int q)] [] [(mo, .inr (11, fMo e g w)), ((e 72), .inl (0, 192, .inl fc))]
  refine zs_aload_n dX13_fireAt_0 rfl rfl ?_
  refine zs_iconst (v := nI 0) dX13_fireAt_1 (by decide) ?_
  refine zs_put 0 dX13_fireAt_2 zf_RX13_148 rfl (Nat.le_of_ble_eq_true rfl) (zPv_i _) ?_
  show zS _ _ _ _ _ _ [(mo, .inr (11, fMo e (upd g 0 (nI 0)) w)), ((e 72), .inl (0, 192, .inl fc))]
  refine zs_aload_n dX13_fireAt_5 rfl rfl ?_
  refine zs_get 0 dX13_fireAt_6 zf_RX13_458 rfl (v := .int (g 76)) rfl ?_
  refine zs_if_eq (tgt := 45) dX13_fireAt_9 (by decide) (fun c_1 => ?_) (fun c_1 => (c_1 hw : False).elim)
  refine zs_iconst (v := (-1)) dX13_fireAt_45 (by decide) ?_
  exact zs_iret dX13_fireAt_46 rfl ⟨rfl, rfl⟩
theorem fAt_e {C R : Nat} {S : zFs} {fc : Nat → Int32} {x y q : Nat} (h : mFc C R S fc) (hC : C ≤ 8) (hR : R ≤ 8) (hx : x < C) (hy : y < R) (hq : q ≤ 2) : fc (3 * (C * y + x) + q) = fAt C R S (nI x) (nI y) (nI q) := by
  have hl := yx_l hx hy
  have h64 : C * R ≤ 64 := Nat.mul_le_mul hC hR
  have h1 := h _ hl
  unfold fAt
  rw [show (0 : Int32) = nI 0 from rfl, if_neg (by rw [nI_lt' (by omega) (by omega)]; omega), if_neg (fun z => z (by rw [nI_lt' (by omega) (by omega)]; exact hx)), if_neg (by rw [nI_lt' (by omega) (by omega)]; omega), if_neg (fun z => z (by rw [nI_lt' (by omega) (by omega)]; exact hy)), nI_mul, nI_add, nI_c (by omega), Nat.mul_comm C y]
  have hq2 : q = 0 ∨ q = 1 ∨ q = 2 := by omega
  rcases hq2 with rfl | rfl | rfl
  · rw [if_pos rfl]; exact h1.1
  · rw [if_neg (by decide), if_pos rfl]
    rcases h1.2.2.2 with q | q
    · rw [if_pos (show S.2.2 (y * C + x) = nI 0 from q)]; exact h1.2.1.trans q
    · rw [if_neg (show ¬ S.2.2 (y * C + x) = nI 0 from by rw [q]; decide)]; exact h1.2.1.trans q
  · rw [if_neg (by decide), if_neg (by decide), if_pos rfl]; exact h1.2.2.1
theorem fAt_q {C R : Nat} {S : zFs} {x y q : Int32} (h : ¬ (¬ q < nI 0 ∧ ¬ nI 2 < q)) : fAt C R S x y q = -1 := by
  have h0 : ¬ q = nI 0 := fun z => h (by rw [z]; exact ⟨by decide, by decide⟩)
  have h1 : ¬ q = nI 1 := fun z => h (by rw [z]; exact ⟨by decide, by decide⟩)
  have h2 : ¬ q = nI 2 := fun z => h (by rw [z]; exact ⟨by decide, by decide⟩)
  unfold fAt
  rw [if_neg h0, if_neg h1, if_neg h2]
  split
  · rfl
  · split
    · rfl
    · split
      · rfl
      · split <;> rfl
set_option maxRecDepth 100000 in
theorem s_mFireAt1 (l : Launch) (dd : Nat) (mo : Nat) (e : Nat → Nat) (g : Nat → Int32) (w : Int64) (fc : Nat → Int32) (x y q : Int32) (C R : Nat) (S : zFs) (hd : 1 ≤ dd) (hw : g 76 = nI 1) (h73 : g 73 = nI C) (h74 : g 74 = nI R) (hC : C ≤ 8) (hRo : R ≤ 8) (hF : mFc C R S fc) : zSp l mX13_fireAt dd 0 0 [.ref mo, .int x, .int y, .int q] [(mo, .inr (11, fMo e g w)), ((e 72), .inl (0, 192, .inl fc))] (fun r K' => r = some (.int (fAt C R S x y q)) ∧ K' = [(mo, .inr (11, fMo e (upd g 0 (nI 0)) w)), ((e 72), .inl (0, 192, .inl fc))]) := by
  refine zSp.of (by decide) (Nat.le_of_ble_eq_true rfl) (fun h0 => ?_)
  show zS _ 0 0 0 [(0, .ref mo), (1, .int x), (2, .int y), (3, .int q)] [] [(mo, .inr (11, fMo e g w)), ((e 72), .inl (0, 192, .inl fc))]
  refine zs_aload_n dX13_fireAt_0 rfl rfl ?_
  refine zs_iconst (v := nI 0) dX13_fireAt_1 (by decide) ?_
  refine zs_put 0 dX13_fireAt_2 zf_RX13_148 rfl (Nat.le_of_ble_eq_true rfl) (zPv_i _) ?_
  show zS _ _ _ _ _ _ [(mo, .inr (11, fMo e (upd g 0 (nI 0)) w)), ((e 72), .inl (0, 192, .inl fc))]
  refine zs_aload_n dX13_fireAt_5 rfl rfl ?_
  refine zs_get 0 dX13_fireAt_6 zf_RX13_458 rfl (v := .int (g 76)) rfl ?_
  refine zs_if_eq (tgt := 45) dX13_fireAt_9 (by decide) (fun c_1 => (by rw [hw] at c_1; exact absurd c_1 (by decide) : False).elim) (fun c_1 => ?_)
  refine zs_iload_n dX13_fireAt_12 rfl ?_
  refine zs_if_lt (tgt := 45) dX13_fireAt_13 (by decide) (fun c_2 => ?_) (fun c_2 => ?_)
  · have hx0 := c_2
    refine zs_iconst (v := (-1)) dX13_fireAt_45 (by decide) ?_
    exact zs_iret dX13_fireAt_46 rfl ⟨congrArg (fun v => some (Value.int v)) (show fAt C R S x y q = -1 from if_pos hx0).symm, rfl⟩
  · have hx0 := c_2
    refine zs_iload_n dX13_fireAt_16 rfl ?_
    refine zs_aload_n dX13_fireAt_17 rfl rfl ?_
    refine zs_get 0 dX13_fireAt_18 zf_RX13_461 rfl (v := .int (g 73)) rfl ?_
    refine zs_as (y := nI C) h73 ?_
    refine zs_icmp_ge (tgt := 45) dX13_fireAt_21 (by decide) (fun c_3 => ?_) (fun c_3 => ?_)
    · have hxC : ¬ x < nI C := Int32.not_lt.mpr c_3
      refine zs_iconst (v := (-1)) dX13_fireAt_45 (by decide) ?_
      exact zs_iret dX13_fireAt_46 rfl ⟨congrArg (fun v => some (Value.int v)) (show fAt C R S x y q = -1 from (if_neg hx0).trans (if_pos hxC)).symm, rfl⟩
    · have hxC2 := c_3
      have hxC : ¬ ¬ x < nI C := fun z => z (Int32.not_le.mp c_3)
      refine zs_iload_n dX13_fireAt_24 rfl ?_
      refine zs_if_lt (tgt := 45) dX13_fireAt_25 (by decide) (fun c_4 => ?_) (fun c_4 => ?_)
      · have hy0 := c_4
        refine zs_iconst (v := (-1)) dX13_fireAt_45 (by decide) ?_
        exact zs_iret dX13_fireAt_46 rfl ⟨congrArg (fun v => some (Value.int v)) (show fAt C R S x y q = -1 from (if_neg hx0).trans ((if_neg hxC).trans (if_pos hy0))).symm, rfl⟩
      · have hy0 := c_4
        refine zs_iload_n dX13_fireAt_28 rfl ?_
        refine zs_aload_n dX13_fireAt_29 rfl rfl ?_
        refine zs_get 0 dX13_fireAt_30 zf_RX13_464 rfl (v := .int (g 74)) rfl ?_
        refine zs_as (y := nI R) h74 ?_
        refine zs_icmp_ge (tgt := 45) dX13_fireAt_33 (by decide) (fun c_5 => ?_) (fun c_5 => ?_)
        · have hyR : ¬ y < nI R := Int32.not_lt.mpr c_5
          refine zs_iconst (v := (-1)) dX13_fireAt_45 (by decide) ?_
          exact zs_iret dX13_fireAt_46 rfl ⟨congrArg (fun v => some (Value.int v)) (show fAt C R S x y q = -1 from (if_neg hx0).trans ((if_neg hxC).trans ((if_neg hy0).trans (if_pos hyR)))).symm, rfl⟩
        · have hyR2 := c_5
          have hyR : ¬ ¬ y < nI R := fun z => z (Int32.not_le.mp c_5)
          refine zs_iload_n dX13_fireAt_36 rfl ?_
          refine zs_iconst (v := nI 0) dX13_fireAt_37 (by decide) ?_
          refine zs_iconst (v := nI 2) dX13_fireAt_38 (by decide) ?_
          refine zs_callS (M := mX13_isIn) (As := [.int q, .int (nI 0), .int (nI 2)]) (st := []) (Kc := []) (Kr := [(mo, .inr (11, fMo e (upd g 0 (nI 0)) w)), ((e 72), .inl (0, 192, .inl fc))]) [] [0, 1] dX13_fireAt_39 zl_RX13_219 kX13_isIn rfl rfl rfl rfl rfl (by decide) (show dd - 1 + 1 ≤ dd by omega) (Nat.zero_le _) (Nat.zero_le _) (Nat.le_of_ble_eq_true rfl) (s_mIsIn l (dd - 1) q (nI 0) (nI 2)) (fun r K1 hr => ?_)
          obtain ⟨rfl, rfl⟩ := hr
          refine zs_K (K' := [(mo, .inr (11, fMo e (upd g 0 (nI 0)) w)), ((e 72), .inl (0, 192, .inl fc))]) [0, 1] rfl (by decide) ?_
          refine zs_if_ne (tgt := 47) dX13_fireAt_42 (by decide) (fun c_6 => ?_) (fun c_6 => ?_)
          · have hqi := of_decide_eq_true (bI_t c_6)
            obtain ⟨xx, hxx, rfl⟩ := zi_nn hx0
            obtain ⟨yy, hyy, rfl⟩ := zi_nn hy0
            obtain ⟨qq, hqq, rfl⟩ := zi_nn (x := q) hqi.1
            have hxl : xx < C := (nI_lt' (by omega) (by omega)).mp (Int32.not_le.mp hxC2)
            have hyl : yy < R := (nI_lt' (by omega) (by omega)).mp (Int32.not_le.mp hyR2)
            have hq2 : qq ≤ 2 := by have h := hqi.2; rw [nI_lt' (by omega) (by omega)] at h; omega
            have hix : C * yy + xx < 64 := by
              have h1 := yx_l hxl hyl
              have h2 : C * R ≤ 64 := Nat.mul_le_mul hC hRo
              rw [Nat.mul_comm C yy]
              omega
            refine zs_aload_n dX13_fireAt_47 rfl rfl ?_
            refine zs_get 0 dX13_fireAt_48 zf_RX13_123 rfl (v := .ref (e 72)) rfl ?_
            refine zs_iconst (v := nI 3) dX13_fireAt_51 (by decide) ?_
            refine zs_aload_n dX13_fireAt_52 rfl rfl ?_
            refine zs_get 0 dX13_fireAt_53 zf_RX13_461 rfl (v := .int (g 73)) rfl ?_
            refine zs_as (y := nI C) h73 ?_
            refine zs_iload_n dX13_fireAt_56 rfl ?_
            refine zs_imul dX13_fireAt_57 ?_
            refine zs_as (y := nI (C * yy)) (nI_mul _ _) ?_
            refine zs_iload_n dX13_fireAt_58 rfl ?_
            refine zs_iadd dX13_fireAt_59 ?_
            refine zs_as (y := nI ((C * yy) + xx)) (nI_add _ _) ?_
            refine zs_imul dX13_fireAt_60 ?_
            refine zs_as (y := nI (3 * ((C * yy) + xx))) (nI_mul _ _) ?_
            refine zs_iload_n dX13_fireAt_61 rfl ?_
            refine zs_iadd dX13_fireAt_62 ?_
            refine zs_as (y := nI ((3 * ((C * yy) + xx)) + qq)) (nI_add _ _) ?_
            refine zs_iald 1 dX13_fireAt_63 rfl (vp_in_nI (by omega) (by omega)) ?_
            refine zs_as (y := fc ((3 * ((C * yy) + xx)) + qq)) (by rw [nI_c (n := (3 * ((C * yy) + xx)) + qq) (by omega)]) ?_
            exact zs_iret dX13_fireAt_64 rfl ⟨congrArg (fun v => some (Value.int v)) (fAt_e hF hC hRo hxl hyl hq2), rfl⟩
          · have hq := of_decide_eq_false (bI_f c_6)
            refine zs_iconst (v := (-1)) dX13_fireAt_45 (by decide) ?_
            exact zs_iret dX13_fireAt_46 rfl ⟨congrArg (fun v => some (Value.int v)) (show fAt C R S x y q = -1 from fAt_q hq).symm, rfl⟩
set_option maxRecDepth 100000 in
theorem s_mOut (l : Launch) (dd : Nat) (mo : Nat) (e : Nat → Nat) (g : Nat → Int32) (w : Int64)  : zSp l mX13_out dd 0 0 [.ref mo] [(mo, .inr (11, fMo e g w))] (fun r K' => r = some (.int (g 75)) ∧ K' = [(mo, .inr (11, fMo e (upd g 0 (nI 0)) w))]) := by
  refine zSp.of (by decide) (Nat.le_of_ble_eq_true rfl) (fun h0 => ?_)
  show zS _ 0 0 0 [(0, .ref mo)] [] [(mo, .inr (11, fMo e g w))]
  refine zs_aload_n dX13_out_0 rfl rfl ?_
  refine zs_iconst (v := nI 0) dX13_out_1 (by decide) ?_
  refine zs_put 0 dX13_out_2 zf_RX13_148 rfl (Nat.le_of_ble_eq_true rfl) (zPv_i _) ?_
  show zS _ _ _ _ _ _ [(mo, .inr (11, fMo e (upd g 0 (nI 0)) w))]
  refine zs_aload_n dX13_out_5 rfl rfl ?_
  refine zs_get 0 dX13_out_6 zf_RX13_126 rfl (v := .int (g 75)) rfl ?_
  exact zs_iret dX13_out_9 rfl ⟨rfl, rfl⟩
